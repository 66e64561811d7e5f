/-! what is made: shelf, engine -/
section INI2
theorem e_room {l : Int} {M : fMem} (h : 0 ≤ l ∧ l ≤ 8) : f_X10_thingRoom l M = some (rmO l.toNat : Int) := by
  obtain ⟨n, rfl⟩ : ∃ n : Nat, l = n := ⟨l.toNat, by omega⟩
  have : n = 0 ∨ n = 1 ∨ n = 2 ∨ n = 3 ∨ n = 4 ∨ n = 5 ∨ n = 6 ∨ n = 7 ∨ n = 8 := by omega
  rcases this with rfl | rfl | rfl | rfl | rfl | rfl | rfl | rfl | rfl <;> rfl
/-- a shelf's rows as they lie -/
def okSh (o : Nat) : Prop := o + 60 ≤ 440 ∧ Ty o = 7 ∧ Ty (o + 1) = 16 ∧ Ln (o + 1) = 19 ∧ Ty (o + 2) = 12 ∧ Ln (o + 2) = 19 ∧ Rf o 0 = o + 1 ∧ Rf o 1 = o + 2 ∧ ∀ v : Nat, v < 19 → (Ty (o + 3 * v + 3) = 6 ∧ Ty (o + 3 * v + 4) = 12 ∧ Ty (o + 3 * v + 5) = 12) ∧ (Lnn (o + 3 * v + 4) = rmO (LO v).toNat ∧ Lnn (o + 3 * v + 5) = rmO (LO v).toNat) ∧ Rf (o + 3 * v + 3) 0 = o + 3 * v + 4 ∧ Rf (o + 3 * v + 3) 1 = o + 3 * v + 5 ∧ Rf (o + 1) v = o + 3 * v + 3
theorem l_shelf {o : Nat} {k : fMem → Option fMem} (ho : okSh o) (d : Nat) : ∀ (v fu : Nat) (W : fMem), v + d = 19 → d < fu → W o = V o → W (o + 1) = vT 16 v → (∀ a, o + 3 * v + 3 ≤ a → W a = zf) → ∃ W1, L_X7_init_28 o k fu v (mem (o + 3 * v + 3) W) = k (mem (o + 60) W1) ∧ W1 (o + 1) = vT 16 19 ∧ (∀ a, o + 3 * v + 3 ≤ a → a < o + 60 → W1 a = V a) ∧ ∀ a, (a < o + 3 * v + 3 ∧ a ≠ o + 1) ∨ o + 60 ≤ a → W1 a = W a := by
  obtain ⟨h44, t0, t1, l1, t2, l2, r0, r1, hv⟩ := ho
  induction d with
  | zero =>
    intro v fu W hv2 hf w0 w1 wz
    obtain ⟨f, rfl⟩ : ∃ f, fu = f + 1 := ⟨fu - 1, by omega⟩
    have e : v = 19 := by omega
    subst e
    exact ⟨W, it (by omega) rfl, w1, fun a a0 a1 => by omega, fun a _ => rfl⟩
  | succ d ih =>
    intro v fu W hv2 hf w0 w1 wz
    obtain ⟨f, rfl⟩ : ∃ f, fu = f + 1 := ⟨fu - 1, by omega⟩
    obtain ⟨⟨a0, a1, a2⟩, ⟨b1', b2⟩, c0, c1, c2⟩ := hv v (by omega)
    have lo : 0 ≤ LO (v : Int) ∧ LO (v : Int) ≤ 8 := by unfold LO; split <;> omega
    have rb := rmO_le (LO (v : Int)).toNat
    obtain ⟨W1, e1, e2⟩ := i_row (o := o + 3 * v + 3) (L := (rmO (LO (v : Int)).toNat : Int)) (W := W) (fun a ha => wz a (by omega)) (by omega) a0 a1 a2 (by unfold Ln; rw [b1']) (by unfold Ln; rw [b2]) (by omega) c0 c1
    have w11 : W1 (o + 1) = vT 16 v := by rw [e2.2 _ (by omega), w1]
    obtain ⟨W2, f1, f2, f3, f4⟩ := ih (v + 1) f (oset W1 (o + 1) (us (vT 16 v) v 1)) (by omega) (by omega) (by rw [os_ne (by omega), e2.2 _ (by omega), w0]) (by rw [os, (vT_ar (t := 16) (by omega) v (by omega)).1]; rfl) (fun a ha => by rw [os_ne (by omega), e2.2 _ (by omega)]; exact wz a (by omega))
    refine ⟨W2, ?_, f2, fun a x0 x1 => ?_, fun a ha => ?_⟩
    · refine ie (by omega) ?_
      rw [if_pos (c := Ty o = 7 ∧ ((o : Nat) : Int) < mem (o + 3 * v + 3) W 440 0) ⟨t0, by rw [mem_n]; omega⟩]
      rw [if_pos (c := mem (o + 3 * v + 3) W o 0 ≠ 0) (by rw [mem_a (by omega), w0]; unfold V; rw [t0, vT_2 (by omega)]; decide)]
      refine ko (wz _ (by omega)) (by omega) a0 (it (by omega) (bc (e_room lo) ?_))
      rw [mem_n, Int.toNat_natCast]
      refine bc e1 ?_
      rw [r0]
      rw [if_pos (c := Ty (o + 1) = 16 ∧ (((o + 1 : Nat)) : Int) < mem (o + 3 * v + 3 + 3) W1 440 0) ⟨t1, by rw [mem_n]; omega⟩]
      rw [if_pos (c := 0 ≤ (v : Int) ∧ (v : Int) < Ln (o + 1)) (by rw [l1]; omega)]
      rw [if_pos (c := Ty (o + 3 * v + 3) = 6 ∧ (((o + 3 * v + 3 : Nat)) : Int) < mem (o + 3 * v + 3 + 3) W1 440 0) ⟨a0, by rw [mem_n]; omega⟩]
      rw [if_pos c2, mem_w (by omega), w11]
      exact f1
    · by_cases q : a < o + 3 * (v + 1) + 3
      · rw [f4 a (by omega), os_ne (by omega)]
        exact e2.1 a (by omega) (by omega)
      · exact f3 a (by omega) x1
    · rw [f4 a (by omega), os_ne (by omega), e2.2 a (by omega)]
theorem i_shelf {o : Nat} {W : fMem} (ho : okSh o) (hz : ∀ a, o ≤ a → W a = zf) : ∃ W1, f_X7_init o (mem (o + 1) W) = some (mem (o + 60) W1) ∧ Cn o 60 W W1 := by
  have ho2 := ho
  obtain ⟨h44, t0, t1, l1, t2, l2, r0, r1, hv⟩ := ho
  have z := hz o (by omega)
  obtain ⟨W2, hW2⟩ : ∃ W2, W2 = oset (oset W o (us zf 0 1)) o (us (us zf 0 1) 1 1) := ⟨_, rfl⟩
  have w2n : ∀ a, a ≠ o → W2 a = W a := fun a ha => by rw [hW2, os_ne ha, os_ne ha]
  have w2o : W2 o = V o := by rw [hW2, os]; unfold V; rw [t0, vT_2 (by omega)]
  obtain ⟨W1, e1, e2, e3, e4⟩ := l_shelf (k := fun N26 => some N26) ho2 19 0 20 W2 (by omega) (by omega) w2o (by rw [w2n _ (by omega), hz _ (by omega)]; exact ((vT_ar (t := 16) (by omega) 0 (by omega)).2).symm) (fun a ha => by rw [w2n a (by omega)]; exact hz a (by omega))
  refine ⟨W1, ?_, fun a a0 a1 => ?_, fun a ha => ?_⟩
  · unfold f_X7_init
    refine kn (hz _ (by omega)) (by omega) t1 l1 (kr z t0 (by omega) (by omega) r0 ?_)
    refine kn (by rw [os_ne (by omega)]; exact hz _ (by omega)) (by omega) t2 l2 (kr (os _ _ _) t0 (by omega) (by omega) r1 ?_)
    rw [← hW2]
    refine k0 t0 (by omega) (by omega) (by rw [hW2, os]; rfl) ?_
    exact e1
  · by_cases q : o + 3 ≤ a
    · exact e3 a (by omega) a1
    · have : a = o ∨ a = o + 1 ∨ a = o + 2 := by omega
      rcases this with rfl | rfl | rfl
      · rw [e4 _ (by omega), w2o]
      · rw [e2]; unfold V; rw [t1, l1]
      · rw [e4 _ (by omega), w2n _ (by omega), hz _ (by omega), V_z (by omega)]
  · rw [e4 a (by omega), w2n a (by omega)]
theorem sh_2 : okSh 2 := by unfold okSh; decide +kernel
theorem sh_73 : okSh 73 := by unfold okSh; decide +kernel
theorem sh_238 : okSh 238 := by unfold okSh; decide +kernel
theorem sh_298 : okSh 298 := by unfold okSh; decide +kernel
theorem sh_358 : okSh 358 := by unfold okSh; decide +kernel
/-- an engine as it lies -/
def okEn (o : Nat) : Prop := o + 71 ≤ 440 ∧ Ty o = 0 ∧ Ty (o + 1) = 7 ∧ Ty (o + 61) = 15 ∧ Ln (o + 61) = 9 ∧ Rf o 0 = o + 1 ∧ Rf o 1 = o + 61 ∧ ∀ v : Nat, v < 9 → Ty (o + v + 62) = 4 ∧ Rf (o + 61) v = o + v + 62
theorem en_1 : okEn 1 := by unfold okEn; decide +kernel
theorem en_72 : okEn 72 := by unfold okEn; decide +kernel
theorem l_eng {o : Nat} {k : fMem → Option fMem} (ho : okEn o) (d : Nat) : ∀ (v fu : Nat) (W : fMem), v + d = 9 → d < fu → W o = V o → W (o + 61) = vT 15 v → (∀ a, o + v + 62 ≤ a → W a = zf) → ∃ W1, L_X0_init_67 o k fu v (mem (o + v + 62) W) = k (mem (o + 71) W1) ∧ W1 (o + 61) = vT 15 9 ∧ ∀ a, a ≠ o + 61 → W1 a = W a := by
  obtain ⟨h44, t0, t1, t2, l2, r0, r1, hv⟩ := ho
  induction d with
  | zero =>
    intro v fu W hv2 hf w0 w1 wz
    obtain ⟨f, rfl⟩ : ∃ f, fu = f + 1 := ⟨fu - 1, by omega⟩
    have e : v = 9 := by omega
    subst e
    exact ⟨W, it (by omega) rfl, w1, fun a _ => rfl⟩
  | succ d ih =>
    intro v fu W hv2 hf w0 w1 wz
    obtain ⟨f, rfl⟩ : ∃ f, fu = f + 1 := ⟨fu - 1, by omega⟩
    obtain ⟨a0, c2⟩ := hv v (by omega)
    obtain ⟨e1, e2⟩ := i_mrg (o := o + v + 62) (W := W) wz (by omega) a0
    obtain ⟨W2, f1, f2, f4⟩ := ih (v + 1) f (oset W (o + 61) (us (vT 15 v) v 1)) (by omega) (by omega) (by rw [os_ne (by omega), w0]) (by rw [os, (vT_ar (t := 15) (by omega) v (by omega)).1]; rfl) (fun a ha => by rw [os_ne (by omega)]; exact wz a (by omega))
    refine ⟨W2, ?_, f2, fun a ha => ?_⟩
    · refine ie (by omega) ?_
      rw [if_pos (c := Ty o = 0 ∧ ((o : Nat) : Int) < mem (o + v + 62) W 440 0) ⟨t0, by rw [mem_n]; omega⟩]
      rw [if_pos (c := mem (o + v + 62) W o 1 ≠ 0) (by rw [mem_a (by omega), w0]; unfold V; rw [t0, vT_0]; decide)]
      refine ko (wz _ (by omega)) (by omega) a0 ?_
      rw [mem_n, Int.toNat_natCast]
      refine bc e1 ?_
      rw [r1]
      rw [if_pos (c := Ty (o + 61) = 15 ∧ (((o + 61 : Nat)) : Int) < mem (o + v + 62 + 1) W 440 0) ⟨t2, by rw [mem_n]; omega⟩]
      rw [if_pos (c := 0 ≤ (v : Int) ∧ (v : Int) < Ln (o + 61)) (by rw [l2]; omega)]
      rw [if_pos (c := Ty (o + v + 62) = 4 ∧ (((o + v + 62 : Nat)) : Int) < mem (o + v + 62 + 1) W 440 0) ⟨a0, by rw [mem_n]; omega⟩]
      rw [if_pos c2, mem_w (by omega), w1]
      rw [show o + v + 62 + 1 = o + (v + 1) + 62 by omega]
      exact f1
    · rw [f4 a ha, os_ne ha]
theorem i_eng {o : Nat} {W : fMem} (ho : okEn o) (hs : okSh (o + 1)) (hz : ∀ a, o ≤ a → W a = zf) : ∃ W1, f_X0_init o (mem (o + 1) W) = some (mem (o + 71) W1) ∧ Cn o 71 W W1 := by
  have ho2 := ho
  obtain ⟨h44, t0, t1, t2, l2, r0, r1, hv⟩ := ho
  obtain ⟨A, a1, a2⟩ := i_shelf (W := W) hs (fun a ha => hz a (by omega))
  have zA : A o = zf := by rw [a2.2 o (by omega)]; exact hz o (by omega)
  have zB : ∀ a, o + 61 ≤ a → A a = zf := fun a ha => by rw [a2.2 a (by omega)]; exact hz a (by omega)
  obtain ⟨W3, hW3⟩ : ∃ W3, W3 = oset (oset (oset A o (us zf 0 1)) o (us (us zf 0 1) 1 1)) o (us (us (us zf 0 1) 1 1) 2 6) := ⟨_, rfl⟩
  have w3n : ∀ a, a ≠ o → W3 a = A a := fun a ha => by rw [hW3, os_ne ha, os_ne ha, os_ne ha]
  have w3o : W3 o = V o := by rw [hW3, os]; unfold V; rw [t0, vT_0]
  have w3z : ∀ j, 3 ≤ j → W3 o j = 0 := fun j hj => by
    rw [hW3, os]
    rw [us_ne (by omega), us_ne (by omega), us_ne (by omega)]
    rfl
  obtain ⟨W1, e1, e2, e4⟩ := l_eng (k := fun N39 => some N39) ho2 9 0 10 W3 (by omega) (by omega) w3o (by rw [w3n _ (by omega), zB _ (by omega)]; exact ((vT_ar (t := 15) (by omega) 0 (by omega)).2).symm) (fun a ha => by rw [w3n a (by omega)]; exact zB a (by omega))
  rw [show o + 0 + 62 = o + 61 + 1 by omega] at e1
  refine ⟨W1, ?_, fun a x0 x1 => ?_, fun a ha => ?_⟩
  · unfold f_X0_init
    refine ko (hz _ (by omega)) (by omega) t1 ?_
    rw [mem_n, Int.toNat_natCast]
    refine bc a1 ?_
    rw [if_pos (c := Ty o = 0 ∧ ((o : Nat) : Int) < mem (o + 1 + 60) A 440 0) ⟨t0, by rw [mem_n]; omega⟩, if_pos r0, mem_w (by omega), zA, show o + 1 + 60 = o + 61 by omega]
    refine bs fun x e => ?_
    subst e
    refine kn (by rw [os_ne (by omega)]; exact zB _ (by omega)) (by omega) t2 l2 (kr (os _ _ _) t0 (by omega) (by omega) r1 ?_)
    refine kv1 (os _ _ _) t0 (by omega) (by omega) ?_
    rw [← hW3]
    refine k0 t0 (by omega) (by omega) (w3z _ (by omega)) (k0 t0 (by omega) (by omega) (w3z _ (by omega)) (k0 t0 (by omega) (by omega) (w3z _ (by omega)) (k0 t0 (by omega) (by omega) (w3z _ (by omega)) (k0 t0 (by omega) (by omega) (w3z _ (by omega)) (k0 t0 (by omega) (by omega) (w3z _ (by omega)) (k0 t0 (by omega) (by omega) (w3z _ (by omega)) ?_))))))
    exact e1
  · by_cases q : a = o
    · subst q; rw [e4 _ (by omega), w3o]
    by_cases q1 : a = o + 61
    · subst q1; rw [e2]; unfold V; rw [t2, l2]
    rw [e4 a q1, w3n a q]
    by_cases q2 : a < o + 61
    · exact a2.1 a (by omega) (by omega)
    · have := (hv (a - o - 62) (by omega)).1
      rw [show o + (a - o - 62) + 62 = a by omega] at this
      rw [zB a (by omega), V_z (by omega)]
  · rw [e4 a (by omega), w3n a (by omega), a2.2 a (by omega)]
end INI2
