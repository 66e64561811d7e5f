/-! what is made: the store, the reference -/
section INI4
def Qs (n : Nat) (F G : Int → Int) (W : fMem) : Prop := W 0 = F ∧ W 143 = G ∧ (∀ a, 1 ≤ a → a < n → a ≠ 143 → W a = V a) ∧ ∀ a, n ≤ a → a ≠ 143 → W a = zf
theorem Qz {n : Nat} {F : Int → Int} {W : fMem} (h : Qs n F zf W) : ∀ a, n ≤ a → W a = zf := fun a ha => by
  by_cases q : a = 143
  · subst q; exact h.2.1
  · exact h.2.2.2 a ha q
theorem Qsub {n c : Nat} {F G : Int → Int} {W W1 : fMem} (h : Qs n F G W) (hc : Cn n c W W1) (h1 : 1 ≤ n) (h2 : 143 < n ∨ n + c ≤ 143) : Qs (n + c) F G W1 := by
  obtain ⟨a, b, d, e⟩ := h
  refine ⟨by rw [hc.2 0 (by omega), a], by rw [hc.2 143 (by omega), b], fun x x0 x1 x2 => ?_, fun x x0 x1 => by rw [hc.2 x (by omega)]; exact e x (by omega) x1⟩
  by_cases q : x < n
  · rw [hc.2 x (by omega)]; exact d x x0 q x2
  · exact hc.1 x (by omega) x1
theorem Qput {n : Nat} {F F1 G : Int → Int} {W : fMem} (h : Qs n F G W) (h1 : 1 ≤ n) : Qs n F1 G (oset W 0 F1) := by
  obtain ⟨a, b, d, e⟩ := h
  exact ⟨os _ _ _, by rw [os_ne (by omega), b], fun x x0 x1 x2 => by rw [os_ne (by omega)]; exact d x x0 x1 x2, fun x x0 x1 => by rw [os_ne (by omega)]; exact e x x0 x1⟩
theorem Qnew {n : Nat} {F G : Int → Int} {W : fMem} (h : Qs n F G W) (h1 : n = 143 ∨ V n = zf) : Qs (n + 1) F G W := by
  obtain ⟨a, b, d, e⟩ := h
  refine ⟨a, b, fun x x0 x1 x2 => ?_, fun x x0 x1 => e x (by omega) x1⟩
  by_cases q : x = n
  · subst q
    rcases h1 with z | z
    · exact absurd z x2
    · rw [e x (by omega) x2, z]
  · exact d x x0 (by omega) x2
theorem Qarr {n : Nat} {F G G1 : Int → Int} {W : fMem} (h : Qs n F G W) : Qs n F G1 (oset W 143 G1) := by
  obtain ⟨a, b, d, e⟩ := h
  exact ⟨by rw [os_ne (by omega), a], os _ _ _, fun x x0 x1 x2 => by rw [os_ne x2]; exact d x x0 x1 x2, fun x x0 x1 => by rw [os_ne x1]; exact e x x0 x1⟩
def fSt : Int → Int := (us (us (us (us (us (us (us (us (us (us (us (us zf 0 1) 1 1) 2 1) 3 1) 4 1) 5 1) 6 1) 7 1) 8 1) 9 1) 10 4) 11 1)
theorem fSt_v : fSt = V 0 := by
  funext j
  have e : V 0 j = if 0 ≤ j ∧ j < 10 then 1 else if j = 10 then 4 else if j = 11 then 1 else 0 := rfl
  rw [e]
  unfold fSt us zf
  by_cases c0 : j = 0
  · subst c0; rfl
  by_cases c1 : j = 1
  · subst c1; rfl
  by_cases c2 : j = 2
  · subst c2; rfl
  by_cases c3 : j = 3
  · subst c3; rfl
  by_cases c4 : j = 4
  · subst c4; rfl
  by_cases c5 : j = 5
  · subst c5; rfl
  by_cases c6 : j = 6
  · subst c6; rfl
  by_cases c7 : j = 7
  · subst c7; rfl
  by_cases c8 : j = 8
  · subst c8; rfl
  by_cases c9 : j = 9
  · subst c9; rfl
  by_cases c10 : j = 10
  · subst c10; rfl
  by_cases c11 : j = 11
  · subst c11; rfl
  rw [if_neg (c := 0 ≤ j ∧ j < 10) (by omega), if_neg c10, if_neg c11, if_neg c11, if_neg c10, if_neg c9, if_neg c8, if_neg c7, if_neg c6, if_neg c5, if_neg c4, if_neg c3, if_neg c2, if_neg c1, if_neg c0]
theorem l_store {k : fMem → Option fMem} (d : Nat) : ∀ (v fu : Nat) (W : fMem), v + d = 3 → d < fu → Qs (238 + 60 * v) fSt (vT 17 v) W → ∃ W1, L_X10_init_119 0 k fu v (mem (238 + 60 * v) W) = k (mem 418 W1) ∧ Qs 418 fSt (vT 17 3) W1 := by
  induction d with
  | zero =>
    intro v fu W hv hf h
    obtain ⟨f, rfl⟩ : ∃ f, fu = f + 1 := ⟨fu - 1, by omega⟩
    have e : v = 3 := by omega
    subst e
    exact ⟨W, it (by omega) rfl, h⟩
  | succ d ih =>
    intro v fu W hv hf h
    obtain ⟨f, rfl⟩ : ∃ f, fu = f + 1 := ⟨fu - 1, by omega⟩
    have v3 : v = 0 ∨ v = 1 ∨ v = 2 := by omega
    have hs : okSh (238 + 60 * v) := by
      rcases v3 with rfl | rfl | rfl
      · exact sh_238
      · exact sh_298
      · exact sh_358
    have hr : Rf 143 v = 238 + 60 * v := by rcases v3 with rfl | rfl | rfl <;> decide
    obtain ⟨A, a1, a2⟩ := i_shelf (W := W) hs (fun a ha => h.2.2.2 a ha (by omega))
    have q1 := Qsub h a2 (by omega) (by omega)
    have q2 := Qarr (G1 := us (vT 17 v) v 1) q1
    rw [(vT_ar (t := 17) (by omega) v (by omega)).1, show 238 + 60 * v + 60 = 238 + 60 * (v + 1) by omega] at q2
    obtain ⟨W1, f1, f2⟩ := ih (v + 1) f _ (by omega) (by omega) q2
    refine ⟨W1, ?_, f2⟩
    refine ie (by omega) ?_
    rw [if_pos (c := Ty 0 = 10 ∧ ((0 : Nat) : Int) < mem (238 + 60 * v) W 440 0) ⟨by decide, by rw [mem_n]; omega⟩]
    rw [if_pos (c := mem (238 + 60 * v) W 0 2 ≠ 0) (by rw [mem_a (by omega), h.1]; decide)]
    refine ko (h.2.2.2 _ (by omega) (by omega)) (by omega) hs.2.1 ?_
    rw [mem_n, Int.toNat_natCast]
    refine bc a1 ?_
    rw [show Rf 0 2 = 143 from by decide]
    rw [if_pos (c := Ty 143 = 17 ∧ ((143 : Nat) : Int) < mem (238 + 60 * v + 60) A 440 0) ⟨by decide, by rw [mem_n]; omega⟩]
    rw [if_pos (c := 0 ≤ (v : Int) ∧ (v : Int) < Ln 143) (by rw [show Ln 143 = 3 from by decide]; omega)]
    rw [if_pos (c := Ty (238 + 60 * v) = 7 ∧ ((238 + 60 * v : Nat) : Int) < mem (238 + 60 * v + 60) A 440 0) ⟨hs.2.1, by rw [mem_n]; omega⟩]
    rw [if_pos hr, mem_w (by omega), q1.2.1, (vT_ar (t := 17) (by omega) v (by omega)).1, show 238 + 60 * v + 60 = 238 + 60 * (v + 1) by omega]
    exact f1
def W0 : fMem := fun _ => zf
theorem i_store : ∃ W1, f_X10_init 0 (mem 1 W0) = some (mem 418 W1) ∧ Qs 418 fSt (vT 17 3) W1 := by
  have q0 : Qs 1 zf zf W0 := ⟨rfl, rfl, fun a x0 x1 => by omega, fun a _ _ => rfl⟩
  obtain ⟨A0, a0, c0⟩ := i_eng (W := W0) en_1 sh_2 (Qz q0)
  have s0 : Qs 72 zf zf A0 := Qsub q0 c0 (by omega) (by omega)
  have u0 : Qs 72 (us zf 0 1) zf (oset (A0) 0 (us zf 0 1)) := Qput s0 (by omega)
  obtain ⟨B0, hB0⟩ : ∃ B, B = oset (A0) 0 (us zf 0 1) := ⟨_, rfl⟩
  rw [← hB0] at u0
  obtain ⟨A1, a1, c1⟩ := i_eng (W := B0) en_72 sh_73 (Qz u0)
  have s1 : Qs 143 (us zf 0 1) zf A1 := Qsub u0 c1 (by omega) (by omega)
  have u1 : Qs 143 (us (us zf 0 1) 1 1) zf (oset (A1) 0 (us (us zf 0 1) 1 1)) := Qput s1 (by omega)
  obtain ⟨B1, hB1⟩ : ∃ B, B = oset (A1) 0 (us (us zf 0 1) 1 1) := ⟨_, rfl⟩
  rw [← hB1] at u1
  have s2 : Qs 144 (us (us zf 0 1) 1 1) zf (B1) := Qnew u1 (Or.inl rfl)
  have u2 : Qs 144 (us (us (us zf 0 1) 1 1) 2 1) zf (oset (B1) 0 (us (us (us zf 0 1) 1 1) 2 1)) := Qput s2 (by omega)
  obtain ⟨B2, hB2⟩ : ∃ B, B = oset (B1) 0 (us (us (us zf 0 1) 1 1) 2 1) := ⟨_, rfl⟩
  rw [← hB2] at u2
  have s3 : Qs 145 (us (us (us zf 0 1) 1 1) 2 1) zf (B2) := Qnew u2 (Or.inr (V_z (by decide)))
  have u3 : Qs 145 (us (us (us (us zf 0 1) 1 1) 2 1) 3 1) zf (oset (B2) 0 (us (us (us (us zf 0 1) 1 1) 2 1) 3 1)) := Qput s3 (by omega)
  obtain ⟨B3, hB3⟩ : ∃ B, B = oset (B2) 0 (us (us (us (us zf 0 1) 1 1) 2 1) 3 1) := ⟨_, rfl⟩
  rw [← hB3] at u3
  obtain ⟨A4, a4, c4⟩ := i_tape (W := B3) (Qz u3)
  have s4 : Qs 147 (us (us (us (us zf 0 1) 1 1) 2 1) 3 1) zf A4 := Qsub u3 c4 (by omega) (by omega)
  have u4 : Qs 147 (us (us (us (us (us zf 0 1) 1 1) 2 1) 3 1) 4 1) zf (oset (A4) 0 (us (us (us (us (us zf 0 1) 1 1) 2 1) 3 1) 4 1)) := Qput s4 (by omega)
  obtain ⟨B4, hB4⟩ : ∃ B, B = oset (A4) 0 (us (us (us (us (us zf 0 1) 1 1) 2 1) 3 1) 4 1) := ⟨_, rfl⟩
  rw [← hB4] at u4
  obtain ⟨A5, a5, c5⟩ := i_tolls (W := B4) (Qz u4)
  have s5 : Qs 149 (us (us (us (us (us zf 0 1) 1 1) 2 1) 3 1) 4 1) zf A5 := Qsub u4 c5 (by omega) (by omega)
  have u5 : Qs 149 (us (us (us (us (us (us zf 0 1) 1 1) 2 1) 3 1) 4 1) 5 1) zf (oset (A5) 0 (us (us (us (us (us (us zf 0 1) 1 1) 2 1) 3 1) 4 1) 5 1)) := Qput s5 (by omega)
  obtain ⟨B5, hB5⟩ : ∃ B, B = oset (A5) 0 (us (us (us (us (us (us zf 0 1) 1 1) 2 1) 3 1) 4 1) 5 1) := ⟨_, rfl⟩
  rw [← hB5] at u5
  obtain ⟨A6, a6, c6⟩ := i_idx (W := B5) (Qz u5)
  have s6 : Qs 227 (us (us (us (us (us (us zf 0 1) 1 1) 2 1) 3 1) 4 1) 5 1) zf A6 := Qsub u5 c6 (by omega) (by omega)
  have u6 : Qs 227 (us (us (us (us (us (us (us zf 0 1) 1 1) 2 1) 3 1) 4 1) 5 1) 6 1) zf (oset (A6) 0 (us (us (us (us (us (us (us zf 0 1) 1 1) 2 1) 3 1) 4 1) 5 1) 6 1)) := Qput s6 (by omega)
  obtain ⟨B6, hB6⟩ : ∃ B, B = oset (A6) 0 (us (us (us (us (us (us (us zf 0 1) 1 1) 2 1) 3 1) 4 1) 5 1) 6 1) := ⟨_, rfl⟩
  rw [← hB6] at u6
  obtain ⟨A7, a7, c7⟩ := i_path (W := B6) (Qz u6)
  have s7 : Qs 232 (us (us (us (us (us (us (us zf 0 1) 1 1) 2 1) 3 1) 4 1) 5 1) 6 1) zf A7 := Qsub u6 c7 (by omega) (by omega)
  have u7 : Qs 232 (us (us (us (us (us (us (us (us zf 0 1) 1 1) 2 1) 3 1) 4 1) 5 1) 6 1) 7 1) zf (oset (A7) 0 (us (us (us (us (us (us (us (us zf 0 1) 1 1) 2 1) 3 1) 4 1) 5 1) 6 1) 7 1)) := Qput s7 (by omega)
  obtain ⟨B7, hB7⟩ : ∃ B, B = oset (A7) 0 (us (us (us (us (us (us (us (us zf 0 1) 1 1) 2 1) 3 1) 4 1) 5 1) 6 1) 7 1) := ⟨_, rfl⟩
  rw [← hB7] at u7
  obtain ⟨A8, a8, c8⟩ := i_hol (o := 232) (W := B7) (Or.inl rfl) (Qz u7)
  have s8 : Qs 235 (us (us (us (us (us (us (us (us zf 0 1) 1 1) 2 1) 3 1) 4 1) 5 1) 6 1) 7 1) zf A8 := Qsub u7 c8 (by omega) (by omega)
  have u8 : Qs 235 (us (us (us (us (us (us (us (us (us zf 0 1) 1 1) 2 1) 3 1) 4 1) 5 1) 6 1) 7 1) 8 1) zf (oset (A8) 0 (us (us (us (us (us (us (us (us (us zf 0 1) 1 1) 2 1) 3 1) 4 1) 5 1) 6 1) 7 1) 8 1)) := Qput s8 (by omega)
  obtain ⟨B8, hB8⟩ : ∃ B, B = oset (A8) 0 (us (us (us (us (us (us (us (us (us zf 0 1) 1 1) 2 1) 3 1) 4 1) 5 1) 6 1) 7 1) 8 1) := ⟨_, rfl⟩
  rw [← hB8] at u8
  obtain ⟨A9, a9, c9⟩ := i_hol (o := 235) (W := B8) (Or.inr rfl) (Qz u8)
  have s9 : Qs 238 (us (us (us (us (us (us (us (us (us zf 0 1) 1 1) 2 1) 3 1) 4 1) 5 1) 6 1) 7 1) 8 1) zf A9 := Qsub u8 c9 (by omega) (by omega)
  have u9 : Qs 238 (us (us (us (us (us (us (us (us (us (us zf 0 1) 1 1) 2 1) 3 1) 4 1) 5 1) 6 1) 7 1) 8 1) 9 1) zf (oset (A9) 0 (us (us (us (us (us (us (us (us (us (us zf 0 1) 1 1) 2 1) 3 1) 4 1) 5 1) 6 1) 7 1) 8 1) 9 1)) := Qput s9 (by omega)
  obtain ⟨B9, hB9⟩ : ∃ B, B = oset (A9) 0 (us (us (us (us (us (us (us (us (us (us zf 0 1) 1 1) 2 1) 3 1) 4 1) 5 1) 6 1) 7 1) 8 1) 9 1) := ⟨_, rfl⟩
  rw [← hB9] at u9
  have u10 : Qs 238 (us (us (us (us (us (us (us (us (us (us (us zf 0 1) 1 1) 2 1) 3 1) 4 1) 5 1) 6 1) 7 1) 8 1) 9 1) 10 4) zf (oset B9 0 (us (us (us (us (us (us (us (us (us (us (us zf 0 1) 1 1) 2 1) 3 1) 4 1) 5 1) 6 1) 7 1) 8 1) 9 1) 10 4)) := Qput u9 (by omega)
  obtain ⟨B10, hB10⟩ : ∃ B, B = oset B9 0 (us (us (us (us (us (us (us (us (us (us (us zf 0 1) 1 1) 2 1) 3 1) 4 1) 5 1) 6 1) 7 1) 8 1) 9 1) 10 4) := ⟨_, rfl⟩
  rw [← hB10] at u10
  have u11 : Qs (238 + 60 * 0) fSt (vT 17 ((0 : Nat) : Int)) (oset B10 0 fSt) := by
    have := Qput (F1 := fSt) u10 (by omega)
    rw [show vT 17 ((0 : Nat) : Int) = zf from (vT_ar (t := 17) (by omega) 0 (by omega)).2]
    exact this
  obtain ⟨W1, e1, e2⟩ := l_store (k := fun N74 => some N74) 3 0 4 _ (by omega) (by omega) u11
  refine ⟨W1, ?_, e2⟩
  unfold f_X10_init
  refine ko (n := 1) (t := 0) (Qz q0 _ (by omega)) (by omega) (by decide) (bc a0 ?_)
  refine kr (n := 72) (m := 1) s0.1 (by decide) (by omega) (by omega) (by decide) ?_
  rw [← hB0]
  refine ko (n := 72) (t := 0) (Qz u0 _ (by omega)) (by omega) (by decide) (bc a1 ?_)
  refine kr (n := 143) (m := 72) s1.1 (by decide) (by omega) (by omega) (by decide) ?_
  rw [← hB1]
  refine kn (n := 143) (t := 17) (Qz u1 _ (by omega)) (by omega) (by decide) (by decide) ?_
  refine kr (n := 144) (m := 143) s2.1 (by decide) (by omega) (by omega) (by decide) ?_
  rw [← hB2]
  refine kn (n := 144) (t := 13) (Qz u2 _ (by omega)) (by omega) (by decide) (by decide) ?_
  refine kr (n := 145) (m := 144) s3.1 (by decide) (by omega) (by omega) (by decide) ?_
  rw [← hB3]
  refine ko (n := 145) (t := 8) (Qz u3 _ (by omega)) (by omega) (by decide) (bc a4 ?_)
  refine kr (n := 147) (m := 145) s4.1 (by decide) (by omega) (by omega) (by decide) ?_
  rw [← hB4]
  refine ko (n := 147) (t := 9) (Qz u4 _ (by omega)) (by omega) (by decide) (bc a5 ?_)
  refine kr (n := 149) (m := 147) s5.1 (by decide) (by omega) (by omega) (by decide) ?_
  rw [← hB5]
  refine ko (n := 149) (t := 3) (Qz u5 _ (by omega)) (by omega) (by decide) (bc a6 ?_)
  refine kr (n := 227) (m := 149) s6.1 (by decide) (by omega) (by omega) (by decide) ?_
  rw [← hB6]
  refine ko (n := 227) (t := 5) (Qz u6 _ (by omega)) (by omega) (by decide) (bc a7 ?_)
  refine kr (n := 232) (m := 227) s7.1 (by decide) (by omega) (by omega) (by decide) ?_
  rw [← hB7]
  refine ko (n := 232) (t := 2) (Qz u7 _ (by omega)) (by omega) (by decide) (bc a8 ?_)
  refine kr (n := 235) (m := 232) s8.1 (by decide) (by omega) (by omega) (by decide) ?_
  rw [← hB8]
  refine ko (n := 235) (t := 2) (Qz u8 _ (by omega)) (by omega) (by decide) (bc a9 ?_)
  refine kr (n := 238) (m := 235) s9.1 (by decide) (by omega) (by omega) (by decide) ?_
  rw [← hB9]
  refine kv1 (n := 238) u9.1 (by decide) (by omega) (by omega) ?_
  rw [← hB10]
  refine kv1 (n := 238) u10.1 (by decide) (by omega) (by omega) ?_
  exact e1
def fRe : Int → Int := (us (us (us (us (us (us (us (us (us (us (us (us (us (us (us (us (us (us (us (us zf 0 1) 1 1) 2 1) 5 1) 6 1) 7 1) 8 1) 9 1) 10 1) 11 1) 12 1) 17 1) 18 1) 19 1) 20 1) 21 1) 23 1) 24 1) 25 1) 26 1)
def g00 : Int → Int := us (us zf 7739 6) 7740 4
theorem i_ref {W : fMem} (hz : ∀ a, 418 ≤ a → W a = zf) : ∃ W1, f_X11_init 418 (mem 419 W) = some (mem 439 W1) ∧ W1 418 = fRe ∧ W1 419 = g00 ∧ (∀ a, 420 ≤ a → W1 a = zf) ∧ ∀ a, a < 418 → W1 a = W a := by
  have st : ∀ (F : Int → Int) (X : fMem), (∀ a, a ≠ 418 → X a = W a) → X 418 = F → ∀ F1, ∃ Y, Y = oset X 418 F1 ∧ (∀ a, a ≠ 418 → Y a = W a) ∧ Y 418 = F1 := fun F X h _ F1 => ⟨_, rfl, fun a ha => by rw [os_ne ha]; exact h a ha, os _ _ _⟩
  obtain ⟨X0, x0, y0, z0⟩ := st zf W (fun a _ => rfl) (hz 418 (by omega)) (us zf 0 1)
  obtain ⟨X1, x1, y1, z1⟩ := st (us zf 0 1) X0 y0 z0 (us (us zf 0 1) 1 1)
  obtain ⟨X2, x2, y2, z2⟩ := st (us (us zf 0 1) 1 1) X1 y1 z1 (us (us (us zf 0 1) 1 1) 2 1)
  obtain ⟨X3, x3, y3, z3⟩ := st (us (us (us zf 0 1) 1 1) 2 1) X2 y2 z2 (us (us (us (us zf 0 1) 1 1) 2 1) 5 1)
  obtain ⟨X4, x4, y4, z4⟩ := st (us (us (us (us zf 0 1) 1 1) 2 1) 5 1) X3 y3 z3 (us (us (us (us (us zf 0 1) 1 1) 2 1) 5 1) 6 1)
  obtain ⟨X5, x5, y5, z5⟩ := st (us (us (us (us (us zf 0 1) 1 1) 2 1) 5 1) 6 1) X4 y4 z4 (us (us (us (us (us (us zf 0 1) 1 1) 2 1) 5 1) 6 1) 7 1)
  obtain ⟨X6, x6, y6, z6⟩ := st (us (us (us (us (us (us zf 0 1) 1 1) 2 1) 5 1) 6 1) 7 1) X5 y5 z5 (us (us (us (us (us (us (us zf 0 1) 1 1) 2 1) 5 1) 6 1) 7 1) 8 1)
  obtain ⟨X7, x7, y7, z7⟩ := st (us (us (us (us (us (us (us zf 0 1) 1 1) 2 1) 5 1) 6 1) 7 1) 8 1) X6 y6 z6 (us (us (us (us (us (us (us (us zf 0 1) 1 1) 2 1) 5 1) 6 1) 7 1) 8 1) 9 1)
  obtain ⟨X8, x8, y8, z8⟩ := st (us (us (us (us (us (us (us (us zf 0 1) 1 1) 2 1) 5 1) 6 1) 7 1) 8 1) 9 1) X7 y7 z7 (us (us (us (us (us (us (us (us (us zf 0 1) 1 1) 2 1) 5 1) 6 1) 7 1) 8 1) 9 1) 10 1)
  obtain ⟨X9, x9, y9, z9⟩ := st (us (us (us (us (us (us (us (us (us zf 0 1) 1 1) 2 1) 5 1) 6 1) 7 1) 8 1) 9 1) 10 1) X8 y8 z8 (us (us (us (us (us (us (us (us (us (us zf 0 1) 1 1) 2 1) 5 1) 6 1) 7 1) 8 1) 9 1) 10 1) 11 1)
  obtain ⟨X10, x10, y10, z10⟩ := st (us (us (us (us (us (us (us (us (us (us zf 0 1) 1 1) 2 1) 5 1) 6 1) 7 1) 8 1) 9 1) 10 1) 11 1) X9 y9 z9 (us (us (us (us (us (us (us (us (us (us (us zf 0 1) 1 1) 2 1) 5 1) 6 1) 7 1) 8 1) 9 1) 10 1) 11 1) 12 1)
  obtain ⟨X11, x11, y11, z11⟩ := st (us (us (us (us (us (us (us (us (us (us (us zf 0 1) 1 1) 2 1) 5 1) 6 1) 7 1) 8 1) 9 1) 10 1) 11 1) 12 1) X10 y10 z10 (us (us (us (us (us (us (us (us (us (us (us (us zf 0 1) 1 1) 2 1) 5 1) 6 1) 7 1) 8 1) 9 1) 10 1) 11 1) 12 1) 17 1)
  obtain ⟨X12, x12, y12, z12⟩ := st (us (us (us (us (us (us (us (us (us (us (us (us zf 0 1) 1 1) 2 1) 5 1) 6 1) 7 1) 8 1) 9 1) 10 1) 11 1) 12 1) 17 1) X11 y11 z11 (us (us (us (us (us (us (us (us (us (us (us (us (us zf 0 1) 1 1) 2 1) 5 1) 6 1) 7 1) 8 1) 9 1) 10 1) 11 1) 12 1) 17 1) 18 1)
  obtain ⟨X13, x13, y13, z13⟩ := st (us (us (us (us (us (us (us (us (us (us (us (us (us zf 0 1) 1 1) 2 1) 5 1) 6 1) 7 1) 8 1) 9 1) 10 1) 11 1) 12 1) 17 1) 18 1) X12 y12 z12 (us (us (us (us (us (us (us (us (us (us (us (us (us (us zf 0 1) 1 1) 2 1) 5 1) 6 1) 7 1) 8 1) 9 1) 10 1) 11 1) 12 1) 17 1) 18 1) 19 1)
  obtain ⟨X14, x14, y14, z14⟩ := st (us (us (us (us (us (us (us (us (us (us (us (us (us (us zf 0 1) 1 1) 2 1) 5 1) 6 1) 7 1) 8 1) 9 1) 10 1) 11 1) 12 1) 17 1) 18 1) 19 1) X13 y13 z13 (us (us (us (us (us (us (us (us (us (us (us (us (us (us (us zf 0 1) 1 1) 2 1) 5 1) 6 1) 7 1) 8 1) 9 1) 10 1) 11 1) 12 1) 17 1) 18 1) 19 1) 20 1)
  obtain ⟨X15, x15, y15, z15⟩ := st (us (us (us (us (us (us (us (us (us (us (us (us (us (us (us zf 0 1) 1 1) 2 1) 5 1) 6 1) 7 1) 8 1) 9 1) 10 1) 11 1) 12 1) 17 1) 18 1) 19 1) 20 1) X14 y14 z14 (us (us (us (us (us (us (us (us (us (us (us (us (us (us (us (us zf 0 1) 1 1) 2 1) 5 1) 6 1) 7 1) 8 1) 9 1) 10 1) 11 1) 12 1) 17 1) 18 1) 19 1) 20 1) 21 1)
  obtain ⟨X16, x16, y16, z16⟩ := st (us (us (us (us (us (us (us (us (us (us (us (us (us (us (us (us zf 0 1) 1 1) 2 1) 5 1) 6 1) 7 1) 8 1) 9 1) 10 1) 11 1) 12 1) 17 1) 18 1) 19 1) 20 1) 21 1) X15 y15 z15 (us (us (us (us (us (us (us (us (us (us (us (us (us (us (us (us (us zf 0 1) 1 1) 2 1) 5 1) 6 1) 7 1) 8 1) 9 1) 10 1) 11 1) 12 1) 17 1) 18 1) 19 1) 20 1) 21 1) 23 1)
  obtain ⟨X17, x17, y17, z17⟩ := st (us (us (us (us (us (us (us (us (us (us (us (us (us (us (us (us (us zf 0 1) 1 1) 2 1) 5 1) 6 1) 7 1) 8 1) 9 1) 10 1) 11 1) 12 1) 17 1) 18 1) 19 1) 20 1) 21 1) 23 1) X16 y16 z16 (us (us (us (us (us (us (us (us (us (us (us (us (us (us (us (us (us (us zf 0 1) 1 1) 2 1) 5 1) 6 1) 7 1) 8 1) 9 1) 10 1) 11 1) 12 1) 17 1) 18 1) 19 1) 20 1) 21 1) 23 1) 24 1)
  obtain ⟨X18, x18, y18, z18⟩ := st (us (us (us (us (us (us (us (us (us (us (us (us (us (us (us (us (us (us zf 0 1) 1 1) 2 1) 5 1) 6 1) 7 1) 8 1) 9 1) 10 1) 11 1) 12 1) 17 1) 18 1) 19 1) 20 1) 21 1) 23 1) 24 1) X17 y17 z17 (us (us (us (us (us (us (us (us (us (us (us (us (us (us (us (us (us (us (us zf 0 1) 1 1) 2 1) 5 1) 6 1) 7 1) 8 1) 9 1) 10 1) 11 1) 12 1) 17 1) 18 1) 19 1) 20 1) 21 1) 23 1) 24 1) 25 1)
  obtain ⟨X19, x19, y19, z19⟩ := st (us (us (us (us (us (us (us (us (us (us (us (us (us (us (us (us (us (us (us zf 0 1) 1 1) 2 1) 5 1) 6 1) 7 1) 8 1) 9 1) 10 1) 11 1) 12 1) 17 1) 18 1) 19 1) 20 1) 21 1) 23 1) 24 1) 25 1) X18 y18 z18 (us (us (us (us (us (us (us (us (us (us (us (us (us (us (us (us (us (us (us (us zf 0 1) 1 1) 2 1) 5 1) 6 1) 7 1) 8 1) 9 1) 10 1) 11 1) 12 1) 17 1) 18 1) 19 1) 20 1) 21 1) 23 1) 24 1) 25 1) 26 1)
  refine ⟨oset (oset X19 419 (us zf 7739 6)) 419 g00, ?_, by rw [os_ne (by omega), os_ne (by omega), z19]; rfl, os _ _ _, fun a ha => by rw [os_ne (by omega), os_ne (by omega), y19 a (by omega)]; exact hz a (by omega), fun a ha => by rw [os_ne (by omega), os_ne (by omega), y19 a (by omega)]⟩
  unfold f_X11_init
  refine kn (n := 419) (t := 12) (hz _ (by omega)) (by omega) (by decide) (by decide) (kr (n := 420) (m := 419) (hz 418 (by omega)) (by decide) (by omega) (by omega) (by decide) ?_)
  rw [← x0]
  refine kn (n := 420) (t := 12) ((y0 _ (by omega)).trans (hz _ (by omega))) (by omega) (by decide) (by decide) (kr (n := 421) (m := 420) z0 (by decide) (by omega) (by omega) (by decide) ?_)
  rw [← x1]
  refine kn (n := 421) (t := 12) ((y1 _ (by omega)).trans (hz _ (by omega))) (by omega) (by decide) (by decide) (kr (n := 422) (m := 421) z1 (by decide) (by omega) (by omega) (by decide) ?_)
  rw [← x2]
  refine kn (n := 422) (t := 12) ((y2 _ (by omega)).trans (hz _ (by omega))) (by omega) (by decide) (by decide) (kr (n := 423) (m := 422) z2 (by decide) (by omega) (by omega) (by decide) ?_)
  rw [← x3]
  refine kn (n := 423) (t := 12) ((y3 _ (by omega)).trans (hz _ (by omega))) (by omega) (by decide) (by decide) (kr (n := 424) (m := 423) z3 (by decide) (by omega) (by omega) (by decide) ?_)
  rw [← x4]
  refine kn (n := 424) (t := 12) ((y4 _ (by omega)).trans (hz _ (by omega))) (by omega) (by decide) (by decide) (kr (n := 425) (m := 424) z4 (by decide) (by omega) (by omega) (by decide) ?_)
  rw [← x5]
  refine kn (n := 425) (t := 12) ((y5 _ (by omega)).trans (hz _ (by omega))) (by omega) (by decide) (by decide) (kr (n := 426) (m := 425) z5 (by decide) (by omega) (by omega) (by decide) ?_)
  rw [← x6]
  refine kn (n := 426) (t := 12) ((y6 _ (by omega)).trans (hz _ (by omega))) (by omega) (by decide) (by decide) (kr (n := 427) (m := 426) z6 (by decide) (by omega) (by omega) (by decide) ?_)
  rw [← x7]
  refine kn (n := 427) (t := 12) ((y7 _ (by omega)).trans (hz _ (by omega))) (by omega) (by decide) (by decide) (kr (n := 428) (m := 427) z7 (by decide) (by omega) (by omega) (by decide) ?_)
  rw [← x8]
  refine kn (n := 428) (t := 12) ((y8 _ (by omega)).trans (hz _ (by omega))) (by omega) (by decide) (by decide) (kr (n := 429) (m := 428) z8 (by decide) (by omega) (by omega) (by decide) ?_)
  rw [← x9]
  refine kn (n := 429) (t := 12) ((y9 _ (by omega)).trans (hz _ (by omega))) (by omega) (by decide) (by decide) (kr (n := 430) (m := 429) z9 (by decide) (by omega) (by omega) (by decide) ?_)
  rw [← x10]
  refine kn (n := 430) (t := 12) ((y10 _ (by omega)).trans (hz _ (by omega))) (by omega) (by decide) (by decide) (kr (n := 431) (m := 430) z10 (by decide) (by omega) (by omega) (by decide) ?_)
  rw [← x11]
  refine kn (n := 431) (t := 12) ((y11 _ (by omega)).trans (hz _ (by omega))) (by omega) (by decide) (by decide) (kr (n := 432) (m := 431) z11 (by decide) (by omega) (by omega) (by decide) ?_)
  rw [← x12]
  refine kn (n := 432) (t := 12) ((y12 _ (by omega)).trans (hz _ (by omega))) (by omega) (by decide) (by decide) (kr (n := 433) (m := 432) z12 (by decide) (by omega) (by omega) (by decide) ?_)
  rw [← x13]
  refine kn (n := 433) (t := 12) ((y13 _ (by omega)).trans (hz _ (by omega))) (by omega) (by decide) (by decide) (kr (n := 434) (m := 433) z13 (by decide) (by omega) (by omega) (by decide) ?_)
  rw [← x14]
  refine kn (n := 434) (t := 12) ((y14 _ (by omega)).trans (hz _ (by omega))) (by omega) (by decide) (by decide) (kr (n := 435) (m := 434) z14 (by decide) (by omega) (by omega) (by decide) ?_)
  rw [← x15]
  refine kn (n := 435) (t := 12) ((y15 _ (by omega)).trans (hz _ (by omega))) (by omega) (by decide) (by decide) (kr (n := 436) (m := 435) z15 (by decide) (by omega) (by omega) (by decide) ?_)
  rw [← x16]
  refine kn (n := 436) (t := 13) ((y16 _ (by omega)).trans (hz _ (by omega))) (by omega) (by decide) (by decide) (kr (n := 437) (m := 436) z16 (by decide) (by omega) (by omega) (by decide) ?_)
  rw [← x17]
  refine kn (n := 437) (t := 12) ((y17 _ (by omega)).trans (hz _ (by omega))) (by omega) (by decide) (by decide) (kr (n := 438) (m := 437) z17 (by decide) (by omega) (by omega) (by decide) ?_)
  rw [← x18]
  refine kn (n := 438) (t := 12) ((y18 _ (by omega)).trans (hz _ (by omega))) (by omega) (by decide) (by decide) (kr (n := 439) (m := 438) z18 (by decide) (by omega) (by omega) (by decide) ?_)
  rw [← x19]
  have x9 : X19 419 = zf := (y19 419 (by omega)).trans (hz _ (by omega))
  rw [show Rf 418 0 = 419 from by decide]
  rw [if_pos (c := Ty 418 = 11 ∧ ((418 : Nat) : Int) < mem 439 X19 440 0) ⟨by decide, by rw [mem_n]; omega⟩]
  rw [if_pos (c := mem 439 X19 418 0 ≠ 0) (by rw [mem_a (by omega), z19]; decide)]
  rw [if_pos (c := Ty 419 = 12 ∧ ((419 : Nat) : Int) < mem 439 X19 440 0) ⟨by decide, by rw [mem_n]; omega⟩]
  rw [if_pos (c := 0 ≤ (7739 : Int) ∧ (7739 : Int) < Ln 419) (by decide)]
  rw [mem_w (by omega), x9]
  refine bs fun x e => ?_
  subst e
  rw [if_pos (c := Ty 418 = 11 ∧ ((418 : Nat) : Int) < mem 439 (oset X19 419 (us zf 7739 6)) 440 0) ⟨by decide, by rw [mem_n]; omega⟩]
  rw [if_pos (c := mem 439 (oset X19 419 (us zf 7739 6)) 418 0 ≠ 0) (by rw [mem_a (by omega), os_ne (by omega), z19]; decide)]
  rw [if_pos (c := Ty 419 = 12 ∧ ((419 : Nat) : Int) < mem 439 (oset X19 419 (us zf 7739 6)) 440 0) ⟨by decide, by rw [mem_n]; omega⟩]
  rw [if_pos (c := 0 ≤ (7740 : Int) ∧ (7740 : Int) < Ln 419) (by decide)]
  rw [mem_w (by omega), os]
  rfl
end INI4
