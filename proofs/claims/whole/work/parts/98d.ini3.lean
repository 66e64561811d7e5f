/-! what is made: the index and the small ones -/
section INI3
def aF (m : Nat) : Int → Int := fun j => if 0 ≤ j ∧ j < 19 ∧ psO j.toNat < m then 1 else 0
theorem psO_i : ∀ j : Nat, j < 19 → ∀ r : Nat, r < 19 → psO j = psO r → j = r := by decide +kernel
theorem psO_b : ∀ j : Nat, j < 19 → psO j < 19 := by decide +kernel
theorem aF_s {r m : Nat} (hr : r < 19) (hm : psO r = m) : us (aF m) r 1 = aF (m + 1) := by
  funext j
  unfold us aF
  by_cases q : j = r
  · subst q
    rw [if_pos rfl, if_pos ⟨by omega, by omega, by rw [Int.toNat_natCast]; omega⟩]
  · rw [if_neg q]
    by_cases c : 0 ≤ j ∧ j < 19
    · have h := psO_i j.toNat (by omega) r hr
      have n : psO j.toNat ≠ m := fun z => by have := h (by omega); omega
      by_cases d : psO j.toNat < m
      · rw [if_pos ⟨c.1, c.2, d⟩, if_pos ⟨c.1, c.2, by omega⟩]
      · rw [if_neg (fun z => d z.2.2), if_neg (fun z => by have := z.2.2; omega)]
    · rw [if_neg (fun z => c ⟨z.1, z.2.1⟩), if_neg (fun z => c ⟨z.1, z.2.1⟩)]
theorem aF_0 : aF 0 = zf := by
  funext j; unfold aF zf; rw [if_neg (fun z => by have := z.2.2; omega)]
theorem aF_19 : aF 19 = V 150 := by
  funext j
  have e : V 150 j = if 0 ≤ j ∧ j < 19 then 1 else 0 := rfl
  rw [e]
  unfold aF
  by_cases c : 0 ≤ j ∧ j < 19
  · rw [if_pos c, if_pos ⟨c.1, c.2, psO_b j.toNat (by omega)⟩]
  · rw [if_neg c, if_neg (fun z => c ⟨z.1, z.2.1⟩)]
theorem okIx : ∀ r : Nat, r < 19 → (Ty (151 + 4 * psO r) = 1 ∧ Ty (151 + 4 * psO r + 1) = 12 ∧ Ty (151 + 4 * psO r + 2) = 12 ∧ Ty (151 + 4 * psO r + 3) = 12) ∧ (Lnn (151 + 4 * psO r + 1) = rmE (LO r).toNat ∧ Lnn (151 + 4 * psO r + 2) = rmE (LO r).toNat ∧ Lnn (151 + 4 * psO r + 3) = rmE (LO r).toNat) ∧ Rf (151 + 4 * psO r) 0 = 151 + 4 * psO r + 1 ∧ Rf (151 + 4 * psO r) 1 = 151 + 4 * psO r + 2 ∧ Rf (151 + 4 * psO r) 2 = 151 + 4 * psO r + 3 ∧ Rf 150 r = 151 + 4 * psO r := by decide +kernel
def Px (m : Nat) (W0 W : fMem) : Prop := W 149 = V 149 ∧ W 150 = aF m ∧ (∀ a, 151 ≤ a → a < 151 + 4 * m → W a = V a) ∧ (∀ a, 151 + 4 * m ≤ a → W a = zf) ∧ ∀ a, a < 149 → W a = W0 a
theorem ix_step {k : Int → Int → Int → fMem → Option fMem} {fu l r m : Nat} {v2 : Int} {W0 W : fMem} (hr : r < 19) (hl : l ≤ 8) (hlr : (r : Int) < ER l) (hlo : LO r = l) (hm : psO r = m) (h : Px m W0 W) : ∃ W1, L_X3_init_49 149 k (fu + 1) (rmE l) v2 l r (mem (151 + 4 * m) W) = L_X3_init_49 149 k fu (rmE l) v2 l ((r : Int) + 1) (mem (151 + 4 * (m + 1)) W1) ∧ Px (m + 1) W0 W1 := by
  obtain ⟨h1, h2, h3, h4, h5⟩ := h
  obtain ⟨⟨t0, t1, t2, t3⟩, ⟨l1, l2, l3⟩, r0, r1, r2, r3⟩ := okIx r hr
  have mb := psO_b r hr
  rw [hlo, Int.toNat_natCast] at l1 l2 l3
  rw [hm] at t0 t1 t2 t3 l1 l2 l3 r0 r1 r2 r3 mb
  have eb := rmE_le l
  obtain ⟨A, a1, a2⟩ := i_ent (o := 151 + 4 * m) (L := (rmE l : Int)) (W := W) h4 (by omega) t0 t1 t2 t3 (by unfold Ln; rw [l1]) (by unfold Ln; rw [l2]) (by unfold Ln; rw [l3]) (by omega) r0 r1 r2
  have A0 : A 150 = aF m := by rw [a2.2 150 (by omega), h2]
  refine ⟨oset A 150 (us (aF m) r 1), ?_, ?_⟩
  · rw [L_X3_init_49]
    refine it (by omega) (ie (by omega) ?_)
    rw [if_pos (c := Ty 149 = 3 ∧ ((149 : Nat) : Int) < mem (151 + 4 * m) W 440 0) ⟨by decide, by rw [mem_n]; omega⟩]
    rw [if_pos (c := mem (151 + 4 * m) W 149 0 ≠ 0) (by rw [mem_a (by omega), h1]; decide)]
    refine ko (h4 _ (by omega)) (by omega) t0 ?_
    rw [mem_n, Int.toNat_natCast]
    refine bc a1 ?_
    rw [show Rf 149 0 = 150 from by decide]
    rw [if_pos (c := Ty 150 = 14 ∧ ((150 : Nat) : Int) < mem (151 + 4 * m + 4) A 440 0) ⟨by decide, by rw [mem_n]; omega⟩]
    rw [if_pos (c := 0 ≤ (r : Int) ∧ (r : Int) < Ln 150) (by rw [show Ln 150 = 19 from by decide]; omega)]
    rw [if_pos (c := Ty (151 + 4 * m) = 1 ∧ ((151 + 4 * m : Nat) : Int) < mem (151 + 4 * m + 4) A 440 0) ⟨t0, by rw [mem_n]; omega⟩]
    rw [if_pos r3, mem_w (by omega), A0]
    rw [show 151 + 4 * m + 4 = 151 + 4 * (m + 1) by omega]
    rfl
  · refine ⟨by rw [os_ne (by omega), a2.2 149 (by omega), h1], by rw [os, aF_s hr hm], fun a x0 x1 => ?_, fun a x0 => ?_, fun a x0 => ?_⟩
    · rw [os_ne (by omega)]
      by_cases q : a < 151 + 4 * m
      · rw [a2.2 a (by omega)]; exact h3 a x0 q
      · exact a2.1 a (by omega) (by omega)
    · rw [os_ne (by omega), a2.2 a (by omega)]; exact h4 a (by omega)
    · rw [os_ne (by omega), a2.2 a (by omega)]; exact h5 a x0
theorem ix_tab : ∀ l : Nat, l < 8 → (LO ((2 * l : Nat) : Int) = (l : Int) ∧ LO ((2 * l + 1 : Nat) : Int) = (l : Int)) ∧ (psO (2 * l) = 3 + 2 * (7 - l) ∧ psO (2 * l + 1) = 3 + 2 * (7 - l) + 1) ∧ (rmO l : Int) + (rmE (l + 1) : Int) / 2 + (rmO (l + 1) : Int) / 2 = (rmE l : Int) := by decide +kernel
theorem l_ixs {k : fMem → Option fMem} {W0 : fMem} : ∀ (l fu : Nat) (W : fMem), l ≤ 8 → l < fu → Px (3 + 2 * (8 - l)) W0 W → ∃ W1, L_X3_init_20 149 k fu (rmE l) (rmO l) ((l : Int) - 1) (mem (151 + 4 * (3 + 2 * (8 - l))) W) = k (mem 227 W1) ∧ Px 19 W0 W1 := by
  intro l
  induction l with
  | zero =>
    intro fu W hl hf h
    obtain ⟨f, rfl⟩ : ∃ f, fu = f + 1 := ⟨fu - 1, by omega⟩
    refine ⟨W, ?_, h⟩
    rw [L_X3_init_20]
    exact it (by omega) rfl
  | succ l ih =>
    intro fu W hl hf h
    obtain ⟨f, rfl⟩ : ∃ f, fu = f + 1 := ⟨fu - 1, by omega⟩
    obtain ⟨⟨a1, a2⟩, ⟨b1', b2⟩, c⟩ := ix_tab l (by omega)
    have e1 : 3 + 2 * (8 - (l + 1)) = 3 + 2 * (7 - l) := by omega
    rw [e1] at h ⊢
    have er : ER (l : Int) = 2 * (l : Int) + 2 := by unfold ER; rw [if_neg (by omega)]
    have rb := rmO_le l
    have rb2 := rmE_le l
    have hlt : ((l + 1 : Nat) : Int) - 1 = (l : Int) := by omega
    rw [hlt]
    obtain ⟨A, p1, p2⟩ := ix_step (k := fun (v1_24 : Int) (v2_24 : Int) (v3_24 : Int) (N24 : fMem) => (if -2147483648 ≤ v3_24 + -1 ∧ v3_24 + -1 < 2147483648 then L_X3_init_20 149 k f v1_24 v2_24 (v3_24 + -1) N24 else none)) (fu := 3) (v2 := (rmO l : Int)) (r := 2 * l) (by omega) (by omega : l ≤ 8) (by rw [er]; omega) a1 b1' h
    obtain ⟨B, q1, q2⟩ := ix_step (k := fun (v1_24 : Int) (v2_24 : Int) (v3_24 : Int) (N24 : fMem) => (if -2147483648 ≤ v3_24 + -1 ∧ v3_24 + -1 < 2147483648 then L_X3_init_20 149 k f v1_24 v2_24 (v3_24 + -1) N24 else none)) (fu := 2) (v2 := (rmO l : Int)) (r := 2 * l + 1) (by omega) (by omega : l ≤ 8) (by rw [er]; omega) a2 b2 p2
    have e2 : 3 + 2 * (7 - l) + 1 + 1 = 3 + 2 * (8 - l) := by omega
    rw [e2] at q1 q2
    obtain ⟨C, s1, s2⟩ := ih f B (by omega) (by omega) q2
    refine ⟨C, ?_, s2⟩
    rw [L_X3_init_20]
    refine ie (by omega) (bc (e_room (by omega)) ?_)
    rw [Int.toNat_natCast]
    refine it (by omega) (it (by omega) (bc (e_room (by omega)) ?_))
    rw [Int.toNat_natCast, c]
    refine it (by omega) (it (by omega) ?_)
    rw [show FR (l : Int) = ((2 * l : Nat) : Int) by unfold FR; omega]
    rw [p1]
    rw [show ((2 * l : Nat) : Int) + 1 = ((2 * l + 1 : Nat) : Int) by omega]
    rw [q1]
    rw [L_X3_init_49]
    refine it (by omega) (it (by rw [er]; omega) (it (by omega) ?_))
    rw [show (l : Int) + -1 = (l : Int) - 1 by omega]
    exact s1
theorem ix_8 : (LO ((16 : Nat) : Int) = ((8 : Nat) : Int) ∧ LO ((17 : Nat) : Int) = ((8 : Nat) : Int) ∧ LO ((18 : Nat) : Int) = ((8 : Nat) : Int)) ∧ psO 16 = 0 ∧ psO 17 = 1 ∧ psO 18 = 2 := by decide +kernel
theorem i_idx {W : fMem} (hz : ∀ a, 149 ≤ a → W a = zf) : ∃ W1, f_X3_init 149 (mem 150 W) = some (mem 227 W1) ∧ Cn 149 78 W W1 := by
  obtain ⟨⟨a1, a2, a3⟩, b1', b2, b3⟩ := ix_8
  have h0 : Px 0 W (oset W 149 (us zf 0 1)) := by
    refine ⟨?_, by rw [os_ne (by omega), hz _ (by omega), aF_0], fun a x0 x1 => by omega, fun a x0 => by rw [os_ne (by omega)]; exact hz a (by omega), fun a x0 => os_ne (by omega)⟩
    rw [os]
    exact (vT_1 (t := 3) (by omega)).symm
  have er : ER ((8 : Nat) : Int) = 19 := rfl
  obtain ⟨A, p1, p2⟩ := ix_step (k := fun (v1_24 : Int) (v2_24 : Int) (v3_24 : Int) (N24 : fMem) => (if -2147483648 ≤ v3_24 + -1 ∧ v3_24 + -1 < 2147483648 then L_X3_init_20 149 (fun N27 => some N27) 9 v1_24 v2_24 (v3_24 + -1) N24 else none)) (fu := 3) (v2 := 200) (r := 16) (l := 8) (by omega) (by omega) (by rw [er]; omega) a1 b1' h0
  obtain ⟨B, q1, q2⟩ := ix_step (k := fun (v1_24 : Int) (v2_24 : Int) (v3_24 : Int) (N24 : fMem) => (if -2147483648 ≤ v3_24 + -1 ∧ v3_24 + -1 < 2147483648 then L_X3_init_20 149 (fun N27 => some N27) 9 v1_24 v2_24 (v3_24 + -1) N24 else none)) (fu := 2) (v2 := 200) (r := 17) (l := 8) (by omega) (by omega) (by rw [er]; omega) a2 b2 p2
  obtain ⟨C, s1, s2⟩ := ix_step (k := fun (v1_24 : Int) (v2_24 : Int) (v3_24 : Int) (N24 : fMem) => (if -2147483648 ≤ v3_24 + -1 ∧ v3_24 + -1 < 2147483648 then L_X3_init_20 149 (fun N27 => some N27) 9 v1_24 v2_24 (v3_24 + -1) N24 else none)) (fu := 1) (v2 := 200) (r := 18) (l := 8) (by omega) (by omega) (by rw [er]; omega) a3 b3 q2
  obtain ⟨D, d1, d2⟩ := l_ixs (k := fun N27 => some N27) 8 9 C (by omega) (by omega) s2
  refine ⟨D, ?_, fun a x0 x1 => ?_, fun a x0 => ?_⟩
  · unfold f_X3_init
    refine kn (n := 150) (t := 14) (hz _ (by omega)) (by omega) (by decide) (by decide) (kr (m := 150) (hz 149 (by omega)) (by decide) (by omega) (by omega) (by decide) ?_)
    rw [L_X3_init_20]
    refine ie (by omega) (bc (e_room (by omega)) (it (by omega) (it (by omega) (bc (e_room (by omega)) (it (by omega) (it (by decide) ?_))))))
    refine p1.trans (q1.trans (s1.trans ?_))
    rw [L_X3_init_49]
    exact it (by omega) (it (by rw [er]; omega) (it (by omega) d1))
  · have : a = 149 ∨ a = 150 ∨ 151 ≤ a := by omega
    rcases this with rfl | rfl | q
    · exact d2.1
    · rw [d2.2.1, aF_19]
    · exact d2.2.2.1 a q (by omega)
  · by_cases q : a < 149
    · exact d2.2.2.2.2 a q
    · rw [d2.2.2.2.1 a (by omega), hz a (by omega)]
theorem i_tape {W : fMem} (hz : ∀ a, 145 ≤ a → W a = zf) : ∃ W1, f_X8_init 145 (mem 146 W) = some (mem 147 W1) ∧ Cn 145 2 W W1 := by
  refine ⟨oset W 145 (us zf 0 1), ?_, fun a x0 x1 => ?_, fun a x0 => os_ne (by omega)⟩
  · unfold f_X8_init
    refine kn (n := 146) (t := 12) (hz _ (by omega)) (by omega) (by decide) (by decide) (kr (m := 146) (hz 145 (by omega)) (by decide) (by omega) (by omega) (by decide) ?_)
    exact k0 (by decide) (by omega) (by omega) (by rw [os]; rfl) rfl
  · have : a = 145 ∨ a = 146 := by omega
    rcases this with rfl | rfl
    · rw [os]; exact (vT_1 (t := 8) (by omega)).symm
    · rw [os_ne (by omega), hz _ (by omega)]; exact (V_z (by decide)).symm
theorem i_tolls {W : fMem} (hz : ∀ a, 147 ≤ a → W a = zf) : ∃ W1, f_X9_init 147 (mem 148 W) = some (mem 149 W1) ∧ Cn 147 2 W W1 := by
  refine ⟨oset W 147 (us zf 0 1), ?_, fun a x0 x1 => ?_, fun a x0 => os_ne (by omega)⟩
  · unfold f_X9_init
    refine kn (n := 148) (t := 12) (hz _ (by omega)) (by omega) (by decide) (by decide) (kr (m := 148) (hz 147 (by omega)) (by decide) (by omega) (by omega) (by decide) ?_)
    exact k0 (by decide) (by omega) (by omega) (by rw [os]; rfl) (k0 (by decide) (by omega) (by omega) (by rw [os]; rfl) rfl)
  · have : a = 147 ∨ a = 148 := by omega
    rcases this with rfl | rfl
    · rw [os]; exact (vT_1 (t := 9) (by omega)).symm
    · rw [os_ne (by omega), hz _ (by omega)]; exact (V_z (by decide)).symm
theorem i_path {W : fMem} (hz : ∀ a, 227 ≤ a → W a = zf) : ∃ W1, f_X5_init 227 (mem 228 W) = some (mem 232 W1) ∧ Cn 227 5 W W1 := by
  refine ⟨oset (oset (oset (oset W 227 (us zf 0 1)) 227 (us (us zf 0 1) 1 1)) 227 (us (us (us zf 0 1) 1 1) 2 1)) 227 (us (us (us (us zf 0 1) 1 1) 2 1) 3 1), ?_, fun a x0 x1 => ?_, fun a x0 => by rw [os_ne (by omega), os_ne (by omega), os_ne (by omega), os_ne (by omega)]⟩
  · unfold f_X5_init
    refine kn (n := 228) (t := 12) (hz _ (by omega)) (by omega) (by decide) (by decide) (kr (m := 228) (hz 227 (by omega)) (by decide) (by omega) (by omega) (by decide) ?_)
    refine kn (n := 229) (t := 12) (by rw [os_ne (by omega)]; exact hz _ (by omega)) (by omega) (by decide) (by decide) (kr (m := 229) (os _ _ _) (by decide) (by omega) (by omega) (by decide) ?_)
    refine kn (n := 230) (t := 12) (by rw [os_ne (by omega), os_ne (by omega)]; exact hz _ (by omega)) (by omega) (by decide) (by decide) (kr (m := 230) (os _ _ _) (by decide) (by omega) (by omega) (by decide) ?_)
    refine kn (n := 231) (t := 12) (by rw [os_ne (by omega), os_ne (by omega), os_ne (by omega)]; exact hz _ (by omega)) (by omega) (by decide) (by decide) (kr (m := 231) (os _ _ _) (by decide) (by omega) (by omega) (by decide) ?_)
    exact k0 (by decide) (by omega) (by omega) (by rw [os]; rfl) (k0 (by decide) (by omega) (by omega) (by rw [os]; rfl) rfl)
  · have : a = 227 ∨ a = 228 ∨ a = 229 ∨ a = 230 ∨ a = 231 := by omega
    rcases this with rfl | rfl | rfl | rfl | rfl
    · rw [os]; exact (vT_4 _).symm
    all_goals (rw [os_ne (by omega), os_ne (by omega), os_ne (by omega), os_ne (by omega), hz _ (by omega)]; exact (V_z (by decide)).symm)
theorem i_hol {o : Nat} {W : fMem} (ho : o = 232 ∨ o = 235) (hz : ∀ a, o ≤ a → W a = zf) : ∃ W1, f_X2_init o (mem (o + 1) W) = some (mem (o + 3) W1) ∧ Cn o 3 W W1 := by
  have t0 : Ty o = 2 ∧ Ty (o + 1) = 12 ∧ Ty (o + 2) = 12 ∧ Ln (o + 1) = 200 ∧ Ln (o + 2) = 200 ∧ Rf o 0 = o + 1 ∧ Rf o 1 = o + 2 := by rcases ho with rfl | rfl <;> decide
  obtain ⟨t0, t1, t2, l1, l2, r0, r1⟩ := t0
  refine ⟨oset (oset W o (us zf 0 1)) o (us (us zf 0 1) 1 1), ?_, fun a x0 x1 => ?_, fun a x0 => by rw [os_ne (by omega), os_ne (by omega)]⟩
  · unfold f_X2_init
    refine kn (hz _ (by omega)) (by omega) t1 l1 (kr (hz o (by omega)) t0 (by omega) (by omega) r0 ?_)
    refine kn (by rw [os_ne (by omega)]; exact hz _ (by omega)) (by omega) t2 l2 (kr (os _ _ _) t0 (by omega) (by omega) r1 ?_)
    exact k0 t0 (by omega) (by omega) (by rw [os]; rfl) rfl
  · have : a = o ∨ a = o + 1 ∨ a = o + 2 := by omega
    rcases this with rfl | rfl | rfl
    · rw [os]; unfold V; rw [t0]; exact (vT_2 (t := 2) (by omega)).symm
    · rw [os_ne (by omega), os_ne (by omega), hz _ (by omega), V_z (by omega)]
    · rw [os_ne (by omega), os_ne (by omega), hz _ (by omega), V_z (by omega)]
end INI3
