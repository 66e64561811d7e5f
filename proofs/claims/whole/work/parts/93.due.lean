/-! due -/
section DUE
noncomputable def duN (g : Int → Int) (l : Int) : Nat → Nat → Int
  | 0, _ => -1
  | m + 1, i => if sAh g (i + 1) (7720 + l) = g (7720 + l) then duN g l m (i + 1) else (i : Int) + 1
theorem duN_bd (g : Int → Int) (l : Int) : ∀ m i : Nat, i + m ≤ 64 → duN g l m i = -1 ∨ (1 ≤ duN g l m i ∧ duN g l m i ≤ 64) := by
  intro m
  induction m with
  | zero => intro i _; exact Or.inl rfl
  | succ m ih =>
    intro i hi
    unfold duN
    split
    · exact ih (i + 1) (by omega)
    · right; omega
theorem sAh_mono {g : Int → Int} {T x : Int} (h : Run g T) (hb : 0 ≤ g 7739 ∧ g 7739 ≤ 40) (hT0 : 500000 ≤ T) (hx : 7720 ≤ x ∧ x ≤ 7738) : ∀ i : Nat, T + 1000 * i < 2000000000 → g x ≤ sAh g i x := by
  intro i
  induction i with
  | zero => intro _; exact Int.le_refl _
  | succ i ih =>
    intro hT
    have a := (sAh_run h hb hT0 i (by omega)).1
    have b := sAct_mono (k := aK i) (v := 0) a (aK_bd i) (by omega) (by omega) hx
    have c := ih (by omega)
    show g x ≤ sAct (sAh g i) (aK i) 0 x
    omega
theorem sAh_out {g : Int → Int} {T x : Int} (h : Run g T) (hb : 0 ≤ g 7739 ∧ g 7739 ≤ 40) (hT0 : 500000 ≤ T) (hx : x < 0 ∨ 7787 ≤ x) : ∀ i : Nat, T + 1000 * i < 2000000000 → sAh g i x = g x := by
  intro i
  induction i with
  | zero => intro _; rfl
  | succ i ih =>
    intro hT
    have a := (sAh_run h hb hT0 i (by omega)).1
    show sAct (sAh g i) (aK i) 0 x = _
    rw [sAct_out a (aK_bd i) (by omega) (by omega) hx, ih (by omega)]
theorem c_dueL {M0 : fMem} {g : Int → Int} {T l : Int} (h : Run g T) (hb : 0 ≤ g 7739 ∧ g 7739 ≤ 40) (hT0 : 500000 ≤ T) (hT : T + 70000 < 2000000000) (hl : 0 ≤ l ∧ l ≤ 8) (h1 : RelE 1 M0 g) : ∀ (m fu i : Nat) (M : fMem), i + m = 64 → m < fu → RF 72 M0 M (sAh g i) →
    ∃ M1, L_X10_due_17 (fun (M_12 : fMem) => some (0, (-1), M_12)) fu l i M = some (0, duN g l m i, M1) ∧ frm 72 71 M0 M1 := by
  intro m
  induction m with
  | zero =>
    intro fu i M hi hf hr
    obtain ⟨f, rfl⟩ : ∃ f, fu = f + 1 := ⟨fu - 1, by omega⟩
    exact ⟨M, it (by omega) rfl, hr.2⟩
  | succ m ih =>
    intro fu i M hi hf hr
    obtain ⟨f, rfl⟩ : ∃ f, fu = f + 1 := ⟨fu - 1, by omega⟩
    obtain ⟨a, b⟩ := sAh_run h hb hT0 i (by omega)
    obtain ⟨N, n1, n2⟩ := c_actAhead (i := i) hr a (by rw [b]; exact hb) (by omega) (by omega)
    have e1 : N (l.toNat + 134) 7 = sAh g (i + 1) (7720 + l) := by
      have := (n2.1.2.1 l hl.1 hl.2).2.2.2.2.2.2.2.1
      rw [show 72 + l.toNat + 62 = l.toNat + 134 by omega] at this
      exact this
    have e2 : N (l.toNat + 63) 7 = g (7720 + l) := by
      have := (h1.2.1 l hl.1 hl.2).2.2.2.2.2.2.2.1
      rw [show 1 + l.toNat + 62 = l.toNat + 63 by omega] at this
      rw [n2.2 _ (by omega)]
      exact this
    by_cases c : sAh g (i + 1) (7720 + l) = g (7720 + l)
    · obtain ⟨M1, k1, k2⟩ := ih f (i + 1) N (by omega) (by omega) n2
      refine ⟨M1, ie (by omega) (bc (c_keyAhead (by omega) (by omega)) (bc n1 (it (by omega) (it (by show N (l.toNat + 134) 7 = N (l.toNat + 63) 7; rw [e1, e2]; exact c) ?_)))), k2⟩
      have d : duN g l (m + 1) i = duN g l m (i + 1) := by
        rw [duN, if_pos c]
      rw [d, ← k1]
      rfl
    · refine ⟨N, ie (by omega) (bc (c_keyAhead (by omega) (by omega)) (bc n1 (it (by omega) (ie (by show ¬ (N (l.toNat + 134) 7 = N (l.toNat + 63) 7); rw [e1, e2]; exact c) ?_)))), n2.2⟩
      have d : duN g l (m + 1) i = (i : Int) + 1 := by
        rw [duN, if_neg c]
      rw [d]
theorem r_dueL {N : fMem} {g : Int → Int} {T l : Int} {k : Int → fMem → Option (Int × fMem)} (h : Run g T) (hb : 0 ≤ g 7739 ∧ g 7739 ≤ 40) (hT0 : 500000 ≤ T) (hT : T + 70000 < 2000000000) (hl : 0 ≤ l ∧ l ≤ 8) (h1 : ∀ x, 0 ≤ x → x < 7787 → N 420 x = g x) : ∀ (m fu i : Nat), i + m = 64 → m + 1 < fu →
    ∃ j : Nat, j ≤ 64 ∧ L_X11_due_27 k fu l (-1) i (oset N 419 (sAh g i)) = k (duN g l m i) (oset N 419 (sAh g j)) := by
  intro m
  induction m with
  | zero =>
    intro fu i hi hf
    obtain ⟨f, rfl⟩ : ∃ f, fu = f + 1 := ⟨fu - 1, by omega⟩
    exact ⟨i, by omega, it (by omega) rfl⟩
  | succ m ih =>
    intro fu i hi hf
    obtain ⟨f, rfl⟩ : ∃ f, fu = f + 1 := ⟨fu - 1, by omega⟩
    obtain ⟨a, b⟩ := sAh_run h hb hT0 i (by omega)
    have mo := sAh_mono (x := 7720 + l) h hb hT0 (by omega) (i + 1) (by omega)
    have e1 : oset N 419 (sAh g (i + 1)) 419 (7720 + l) = sAh g (i + 1) (7720 + l) := by rw [os]
    have e2 : oset N 419 (sAh g (i + 1)) 420 (7720 + l) = g (7720 + l) := by rw [os_ne (by omega), h1 _ (by omega) (by omega)]
    have ac := e_actsAhead (M := N) (i := i) (by omega) (by omega) a (by rw [b]; exact hb) (by omega) (by omega)
    by_cases c : sAh g (i + 1) (7720 + l) = g (7720 + l)
    · obtain ⟨j, j0, j1⟩ := ih f (i + 1) (by omega) (by omega)
      refine ⟨j, j0, ie (by omega) (it rfl (bc ac (it (by omega) (it (by show oset N 419 (sAh g (i + 1)) 419 (7720 + l) ≤ oset N 419 (sAh g (i + 1)) 420 (7720 + l); rw [e1, e2]; omega) ?_))))⟩
      have d : duN g l (m + 1) i = duN g l m (i + 1) := by
        rw [duN, if_pos c]
      rw [d, ← j1]
      rfl
    · refine ⟨i + 1, by omega, ie (by omega) (it rfl (bc ac (it (by omega) (ie (by show ¬ (oset N 419 (sAh g (i + 1)) 419 (7720 + l) ≤ oset N 419 (sAh g (i + 1)) 420 (7720 + l)); rw [e1, e2]; omega) ?_))))⟩
      have d : duN g l (m + 1) i = (i : Int) + 1 := by
        rw [duN, if_neg c]
      rw [d]
      obtain ⟨f', rfl⟩ : ∃ f', f = f' + 1 := ⟨f - 1, by omega⟩
      by_cases q : 64 ≤ (i : Int) + 1
      · exact it q rfl
      · exact ie q (ie (by omega) rfl)
end DUE
