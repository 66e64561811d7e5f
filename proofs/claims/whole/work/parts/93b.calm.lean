/-! calm: the loops -/
section CALM
/-- no act of the m that lie ahead is forced (c: the count of forced steps) -/
noncomputable def caN (g : Int → Int) (c : Int) : Nat → Nat → Int
  | 0, _ => 1
  | m + 1, i => if sAh g (i + 1) 7743 = c then caN g c m (i + 1) else 0
theorem c_calmL {M0 : fMem} {g : Int → Int} {T c : Int} (h : Run g T) (hb : 0 ≤ g 7739 ∧ g 7739 ≤ 40) (hT0 : 500000 ≤ T) (hT : T + 70000 < 2000000000) (h1 : M0 1 6 = c) {a : Nat} (ha : a ≤ 64) : ∀ (m fu i : Nat) (M : fMem), i + m = a → m < fu → RF 72 M0 M (sAh g i) →
    ∃ M1, L_X10_isCalm_21 (fun (M_9 : fMem) => some (1, M_9)) fu a i M = some (caN g c m i, M1) ∧ frm 72 71 M0 M1 := by
  intro m
  induction m with
  | zero =>
    intro fu i M hi hf hr
    obtain ⟨f, rfl⟩ : ∃ f, fu = f + 1 := ⟨fu - 1, by omega⟩
    exact ⟨M, it (by omega) rfl, hr.2⟩
  | succ m ih =>
    intro fu i M hi hf hr
    obtain ⟨f, rfl⟩ : ∃ f, fu = f + 1 := ⟨fu - 1, by omega⟩
    obtain ⟨a1, b⟩ := sAh_run h hb hT0 i (by omega)
    obtain ⟨N, n1, n2⟩ := c_actAhead (i := i) hr a1 (by rw [b]; exact hb) (by omega) (by omega)
    have e1 : N 72 6 = sAh g (i + 1) 7743 := n2.1.2.2.2.2.2.2.1
    have e2 : N 1 6 = c := by rw [n2.2 1 (by omega), h1]
    by_cases q : sAh g (i + 1) 7743 = c
    · obtain ⟨M1, k1, k2⟩ := ih f (i + 1) N (by omega) (by omega) n2
      refine ⟨M1, ie (by omega) (bc (c_keyAhead (by omega) (by omega)) (bc n1 (it (by show N 72 6 = N 1 6; rw [e1, e2]; exact q) ?_))), k2⟩
      have d : caN g c (m + 1) i = caN g c m (i + 1) := by
        rw [caN, if_pos q]
      rw [d, ← k1]
      rfl
    · refine ⟨N, ie (by omega) (bc (c_keyAhead (by omega) (by omega)) (bc n1 (ie (by show ¬ (N 72 6 = N 1 6); rw [e1, e2]; exact q) ?_))), n2.2⟩
      have d : caN g c (m + 1) i = 0 := by
        rw [caN, if_neg q]
      rw [d]
end CALM
