/-! calm: the reference's loop -/
section CALM2
theorem r_calmL {N : fMem} {g : Int → Int} {T c : Int} {k : fMem → Option (Int × fMem)} (h : Run g T) (hb : 0 ≤ g 7739 ∧ g 7739 ≤ 40) (hT0 : 500000 ≤ T) (hT : T + 70000 < 2000000000) (h1 : N 420 7743 = c) {a : Nat} (ha : a ≤ 64) : ∀ (m fu i : Nat), i + m = a → m + 1 < fu → sAh g i 7743 = c →
    ∃ j : Nat, j ≤ 64 ∧ L_X11_isCalm_11 k fu a i (oset N 419 (sAh g i)) = k (oset N 419 (sAh g j)) ∧ ((sAh g j 7743 = c ∧ caN g c m i = 1) ∨ (sAh g j 7743 ≠ c ∧ caN g c m i = 0)) := by
  intro m
  induction m with
  | zero =>
    intro fu i hi hf hc
    obtain ⟨f, rfl⟩ : ∃ f, fu = f + 1 := ⟨fu - 1, by omega⟩
    exact ⟨i, by omega, it (by omega) rfl, Or.inl ⟨hc, rfl⟩⟩
  | succ m ih =>
    intro fu i hi hf hc
    obtain ⟨f, rfl⟩ : ∃ f, fu = f + 1 := ⟨fu - 1, by omega⟩
    obtain ⟨a1, b⟩ := sAh_run h hb hT0 i (by omega)
    have ac := e_actsAhead (M := N) (i := i) (by omega) (by omega) a1 (by rw [b]; exact hb) (by omega) (by omega)
    have e0 : oset N 419 (sAh g i) 419 7743 = oset N 419 (sAh g i) 420 7743 := by rw [os, os_ne (by omega), h1, hc]
    by_cases q : sAh g (i + 1) 7743 = c
    · obtain ⟨j, j0, j1, j2⟩ := ih f (i + 1) (by omega) (by omega) q
      have d : caN g c (m + 1) i = caN g c m (i + 1) := by
        rw [caN, if_pos q]
      refine ⟨j, j0, ie (by omega) (it e0 (bc ac ?_)), by rw [d]; exact j2⟩
      rw [← j1]
      rfl
    · have d : caN g c (m + 1) i = 0 := by
        rw [caN, if_neg q]
      refine ⟨i + 1, by omega, ie (by omega) (it e0 (bc ac ?_)), Or.inr ⟨q, d⟩⟩
      obtain ⟨f', rfl⟩ : ∃ f', f = f' + 1 := ⟨f - 1, by omega⟩
      by_cases z : (a : Int) ≤ (i : Int) + 1
      · exact it z rfl
      · refine ie z (ie ?_ rfl)
        show ¬ (oset N 419 (sAh g (i + 1)) 419 7743 = oset N 419 (sAh g (i + 1)) 420 7743)
        rw [os, os_ne (by omega), h1]
        exact q
end CALM2
