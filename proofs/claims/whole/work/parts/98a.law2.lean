/-! the law's loop -/
section LAWQ
theorem law_run {sc : Int → Int} {sn : Int} (rsc : ∀ j, rg (sc j)) (hs : sn ≤ 3072) : ∀ (fu : Nat) (i n : Int) (M : fMem), 0 ≤ i → i ≤ sn → 6 * n ≤ i → sn - i < 6 * (fu : Int) → St M n → L_law sc sn fu i M = some 1 := by
  intro fu
  induction fu with
  | zero =>
    intro i n M i0 i1 hn hf h
    exact absurd hf (by omega)
  | succ fu ih =>
    intro i n M i0 i1 hn hf h
    by_cases q : sn - 6 < i
    · exact it q rfl
    · have hi : 0 ≤ i ∧ i + 5 < sn := by omega
      have h6 : n < 600 := by omega
      have k1 : ∀ N, St N (n + 1) → L_law sc sn fu (i + 6) N = some 1 := fun N hN => ih (i + 6) (n + 1) N (by omega) (by omega) (by omega) (by omega) hN
      have k0 : L_law sc sn fu (i + 6) M = some 1 := ih (i + 6) n M (by omega) (by omega) (by omega) (by omega) h
      refine ie q (it (by omega) ?_)
      by_cases q0 : sc i % 2 ^ 6 = 0
      · exact it q0 (w_c0 rsc h h6 hi k1)
      refine ie q0 ?_
      by_cases q1 : sc i % 2 ^ 6 = 1
      · exact it q1 (w_c1 rsc h h6 hi k1)
      refine ie q1 ?_
      by_cases q2 : sc i % 2 ^ 6 = 2
      · exact it q2 (w_c2 rsc h h6 hi k1)
      refine ie q2 ?_
      by_cases q3 : sc i % 2 ^ 6 = 3
      · exact it q3 (w_c3 rsc h h6 hi k1)
      refine ie q3 ?_
      by_cases q4 : sc i % 2 ^ 6 = 4
      · exact it q4 (w_c4 rsc h h6 hi k1)
      refine ie q4 ?_
      by_cases q5 : sc i % 2 ^ 6 = 5
      · exact it q5 (w_c5 rsc h h6 hi k1)
      refine ie q5 ?_
      by_cases q6 : sc i % 2 ^ 6 = 6
      · exact it q6 (w_c6 rsc h h6 hi k1)
      refine ie q6 ?_
      by_cases q7 : sc i % 2 ^ 6 = 7
      · exact it q7 (w_c7 rsc h h6 hi k1)
      refine ie q7 ?_
      by_cases q8 : sc i % 2 ^ 6 = 8
      · exact it q8 (w_c8 rsc h h6 hi k1)
      refine ie q8 ?_
      by_cases q9 : sc i % 2 ^ 6 = 9
      · exact it q9 (w_c9 rsc h h6 hi k1)
      refine ie q9 ?_
      by_cases q10 : sc i % 2 ^ 6 = 10
      · exact it q10 (w_c10 rsc h h6 hi k1)
      refine ie q10 ?_
      by_cases q11 : sc i % 2 ^ 6 = 11
      · exact it q11 (w_c11 rsc h h6 hi k1)
      refine ie q11 ?_
      by_cases q12 : sc i % 2 ^ 6 = 12
      · exact it q12 (w_c12 rsc h h6 hi k1)
      refine ie q12 ?_
      by_cases q13 : sc i % 2 ^ 6 = 13
      · exact it q13 (w_c13 rsc h h6 hi k1)
      refine ie q13 ?_
      by_cases q14 : sc i % 2 ^ 6 = 14
      · exact it q14 (w_c14 rsc h h6 hi k1)
      refine ie q14 ?_
      by_cases q15 : sc i % 2 ^ 6 = 15
      · exact it q15 (w_c15 rsc h h6 hi k1)
      refine ie q15 ?_
      by_cases q16 : sc i % 2 ^ 6 = 16
      · exact it q16 (w_c16 rsc h h6 hi k1)
      refine ie q16 ?_
      by_cases q17 : sc i % 2 ^ 6 = 17
      · exact it q17 (w_c17 rsc h h6 hi k1)
      refine ie q17 ?_
      by_cases q18 : sc i % 2 ^ 6 = 18
      · exact it q18 (w_c18 rsc h h6 hi k1)
      refine ie q18 ?_
      by_cases q19 : sc i % 2 ^ 6 = 19
      · exact it q19 (w_c19 rsc h h6 hi k1)
      refine ie q19 ?_
      by_cases q20 : sc i % 2 ^ 6 = 20
      · exact it q20 (w_c20 rsc h h6 hi k1)
      refine ie q20 ?_
      by_cases q21 : sc i % 2 ^ 6 = 21
      · exact it q21 (w_c21 rsc h h6 hi k1)
      refine ie q21 ?_
      by_cases q22 : sc i % 2 ^ 6 = 22
      · exact it q22 (w_c22 rsc h h6 hi k1)
      refine ie q22 ?_
      by_cases q23 : sc i % 2 ^ 6 = 23
      · exact it q23 (w_c23 rsc h h6 hi k1)
      refine ie q23 ?_
      by_cases q24 : sc i % 2 ^ 6 = 24
      · exact it q24 (w_c24 rsc h h6 hi k1)
      refine ie q24 ?_
      by_cases q25 : sc i % 2 ^ 6 = 25
      · exact it q25 (w_c25 rsc h h6 hi k1)
      refine ie q25 ?_
      by_cases q26 : sc i % 2 ^ 6 = 26
      · exact it q26 (w_c26 rsc h h6 hi k1)
      refine ie q26 ?_
      by_cases q27 : sc i % 2 ^ 6 = 27
      · exact it q27 (w_c27 rsc h h6 hi k1)
      refine ie q27 ?_
      by_cases q28 : sc i % 2 ^ 6 = 28
      · exact it q28 (w_c28 rsc h h6 hi k1)
      refine ie q28 ?_
      by_cases q29 : sc i % 2 ^ 6 = 29
      · exact it q29 (w_c29 rsc h h6 hi k1)
      refine ie q29 ?_
      by_cases q30 : sc i % 2 ^ 6 = 30
      · exact it q30 (w_c30 rsc h h6 hi k1)
      refine ie q30 ?_
      by_cases q31 : sc i % 2 ^ 6 = 31
      · exact it q31 (w_c31 rsc h h6 hi k1)
      refine ie q31 ?_
      by_cases q32 : sc i % 2 ^ 6 = 32
      · exact it q32 (w_c32 rsc h h6 hi k1)
      refine ie q32 ?_
      exact k0
end LAWQ
