/-! a row's, a merge's, an engine's copy -/
section CPY
theorem c_copyRow {M : fMem} {g : Int → Int} {r : Int} {o p : Nat} (h : rowE p M g r) (d : p + 2 < o ∨ o + 2 < p) (lo : Ln (o + 1) = rmR r ∧ Ln (o + 2) = rmR r) (lp : Ln (p + 1) = rmR r ∧ Ln (p + 2) = rmR r) :
    ∃ M1, f_X6_copyFrom o p M = some M1 ∧ (∀ a, a ≠ o → a ≠ o + 1 → a ≠ o + 2 → M1 a = M a) ∧ rowE o M1 g r := by
  obtain ⟨a2, a3, a4, a5, a6, a7⟩ := h
  obtain ⟨N, hN⟩ : ∃ N, N = mset (mset (mset (mset M o 2 (M p 2)) o 3 (M p 3)) o 4 (M p 4)) o 5 (M p 5) := ⟨_, rfl⟩
  have n2 : N o 2 = M p 2 := by rw [hN, mset_slot (by omega), mset_slot (by omega), mset_slot (by omega), mset_self]
  have n3 : N o 3 = M p 3 := by rw [hN, mset_slot (by omega), mset_slot (by omega), mset_self]
  have n4 : N o 4 = M p 4 := by rw [hN, mset_slot (by omega), mset_self]
  have n5 : N o 5 = M p 5 := by rw [hN, mset_self]
  have nn : ∀ a, a ≠ o → N a = M a := fun a ha => by rw [hN, mset_ne ha, mset_ne ha, mset_ne ha, mset_ne ha]
  obtain ⟨K, hK⟩ : ∃ K, K = acpy N (p + 1) (o + 1) (M p 3) := ⟨_, rfl⟩
  have kn : ∀ a, a ≠ o + 1 → K a = N a := fun a ha => by rw [hK, acpy_ne ha]
  refine ⟨acpy K (p + 2) (o + 2) (M p 3), ?_, fun a b1' b2 b3 => by rw [acpy_ne b3, kn a b2, nn a b1'], ?_⟩
  · unfold f_X6_copyFrom
    refine bs fun x1 e1 => bs fun x2 e2 => bs fun x3 e3 => bs fun x4 e4 => ?_
    have q1 : ∀ a, a ≠ o → x1 a = M a := fun a ha => by rw [e1, mset_ne ha]
    have w2 : x2 = mset x1 o 3 (M p 3) := by
      rw [e2, q1 p (by omega), lo.1, show min (M p 3) (rmR r) = M p 3 by omega]
    have q2 : ∀ a, a ≠ o → x2 a = M a := fun a ha => by rw [w2, mset_ne ha, q1 a ha]
    have q3 : ∀ a, a ≠ o → x3 a = M a := fun a ha => by rw [e3, mset_ne ha, q2 a ha]
    have w4 : x4 = N := by rw [e4, q3 p (by omega), e3, q2 p (by omega), w2, e1, hN]
    rw [w4, n3, lo.1, lo.2, lp.1, lp.2]
    refine it (by omega) (bs fun x5 e5 => ?_)
    have w5 : x5 = K := by rw [e5, hK]
    have k3 : K o 3 = M p 3 := by rw [kn o (by omega), n3]
    rw [w5, k3]
    exact it (by omega) rfl
  · have t : ∀ i, acpy K (p + 2) (o + 2) (M p 3) o i = N o i := fun i => by rw [acpy_ne (by omega), kn o (by omega)]
    unfold rowE
    rw [t, t, t, t, n2, n3, n4, n5]
    refine ⟨a2, a3, a4, a5, a6, fun j j0 j1 => ?_⟩
    obtain ⟨v1, v2⟩ := a7 j j0 j1
    constructor
    · rw [acpy_ne (by omega), hK]
      show (if o + 1 = o + 1 ∧ 0 ≤ j ∧ j < M p 3 then N (p + 1) j else N (o + 1) j) = _
      rw [if_pos ⟨rfl, j0, by omega⟩, nn (p + 1) (by omega), v1]
    · show (if o + 2 = o + 2 ∧ 0 ≤ j ∧ j < M p 3 then K (p + 2) j else K (o + 2) j) = _
      rw [if_pos ⟨rfl, j0, by omega⟩, kn (p + 2) (by omega), nn (p + 2) (by omega), v2]
theorem c_copyMrg {M : fMem} {g : Int → Int} {l : Int} {o p : Nat} (h : mrgE p M g l) (d : p ≠ o) (b0 : 0 ≤ M p 0 ∧ M p 0 ≤ 1) (b2 : 0 ≤ M p 1 ∧ M p 1 ≤ 1) :
    ∃ M1, f_X4_copyFrom o p M = some M1 ∧ (∀ a, a ≠ o → M1 a = M a) ∧ mrgE o M1 g l := by
  obtain ⟨a0, a1, a2, a3, a4, a5, a6, a7, a8⟩ := h
  unfold f_X4_copyFrom
  refine ⟨mset (mset (mset (mset (mset (mset (mset (mset (mset M o 0 (M p 0)) o 1 (M p 1)) o 2 (M p 2)) o 3 (M p 3)) o 4 (M p 4)) o 5 (M p 5)) o 6 (M p 6)) o 7 (M p 7)) o 8 (M p 8), it b0 (bs fun x1 e1 => ?_), fun a ha => by rw [mset_ne ha, mset_ne ha, mset_ne ha, mset_ne ha, mset_ne ha, mset_ne ha, mset_ne ha, mset_ne ha, mset_ne ha], ?_⟩
  · have q1 : x1 p = M p := by rw [e1, mset_ne d]
    rw [q1]
    refine it b2 (bs fun x2 e2 => bs fun x3 e3 => bs fun x4 e4 => bs fun x5 e5 => bs fun x6 e6 => bs fun x7 e7 => bs fun x8 e8 => bs fun x9 e9 => ?_)
    have q2 : x2 p = M p := by rw [e2, mset_ne d, q1]
    have q3 : x3 p = M p := by rw [e3, mset_ne d, q2]
    have q4 : x4 p = M p := by rw [e4, mset_ne d, q3]
    have q5 : x5 p = M p := by rw [e5, mset_ne d, q4]
    have q6 : x6 p = M p := by rw [e6, mset_ne d, q5]
    have q7 : x7 p = M p := by rw [e7, mset_ne d, q6]
    have q8 : x8 p = M p := by rw [e8, mset_ne d, q7]
    rw [e9, q8, e8, q7, e7, q6, e6, q5, e5, q4, e4, q3, e3, q2, e2, e1]
  · unfold mrgE
    rw [mset_slot (by omega), mset_slot (by omega), mset_slot (by omega), mset_slot (by omega), mset_slot (by omega), mset_slot (by omega), mset_slot (by omega), mset_slot (by omega), mset_self]
    refine ⟨a0, ?_, ?_, ?_, ?_, ?_, ?_, ?_, ?_⟩
    · rw [mset_slot (by omega), mset_slot (by omega), mset_slot (by omega), mset_slot (by omega), mset_slot (by omega), mset_slot (by omega), mset_slot (by omega), mset_self, a1]
    · rw [mset_slot (by omega), mset_slot (by omega), mset_slot (by omega), mset_slot (by omega), mset_slot (by omega), mset_slot (by omega), mset_self, a2]
    · rw [mset_slot (by omega), mset_slot (by omega), mset_slot (by omega), mset_slot (by omega), mset_slot (by omega), mset_self, a3]
    · rw [mset_slot (by omega), mset_slot (by omega), mset_slot (by omega), mset_slot (by omega), mset_self, a4]
    · rw [mset_slot (by omega), mset_slot (by omega), mset_slot (by omega), mset_self, a5]
    · rw [mset_slot (by omega), mset_slot (by omega), mset_self, a6]
    · rw [mset_slot (by omega), mset_self, a7]
    · rw [mset_self, a8]
end CPY
