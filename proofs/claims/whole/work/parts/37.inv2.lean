/-! a level begins to merge -/
section INV2
theorem okM_cg {g g1 : Int → Int} {l : Int} (m1 : g1 (7657 + l) = g (7657 + l)) (m2 : g1 (7666 + l) = g (7666 + l)) (m3 : g1 (7675 + l) = g (7675 + l)) (m4 : g1 (7684 + l) = g (7684 + l)) (m5 : g1 (7693 + l) = g (7693 + l)) (m6 : g1 (7702 + l) = g (7702 + l)) (m7 : g1 (7711 + l) = g (7711 + l))
    (hr : g (7657 + l) = 1 → ∀ r, r = g (7684 + l) ∨ r = g (7693 + l) ∨ r = g (7675 + l) → g1 (7619 + r) = g (7619 + r) ∧ g1 (7600 + r) = g (7600 + r) ∧ ∀ j, 0 ≤ j → j < g (7600 + r) → g1 (200 * r + j) = g (200 * r + j)) (h : okM g l) : okM g1 l := by
  obtain ⟨a, b, c⟩ := h
  unfold okM
  rw [m1, m2]
  refine ⟨a, b, fun hm => ?_⟩
  obtain ⟨c1, c2, c3, c4, c5, c6, c7, c8, c9, c10, c11, c12⟩ := c hm
  obtain ⟨y1, y2, y3⟩ := hr hm _ (Or.inl rfl)
  obtain ⟨e1, e2, e3⟩ := hr hm _ (Or.inr (Or.inl rfl))
  obtain ⟨t1, t2, t3⟩ := hr hm _ (Or.inr (Or.inr rfl))
  have hy : yK g1 l = yK g l := by
    unfold yK
    rw [m4, m6, y2]
    split
    · rfl
    · exact y3 _ (by omega) (by omega)
  have he : eK g1 l = eK g l := by
    unfold eK
    rw [m5, m7, e2]
    split
    · rfl
    · exact e3 _ (by omega) (by omega)
  have hlf : left g1 l = left g l := by unfold left; rw [m4, m5, m6, m7, y2, e2]
  rw [m3, m4, m5, m6, m7, y1, y2, e1, e2, t1, t2, hy, he, hlf]
  refine ⟨c1, c2, c3, c4, c5, c6, c7, c8, c9, c10, c11, fun j j0 j1 => ?_⟩
  rw [t3 j j0 j1]
  exact c12 j j0 j1
theorem sBeg_at {g : Int → Int} {l into x : Int} (h : x ≠ 7666 + l ∧ x ≠ 7657 + l ∧ x ≠ 7675 + l ∧ x ≠ 7684 + l ∧ x ≠ 7693 + l ∧ x ≠ 7702 + l ∧ x ≠ 7711 + l ∧ x ≠ 7619 + into ∧ x ≠ 7600 + into) : sBeg g l into x = g x := by
  unfold sBeg
  rw [us_ne h.2.2.2.2.2.2.2.2, us_ne h.2.2.2.2.2.2.2.1, us_ne h.2.2.2.2.2.2.1, us_ne h.2.2.2.2.2.1, us_ne h.2.2.2.2.1, us_ne h.2.2.2.1, us_ne h.2.2.1, us_ne h.2.1, us_ne h.1]
theorem sBeg_v {g : Int → Int} {l into : Int} (hl : 0 ≤ l ∧ l ≤ 8) (hi : 0 ≤ into ∧ into < 19) : sBeg g l into (7666 + l) = bareV g l ∧ sBeg g l into (7657 + l) = 1 ∧ sBeg g l into (7675 + l) = into ∧ sBeg g l into (7684 + l) = bA g l 0 ∧ sBeg g l into (7693 + l) = bA g l 1 ∧ sBeg g l into (7702 + l) = 0 ∧ sBeg g l into (7711 + l) = 0 ∧ sBeg g l into (7619 + into) = 1 ∧ sBeg g l into (7600 + into) = 0 := by
  unfold sBeg
  refine ⟨?_, ?_, ?_, ?_, ?_, ?_, ?_, ?_, ?_⟩
  · rw [us_ne (by omega), us_ne (by omega), us_ne (by omega), us_ne (by omega), us_ne (by omega), us_ne (by omega), us_ne (by omega), us_ne (by omega), us_eq]
  · rw [us_ne (by omega), us_ne (by omega), us_ne (by omega), us_ne (by omega), us_ne (by omega), us_ne (by omega), us_ne (by omega), us_eq]
  · rw [us_ne (by omega), us_ne (by omega), us_ne (by omega), us_ne (by omega), us_ne (by omega), us_ne (by omega), us_eq]
  · rw [us_ne (by omega), us_ne (by omega), us_ne (by omega), us_ne (by omega), us_ne (by omega), us_eq]
  · rw [us_ne (by omega), us_ne (by omega), us_ne (by omega), us_ne (by omega), us_eq]
  · rw [us_ne (by omega), us_ne (by omega), us_ne (by omega), us_eq]
  · rw [us_ne (by omega), us_ne (by omega), us_eq]
  · rw [us_ne (by omega), us_eq]
  · rw [us_eq]
theorem bareV_01 (g : Int → Int) (l : Int) : bareV g l = 0 ∨ bareV g l = 1 := by
  unfold bareV
  split
  · exact Or.inr rfl
  · exact Or.inl rfl
theorem us_rg {g : Int → Int} {i v : Int} (h : ∀ x, rg (g x)) (hv : rg v) : ∀ x, rg (us g i v x) := by
  intro x; unfold us; split
  · exact hv
  · exact h x
/-- how many are shut, where what is shut stays so -/
theorem shM_cg {g g1 : Int → Int} {l : Int} (hl : 0 ≤ l ∧ l ≤ 8) (h : ∀ r, 2 * l ≤ r → r ≤ 2 * l + lst l → (g1 (7619 + r) = 2 ↔ g (7619 + r) = 2)) : shM g1 l = shM g l := by
  have hls := lst_bd l
  rw [sh0, sh0]
  have h0 := h (2 * l) (by omega) (by omega)
  have h1 := h (2 * l + 1) (by omega) (by omega)
  simp only [b1, h0, h1]
  by_cases h8 : l = 8
  · have h2 := h (2 * l + 2) (by omega) (by have := hls.2.2.2 h8; omega)
    simp only [if_pos h8, h2]
  · simp only [if_neg h8]
theorem InvS_beg {g : Int → Int} {l : Int} (hl : 0 ≤ l ∧ l ≤ 8) (h : InvS g) (h1 : g (7657 + l) ≠ 1) (h2 : shM g l = 2) (h3 : fFr g (nxt l) ≠ -1) : InvS (sBeg g l (fFr g (nxt l))) := by
  obtain ⟨hR, hM, hO, hI, h8, hrg⟩ := h
  obtain ⟨i0, i1, i2, i3, i4⟩ := (fFr_bd (g := g) (nxt_bd hl)).resolve_left h3
  have hnx := nxt_cs l
  have hls := lst_bd (nxt l)
  have i4' : fFr g (nxt l) ≤ 2 * nxt l + lst (nxt l) := by unfold lst; split at i4 <;> split <;> omega
  generalize fFr g (nxt l) = into at *
  obtain ⟨v1, v2, v3, v4, v5, v6, v7, v8, v9⟩ := sBeg_v (g := g) hl ⟨i0, i1⟩
  obtain ⟨t1, t2, t3, t4, t5, t6⟩ := two_shut hl h2 hO
  have hll := lst_bd l
  have hz : g (7600 + into) = 0 := (hR into i0 i1).2.2.1 i2
  have hb := bareV_01 g l
  have kd2 : ∀ r, 0 ≤ r → r < 19 → (sBeg g l into (7619 + r) = 2 ↔ g (7619 + r) = 2) := by
    intro r r0 r1
    by_cases hr : r = into
    · subst hr; rw [v8, i2]; omega
    · rw [sBeg_at ⟨by omega, by omega, by omega, by omega, by omega, by omega, by omega, by omega, by omega⟩]
  have od : ∀ r, 0 ≤ r → r < 19 → sBeg g l into (7638 + r) = g (7638 + r) := fun r r0 r1 => sBeg_at ⟨by omega, by omega, by omega, by omega, by omega, by omega, by omega, by omega, by omega⟩
  refine ⟨?_, ?_, ⟨?_, ?_⟩, ⟨?_, ?_⟩, ?_, ?_⟩
  · intro r r0 r1
    by_cases hr : r = into
    · subst hr
      unfold okR
      rw [v8, v9]
      refine ⟨Or.inr (Or.inl rfl), ⟨by omega, by have := (hR r r0 r1).2.1; omega⟩, fun q => by omega, fun q => by omega, fun j j0 j1 => by omega, fun i j i0 ij j1 => by omega⟩
    · have hrm : rmR r ≤ 200 := by unfold rmR; repeat' split; all_goals omega
      have hmn := (hR r r0 r1).2.1
      refine okR_cg (sBeg_at ⟨by omega, by omega, by omega, by omega, by omega, by omega, by omega, by omega, by omega⟩) (sBeg_at ⟨by omega, by omega, by omega, by omega, by omega, by omega, by omega, by omega, by omega⟩) (fun j j0 j1 => ⟨sBeg_at ⟨by omega, by omega, by omega, by omega, by omega, by omega, by omega, by omega, by omega⟩, sBeg_at ⟨by omega, by omega, by omega, by omega, by omega, by omega, by omega, by omega, by omega⟩⟩) (hR r r0 r1)
  · intro k k0 k1
    by_cases hk : k = l
    · subst hk
      unfold okM
      rw [v2, v1]
      refine ⟨Or.inr rfl, hb, fun _ => ?_⟩
      have y0 : 0 ≤ bA g k 0 ∧ bA g k 0 < 19 := by omega
      have e0 : 0 ≤ bA g k 1 ∧ bA g k 1 < 19 := by omega
      have ny : bA g k 0 ≠ into := fun q => by rw [q, i2] at t4; omega
      have ne : bA g k 1 ≠ into := fun q => by rw [q, i2] at t5; omega
      have my : sBeg g k into (7600 + bA g k 0) = g (7600 + bA g k 0) := sBeg_at ⟨by omega, by omega, by omega, by omega, by omega, by omega, by omega, by omega, by omega⟩
      have me : sBeg g k into (7600 + bA g k 1) = g (7600 + bA g k 1) := sBeg_at ⟨by omega, by omega, by omega, by omega, by omega, by omega, by omega, by omega, by omega⟩
      have py := (hR _ y0.1 y0.2).2.2.2.1 t4
      have pe := (hR _ e0.1 e0.2).2.2.2.1 t5
      have hlf : left (sBeg g k into) k = g (7600 + bA g k 0) + g (7600 + bA g k 1) := by
        unfold left; rw [v4, v5, v6, v7, my, me]; omega
      rw [hlf, v3, v4, v5, v6, v7, v8, v9, my, me]
      exact ⟨t1, t2, t3, (kd2 _ y0.1 y0.2).mpr t4, (kd2 _ e0.1 e0.2).mpr t5, ⟨i3, i4'⟩, rfl, by omega, by omega, by omega, by omega, fun j j0 j1 => by omega⟩
    · refine okM_cg (sBeg_at ⟨by omega, by omega, by omega, by omega, by omega, by omega, by omega, by omega, by omega⟩) (sBeg_at ⟨by omega, by omega, by omega, by omega, by omega, by omega, by omega, by omega, by omega⟩) (sBeg_at ⟨by omega, by omega, by omega, by omega, by omega, by omega, by omega, by omega, by omega⟩) (sBeg_at ⟨by omega, by omega, by omega, by omega, by omega, by omega, by omega, by omega, by omega⟩) (sBeg_at ⟨by omega, by omega, by omega, by omega, by omega, by omega, by omega, by omega, by omega⟩) (sBeg_at ⟨by omega, by omega, by omega, by omega, by omega, by omega, by omega, by omega, by omega⟩) (sBeg_at ⟨by omega, by omega, by omega, by omega, by omega, by omega, by omega, by omega, by omega⟩) (fun hm r hr => ?_) (hM k k0 k1)
      obtain ⟨c1, c2, c3, c4, c5, c6, c7, -⟩ := (hM k k0 k1).2.2 hm
      have hlk := lst_bd k
      have hlk2 := lst_bd (nxt k)
      have hnk := nxt_cs k
      have rb : 0 ≤ r ∧ r < 19 ∧ r ≠ into := by
        rcases hr with rfl | rfl | rfl
        · exact ⟨by omega, by omega, fun q => by rw [q, i2] at c4; omega⟩
        · exact ⟨by omega, by omega, fun q => by rw [q, i2] at c5; omega⟩
        · exact ⟨by omega, by omega, fun q => by rw [q, i2] at c7; omega⟩
      have hrm : rmR r ≤ 200 := by unfold rmR; repeat' split; all_goals omega
      have hmn := (hR r rb.1 rb.2.1).2.1
      exact ⟨sBeg_at ⟨by omega, by omega, by omega, by omega, by omega, by omega, by omega, by omega, by omega⟩, sBeg_at ⟨by omega, by omega, by omega, by omega, by omega, by omega, by omega, by omega, by omega⟩, fun j j0 j1 => sBeg_at ⟨by omega, by omega, by omega, by omega, by omega, by omega, by omega, by omega, by omega⟩⟩
  · intro r r0 r1 hr
    rw [od r r0 r1, sBeg_at (x := 7738) ⟨by omega, by omega, by omega, by omega, by omega, by omega, by omega, by omega, by omega⟩]
    exact hO.1 r r0 r1 ((kd2 r r0 r1).mp hr)
  · intro r q r0 r1 q0 q1 hrq hr hq
    rw [od r r0 r1, od q q0 q1]
    exact hO.2 r q r0 r1 q0 q1 hrq ((kd2 r r0 r1).mp hr) ((kd2 q q0 q1).mp hq)
  · intro a k a0 a1 k0 k1 hak ha hk
    have oth : ∀ k, 0 ≤ k → k ≤ 8 → k ≠ l → sBeg g l into (7657 + k) = 1 → sBeg g l into (7675 + k) = g (7675 + k) ∧ g (7657 + k) = 1 ∧ g (7675 + k) ≠ into := by
      intro k k0 k1 hk hm
      rw [sBeg_at ⟨by omega, by omega, by omega, by omega, by omega, by omega, by omega, by omega, by omega⟩] at hm
      refine ⟨sBeg_at ⟨by omega, by omega, by omega, by omega, by omega, by omega, by omega, by omega, by omega⟩, hm, fun q => ?_⟩
      have c7 := ((hM k k0 k1).2.2 hm).2.2.2.2.2.2.1
      rw [q, i2] at c7
      omega
    by_cases hal : a = l
    · subst hal
      have o := oth k k0 k1 (fun q => hak q.symm) hk
      rw [v3, o.1]
      exact fun q => o.2.2 q.symm
    · have o := oth a a0 a1 hal ha
      by_cases hkl : k = l
      · subst hkl
        rw [v3, o.1]
        exact o.2.2
      · have o2 := oth k k0 k1 hkl hk
        rw [o.1, o2.1]
        exact hI.1 a k a0 a1 k0 k1 hak o.2.1 o2.2.1
  · intro r r0 r1 hr
    by_cases hri : r = into
    · subst hri
      exact ⟨l, hl.1, hl.2, v2, v3⟩
    · rw [sBeg_at ⟨by omega, by omega, by omega, by omega, by omega, by omega, by omega, by omega, by omega⟩] at hr
      obtain ⟨k, k0, k1, k2, k3⟩ := hI.2 r r0 r1 hr
      have hkl : k ≠ l := fun q => h1 (by rw [← q]; exact k2)
      refine ⟨k, k0, k1, ?_, ?_⟩
      · rw [sBeg_at ⟨by omega, by omega, by omega, by omega, by omega, by omega, by omega, by omega, by omega⟩]; exact k2
      · rw [sBeg_at ⟨by omega, by omega, by omega, by omega, by omega, by omega, by omega, by omega, by omega⟩]; exact k3
  · rw [shM_cg (g := g) (by omega) (fun r r0 r1 => kd2 r (by omega) (by have := (lst_bd 8).2.1; omega))]
    exact h8
  · unfold sBeg
    have c0 : rg 0 := by decide
    have c1 : rg 1 := by decide
    exact us_rg (us_rg (us_rg (us_rg (us_rg (us_rg (us_rg (us_rg (us_rg hrg ⟨by omega, by omega⟩) c1) ⟨by omega, by omega⟩) ⟨by omega, by omega⟩) ⟨by omega, by omega⟩) c0) c0) c1) c0
end INV2
