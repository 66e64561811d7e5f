/-! a level is through: what holds behind it -/
section INV6
theorem sThr1_v {g : Int → Int} {l : Int} (hl : 0 ≤ l ∧ l ≤ 8) (hy : 0 ≤ g (7684 + l) ∧ g (7684 + l) < 19) (he : 0 ≤ g (7693 + l) ∧ g (7693 + l) < 19) : sThr1 g l (7657 + l) = 0 ∧ sThr1 g l (7720 + l) = g (7720 + l) + 1 ∧
    (sThr1 g l (7619 + g (7684 + l)) = 0 ∧ sThr1 g l (7600 + g (7684 + l)) = 0) ∧ (sThr1 g l (7619 + g (7693 + l)) = 0 ∧ sThr1 g l (7600 + g (7693 + l)) = 0) ∧
    ∀ x, x ≠ 7657 + l → x ≠ 7720 + l → x ≠ 7619 + g (7684 + l) → x ≠ 7600 + g (7684 + l) → x ≠ 7619 + g (7693 + l) → x ≠ 7600 + g (7693 + l) → sThr1 g l x = g x := by
  unfold sThr1 sFree
  generalize g (7684 + l) = y at *
  generalize g (7693 + l) = e at *
  refine ⟨?_, ?_, ⟨?_, ?_⟩, ⟨?_, ?_⟩, fun x x1 x2 x3 x4 x5 x6 => ?_⟩
  · rw [us_ne (by omega), us_ne (by omega), us_ne (by omega), us_ne (by omega), us_ne (by omega), us_eq]
  · rw [us_ne (by omega), us_ne (by omega), us_ne (by omega), us_ne (by omega), us_eq]
  · by_cases q : y = e
    · rw [us_ne (by omega), q, us_eq]
    · rw [us_ne (by omega), us_ne (by omega), us_ne (by omega), us_eq]
  · by_cases q : y = e
    · rw [q, us_eq]
    · rw [us_ne (by omega), us_ne (by omega), us_eq]
  · rw [us_ne (by omega), us_eq]
  · rw [us_eq]
  · rw [us_ne x6, us_ne x5, us_ne x4, us_ne x3, us_ne x2, us_ne x1]
theorem fFr_of {g : Int → Int} {l r : Int} (hr : 2 * l ≤ r ∧ r ≤ 2 * l + lst l) (h0 : 0 ≤ l) (h : g (7619 + r) = 0) : fFr g l ≠ -1 := by
  have hls := lst_bd l
  rw [fF0]
  by_cases q0 : g (7619 + 2 * l) = 0
  · rw [if_pos q0]; omega
  · rw [if_neg q0]
    by_cases q1 : g (7619 + (2 * l + 1)) = 0
    · rw [if_pos q1]; omega
    · rw [if_neg q1]
      have a0 : r ≠ 2 * l := fun e => q0 (e ▸ h)
      have a1 : r ≠ 2 * l + 1 := fun e => q1 (e ▸ h)
      have a2 : r = 2 * l + 2 := by omega
      rw [if_pos ⟨by omega, by rw [← a2]; exact h⟩]; omega
theorem b1_cs (c : Prop) [Decidable c] : (c ∧ b1 c = 1) ∨ (¬ c ∧ b1 c = 0) := by
  unfold b1
  by_cases h : c
  · left; rw [if_pos h]; exact ⟨h, rfl⟩
  · right; rw [if_neg h]; exact ⟨h, rfl⟩
theorem sh8 (g : Int → Int) : shM g 8 = b1 (g 7635 = 2) + b1 (g 7636 = 2) + b1 (g 7637 = 2) := by rw [sh0]; rfl
/-- what a level that is through comes to -/
theorem sThr2_v {g : Int → Int} {l : Int} (hl : 0 ≤ l ∧ l ≤ 8) (hy : 0 ≤ g (7684 + l) ∧ g (7684 + l) < 19) (he : 0 ≤ g (7693 + l) ∧ g (7693 + l) < 19) (ht : 0 ≤ g (7675 + l) ∧ g (7675 + l) < 19) (n1 : g (7675 + l) ≠ g (7684 + l)) (n2 : g (7675 + l) ≠ g (7693 + l)) : sThr2 g l (7657 + l) = 0 ∧ sThr2 g l (7720 + l) = g (7720 + l) + 1 ∧
    (sThr2 g l (7619 + g (7684 + l)) = 0 ∧ sThr2 g l (7600 + g (7684 + l)) = 0) ∧ (sThr2 g l (7619 + g (7693 + l)) = 0 ∧ sThr2 g l (7600 + g (7693 + l)) = 0) ∧
    ((sThr2 g l (7619 + g (7675 + l)) = 0 ∧ g (7600 + g (7675 + l)) = 0 ∧ sThr2 g l 7738 = g 7738 ∧ sThr2 g l (7638 + g (7675 + l)) = g (7638 + g (7675 + l))) ∨ (sThr2 g l (7619 + g (7675 + l)) = 2 ∧ g (7600 + g (7675 + l)) ≠ 0 ∧ sThr2 g l 7738 = g 7738 + 1 ∧ sThr2 g l (7638 + g (7675 + l)) = g 7738 + 1)) ∧
    ∀ x, x ≠ 7657 + l → x ≠ 7720 + l → x ≠ 7619 + g (7684 + l) → x ≠ 7600 + g (7684 + l) → x ≠ 7619 + g (7693 + l) → x ≠ 7600 + g (7693 + l) → x ≠ 7619 + g (7675 + l) → x ≠ 7738 → x ≠ 7638 + g (7675 + l) → sThr2 g l x = g x := by
  obtain ⟨v1, v2, ⟨v3, v4⟩, ⟨v5, v6⟩, v7⟩ := sThr1_v hl hy he
  have w : sThr1 g l (7600 + g (7675 + l)) = g (7600 + g (7675 + l)) := v7 _ (by omega) (by omega) (by omega) (by omega) (by omega) (by omega)
  have w2 : sThr1 g l 7738 = g 7738 := v7 _ (by omega) (by omega) (by omega) (by omega) (by omega) (by omega)
  have w3 : sThr1 g l (7638 + g (7675 + l)) = g (7638 + g (7675 + l)) := v7 _ (by omega) (by omega) (by omega) (by omega) (by omega) (by omega)
  unfold sThr2
  split
  · rename_i hz
    have hz2 := hz
    rw [w] at hz2
    unfold sFree
    refine ⟨?_, ?_, ⟨?_, ?_⟩, ⟨?_, ?_⟩, Or.inl ⟨?_, hz2, ?_, ?_⟩, fun x x1 x2 x3 x4 x5 x6 x7 x8 x9 => ?_⟩
    · rw [us_ne (by omega), us_ne (by omega)]; exact v1
    · rw [us_ne (by omega), us_ne (by omega)]; exact v2
    · rw [us_ne (by omega), us_ne (by omega)]; exact v3
    · rw [us_ne (by omega), us_ne (by omega)]; exact v4
    · rw [us_ne (by omega), us_ne (by omega)]; exact v5
    · rw [us_ne (by omega), us_ne (by omega)]; exact v6
    · rw [us_ne (by omega), us_eq]
    · rw [us_ne (by omega), us_ne (by omega)]; exact w2
    · rw [us_ne (by omega), us_ne (by omega)]; exact w3
    · by_cases q : x = 7600 + g (7675 + l)
      · rw [q, us_eq, hz2]
      · rw [us_ne q, us_ne (by omega)]; exact v7 x x1 x2 x3 x4 x5 x6
  · rename_i hz
    have hz2 := hz
    rw [w] at hz2
    unfold sShut
    rw [w2]
    refine ⟨?_, ?_, ⟨?_, ?_⟩, ⟨?_, ?_⟩, Or.inr ⟨?_, hz2, ?_, ?_⟩, fun x x1 x2 x3 x4 x5 x6 x7 x8 x9 => ?_⟩
    · rw [us_ne (by omega), us_ne (by omega), us_ne (by omega)]; exact v1
    · rw [us_ne (by omega), us_ne (by omega), us_ne (by omega)]; exact v2
    · rw [us_ne (by omega), us_ne (by omega), us_ne (by omega)]; exact v3
    · rw [us_ne (by omega), us_ne (by omega), us_ne (by omega)]; exact v4
    · rw [us_ne (by omega), us_ne (by omega), us_ne (by omega)]; exact v5
    · rw [us_ne (by omega), us_ne (by omega), us_ne (by omega)]; exact v6
    · rw [us_ne (by omega), us_ne (by omega), us_eq]
    · rw [us_ne (by omega), us_eq]
    · rw [us_eq]
    · rw [us_ne x9, us_ne x8, us_ne x7]; exact v7 x x1 x2 x3 x4 x5 x6
theorem sThr2_inv {g : Int → Int} {l : Int} (hl : 0 ≤ l ∧ l ≤ 8) (h : InvW g l) (hq : ∀ k, 0 ≤ k → k ≤ 8 → quiet g k) (c1 : rg (g (7720 + l) + 1)) (c2 : rg (g 7738 + 1)) : InvS (sThr2 g l) ∧ (l < 7 → shM (sThr2 g l) 8 = shM g 8) ∧ (shM (sThr2 g l) 8 = 2 → sThr2 g l 7665 = 1 ∨ fFr (sThr2 g l) 8 ≠ -1) := by
  obtain ⟨hR, hM, ⟨w0, w1, e1, e2, e3, e4, e5, e6, e7, e8, e9, e11, e12⟩, hO, hI, h8, hrg⟩ := h
  have h1 := lst_bd l
  have h2 := lst_bd (nxt l)
  have h3 := nxt_cs l
  have hy : 0 ≤ g (7684 + l) ∧ g (7684 + l) < 19 := by omega
  have he : 0 ≤ g (7693 + l) ∧ g (7693 + l) < 19 := by omega
  have ht : 0 ≤ g (7675 + l) ∧ g (7675 + l) < 19 := by omega
  have n1 : g (7675 + l) ≠ g (7684 + l) := fun q => by rw [q, e4] at e7; omega
  have n2 : g (7675 + l) ≠ g (7693 + l) := fun q => by rw [q, e5] at e7; omega
  obtain ⟨v1, v2, ⟨v3, v4⟩, ⟨v5, v6⟩, v7, v8⟩ := sThr2_v hl hy he ht n1 n2
  generalize sThr2 g l = g2 at *
  have lowx : ∀ x, x < 7600 → g2 x = g x := fun x hx => v8 x (by omega) (by omega) (by omega) (by omega) (by omega) (by omega) (by omega) (by omega) (by omega)
  have szt : g2 (7600 + g (7675 + l)) = g (7600 + g (7675 + l)) := v8 _ (by omega) (by omega) (by omega) (by omega) (by omega) (by omega) (by omega) (by omega) (by omega)
  have row : ∀ q, 0 ≤ q → q < 19 → q ≠ g (7684 + l) → q ≠ g (7693 + l) → q ≠ g (7675 + l) → g2 (7619 + q) = g (7619 + q) ∧ g2 (7600 + q) = g (7600 + q) ∧ g2 (7638 + q) = g (7638 + q) := fun q q0 q1 a b c => ⟨v8 _ (by omega) (by omega) (by omega) (by omega) (by omega) (by omega) (by omega) (by omega) (by omega), v8 _ (by omega) (by omega) (by omega) (by omega) (by omega) (by omega) (by omega) (by omega) (by omega), v8 _ (by omega) (by omega) (by omega) (by omega) (by omega) (by omega) (by omega) (by omega) (by omega)⟩
  have mid : ∀ x, 7657 ≤ x → x < 7720 → x ≠ 7657 + l → g2 x = g x := fun x a b c => v8 x (by omega) (by omega) (by omega) (by omega) (by omega) (by omega) (by omega) (by omega) (by omega)
  have hR2 : ∀ r, 0 ≤ r → r < 19 → okR g2 r := by
    intro q q0 q1
    by_cases a : q = g (7684 + l)
    · rw [a]; exact ⟨Or.inl v3, by rw [v4]; have := rmR_bd (g (7684 + l)); omega, fun _ => v4, by rw [v3]; omega, by rw [v4]; intros; omega, by rw [v4]; intros; omega⟩
    · by_cases b : q = g (7693 + l)
      · rw [b]; exact ⟨Or.inl v5, by rw [v6]; have := rmR_bd (g (7693 + l)); omega, fun _ => v6, by rw [v5]; omega, by rw [v6]; intros; omega, by rw [v6]; intros; omega⟩
      · by_cases c : q = g (7675 + l)
        · obtain ⟨r1, r2, r3, r4, r5, r6⟩ := hR q q0 q1
          rw [c] at r1 r2 r3 r4 r5 r6 ⊢
          unfold okR
          rw [szt]
          refine ⟨by omega, r2, by omega, by omega, fun j j0 j1 => ?_, fun i j i0 ij j1 => ?_⟩
          · have := rmR_bd (g (7675 + l))
            rw [lowx _ (by omega), lowx _ (by omega)]; exact r5 j j0 j1
          · have := rmR_bd (g (7675 + l))
            rw [lowx _ (by omega), lowx _ (by omega)]; exact r6 i j i0 ij j1
        · obtain ⟨x1, x2, x3⟩ := row q q0 q1 a b c
          have hs := (hR q q0 q1).2.1
          have := rmR_bd q
          exact okR_cg x1 x2 (fun j j0 j1 => ⟨lowx _ (by omega), lowx _ (by omega)⟩) (hR q q0 q1)
  have hM2 : ∀ k, 0 ≤ k → k ≤ 8 → okM g2 k := by
    intro k k0 k1
    by_cases hk : k = l
    · subst hk
      refine ⟨Or.inl v1, ?_, by rw [v1]; omega⟩
      rw [mid _ (by omega) (by omega) (by omega)]; exact w1
    · have hk2 := hM k k0 k1 hk
      refine okM_cg (mid _ (by omega) (by omega) (by omega)) (mid _ (by omega) (by omega) (by omega)) (mid _ (by omega) (by omega) (by omega)) (mid _ (by omega) (by omega) (by omega)) (mid _ (by omega) (by omega) (by omega)) (mid _ (by omega) (by omega) (by omega)) (mid _ (by omega) (by omega) (by omega)) (fun hmk q hq => ?_) hk2
      obtain ⟨a1, a2, a3, a4, a5, a6, a7, -⟩ := hk2.2.2 hmk
      have l1 := lst_bd k
      have l2 := lst_bd (nxt k)
      have l3 := nxt_cs k
      have hne : q ≠ g (7684 + l) ∧ q ≠ g (7693 + l) ∧ q ≠ g (7675 + l) := by
        rcases hq with hq | hq | hq
        · refine ⟨by omega, by omega, fun e => ?_⟩
          rw [← hq, e, e7] at a4; omega
        · refine ⟨by omega, by omega, fun e => ?_⟩
          rw [← hq, e, e7] at a5; omega
        · refine ⟨fun e => ?_, fun e => ?_, ?_⟩
          · rw [← hq, e, e4] at a7; omega
          · rw [← hq, e, e5] at a7; omega
          · rw [hq]; exact hI.1 k l k0 k1 hl.1 hl.2 hk hmk w0
      obtain ⟨x1, x2, x3⟩ := row q (by omega) (by omega) hne.1 hne.2.1 hne.2.2
      have hs := (hR q (by omega) (by omega)).2.1
      have := rmR_bd q
      exact ⟨x1, x2, fun j j0 j1 => lowx _ (by omega)⟩
  have hO2 : okO g2 := by
    obtain ⟨o1, o2⟩ := hO
    -- a shut row is an old one, or the new one
    have cs : ∀ q, 0 ≤ q → q < 19 → g2 (7619 + q) = 2 → (q ≠ g (7675 + l) ∧ g (7619 + q) = 2 ∧ g2 (7638 + q) = g (7638 + q)) ∨ (q = g (7675 + l) ∧ g2 (7638 + q) = g 7738 + 1 ∧ g2 7738 = g 7738 + 1) := by
      intro q q0 q1 hs
      by_cases c : q = g (7675 + l)
      · right; rw [c] at hs ⊢; omega
      · left
        have a : q ≠ g (7684 + l) := fun e => by rw [e] at hs; omega
        have b : q ≠ g (7693 + l) := fun e => by rw [e] at hs; omega
        obtain ⟨x1, x2, x3⟩ := row q q0 q1 a b c
        exact ⟨c, by rw [← x1]; exact hs, x3⟩
    refine ⟨fun q q0 q1 hs => ?_, fun q p q0 q1 p0 p1 hqp hs1 hs2 => ?_⟩
    · rcases cs q q0 q1 hs with ⟨-, a, b⟩ | ⟨-, a, b⟩
      · have := o1 q q0 q1 a; omega
      · omega
    · rcases cs q q0 q1 hs1 with ⟨a0, a, b⟩ | ⟨a0, a, b⟩ <;> rcases cs p p0 p1 hs2 with ⟨a0', a', b'⟩ | ⟨a0', a', b'⟩
      · rw [b, b']; exact o2 q p q0 q1 p0 p1 hqp a a'
      · have := o1 q q0 q1 a; omega
      · have := o1 p p0 p1 a'; omega
      · omega
  have hI2 : okI g2 := by
    obtain ⟨o1, o2⟩ := hI
    refine ⟨fun a b a0 a1 b0 b1 hab ha hb => ?_, fun q q0 q1 hs => ?_⟩
    · have na : a ≠ l := fun e => by rw [e] at ha; omega
      have nb : b ≠ l := fun e => by rw [e] at hb; omega
      rw [mid _ (by omega) (by omega) (by omega)] at ha hb
      rw [mid _ (by omega) (by omega) (by omega), mid _ (by omega) (by omega) (by omega)]
      exact o1 a b a0 a1 b0 b1 hab ha hb
    · have a : q ≠ g (7684 + l) := fun e => by rw [e] at hs; omega
      have b : q ≠ g (7693 + l) := fun e => by rw [e] at hs; omega
      have c : q ≠ g (7675 + l) := fun e => by rw [e] at hs; omega
      obtain ⟨x1, x2, x3⟩ := row q q0 q1 a b c
      rw [x1] at hs
      obtain ⟨k, k0, k1, k2, k3⟩ := o2 q q0 q1 hs
      have nk : k ≠ l := fun e => by rw [e] at k3; omega
      exact ⟨k, k0, k1, by rw [mid _ (by omega) (by omega) (by omega)]; exact k2, by rw [mid _ (by omega) (by omega) (by omega)]; exact k3⟩
  have q8 := hq 8 (by omega) (by omega)
  have far8 : l < 7 → shM g2 8 = shM g 8 := fun h7 => shM_cg (by omega) (fun r r0 r1 => by
    have := lst_bd 8
    rw [(row r (by omega) (by omega) (by omega) (by omega) (by omega)).1])
  have h82 : shM g2 8 ≤ 2 := by
    by_cases h7 : l < 7
    · rw [far8 h7]; exact h8
    · have u0 : g (7684 + l) ≠ 16 → g (7693 + l) ≠ 16 → g (7675 + l) ≠ 16 → g2 7635 = g 7635 := fun a b c => (row 16 (by omega) (by omega) (by omega) (by omega) (by omega)).1
      rw [sh8]
      rcases b1_cs (g2 7635 = 2) with ⟨a0, a1⟩ | ⟨a0, a1⟩ <;> rcases b1_cs (g2 7636 = 2) with ⟨b0, b1'⟩ | ⟨b0, b1'⟩ <;> rcases b1_cs (g2 7637 = 2) with ⟨d0, d1⟩ | ⟨d0, d1⟩ <;> rw [a1, b1', d1] <;> (try omega)
      exfalso
      by_cases h88 : l = 8
      · have a : g (7684 + l) = 16 ∨ g (7684 + l) = 17 ∨ g (7684 + l) = 18 := by omega
        rcases a with a | a | a <;> rw [a] at v3
        · have z : g2 7635 = 0 := v3
          omega
        · have z : g2 7636 = 0 := v3
          omega
        · have z : g2 7637 = 0 := v3
          omega
      · have z : g (7657 + 8) = 1 := by
          have z2 : shM g 8 = 2 := by
            have a : g (7675 + l) = 16 ∨ g (7675 + l) = 17 ∨ g (7675 + l) = 18 := by omega
            have o16 : g (7675 + l) ≠ 16 → g 7635 = 2 := fun c => (row 16 (by omega) (by omega) (by omega) (by omega) (by omega)).1.symm.trans a0
            have o17 : g (7675 + l) ≠ 17 → g 7636 = 2 := fun c => (row 17 (by omega) (by omega) (by omega) (by omega) (by omega)).1.symm.trans b0
            have o18 : g (7675 + l) ≠ 18 → g 7637 = 2 := fun c => (row 18 (by omega) (by omega) (by omega) (by omega) (by omega)).1.symm.trans d0
            rw [sh8]
            rcases a with a | a | a
            · rw [a] at e7
              have y0 : g 7635 = 1 := e7
              have y1 := o17 (by omega); have y2 := o18 (by omega)
              simp [b1, y0, y1, y2]
            · rw [a] at e7
              have y0 : g 7636 = 1 := e7
              have y1 := o16 (by omega); have y2 := o18 (by omega)
              simp [b1, y0, y1, y2]
            · rw [a] at e7
              have y0 : g 7637 = 1 := e7
              have y1 := o16 (by omega); have y2 := o17 (by omega)
              simp [b1, y0, y1, y2]
          rcases q8 z2 with z | z
          · exact z
          · omega
        have c8 := (hM 8 (by omega) (by omega) (by omega)).2.2 z
        have i8 := hI.1 8 l (by omega) (by omega) hl.1 hl.2 (by omega) z w0
        have s8 := c8.2.2.2.2.2.2.1
        have r8 := c8.2.2.2.2.2.1
        have hn8 : nxt 8 = 8 := rfl
        have hl8 : lst 8 = 2 := rfl
        rw [hn8, hl8] at r8
        have hy8 : g (7675 + 8) ≠ g (7684 + l) := by omega
        have he8 : g (7675 + 8) ≠ g (7693 + l) := by omega
        have := (row (g (7675 + 8)) (by omega) (by omega) hy8 he8 i8).1
        rw [s8] at this
        have a : g (7675 + 8) = 16 ∨ g (7675 + 8) = 17 ∨ g (7675 + 8) = 18 := by omega
        rcases a with a | a | a <;> rw [a] at this
        · have z : g2 7635 = 1 := this
          omega
        · have z : g2 7636 = 1 := this
          omega
        · have z : g2 7637 = 1 := this
          omega
  have hrg2 : ∀ i, rg (g2 i) := by
    intro x
    by_cases x1 : x = 7657 + l
    · rw [x1, v1]; unfold rg; omega
    by_cases x2 : x = 7720 + l
    · rw [x2, v2]; exact c1
    by_cases x3 : x = 7619 + g (7684 + l)
    · rw [x3, v3]; unfold rg; omega
    by_cases x4 : x = 7600 + g (7684 + l)
    · rw [x4, v4]; unfold rg; omega
    by_cases x5 : x = 7619 + g (7693 + l)
    · rw [x5, v5]; unfold rg; omega
    by_cases x6 : x = 7600 + g (7693 + l)
    · rw [x6, v6]; unfold rg; omega
    by_cases x7 : x = 7619 + g (7675 + l)
    · rw [x7]; rcases v7 with ⟨z, -⟩ | ⟨z, -⟩ <;> rw [z] <;> unfold rg <;> omega
    by_cases x8 : x = 7738
    · rw [x8]; rcases v7 with ⟨-, -, z, -⟩ | ⟨-, -, z, -⟩ <;> rw [z]
      · exact hrg _
      · exact c2
    by_cases x9 : x = 7638 + g (7675 + l)
    · rw [x9]; rcases v7 with ⟨-, -, -, z⟩ | ⟨-, -, -, z⟩ <;> rw [z]
      · exact hrg _
      · exact c2
    rw [v8 x x1 x2 x3 x4 x5 x6 x7 x8 x9]; exact hrg x
  refine ⟨⟨hR2, hM2, hO2, hI2, h82, hrg2⟩, far8, fun hs => ?_⟩
  by_cases h7 : l < 7
  · rw [far8 h7] at hs
    left
    rcases q8 hs with z | z
    · rw [mid _ (by omega) (by omega) (by omega)]; exact z
    · omega
  · by_cases h88 : l = 8
    · right; exact fFr_of (r := g (7684 + l)) (by rw [← h88]; exact e1) (by omega) v3
    · -- the third row of the last level
      have hl8 : lst 8 = 2 := rfl
      have third : ∃ q, 16 ≤ q ∧ q ≤ 18 ∧ g2 (7619 + q) ≠ 2 := by
        rw [sh8] at hs
        rcases b1_cs (g2 7635 = 2) with ⟨a0, a1⟩ | ⟨a0, a1⟩ <;> rcases b1_cs (g2 7636 = 2) with ⟨b0, b1'⟩ | ⟨b0, b1'⟩ <;> rcases b1_cs (g2 7637 = 2) with ⟨d0, d1⟩ | ⟨d0, d1⟩ <;> rw [a1, b1', d1] at hs <;> (try omega)
        · exact ⟨18, by omega, by omega, d0⟩
        · exact ⟨17, by omega, by omega, b0⟩
        · exact ⟨16, by omega, by omega, a0⟩
      obtain ⟨q, q0, q1, q2⟩ := third
      rcases (hR2 q (by omega) (by omega)).1 with z | z | z
      · right; exact fFr_of (r := q) (by omega) (by omega) z
      · obtain ⟨k, k0, k1, k2, k3⟩ := hI2.2 q (by omega) (by omega) z
        have c8 := ((hM2 k k0 k1).2.2 k2).2.2.2.2.2.1
        have l2 := lst_bd (nxt k)
        have l3 := nxt_cs k
        left
        have : k = 7 ∨ k = 8 := by omega
        rcases this with e | e
        · have e' : k = l := by omega
          rw [e', v1] at k2; omega
        · rw [e] at k2; exact k2
      · exact absurd z q2
theorem sThr_inv {g : Int → Int} {l : Int} (hl : 0 ≤ l ∧ l ≤ 8) (h : InvW g l) (hq : ∀ k, 0 ≤ k → k ≤ 8 → quiet g k) (c1 : rg (g (7720 + l) + 1)) (c2 : rg (g 7738 + 1)) : Inv (sThr g l) ∧ askd (sThr2 g l) (sThr g l) := by
  obtain ⟨a, -, b⟩ := sThr2_inv hl h hq c1 c2
  exact sAll_inv 9 _ (by omega) a (fun k k0 k1 => by omega) (fun _ => b)
/-- a step -/
theorem sStep_inv {g : Int → Int} {l : Int} (hl : 0 ≤ l ∧ l ≤ 8) (h : Inv g) (hm : g (7657 + l) = 1) (d1 : rg (g (7729 + l) + 1)) (d2 : rg (g 7746 + 1)) (d3 : rg (g 7745 + 1)) (d4 : rg (g 7742 + 1)) (c1 : rg (g (7720 + l) + 1)) (c2 : rg (g 7738 + 1)) : Inv (sStep g l) := by
  have ok := okS_of hl h.1 hm d1 d2 d3 d4
  have hW := sMv_inv hl h.1 hm d1 d2 d3 d4
  have far : ∀ x, 7619 ≤ x → x < 7702 → sMv g l x = g x := fun x x0 x1 => sMv_far ok (by omega) (by omega) (by omega) (by omega) (by omega) (by omega) (by omega)
  have ag : agK g (sMv g l) := fun x x0 x1 => far x x0 (by omega)
  have hq : ∀ k, 0 ≤ k → k ≤ 8 → quiet (sMv g l) k := by
    intro k k0 k1 h2
    rw [shM_ag ag ⟨k0, k1⟩] at h2
    rcases h.2 k k0 k1 h2 with z | ⟨z1, z2⟩
    · left; rw [far _ (by omega) (by omega)]; exact z
    · right; refine ⟨z1, ?_⟩
      rw [fFr_ag ag ⟨by omega, by omega⟩]; exact z2
  unfold sStep
  split
  · refine (sThr_inv hl hW hq ?_ ?_).1
    · rw [sMv_far ok (by omega) (by omega) (by omega) (by omega) (by omega) (by omega) (by omega)]; exact c1
    · rw [sMv_far ok (by omega) (by omega) (by omega) (by omega) (by omega) (by omega) (by omega)]; exact c2
  · rename_i hz
    refine ⟨InvS_of_W hW ?_, hq⟩
    obtain ⟨-, -, ⟨-, -, e1, e2, e3, e4, e5, e6, e7, e8, e9, e11, e12⟩, -⟩ := hW
    unfold left at hz ⊢
    omega
end INV6
