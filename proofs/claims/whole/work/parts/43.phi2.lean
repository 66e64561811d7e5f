/-! a step goes nearer to it -/
section PHI2
/-- what a move does to the levels' things -/
theorem mv_cL {g g1 : Int → Int} {l r i y2 e2 : Int} (hl : 0 ≤ l ∧ l ≤ 8) (h : InvS g) (hm : g (7657 + l) = 1) (hv : mvd g g1 l r i y2 e2) (b3 : g (7702 + l) + g (7711 + l) + 1 ≤ y2 + e2) :
    (l ≤ 7 → cL g1 l + 1 ≤ cL g l) ∧ (∀ k, 0 ≤ k → k ≤ 7 → k ≠ l → k ≠ l + 1 → cL g1 k = cL g k) ∧ (l ≤ 6 → cL g1 (l + 1) ≤ cL g (l + 1) + 1) ∧ (l ≤ 7 → phi8 g1 = phi8 g) ∧ (l = 8 → phi8 g1 + 1 ≤ phi8 g) := by
  obtain ⟨hy, he, ht, n1, n2⟩ := mrg_rows hl h hm
  obtain ⟨c1, c2, c3, c4, c5, c6, c7, c8, c9, c10, c11, c12⟩ := (h.2.1 l hl.1 hl.2).2.2 hm
  obtain ⟨v1, v2, v3, v4, v5, v6, v7, v8, v9⟩ := hv
  have h1 := lst_bd l
  have h2 := lst_bd (nxt l)
  have h3 := nxt_cs l
  have sz : ∀ q, 0 ≤ q → q < 19 → q ≠ g (7675 + l) → g1 (7600 + q) = g (7600 + q) := fun q q0 q1 hq => v2 _ (by omega) (by omega) (by omega) (by omega) (by omega) (by omega) (by omega) (by omega)
  have szt : g1 (7600 + g (7675 + l)) ≤ g (7600 + g (7675 + l)) + 1 := by omega
  have far : ∀ x, 7619 ≤ x → x < 7702 → g1 x = g x := fun x x0 x1 => v2 x (by omega) (by omega) (by omega) (by omega) (by omega) (by omega) (by omega) (by omega)
  have en : ∀ k, 0 ≤ k → k ≤ 8 → k ≠ l → g1 (7702 + k) = g (7702 + k) ∧ g1 (7711 + k) = g (7711 + k) := fun k k0 k1 hk => ⟨v2 _ (by omega) (by omega) (by omega) (by omega) (by omega) (by omega) (by omega) (by omega), v2 _ (by omega) (by omega) (by omega) (by omega) (by omega) (by omega) (by omega) (by omega)⟩
  refine ⟨fun h7 => ?_, fun k k0 k1 k2 k3 => ?_, fun h6 => ?_, fun h7 => ?_, fun h8 => ?_⟩
  · unfold cL
    rw [far (7657 + l) (by omega) (by omega), hm, if_pos rfl, if_pos rfl, v3, v4, sz (2 * l) (by omega) (by omega) (by omega), sz (2 * l + 1) (by omega) (by omega) (by omega)]
    omega
  · exact cL_cg (sz _ (by omega) (by omega) (by omega)) (sz _ (by omega) (by omega) (by omega)) (far _ (by omega) (by omega)) (en k k0 (by omega) k2).1 (en k k0 (by omega) k2).2
  · have e2 := en (l + 1) (by omega) (by omega) (by omega)
    unfold cL
    rw [far (7657 + (l + 1)) (by omega) (by omega), e2.1, e2.2]
    have : g (7675 + l) = 2 * (l + 1) ∨ g (7675 + l) = 2 * (l + 1) + 1 := by omega
    rcases this with q | q
    · rw [q] at szt
      rw [sz (2 * (l + 1) + 1) (by omega) (by omega) (by omega)]
      omega
    · rw [q] at szt
      rw [sz (2 * (l + 1)) (by omega) (by omega) (by omega)]
      omega
  · have e2 := en 8 (by omega) (by omega) (by omega)
    unfold phi8
    rw [far 7665 (by omega) (by omega)]
    split
    · rename_i hm8
      obtain ⟨hy8, he8, -⟩ := mrg_rows (l := 8) (by omega) h hm8
      have c8 := (h.2.1 8 (by omega) (by omega)).2.2 hm8
      have ny : g (7684 + 8) ≠ g (7675 + l) := fun e => by have z := c8.2.2.2.1; rw [e, c7] at z; omega
      have ne : g (7693 + 8) ≠ g (7675 + l) := fun e => by have z := c8.2.2.2.2.1; rw [e, c7] at z; omega
      unfold left
      rw [far (7684 + 8) (by omega) (by omega), far (7693 + 8) (by omega) (by omega), e2.1, e2.2, sz _ hy8.1 hy8.2 ny, sz _ he8.1 he8.2 ne]
    · rfl
  · subst h8
    unfold phi8
    have hm8 : g 7665 = 1 := hm
    rw [far 7665 (by omega) (by omega), if_pos hm8, if_pos hm8]
    unfold left
    rw [far (7684 + 8) (by omega) (by omega), far (7693 + 8) (by omega) (by omega), v3, v4, sz _ hy.1 hy.2 n1.symm, sz _ he.1 he.2 n2.symm]
    omega
theorem phi_mv {g : Int → Int} {l : Int} (hl : 0 ≤ l ∧ l ≤ 8) (h : InvS g) (hm : g (7657 + l) = 1) (d1 : rg (g (7729 + l) + 1)) (d2 : rg (g 7746 + 1)) (d3 : rg (g 7745 + 1)) (d4 : rg (g 7742 + 1)) : phi (sMv g l) + (if l = 7 then 401 else 1) ≤ phi g := by
  have ok := okS_of hl h hm d1 d2 d3 d4
  have key : (l ≤ 7 → cL (sMv g l) l + 1 ≤ cL g l) ∧ (∀ k, 0 ≤ k → k ≤ 7 → k ≠ l → k ≠ l + 1 → cL (sMv g l) k = cL g k) ∧ (l ≤ 6 → cL (sMv g l) (l + 1) ≤ cL g (l + 1) + 1) ∧ (l ≤ 7 → phi8 (sMv g l) = phi8 g) ∧ (l = 8 → phi8 (sMv g l) + 1 ≤ phi8 g) := by
    rcases sMv_mvd ok with ⟨-, hv⟩ | ⟨-, hv⟩ | ⟨-, hv⟩
    · exact mv_cL hl h hm hv (by omega)
    · exact mv_cL hl h hm hv (by omega)
    · exact mv_cL hl h hm hv (by omega)
  generalize sMv g l = g1 at *
  obtain ⟨k1, k2, k3, k4, k5⟩ := key
  have f : ∀ k, 0 ≤ k → k ≤ 7 → (k ≠ l ∧ k ≠ l + 1 ∧ cL g1 k = cL g k) ∨ (k = l ∧ cL g1 k + 1 ≤ cL g k) ∨ (k = l + 1 ∧ cL g1 k ≤ cL g k + 1) := by
    intro k a b
    by_cases c : k = l
    · subst c; exact Or.inr (Or.inl ⟨rfl, k1 b⟩)
    · by_cases d : k = l + 1
      · subst d; exact Or.inr (Or.inr ⟨rfl, k3 (by omega)⟩)
      · exact Or.inl ⟨c, d, k2 k a b c d⟩
  have f0 := f 0 (by omega) (by omega)
  have f1 := f 1 (by omega) (by omega)
  have f2 := f 2 (by omega) (by omega)
  have f3 := f 3 (by omega) (by omega)
  have f4 := f 4 (by omega) (by omega)
  have f5 := f 5 (by omega) (by omega)
  have f6 := f 6 (by omega) (by omega)
  have f7 := f 7 (by omega) (by omega)
  unfold phi
  have hl2 : l = 0 ∨ l = 1 ∨ l = 2 ∨ l = 3 ∨ l = 4 ∨ l = 5 ∨ l = 6 ∨ l = 7 ∨ l = 8 := by omega
  clear k1 k2 k3 f ok
  rcases hl2 with e | e | e | e | e | e | e | e | e <;> subst e <;> simp at f0 f1 f2 f3 f4 f5 f6 f7 k4 k5 ⊢ <;> omega
theorem phi_thr2 {g : Int → Int} {l : Int} (hl : 0 ≤ l ∧ l ≤ 8) (h : InvW g l) (hz : left g l = 0) : phi (sThr2 g l) = phi g := by
  obtain ⟨hR, hM, ⟨w0, w1, e1, e2, e3, e4, e5, e6, e7, e8, e9, e11, e12⟩, hO, hI, h8, hrg⟩ := h
  have h1 := lst_bd l
  have h2 := lst_bd (nxt l)
  have h3 := nxt_cs l
  have hy : 0 ≤ g (7684 + l) ∧ g (7684 + l) < 19 := by omega
  have he : 0 ≤ g (7693 + l) ∧ g (7693 + l) < 19 := by omega
  have ht : 0 ≤ g (7675 + l) ∧ g (7675 + l) < 19 := by omega
  have n1 : g (7675 + l) ≠ g (7684 + l) := fun q => by rw [q, e4] at e7; omega
  have n2 : g (7675 + l) ≠ g (7693 + l) := fun q => by rw [q, e5] at e7; omega
  obtain ⟨v1, v2, ⟨v3, v4⟩, ⟨v5, v6⟩, v7, v8⟩ := sThr2_v hl hy he ht n1 n2
  generalize sThr2 g l = g2 at *
  have sz : ∀ q, 0 ≤ q → q < 19 → q ≠ g (7684 + l) → q ≠ g (7693 + l) → g2 (7600 + q) = g (7600 + q) := fun q q0 q1 a b => v8 _ (by omega) (by omega) (by omega) (by omega) (by omega) (by omega) (by omega) (by omega) (by omega)
  have mid : ∀ x, 7657 ≤ x → x < 7720 → x ≠ 7657 + l → g2 x = g x := fun x a b c => v8 x (by omega) (by omega) (by omega) (by omega) (by omega) (by omega) (by omega) (by omega) (by omega)
  have c : ∀ k, 0 ≤ k → k ≤ 7 → cL g2 k = cL g k := by
    intro k k0 k1
    by_cases hk : k = l
    · subst hk
      unfold left at hz
      unfold cL
      rw [v1, w0, if_pos rfl, if_neg (by omega)]
      have : (g (7684 + k) = 2 * k ∧ g (7693 + k) = 2 * k + 1) ∨ (g (7684 + k) = 2 * k + 1 ∧ g (7693 + k) = 2 * k) := by omega
      rcases this with ⟨a, b⟩ | ⟨a, b⟩ <;> rw [a] at v4 hz <;> rw [b] at v6 hz <;> omega
    · exact cL_cg (sz _ (by omega) (by omega) (by omega) (by omega)) (sz _ (by omega) (by omega) (by omega) (by omega)) (mid _ (by omega) (by omega) (by omega)) (mid _ (by omega) (by omega) (by omega)) (mid _ (by omega) (by omega) (by omega))
  have p8 : phi8 g2 = phi8 g := by
    unfold phi8
    by_cases h88 : l = 8
    · subst h88
      have a : g2 7665 = 0 := v1
      have b : g 7665 = 1 := w0
      rw [a, b, if_pos rfl, if_neg (by omega), hz]
    · rw [mid 7665 (by omega) (by omega) (by omega)]
      split
      · rename_i hm8
        obtain ⟨c1, c2, c3, c4, c5, -⟩ := (hM 8 (by omega) (by omega) (by omega)).2.2 hm8
        have hl8 : lst 8 = 2 := rfl
        unfold left
        rw [mid (7684 + 8) (by omega) (by omega) (by omega), mid (7693 + 8) (by omega) (by omega) (by omega), mid (7702 + 8) (by omega) (by omega) (by omega), mid (7711 + 8) (by omega) (by omega) (by omega), sz _ (by omega) (by omega) (by omega) (by omega), sz _ (by omega) (by omega) (by omega) (by omega)]
      · rfl
  unfold phi
  rw [c 0 (by omega) (by omega), c 1 (by omega) (by omega), c 2 (by omega) (by omega), c 3 (by omega) (by omega), c 4 (by omega) (by omega), c 5 (by omega) (by omega), c 6 (by omega) (by omega), c 7 (by omega) (by omega), p8]
end PHI2
