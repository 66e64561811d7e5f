/-! a thing goes on: what holds behind it -/
section INV4
theorem rise_ge {f : Int → Int} {n : Int} (h0 : ∀ j, 0 ≤ j → j < n → 0 ≤ f j) (h : ∀ i j, 0 ≤ i → i < j → j < n → f i < f j) : ∀ j : Nat, (j : Int) < n → (j : Int) ≤ f j := by
  intro j
  induction j with
  | zero => intro hj; exact h0 0 (by omega) (by omega)
  | succ j ih =>
    intro hj
    have h1 := ih (by omega)
    have h2 := h j (j + 1) (by omega) (by omega) (by omega)
    push_cast
    omega
/-- a row's keys leave room -/
theorem row_room {g : Int → Int} {r K : Int} (h : okR g r) (hK : ∀ j, 0 ≤ j → j < g (7600 + r) → g (200 * r + j) < K) (h0 : 0 ≤ K) : g (7600 + r) ≤ K := by
  obtain ⟨-, hm, -, -, hk, hi⟩ := h
  by_cases hz : g (7600 + r) = 0
  · omega
  · have h1 := rise_ge (f := fun j => g (200 * r + j)) (n := g (7600 + r)) (fun j j0 j1 => (hk j j0 j1).1) hi (g (7600 + r) - 1).toNat (by omega)
    have h2 := hK (g (7600 + r) - 1) (by omega) (by omega)
    rw [show (((g (7600 + r) - 1).toNat : Nat) : Int) = g (7600 + r) - 1 by omega] at h1
    omega
theorem yK_bd {g : Int → Int} {l : Int} (hy : okR g (g (7684 + l))) (h0 : 0 ≤ g (7702 + l)) : 0 ≤ yK g l ∧ yK g l ≤ 200 ∧ (g (7702 + l) < g (7600 + g (7684 + l)) → yK g l < 200) := by
  unfold yK
  split
  · omega
  · have := hy.2.2.2.2.1 _ h0 (by omega); omega
theorem eK_bd {g : Int → Int} {l : Int} (hy : okR g (g (7693 + l))) (h0 : 0 ≤ g (7711 + l)) : 0 ≤ eK g l ∧ eK g l ≤ 200 ∧ (g (7711 + l) < g (7600 + g (7693 + l)) → eK g l < 200) := by
  unfold eK
  split
  · omega
  · have := hy.2.2.2.2.1 _ h0 (by omega); omega
theorem rmR_bd (r : Int) : 1 ≤ rmR r ∧ rmR r ≤ 200 := by unfold rmR; repeat' split; all_goals omega
/-- rows of a level that merges -/
theorem mrg_rows {g : Int → Int} {l : Int} (hl : 0 ≤ l ∧ l ≤ 8) (h : InvS g) (hm : g (7657 + l) = 1) : (0 ≤ g (7684 + l) ∧ g (7684 + l) < 19) ∧ (0 ≤ g (7693 + l) ∧ g (7693 + l) < 19) ∧ (0 ≤ g (7675 + l) ∧ g (7675 + l) < 19) ∧ g (7675 + l) ≠ g (7684 + l) ∧ g (7675 + l) ≠ g (7693 + l) := by
  obtain ⟨c1, c2, c3, c4, c5, c6, c7, -⟩ := (h.2.1 l hl.1 hl.2).2.2 hm
  have h1 := lst_bd l
  have h2 := lst_bd (nxt l)
  have h3 := nxt_cs l
  refine ⟨by omega, by omega, by omega, fun q => ?_, fun q => ?_⟩
  · rw [q, c4] at c7; omega
  · rw [q, c5] at c7; omega
theorem okS_of {g : Int → Int} {l : Int} (hl : 0 ≤ l ∧ l ≤ 8) (h : InvS g) (hm : g (7657 + l) = 1) (d1 : rg (g (7729 + l) + 1)) (d2 : rg (g 7746 + 1)) (d3 : rg (g 7745 + 1)) (d4 : rg (g 7742 + 1)) : okS g l := by
  obtain ⟨hy, he, ht, n1, n2⟩ := mrg_rows hl h hm
  obtain ⟨hR, hM, hO, hI, h8, hrg⟩ := h
  obtain ⟨c1, c2, c3, c4, c5, c6, c7, c8, c9, c10, c11, c12⟩ := (hM l hl.1 hl.2).2.2 hm
  have ry := hR _ hy.1 hy.2
  have re := hR _ he.1 he.2
  have rt := hR _ ht.1 ht.2
  have by_ := yK_bd ry c8.1
  have be := eK_bd re c9.1
  have m1 := rmR_bd (g (7684 + l))
  have m2 := rmR_bd (g (7693 + l))
  have hroom : g (7600 + g (7675 + l)) < 200 := by
    have a1 := row_room rt (fun j j0 j1 => (c12 j j0 j1).1) by_.1
    have a2 := row_room rt (fun j j0 j1 => (c12 j j0 j1).2) be.1
    unfold left at c10
    by_cases hq : g (7702 + l) < g (7600 + g (7684 + l))
    · have := by_.2.2 hq; omega
    · have := be.2.2 (by omega); omega
  refine ⟨hl, hy, he, ht, ⟨c8.1, c8.2, by have := ry.2.1; omega⟩, ⟨c9.1, c9.2, by have := re.2.1; omega⟩, c10, ⟨rt.2.1.1, hroom⟩, ⟨d1, d2, d3, d4⟩, fun hq => ?_, fun hq => ?_, hrg⟩
  · have := ry.2.2.2.2.1 _ c8.1 hq; exact ⟨this.1, this.2.1⟩
  · have := re.2.2.2.2.1 _ c9.1 hq; exact ⟨this.1, this.2.1⟩
/-- what the move of a thing comes to: from row r, place i, key K; the ends y2, e2 of the two rows -/
def mvd (g g1 : Int → Int) (l r i y2 e2 : Int) : Prop :=
  (∀ x, x < 7600 → x ≠ 200 * g (7675 + l) + g (7600 + g (7675 + l)) → x ≠ 3800 + 200 * g (7675 + l) + g (7600 + g (7675 + l)) → g1 x = g x) ∧
  (∀ x, 7600 ≤ x → x ≠ 7600 + g (7675 + l) → x ≠ 7702 + l → x ≠ 7711 + l → x ≠ 7729 + l → x ≠ 7742 → x ≠ 7745 → x ≠ 7746 → g1 x = g x) ∧ g1 (7702 + l) = y2 ∧ g1 (7711 + l) = e2 ∧
  ((g1 (7600 + g (7675 + l)) = g (7600 + g (7675 + l)) ∧ g1 (200 * g (7675 + l) + g (7600 + g (7675 + l))) = g (200 * g (7675 + l) + g (7600 + g (7675 + l))) ∧ g1 (3800 + 200 * g (7675 + l) + g (7600 + g (7675 + l))) = g (3800 + 200 * g (7675 + l) + g (7600 + g (7675 + l)))) ∨
   (g1 (7600 + g (7675 + l)) = g (7600 + g (7675 + l)) + 1 ∧ g1 (200 * g (7675 + l) + g (7600 + g (7675 + l))) = g (200 * r + i) ∧ g1 (3800 + 200 * g (7675 + l) + g (7600 + g (7675 + l))) = g (3800 + 200 * r + i))) ∧
  (g1 7742 = g 7742 + 1 ∧ (g1 (7729 + l) = g (7729 + l) ∨ g1 (7729 + l) = g (7729 + l) + 1) ∧ (g1 7745 = g 7745 ∨ g1 7745 = g 7745 + 1) ∧ (g1 7746 = g 7746 ∨ g1 7746 = g 7746 + 1))
theorem sMv_mvd {g : Int → Int} {l : Int} (ok : okS g l) : (eK g l < yK g l ∧ mvd g (sMv g l) l (g (7693 + l)) (g (7711 + l)) (g (7702 + l)) (g (7711 + l) + 1)) ∨ (yK g l < eK g l ∧ mvd g (sMv g l) l (g (7684 + l)) (g (7702 + l)) (g (7702 + l) + 1) (g (7711 + l))) ∨ (yK g l = eK g l ∧ mvd g (sMv g l) l (g (7684 + l)) (g (7702 + l)) (g (7702 + l) + 1) (g (7711 + l) + 1)) := by
  obtain ⟨hl, hy, he, ht, hyi, hei, hlf, hn, -⟩ := ok
  -- the coming
  have cm : ∀ r i, (∀ x, x < 7600 → x ≠ 200 * g (7675 + l) + g (7600 + g (7675 + l)) → x ≠ 3800 + 200 * g (7675 + l) + g (7600 + g (7675 + l)) → sCome g l r i x = g x) ∧ (∀ x, 7600 ≤ x → x ≠ 7600 + g (7675 + l) → x ≠ 7729 + l → x ≠ 7746 → sCome g l r i x = g x) ∧
      ((sCome g l r i (7600 + g (7675 + l)) = g (7600 + g (7675 + l)) ∧ sCome g l r i (200 * g (7675 + l) + g (7600 + g (7675 + l))) = g (200 * g (7675 + l) + g (7600 + g (7675 + l))) ∧ sCome g l r i (3800 + 200 * g (7675 + l) + g (7600 + g (7675 + l))) = g (3800 + 200 * g (7675 + l) + g (7600 + g (7675 + l)))) ∨
       (sCome g l r i (7600 + g (7675 + l)) = g (7600 + g (7675 + l)) + 1 ∧ sCome g l r i (200 * g (7675 + l) + g (7600 + g (7675 + l))) = g (200 * r + i) ∧ sCome g l r i (3800 + 200 * g (7675 + l) + g (7600 + g (7675 + l))) = g (3800 + 200 * r + i))) ∧
      (sCome g l r i (7729 + l) = g (7729 + l) ∨ sCome g l r i (7729 + l) = g (7729 + l) + 1) ∧ (sCome g l r i 7746 = g 7746 ∨ sCome g l r i 7746 = g 7746 + 1) := by
    intro r i
    unfold sCome
    split
    · refine ⟨fun x x0 _ _ => us_ne (by omega), fun x x0 x1 x2 x3 => us_ne x3, Or.inl ⟨us_ne (by omega), us_ne (by omega), us_ne (by omega)⟩, Or.inl (us_ne (by omega)), Or.inr (us_eq _ _ _)⟩
    · refine ⟨fun x x0 x1 x2 => ?_, fun x x0 x1 x2 x3 => ?_, Or.inr ⟨?_, ?_, ?_⟩, Or.inr (us_eq _ _ _), Or.inl ?_⟩
      · rw [us_ne (by omega), us_ne (by omega), us_ne x2, us_ne x1]
      · rw [us_ne x2, us_ne x1, us_ne (by omega), us_ne (by omega)]
      · rw [us_ne (by omega), us_eq]
      · rw [us_ne (by omega), us_ne (by omega), us_ne (by omega), us_eq]
      · rw [us_ne (by omega), us_ne (by omega), us_eq]
      · rw [us_ne (by omega), us_ne (by omega), us_ne (by omega), us_ne (by omega)]
  rcases Int.lt_trichotomy (eK g l) (yK g l) with h | h | h
  · left
    refine ⟨h, ?_⟩
    obtain ⟨a1, a2, a3, a4, a5⟩ := cm (g (7693 + l)) (g (7711 + l))
    have e1 : sMv g l = us (us (sCome g l (g (7693 + l)) (g (7711 + l))) (7711 + l) (g (7711 + l) + 1)) 7742 (g 7742 + 1) := by
      unfold sMv sMv2 sMv1
      rw [if_neg (by omega), if_pos h]
    rw [e1]
    refine ⟨fun x x0 x1 x2 => ?_, fun x x0 x1 x2 x3 x4 x5 x6 x7 => ?_, ?_, ?_, ?_, ⟨us_eq _ _ _, ?_, ?_, ?_⟩⟩
    · rw [us_ne (by omega), us_ne (by omega), a1 x x0 x1 x2]
    · rw [us_ne x5, us_ne x3, a2 x x0 x1 x4 x7]
    · rw [us_ne (by omega), us_ne (by omega), a2 _ (by omega) (by omega) (by omega) (by omega)]
    · rw [us_ne (by omega), us_eq]
    · rw [us_ne (by omega), us_ne (by omega), us_ne (by omega), us_ne (by omega), us_ne (by omega), us_ne (by omega)]; exact a3
    · rw [us_ne (by omega), us_ne (by omega)]; exact a4
    · rw [us_ne (by omega), us_ne (by omega), a2 _ (by omega) (by omega) (by omega) (by omega)]; exact Or.inl rfl
    · rw [us_ne (by omega), us_ne (by omega)]; exact a5
  · right; right
    refine ⟨h.symm, ?_⟩
    obtain ⟨a1, a2, a3, a4, a5⟩ := cm (g (7684 + l)) (g (7702 + l))
    have e1 : sMv g l = us (us (us (us (sCome g l (g (7684 + l)) (g (7702 + l))) (7702 + l) (g (7702 + l) + 1)) (7711 + l) (g (7711 + l) + 1)) 7745 (g 7745 + 1)) 7742 (g 7742 + 1) := by
      unfold sMv sMv2 sMv1
      rw [if_pos h.symm, if_neg (by omega)]
    rw [e1]
    refine ⟨fun x x0 x1 x2 => ?_, fun x x0 x1 x2 x3 x4 x5 x6 x7 => ?_, ?_, ?_, ?_, ⟨us_eq _ _ _, ?_, ?_, ?_⟩⟩
    · rw [us_ne (by omega), us_ne (by omega), us_ne (by omega), us_ne (by omega), a1 x x0 x1 x2]
    · rw [us_ne x5, us_ne x6, us_ne x3, us_ne x2, a2 x x0 x1 x4 x7]
    · rw [us_ne (by omega), us_ne (by omega), us_ne (by omega), us_eq]
    · rw [us_ne (by omega), us_ne (by omega), us_eq]
    · rw [us_ne (by omega), us_ne (by omega), us_ne (by omega), us_ne (by omega), us_ne (by omega), us_ne (by omega), us_ne (by omega), us_ne (by omega), us_ne (by omega), us_ne (by omega), us_ne (by omega), us_ne (by omega)]; exact a3
    · rw [us_ne (by omega), us_ne (by omega), us_ne (by omega), us_ne (by omega)]; exact a4
    · rw [us_ne (by omega), us_eq]; exact Or.inr rfl
    · rw [us_ne (by omega), us_ne (by omega), us_ne (by omega), us_ne (by omega)]; exact a5
  · right; left
    refine ⟨h, ?_⟩
    obtain ⟨a1, a2, a3, a4, a5⟩ := cm (g (7684 + l)) (g (7702 + l))
    have e1 : sMv g l = us (us (sCome g l (g (7684 + l)) (g (7702 + l))) (7702 + l) (g (7702 + l) + 1)) 7742 (g 7742 + 1) := by
      unfold sMv sMv2 sMv1
      rw [if_neg (by omega), if_neg (by omega)]
    rw [e1]
    refine ⟨fun x x0 x1 x2 => ?_, fun x x0 x1 x2 x3 x4 x5 x6 x7 => ?_, ?_, ?_, ?_, ⟨us_eq _ _ _, ?_, ?_, ?_⟩⟩
    · rw [us_ne (by omega), us_ne (by omega), a1 x x0 x1 x2]
    · rw [us_ne x5, us_ne x2, a2 x x0 x1 x4 x7]
    · rw [us_ne (by omega), us_eq]
    · rw [us_ne (by omega), us_ne (by omega), a2 _ (by omega) (by omega) (by omega) (by omega)]
    · rw [us_ne (by omega), us_ne (by omega), us_ne (by omega), us_ne (by omega), us_ne (by omega), us_ne (by omega)]; exact a3
    · rw [us_ne (by omega), us_ne (by omega)]; exact a4
    · rw [us_ne (by omega), us_ne (by omega), a2 _ (by omega) (by omega) (by omega) (by omega)]; exact Or.inl rfl
    · rw [us_ne (by omega), us_ne (by omega)]; exact a5
end INV4
