/-! a thing goes on: all that holds, holds behind it -/
section INV5
/-- what holds of a level that merges, but for there being something left -/
def okW (g : Int → Int) (l : Int) : Prop :=
    (2 * l ≤ g (7684 + l) ∧ g (7684 + l) ≤ 2 * l + lst l) ∧ (2 * l ≤ g (7693 + l) ∧ g (7693 + l) ≤ 2 * l + lst l) ∧ g (7684 + l) ≠ g (7693 + l) ∧ g (7619 + g (7684 + l)) = 2 ∧ g (7619 + g (7693 + l)) = 2 ∧
    (2 * nxt l ≤ g (7675 + l) ∧ g (7675 + l) ≤ 2 * nxt l + lst (nxt l)) ∧ g (7619 + g (7675 + l)) = 1 ∧ (0 ≤ g (7702 + l) ∧ g (7702 + l) ≤ g (7600 + g (7684 + l))) ∧ (0 ≤ g (7711 + l) ∧ g (7711 + l) ≤ g (7600 + g (7693 + l))) ∧
    g (7600 + g (7675 + l)) ≤ g (7702 + l) + g (7711 + l) ∧ (∀ j, 0 ≤ j → j < g (7600 + g (7675 + l)) → g (200 * g (7675 + l) + j) < yK g l ∧ g (200 * g (7675 + l) + j) < eK g l)
def InvW (g : Int → Int) (l : Int) : Prop := (∀ r, 0 ≤ r → r < 19 → okR g r) ∧ (∀ k, 0 ≤ k → k ≤ 8 → k ≠ l → okM g k) ∧ (g (7657 + l) = 1 ∧ (g (7666 + l) = 0 ∨ g (7666 + l) = 1) ∧ okW g l) ∧ okO g ∧ okI g ∧ shM g 8 ≤ 2 ∧ ∀ i, rg (g i)
theorem InvS_of_W {g : Int → Int} {l : Int} (h : InvW g l) (h0 : 0 < left g l) : InvS g := by
  obtain ⟨hR, hM, ⟨w0, w1, c1, c2, c3, c4, c5, c6, c7, c8, c9, c11, c12⟩, hO, hI, h8, hrg⟩ := h
  refine ⟨hR, fun k k0 k1 => ?_, hO, hI, h8, hrg⟩
  by_cases hk : k = l
  · subst hk
    exact ⟨Or.inr w0, w1, fun _ => ⟨c1, c2, c3, c4, c5, c6, c7, c8, c9, h0, c11, c12⟩⟩
  · exact hM k k0 k1 hk
theorem rm_two {l y e t : Int} (hl : 0 ≤ l ∧ l ≤ 6) (hy : 2 * l ≤ y ∧ y ≤ 2 * l + 1) (he : 2 * l ≤ e ∧ e ≤ 2 * l + 1) (ht : 2 * (l + 1) ≤ t ∧ t ≤ 2 * (l + 1) + 1) : rmR y + rmR e ≤ rmR t := by
  have hl2 : l = 0 ∨ l = 1 ∨ l = 2 ∨ l = 3 ∨ l = 4 ∨ l = 5 ∨ l = 6 := by omega
  have hy2 : y = 2 * l ∨ y = 2 * l + 1 := by omega
  have he2 : e = 2 * l ∨ e = 2 * l + 1 := by omega
  have ht2 : t = 2 * (l + 1) ∨ t = 2 * (l + 1) + 1 := by omega
  clear hy he ht hl
  rcases hl2 with h | h | h | h | h | h | h <;> subst h <;> rcases hy2 with h | h <;> subst h <;> rcases he2 with h | h <;> subst h <;> rcases ht2 with h | h <;> subst h <;> decide
theorem mv_inv {g g1 : Int → Int} {l r i y2 e2 K : Int} (hl : 0 ≤ l ∧ l ≤ 8) (h : InvS g) (hm : g (7657 + l) = 1) (hv : mvd g g1 l r i y2 e2) (hK : g (200 * r + i) = K) (hr : 0 ≤ r ∧ r < 19) (hi : 0 ≤ i ∧ i < g (7600 + r)) (ky : K ≤ yK g l) (ke : K ≤ eK g l) (kk2 : yK g l = K ∨ eK g l = K)
    (b1 : g (7702 + l) ≤ y2 ∧ y2 ≤ g (7600 + g (7684 + l))) (b2 : g (7711 + l) ≤ e2 ∧ e2 ≤ g (7600 + g (7693 + l))) (b3 : g (7702 + l) + g (7711 + l) + 1 ≤ y2 + e2) (k1 : y2 < g (7600 + g (7684 + l)) → K < g (200 * g (7684 + l) + y2)) (k2 : e2 < g (7600 + g (7693 + l)) → K < g (200 * g (7693 + l) + e2))
    (d1 : rg (g (7729 + l) + 1)) (d2 : rg (g 7746 + 1)) (d3 : rg (g 7745 + 1)) (d4 : rg (g 7742 + 1)) : InvW g1 l := by
  have ok := okS_of hl h hm d1 d2 d3 d4
  obtain ⟨hy, he, ht, n1, n2⟩ := mrg_rows hl h hm
  obtain ⟨hR, hM, hO, hI, h8, hrg⟩ := h
  obtain ⟨c1, c2, c3, c4, c5, c6, c7, c8, c9, c10, c11, c12⟩ := (hM l hl.1 hl.2).2.2 hm
  obtain ⟨v1, v2, v3, v4, v5, v6, v7, v8, v9⟩ := hv
  have hn := ok.2.2.2.2.2.2.2.1
  have ry := hR _ hy.1 hy.2
  have re := hR _ he.1 he.2
  have rt := hR _ ht.1 ht.2
  have rr := hR _ hr.1 hr.2
  have kk := rr.2.2.2.2.1 i hi.1 hi.2
  have my := rmR_bd (g (7684 + l))
  have me := rmR_bd (g (7693 + l))
  -- rows that are not the open one
  have row : ∀ q, 0 ≤ q → q < 19 → q ≠ g (7675 + l) → g1 (7619 + q) = g (7619 + q) ∧ g1 (7600 + q) = g (7600 + q) ∧ ∀ j, 0 ≤ j → j < g (7600 + q) → g1 (200 * q + j) = g (200 * q + j) ∧ g1 (3800 + 200 * q + j) = g (3800 + 200 * q + j) := by
    intro q q0 q1 hq
    have mq := rmR_bd q
    have sq := (hR q q0 q1).2.1
    refine ⟨v2 _ (by omega) (by omega) (by omega) (by omega) (by omega) (by omega) (by omega) (by omega), v2 _ (by omega) (by omega) (by omega) (by omega) (by omega) (by omega) (by omega) (by omega), fun j j0 j1 => ⟨v1 _ (by omega) (by omega) (by omega), v1 _ (by omega) (by omega) (by omega)⟩⟩
  have far : ∀ x, 7619 ≤ x → x < 7702 → g1 x = g x := fun x x0 x1 => v2 x (by omega) (by omega) (by omega) (by omega) (by omega) (by omega) (by omega) (by omega)
  have ag : agK g g1 := fun x x0 x1 => far x x0 (by omega)
  obtain ⟨yr1, yr2, yr3⟩ := row _ hy.1 hy.2 n1.symm
  obtain ⟨er1, er2, er3⟩ := row _ he.1 he.2 n2.symm
  have m3 := far (7675 + l) (by omega) (by omega)
  have m4 := far (7684 + l) (by omega) (by omega)
  have m5 := far (7693 + l) (by omega) (by omega)
  -- keys in the open row are below the one that comes
  have low : ∀ j, 0 ≤ j → j < g (7600 + g (7675 + l)) → g (200 * g (7675 + l) + j) < K := by
    intro j j0 j1
    have w := c12 j j0 j1
    omega
  have hroom : g (7600 + g (7675 + l)) + 1 ≤ rmR (g (7675 + l)) := by
    have hnx := nxt_cs l
    have h3 := lst_bd l
    have h4 := lst_bd (nxt l)
    by_cases q : l ≤ 6
    · have z := rm_two ⟨hl.1, q⟩ (y := g (7684 + l)) (e := g (7693 + l)) (t := g (7675 + l)) (by omega) (by omega) (by omega)
      have z1 := ry.2.1
      have z2 := re.2.1
      omega
    · have z := row_room rt low (hK ▸ kk.1)
      have z2 : rmR (g (7675 + l)) = 200 := by unfold rmR; repeat' split; all_goals omega
      omega
  have ky2 : K < yK g1 l := by
    unfold yK
    rw [m4, v3, yr2]
    split
    · omega
    · rw [(yr3 _ (by omega) (by omega)).1]; exact k1 (by omega)
  have ke2 : K < eK g1 l := by
    unfold eK
    rw [m5, v4, er2]
    split
    · omega
    · rw [(er3 _ (by omega) (by omega)).1]; exact k2 (by omega)
  -- things that were in the open row
  have old : ∀ j, 0 ≤ j → j < g (7600 + g (7675 + l)) → g1 (200 * g (7675 + l) + j) = g (200 * g (7675 + l) + j) ∧ g1 (3800 + 200 * g (7675 + l) + j) = g (3800 + 200 * g (7675 + l) + j) := fun j j0 j1 => ⟨v1 _ (by omega) (by omega) (by omega), v1 _ (by omega) (by omega) (by omega)⟩
  have keys : ∀ j, 0 ≤ j → j < g1 (7600 + g (7675 + l)) → (j < g (7600 + g (7675 + l)) ∧ g1 (200 * g (7675 + l) + j) = g (200 * g (7675 + l) + j) ∧ g1 (3800 + 200 * g (7675 + l) + j) = g (3800 + 200 * g (7675 + l) + j)) ∨ (j = g (7600 + g (7675 + l)) ∧ g1 (200 * g (7675 + l) + j) = K ∧ g1 (3800 + 200 * g (7675 + l) + j) = g (3800 + 200 * r + i)) := by
    intro j j0 j1
    by_cases q : j < g (7600 + g (7675 + l))
    · exact Or.inl ⟨q, old j j0 q⟩
    · rcases v5 with ⟨w1, w2, w3⟩ | ⟨w1, w2, w3⟩
      · omega
      · have : j = g (7600 + g (7675 + l)) := by omega
        subst this
        exact Or.inr ⟨rfl, w2.trans hK, w3⟩
  have hrow : okR g1 (g (7675 + l)) := by
    obtain ⟨r1, r2, r3, r4, r5, r6⟩ := rt
    have hs : g1 (7619 + g (7675 + l)) = 1 := by rw [far _ (by omega) (by omega), c7]
    refine ⟨Or.inr (Or.inl hs), by omega, by omega, by omega, fun j j0 j1 => ?_, fun a j a0 aj j1 => ?_⟩
    · rcases keys j j0 j1 with ⟨w0, w1, w2⟩ | ⟨w0, w1, w2⟩
      · rw [w1, w2]; exact r5 j j0 w0
      · rw [w1, w2, ← hK]; exact kk
    · rcases keys j (by omega) j1 with ⟨w0, w1, w2⟩ | ⟨w0, w1, w2⟩
      · rw [w1, (old a a0 (by omega)).1]; exact r6 a j a0 aj w0
      · rw [w1, (old a a0 (by omega)).1]; exact low a a0 (by omega)
  refine ⟨fun q q0 q1 => ?_, fun k k0 k1 hk => ?_, ⟨?_, ?_, ?_⟩, ?_, ?_, ?_, fun x => ?_⟩
  · by_cases hq : q = g (7675 + l)
    · rw [hq]; exact hrow
    · obtain ⟨x1, x2, x3⟩ := row q q0 q1 hq
      exact okR_cg x1 x2 x3 (hR q q0 q1)
  · have hk2 := hM k k0 k1
    refine okM_cg (far _ (by omega) (by omega)) (far _ (by omega) (by omega)) (far _ (by omega) (by omega)) (far _ (by omega) (by omega)) (far _ (by omega) (by omega)) (v2 _ (by omega) (by omega) (by omega) (by omega) (by omega) (by omega) (by omega) (by omega)) (v2 _ (by omega) (by omega) (by omega) (by omega) (by omega) (by omega) (by omega) (by omega)) (fun hmk q hq => ?_) hk2
    obtain ⟨a1, a2, a3, a4, a5, a6, a7, -⟩ := hk2.2.2 hmk
    have l1 := lst_bd k
    have l2 := lst_bd (nxt k)
    have l3 := nxt_cs k
    have hne : q ≠ g (7675 + l) := by
      rcases hq with hq | hq | hq
      · intro e; rw [← hq, e, c7] at a4; omega
      · intro e; rw [← hq, e, c7] at a5; omega
      · rw [hq]; exact hI.1 k l k0 k1 hl.1 hl.2 hk hmk hm
    obtain ⟨x1, x2, x3⟩ := row q (by omega) (by omega) hne
    exact ⟨x1, x2, fun j j0 j1 => (x3 j j0 j1).1⟩
  · rw [far _ (by omega) (by omega)]; exact hm
  · rw [far _ (by omega) (by omega)]; exact (hM l hl.1 hl.2).2.1
  · unfold okW
    rw [m3, m4, m5, v3, v4, yr1, yr2, er1, er2]
    refine ⟨c1, c2, c3, c4, c5, c6, ?_, by omega, by omega, by omega, fun j j0 j1 => ?_⟩
    · rw [far _ (by omega) (by omega), c7]
    · rcases keys j j0 j1 with ⟨w0, w1, w2⟩ | ⟨w0, w1, w2⟩
      · have := low j j0 w0; omega
      · omega
  · obtain ⟨o1, o2⟩ := hO
    have e7 : g1 7738 = g 7738 := v2 _ (by omega) (by omega) (by omega) (by omega) (by omega) (by omega) (by omega) (by omega)
    refine ⟨fun q q0 q1 => ?_, fun q p q0 q1 p0 p1 hqp => ?_⟩
    · rw [far _ (by omega) (by omega), far _ (by omega) (by omega), e7]; exact o1 q q0 q1
    · rw [far _ (by omega) (by omega), far _ (by omega) (by omega), far _ (by omega) (by omega), far _ (by omega) (by omega)]; exact o2 q p q0 q1 p0 p1 hqp
  · obtain ⟨o1, o2⟩ := hI
    refine ⟨fun a b a0 a1 b0 b1 hab => ?_, fun q q0 q1 => ?_⟩
    · rw [far _ (by omega) (by omega), far _ (by omega) (by omega), far _ (by omega) (by omega), far _ (by omega) (by omega)]; exact o1 a b a0 a1 b0 b1 hab
    · rw [far _ (by omega) (by omega)]
      intro hq
      obtain ⟨a, a0, a1, a2, a3⟩ := o2 q q0 q1 hq
      exact ⟨a, a0, a1, by rw [far _ (by omega) (by omega)]; exact a2, by rw [far _ (by omega) (by omega)]; exact a3⟩
  · rw [shM_ag ag (by omega)]; exact h8
  · by_cases q1 : x < 7600
    · by_cases q2 : x = 200 * g (7675 + l) + g (7600 + g (7675 + l))
      · rw [q2]; rcases v5 with ⟨-, w, -⟩ | ⟨-, w, -⟩ <;> rw [w] <;> exact hrg _
      · by_cases q3 : x = 3800 + 200 * g (7675 + l) + g (7600 + g (7675 + l))
        · rw [q3]; rcases v5 with ⟨-, -, w⟩ | ⟨-, -, w⟩ <;> rw [w] <;> exact hrg _
        · rw [v1 x q1 q2 q3]; exact hrg x
    · by_cases q2 : x = 7600 + g (7675 + l)
      · rw [q2]; unfold rg; omega
      · by_cases q3 : x = 7702 + l
        · have z1 := ry.2.1; rw [q3, v3]; unfold rg; omega
        · by_cases q4 : x = 7711 + l
          · have z1 := re.2.1; rw [q4, v4]; unfold rg; omega
          · by_cases q5 : x = 7729 + l
            · rw [q5]; rcases v7 with w | w <;> rw [w]
              · exact hrg _
              · exact d1
            · by_cases q6 : x = 7742
              · rw [q6, v6]; exact d4
              · by_cases q7 : x = 7745
                · rw [q7]; rcases v8 with w | w <;> rw [w]
                  · exact hrg _
                  · exact d3
                · by_cases q8 : x = 7746
                  · rw [q8]; rcases v9 with w | w <;> rw [w]
                    · exact hrg _
                    · exact d2
                  · rw [v2 x (by omega) q2 q3 q4 q5 q6 q7 q8]; exact hrg x
/-- the move, as the step makes it -/
theorem sMv_inv {g : Int → Int} {l : Int} (hl : 0 ≤ l ∧ l ≤ 8) (h : InvS g) (hm : g (7657 + l) = 1) (d1 : rg (g (7729 + l) + 1)) (d2 : rg (g 7746 + 1)) (d3 : rg (g 7745 + 1)) (d4 : rg (g 7742 + 1)) : InvW (sMv g l) l := by
  have ok := okS_of hl h hm d1 d2 d3 d4
  obtain ⟨hy, he, ht, n1, n2⟩ := mrg_rows hl h hm
  have h0 := h
  obtain ⟨hR, hM, hO, hI, h8, hrg⟩ := h
  obtain ⟨c1, c2, c3, c4, c5, c6, c7, c8, c9, c10, c11, c12⟩ := (hM l hl.1 hl.2).2.2 hm
  have ry := hR _ hy.1 hy.2
  have re := hR _ he.1 he.2
  have uy := yK_bd ry c8.1
  have ue := eK_bd re c9.1
  have fy : g (7702 + l) < g (7600 + g (7684 + l)) → yK g l = g (200 * g (7684 + l) + g (7702 + l)) := fun q => by unfold yK; rw [if_neg (by omega)]
  have fe : g (7711 + l) < g (7600 + g (7693 + l)) → eK g l = g (200 * g (7693 + l) + g (7711 + l)) := fun q => by unfold eK; rw [if_neg (by omega)]
  have zy : ¬ g (7702 + l) < g (7600 + g (7684 + l)) → yK g l = 200 := fun q => by unfold yK; rw [if_pos (by omega)]
  have ze : ¬ g (7711 + l) < g (7600 + g (7693 + l)) → eK g l = 200 := fun q => by unfold eK; rw [if_pos (by omega)]
  unfold left at c10
  rcases sMv_mvd ok with ⟨hq, hv⟩ | ⟨hq, hv⟩ | ⟨hq, hv⟩
  · have q1 : g (7711 + l) < g (7600 + g (7693 + l)) := by
      by_cases q : g (7711 + l) < g (7600 + g (7693 + l))
      · exact q
      · have := ze q; omega
    have q2 := fe q1
    refine mv_inv hl h0 hm hv rfl he ⟨c9.1, q1⟩ (by omega) (by omega) (Or.inr q2) ⟨Int.le_refl _, c8.2⟩ (by omega) (by omega) (fun w => ?_) (fun w => ?_) d1 d2 d3 d4
    · rw [← q2, ← fy w]; exact hq
    · exact re.2.2.2.2.2 _ _ c9.1 (by omega) w
  · have q1 : g (7702 + l) < g (7600 + g (7684 + l)) := by
      by_cases q : g (7702 + l) < g (7600 + g (7684 + l))
      · exact q
      · have := zy q; omega
    have q2 := fy q1
    refine mv_inv hl h0 hm hv rfl hy ⟨c8.1, q1⟩ (by omega) (by omega) (Or.inl q2) (by omega) ⟨Int.le_refl _, c9.2⟩ (by omega) (fun w => ?_) (fun w => ?_) d1 d2 d3 d4
    · exact ry.2.2.2.2.2 _ _ c8.1 (by omega) w
    · rw [← q2, ← fe w]; exact hq
  · have q1 : g (7702 + l) < g (7600 + g (7684 + l)) := by
      by_cases q : g (7702 + l) < g (7600 + g (7684 + l))
      · exact q
      · have := zy q
        by_cases q' : g (7711 + l) < g (7600 + g (7693 + l))
        · have := ue.2.2 q'; omega
        · omega
    have q1' : g (7711 + l) < g (7600 + g (7693 + l)) := by
      by_cases q : g (7711 + l) < g (7600 + g (7693 + l))
      · exact q
      · have := ze q
        have := uy.2.2 q1; omega
    have q2 := fy q1
    have q3 := fe q1'
    refine mv_inv hl h0 hm hv rfl hy ⟨c8.1, q1⟩ (by omega) (by omega) (Or.inl q2) (by omega) (by omega) (by omega) (fun w => ?_) (fun w => ?_) d1 d2 d3 d4
    · exact ry.2.2.2.2.2 _ _ c8.1 (by omega) w
    · rw [← q2, hq, q3]; exact re.2.2.2.2.2 _ _ c9.1 (by omega) w
end INV5
