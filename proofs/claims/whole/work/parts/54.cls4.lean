/-! the class: a step, steps, an act -/
section CLS4
theorem room_lt {g : Int → Int} {l : Int} (hl : 0 ≤ l ∧ l ≤ 8) (h : InvS g) (hm : g (7657 + l) = 1) (ok : okS g l) : g (7600 + g (7675 + l)) < rmR (g (7675 + l)) := by
  obtain ⟨c1, c2, c3, c4, c5, c6, c7, c8, c9, c10, c11, -⟩ := (h.2.1 l hl.1 hl.2).2.2 hm
  have hls := lst_bd l
  have hnx := nxt_cs l
  have hls2 := lst_bd (nxt l)
  by_cases q : l ≤ 6
  · have a := (h.1 (g (7684 + l)) (by omega) (by omega)).2.1
    have b := (h.1 (g (7693 + l)) (by omega) (by omega)).2.1
    have t := rm_two (l := l) (y := g (7684 + l)) (e := g (7693 + l)) (t := g (7675 + l)) (by omega) (by omega) (by omega) (by omega)
    unfold left at c10
    omega
  · have : rmR (g (7675 + l)) = 200 := by unfold rmR; repeat' split; all_goals omega
    rw [this]
    exact ok.2.2.2.2.2.2.2.1.2
theorem c_stepOf {e : Nat} {M0 M : fMem} {g : Int → Int} {l : Int} (h : RF e M0 M g) (he : e = 1 ∨ e = 72) (hi : InvS g) (hm : g (7657 + l) = 1) (ok : okS g l) : ∃ M1, f_X0_stepOf e (e + l.toNat + 62) M = some M1 ∧ RF e M0 M1 (sMv2 g l) := by
  have hrt := room_lt ok.1 hi hm ok
  have hba := (hi.2.1 l ok.1.1 ok.1.2).2.1
  obtain ⟨hl, hy, hel, ht, hyi, hei, hlf, hn, ⟨c1, c2, c3, c4⟩, ky, ke, hrg⟩ := ok
  obtain ⟨m0, m1, m2, m3, m4, m5, m6, m7, m8⟩ := h.1.2.1 l hl.1 hl.2
  have k1 := c_keyAt h.1 he hy hyi.1
  have k2 := c_keyAt h.1 he hel hei.1
  rw [show (if g (7600 + g (7684 + l)) ≤ g (7702 + l) then 200 else g (200 * g (7684 + l) + g (7702 + l))) = yK g l from rfl] at k1
  rw [show (if g (7600 + g (7693 + l)) ≤ g (7711 + l) then 200 else g (200 * g (7693 + l) + g (7711 + l))) = eK g l from rfl] at k2
  unfold f_X0_stepOf
  rw [m2, m3, m5, m6]
  have far : ∀ r i x, 7600 ≤ x → (x < 7600 ∨ 7619 ≤ x) → x ≠ 7746 → x ≠ 7729 + l → sCome g l r i x = g x := fun r i x a b c d => sCome_at b c d ht hn a
  by_cases hlt : eK g l < yK g l
  · have hee : g (7711 + l) < g (7600 + g (7693 + l)) := by
      unfold eK yK at hlt
      split at hlt
      · split at hlt
        · omega
        · have := ky (by omega); omega
      · omega
    have ev : eK g l = g (200 * g (7693 + l) + g (7711 + l)) := by unfold eK; rw [if_neg (by omega)]
    obtain ⟨M1, a1, a2⟩ := c_moveOn (r := g (7693 + l)) (i := g (7711 + l)) h he hl hba ht hrt c1 c2
    have r6 : M1 (e + l.toNat + 62) 6 = g (7711 + l) := by rw [(a2.1.2.1 l hl.1 hl.2).2.2.2.2.2.2.1, far _ _ _ (by omega) (by omega) (by omega) (by omega)]
    refine ⟨mset M1 (e + l.toNat + 62) 6 (g (7711 + l) + 1), ?_, ?_⟩
    · refine si hy (si hel (bc k1 (bc k2 (it hlt (bc (c_valueAt h.1 he hel ⟨hei.1, hee⟩) ?_)))))
      rw [← ev] at a1
      refine bc a1 ?_
      unfold j_X0_stepOf_96
      rw [r6]
      refine ie (by omega) (si (by omega) (bs fun N1 q1 => ?_))
      subst q1
      unfold j_X0_stepOf_113
      exact ie (by omega) rfl
    · unfold sMv2 sMv1
      rw [if_pos hlt, if_neg (by omega)]
      exact rf_mrg a2 hl (by omega)
  · have hyy : g (7702 + l) < g (7600 + g (7684 + l)) := by
      unfold left at hlf
      unfold eK yK at hlt
      split at hlt
      · split at hlt
        · omega
        · omega
      · split at hlt
        · have := ke (by omega); omega
        · omega
    have yv : yK g l = g (200 * g (7684 + l) + g (7702 + l)) := by unfold yK; rw [if_neg (by omega)]
    obtain ⟨M1, a1, a2⟩ := c_moveOn (r := g (7684 + l)) (i := g (7702 + l)) h he hl hba ht hrt c1 c2
    have r5 : M1 (e + l.toNat + 62) 5 = g (7702 + l) := by rw [(a2.1.2.1 l hl.1 hl.2).2.2.2.2.2.1, far _ _ _ (by omega) (by omega) (by omega) (by omega)]
    have r6 : M1 (e + l.toNat + 62) 6 = g (7711 + l) := by rw [(a2.1.2.1 l hl.1 hl.2).2.2.2.2.2.2.1, far _ _ _ (by omega) (by omega) (by omega) (by omega)]
    have r8 : M1 e 8 = g 7745 := by rw [a2.1.2.2.2.2.2.2.2.2.1, far _ _ _ (by omega) (by omega) (by omega) (by omega)]
    have a3 := rf_mrg (i := 5) (x := 7702 + l) (v := g (7702 + l) + 1) a2 hl (by omega)
    rw [← yv] at a1
    by_cases hq : yK g l = eK g l
    · refine ⟨mset (mset (mset M1 (e + l.toNat + 62) 5 (g (7702 + l) + 1)) (e + l.toNat + 62) 6 (g (7711 + l) + 1)) e 8 (g 7745 + 1), ?_, ?_⟩
      · refine si hy (si hel (bc k1 (bc k2 (ie hlt (bc (c_valueAt h.1 he hy ⟨hyi.1, hyy⟩) (bc a1 ?_))))))
        rw [r5]
        refine si (by omega) (bs fun N1 q1 => ?_)
        have z6 : N1 (e + l.toNat + 62) 6 = g (7711 + l) := by rw [q1, mset_slot (by omega), r6]
        unfold j_X0_stepOf_96
        rw [z6]
        refine ie (by omega) (si (by omega) (bs fun N2 q2 => ?_))
        have z8 : N2 e 8 = g 7745 := by rw [q2, mset_ne (by omega), q1, mset_ne (by omega), r8]
        unfold j_X0_stepOf_113
        rw [z8]
        refine it (by omega) (si c3 ?_)
        rw [q2, q1]; rfl
      · unfold sMv2 sMv1
        rw [if_neg hlt, if_pos hq]
        exact rf_ctr (rf_mrg a3 hl (by omega)) (by omega)
    · refine ⟨mset M1 (e + l.toNat + 62) 5 (g (7702 + l) + 1), ?_, ?_⟩
      · refine si hy (si hel (bc k1 (bc k2 (ie hlt (bc (c_valueAt h.1 he hy ⟨hyi.1, hyy⟩) (bc a1 ?_))))))
        rw [r5]
        refine si (by omega) (bs fun N1 q1 => ?_)
        subst q1
        unfold j_X0_stepOf_96
        refine it (by omega) ?_
        unfold j_X0_stepOf_113
        exact ie (by omega) rfl
      · unfold sMv2 sMv1
        rw [if_neg hlt, if_neg hq]
        exact a3
theorem sFree_us {g : Int → Int} {r i v : Int} (h1 : i ≠ 7619 + r) (h2 : i ≠ 7600 + r) : sFree (us g i v) r = us (sFree g r) i v := by
  unfold sFree
  rw [us_comm (i := i) (j := 7619 + r) h1, us_comm (i := i) (j := 7600 + r) h2]
theorem sShut_us {g : Int → Int} {r i v : Int} (h1 : i ≠ 7619 + r) (h2 : i ≠ 7738) (h3 : i ≠ 7638 + r) : sShut (us g i v) r = us (sShut g r) i v := by
  unfold sShut
  rw [us_ne (k := 7738) (i := i) (by omega), us_comm (i := i) (j := 7619 + r) h1, us_comm (i := i) (j := 7738) h2, us_comm (i := i) (j := 7638 + r) h3]
theorem c_leftOf {e : Nat} {M : fMem} {g : Int → Int} {l : Int} (h : RelE e M g) (hl : 0 ≤ l ∧ l ≤ 8) (hy : 0 ≤ g (7684 + l) ∧ g (7684 + l) < 19) (hel : 0 ≤ g (7693 + l) ∧ g (7693 + l) < 19) (hm : g (7657 + l) ≠ 0) (hr : rg (left g l)) : f_X0_leftOf e l M = some (left g l) := by
  obtain ⟨m0, m1, m2, m3, m4, m5, m6, m7, m8⟩ := h.2.1 l hl.1 hl.2
  unfold f_X0_leftOf
  rw [m0, m2, m3, m5, m6, (h.1 _ hy.1 hy.2).2.1, (h.1 _ hel.1 hel.2).2.1]
  exact si (by omega) (ie hm (si hy (si hel (si hr rfl))))
theorem c_end {e : Nat} {M0 M : fMem} {g : Int → Int} {l : Int} (h : RF e M0 M g) (hl : 0 ≤ l ∧ l ≤ 8) (hy : 0 ≤ g (7684 + l) ∧ g (7684 + l) < 19) (hel : 0 ≤ g (7693 + l) ∧ g (7693 + l) < 19) (ht : 0 ≤ g (7675 + l) ∧ g (7675 + l) < 19) (c1 : rg (g (7720 + l) + 1)) (c2 : rg (g 7738 + 1)) : ∃ M1, f_X0_end e (e + l.toNat + 62) M = some M1 ∧ RF e M0 M1 (sThr2 g l) := by
  obtain ⟨m0, m1, m2, m3, m4, m5, m6, m7, m8⟩ := h.1.2.1 l hl.1 hl.2
  obtain ⟨N1, a1, a2⟩ := c_clear (s := 0) h hy (by omega)
  have a2' : RF e M0 N1 (sFree g (g (7684 + l))) := a2
  obtain ⟨N2, b1, b2⟩ := c_clear (s := 0) a2' hel (by omega)
  have b2' : RF e M0 N2 (sFree (sFree g (g (7684 + l))) (g (7693 + l))) := b2
  have f1 : ∀ x, x < 7600 ∨ 7638 ≤ x → sFree g (g (7684 + l)) x = g x := fun x hx => sFree_at hx hy
  have f2 : ∀ x, x < 7600 ∨ 7638 ≤ x → sFree (sFree g (g (7684 + l))) (g (7693 + l)) x = g x := fun x hx => by rw [sFree_at hx hel, f1 x hx]
  have n3 : N1 (e + l.toNat + 62) 3 = g (7693 + l) := by rw [(a2'.1.2.1 l hl.1 hl.2).2.2.2.1, f1 _ (by omega)]
  have n4 : N2 (e + l.toNat + 62) 4 = g (7675 + l) := by rw [(b2'.1.2.1 l hl.1 hl.2).2.2.2.2.1, f2 _ (by omega)]
  have ns := (b2'.1.1 _ ht.1 ht.2).2.1
  have e1 : sThr1 g l = us (us (sFree (sFree g (g (7684 + l))) (g (7693 + l))) (7657 + l) 0) (7720 + l) (g (7720 + l) + 1) := by
    unfold sThr1
    rw [sFree_us (i := 7720 + l) (by omega) (by omega), sFree_us (i := 7657 + l) (by omega) (by omega), sFree_us (i := 7720 + l) (by omega) (by omega), sFree_us (i := 7657 + l) (by omega) (by omega)]
  have e2 : sThr1 g l (7600 + g (7675 + l)) = sFree (sFree g (g (7684 + l))) (g (7693 + l)) (7600 + g (7675 + l)) := by
    rw [e1, us_ne (by omega), us_ne (by omega)]
  have tail : ∀ N g3, RF e M0 N g3 → g3 (7720 + l) = g (7720 + l) → ∃ M1, j_X0_end_65 e (e + l.toNat + 62) N = some M1 ∧ RF e M0 M1 (us (us g3 (7657 + l) 0) (7720 + l) (g (7720 + l) + 1)) := by
    intro N g3 hN hg
    have q := rf_mrg (i := 0) (x := 7657 + l) (v := 0) hN hl (by omega)
    refine ⟨mset (mset N (e + l.toNat + 62) 0 0) (e + l.toNat + 62) 7 (g (7720 + l) + 1), ?_, rf_mrg q hl (by omega)⟩
    unfold j_X0_end_65
    refine bs fun N1 q1 => ?_
    have z7 : N1 (e + l.toNat + 62) 7 = g (7720 + l) := by rw [q1, mset_slot (by omega), (hN.1.2.1 l hl.1 hl.2).2.2.2.2.2.2.2.1, hg]
    rw [z7]
    refine si c1 ?_
    rw [q1]; rfl
  unfold f_X0_end
  rw [m2]
  unfold sThr2
  rw [e2]
  by_cases hz : sFree (sFree g (g (7684 + l))) (g (7693 + l)) (7600 + g (7675 + l)) = 0
  · obtain ⟨N3, d1, d2⟩ := c_clear (s := 0) b2' ht (by omega)
    have d2' : RF e M0 N3 (sFree (sFree (sFree g (g (7684 + l))) (g (7693 + l))) (g (7675 + l))) := d2
    obtain ⟨M1, t1, t2⟩ := tail N3 _ d2' (by rw [sFree_at (by omega) ht, f2 _ (by omega)])
    refine ⟨M1, ?_, ?_⟩
    · refine si hy (bc a1 ?_)
      rw [n3]
      refine si hel (bc b1 ?_)
      rw [n4]
      refine si ht ?_
      rw [ns]
      exact it hz (bc d1 t1)
    · rw [if_pos hz, e1, sFree_us (i := 7720 + l) (by omega) (by omega), sFree_us (i := 7657 + l) (by omega) (by omega)]
      exact t2
  · obtain ⟨N3, d1, d2⟩ := c_shut b2' ht (by rw [f2 _ (by omega)]; exact c2)
    have es : ∀ x, x ≠ 7738 → x ≠ 7619 + g (7675 + l) → x ≠ 7638 + g (7675 + l) → sShut (sFree (sFree g (g (7684 + l))) (g (7693 + l))) (g (7675 + l)) x = sFree (sFree g (g (7684 + l))) (g (7693 + l)) x := fun y y1 y2 y3 => by unfold sShut; rw [us_ne y3, us_ne y1, us_ne y2]
    obtain ⟨M1, t1, t2⟩ := tail N3 _ d2 (by rw [es _ (by omega) (by omega) (by omega), f2 _ (by omega)])
    refine ⟨M1, ?_, ?_⟩
    · refine si hy (bc a1 ?_)
      rw [n3]
      refine si hel (bc b1 ?_)
      rw [n4]
      refine si ht ?_
      rw [ns]
      exact ie hz (bc d1 t1)
    · rw [if_neg hz, e1, sShut_us (i := 7720 + l) (by omega) (by omega) (by omega), sShut_us (i := 7657 + l) (by omega) (by omega) (by omega)]
      exact t2
theorem c_stepA {e : Nat} {M0 M : fMem} {g : Int → Int} {l T : Int} (h : RF e M0 M g) (he : e = 1 ∨ e = 72) (hR : Run g T) (hm : lowM g l) {k : fMem → Option (Int × fMem)} {n : Nat} : ∃ M1, L_X0_step_2 e k (n + 1) l M = some (1, M1) ∧ RF e M0 M1 (sStep g l) := by
  have hl : 0 ≤ l ∧ l ≤ 8 := ⟨hm.1, hm.2.1⟩
  have d1 := Run_rg hR (x := 7729 + l) (by unfold isC; omega)
  have d2 := Run_rg hR (x := 7746) (by unfold isC; omega)
  have d3 := Run_rg hR (x := 7745) (by unfold isC; omega)
  have d4 := Run_rg hR (x := 7742) (by unfold isC; omega)
  have c1 := Run_rg hR (x := 7720 + l) (by unfold isC; omega)
  have c2 := Run_rg hR (x := 7738) (by unfold isC; omega)
  have ok := okS_of hl hR.1.1 hm.2.2.1 d1 d2 d3 d4
  have hW := sMv_inv hl hR.1.1 hm.2.2.1 d1 d2 d3 d4
  obtain ⟨hy, hel, ht, n1, n2⟩ := mrg_rows hl hR.1.1 hm.2.2.1
  have far : ∀ x, 7619 ≤ x → x ≠ 7702 + l → x ≠ 7711 + l → x ≠ 7729 + l → x ≠ 7742 → x ≠ 7745 → x ≠ 7746 → sMv g l x = g x := fun x x0 => sMv_far ok x0
  have f1 : sMv g l (7684 + l) = g (7684 + l) := far _ (by omega) (by omega) (by omega) (by omega) (by omega) (by omega) (by omega)
  have f2 : sMv g l (7693 + l) = g (7693 + l) := far _ (by omega) (by omega) (by omega) (by omega) (by omega) (by omega) (by omega)
  have f3 : sMv g l (7675 + l) = g (7675 + l) := far _ (by omega) (by omega) (by omega) (by omega) (by omega) (by omega) (by omega)
  have f4 : sMv g l (7720 + l) = g (7720 + l) := far _ (by omega) (by omega) (by omega) (by omega) (by omega) (by omega) (by omega)
  have f5 : sMv g l 7738 = g 7738 := far _ (by omega) (by omega) (by omega) (by omega) (by omega) (by omega) (by omega)
  have f6 : sMv g l (7657 + l) = g (7657 + l) := far _ (by omega) (by omega) (by omega) (by omega) (by omega) (by omega) (by omega)
  have hrl : rg (left (sMv g l) l) := by
    obtain ⟨hRr, -, ⟨-, -, e1, e2, e3, e4, e5, e6, e7, e8, e9, e11, e12⟩, -⟩ := hW
    have h1 := lst_bd l
    have a1 := (hRr (sMv g l (7684 + l)) (by omega) (by omega)).2.1
    have a2 := (hRr (sMv g l (7693 + l)) (by omega) (by omega)).2.1
    have b1 := rmR_bd (sMv g l (7684 + l))
    have b2 := rmR_bd (sMv g l (7693 + l))
    unfold rg left
    omega
  obtain ⟨N1, a1, a2⟩ := c_stepOf h he hR.1.1 hm.2.2.1 ok
  have v0 : sMv2 g l 7742 = g 7742 := by
    have k : ∀ r i, sCome g l r i 7742 = g 7742 := fun r i => sCome_at (by omega) (by omega) (by omega) ok.2.2.2.1 ok.2.2.2.2.2.2.2.1 (by omega)
    have k1 : sMv1 g l 7742 = g 7742 := by
      unfold sMv1
      split
      · rw [us_ne (by omega), k]
      · rw [us_ne (by omega), k]
    unfold sMv2
    split
    · rw [us_ne (by omega), us_ne (by omega), k1]
    · exact k1
  have s5 : N1 e 5 = g 7742 := by rw [a2.1.2.2.2.2.2.1, v0]
  have b2 := rf_ctr (i := 5) (x := 7742) (v := g 7742 + 1) a2 (by omega)
  have b2' : RF e M0 (mset N1 e 5 (g 7742 + 1)) (sMv g l) := b2
  have lf := c_leftOf b2'.1 hl (by rw [f1]; exact hy) (by rw [f2]; exact hel) (by rw [f6, hm.2.2.1]; omega) hrl
  have hon : M (e + l.toNat + 62) 0 = 1 := by rw [(h.1.2.1 l hl.1 hl.2).1, hm.2.2.1]
  unfold sStep
  by_cases hz : left (sMv g l) l = 0
  · obtain ⟨N3, t1, t2⟩ := c_end b2' hl (by rw [f1]; exact hy) (by rw [f2]; exact hel) (by rw [f3]; exact ht) (by rw [f4]; exact c1) (by rw [f5]; exact c2)
    have ag : agK g (sMv g l) := fun x x0 x1 => far x x0 (by omega) (by omega) (by omega) (by omega) (by omega) (by omega)
    have hq : ∀ k, 0 ≤ k → k ≤ 8 → quiet (sMv g l) k := by
      intro k k0 k1 h2
      rw [shM_ag ag ⟨k0, k1⟩] at h2
      rcases hR.1.2 k k0 k1 h2 with z | ⟨z1, z2⟩
      · left; rw [far _ (by omega) (by omega) (by omega) (by omega) (by omega) (by omega) (by omega)]; exact z
      · right; refine ⟨z1, ?_⟩
        rw [fFr_ag ag ⟨by omega, by omega⟩]; exact z2
    obtain ⟨i1, -⟩ := sThr2_inv hl hW hq (by rw [f4]; exact c1) (by rw [f5]; exact c2)
    obtain ⟨N4, u1, u2⟩ := c_askLevels t2 i1
    refine ⟨N4, ?_, ?_⟩
    · rw [L_X0_step_2, hon]
      refine ie (by omega) (si (by omega) (ie (by omega) (bc a1 ?_)))
      rw [s5]
      refine si d4 (bs fun N2 q2 => ?_)
      subst q2
      exact bc lf (it hz (bc t1 (bc u1 rfl)))
    · rw [if_pos hz]; exact u2
  · refine ⟨mset N1 e 5 (g 7742 + 1), ?_, ?_⟩
    · rw [L_X0_step_2, hon]
      refine ie (by omega) (si (by omega) (ie (by omega) (bc a1 ?_)))
      rw [s5]
      refine si d4 (bs fun N2 q2 => ?_)
      subst q2
      exact bc lf (ie hz rfl)
    · rw [if_neg hz]; exact b2'
theorem c_step {e : Nat} {M0 M : fMem} {g : Int → Int} {l T : Int} (h : RF e M0 M g) (he : e = 1 ∨ e = 72) (hR : Run g T) (hm : lowM g l) : ∃ M1, f_X0_step e M = some (1, M1) ∧ RF e M0 M1 (sStep g l) := by
  have hl : 0 ≤ l ∧ l ≤ 8 := ⟨hm.1, hm.2.1⟩
  have key : ∀ (d n : Nat) (v : Int), 0 ≤ v → v + d = l → d < n → ∃ M1, L_X0_step_2 e (fun M_17 => some (0, M_17)) n v M = some (1, M1) ∧ RF e M0 M1 (sStep g l) := by
    intro d
    induction d with
    | zero =>
      intro n v h0 h1 hn
      obtain ⟨n, rfl⟩ : ∃ n', n = n' + 1 := ⟨n - 1, by omega⟩
      have : v = l := by omega
      subst this
      exact c_stepA h he hR hm
    | succ d ih =>
      intro n v h0 h1 hn
      obtain ⟨n, rfl⟩ : ∃ n', n = n' + 1 := ⟨n - 1, by omega⟩
      obtain ⟨M1, a, b⟩ := ih n (v + 1) (by omega) (by omega) (by omega)
      refine ⟨M1, ?_, b⟩
      have z := hm.2.2.2 v h0 (by omega)
      have z2 := (hR.1.1.2.1 v h0 (by omega)).1
      rw [L_X0_step_2, (h.1.2.1 v h0 (by omega)).1]
      exact ie (by omega) (si (by omega) (it (by omega) a))
  exact key l.toNat 20000 0 (by omega) (by omega) (by omega)
theorem c_stepN {e : Nat} {M : fMem} {g : Int → Int} (h : RelE e M g) (hi : InvS g) (hm : noM g) : f_X0_step e M = some (0, M) := by
  have key : ∀ (d n : Nat) (v : Int), 0 ≤ v → v + d = 9 → d < n → L_X0_step_2 e (fun M_17 => some (0, M_17)) n v M = some (0, M) := by
    intro d
    induction d with
    | zero =>
      intro n v h0 h1 hn
      obtain ⟨n, rfl⟩ : ∃ n', n = n' + 1 := ⟨n - 1, by omega⟩
      rw [L_X0_step_2]
      exact it (by omega) rfl
    | succ d ih =>
      intro n v h0 h1 hn
      obtain ⟨n, rfl⟩ : ∃ n', n = n' + 1 := ⟨n - 1, by omega⟩
      have z := hm v h0 (by omega)
      have z2 := (hi.2.1 v h0 (by omega)).1
      rw [L_X0_step_2, (h.2.1 v h0 (by omega)).1]
      exact ie (by omega) (si (by omega) (it (by omega) (ih n (v + 1) (by omega) (by omega) (by omega))))
  exact key 9 20000 0 (by omega) (by omega) (by omega)
theorem c_takeSteps {e : Nat} {M0 M : fMem} {g : Int → Int} {T a : Int} (h : RF e M0 M g) (he : e = 1 ∨ e = 72) (hR : Run g T) (ha : 0 ≤ a ∧ a < 20000) : ∃ M1, f_X0_takeSteps e a M = some ((sTake a.toNat g).1, M1) ∧ RF e M0 M1 (sTake a.toNat g).2 := by
  have key : ∀ (d n : Nat) (M : fMem) (g : Int → Int) (v1 v2 : Int), RF e M0 M g → Run g T → v2 + d = v1 → d < n → ∃ M1, L_X0_takeSteps_2 e (fun v2_5 M_5 => some (v2_5, M_5)) n v1 v2 M = some (v2 + (sTake d g).1, M1) ∧ RF e M0 M1 (sTake d g).2 := by
    intro d
    induction d with
    | zero =>
      intro n M g v1 v2 h hR h1 hn
      obtain ⟨n, rfl⟩ : ∃ n', n = n' + 1 := ⟨n - 1, by omega⟩
      refine ⟨M, ?_, h⟩
      rw [L_X0_takeSteps_2, if_pos (by omega)]
      simp [sTake]
    | succ d ih =>
      intro n M g v1 v2 h hR h1 hn
      obtain ⟨n, rfl⟩ : ∃ n', n = n' + 1 := ⟨n - 1, by omega⟩
      rw [L_X0_takeSteps_2, if_neg (by omega)]
      rcases lowM_or g with hno | ⟨l, hl⟩
      · refine ⟨M, ?_, ?_⟩
        · rw [c_stepN h.1 hR.1.1 hno]
          simp [sTake, low_no hno]
        · simp only [sTake, low_no hno]; exact h
      · obtain ⟨N, b1, b2⟩ := c_step h he hR hl
        obtain ⟨a, -, -⟩ := Run_step (M := fun _ _ => 0) hR hl
        obtain ⟨M1, i1, i2⟩ := ih n N _ v1 (v2 + 1) b2 a (by omega) (by omega)
        refine ⟨M1, ?_, ?_⟩
        · rw [b1]
          refine bs fun x hx => ?_
          subst hx
          rw [if_neg (by simp), i1]
          simp only [sTake, low_of hl]
          rw [show v2 + 1 + (sTake d (sStep g l)).1 = v2 + ((sTake d (sStep g l)).1 + 1) by omega]
        · simp only [sTake, low_of hl]; exact i2
  obtain ⟨M1, b1, b2⟩ := key a.toNat 20000 M g a 0 h hR (by omega) (by omega)
  exact ⟨M1, by unfold f_X0_takeSteps; rw [b1, Int.zero_add], b2⟩
theorem c_makeRoom {e : Nat} {M0 M : fMem} {g : Int → Int} {T : Int} (h : RF e M0 M g) (he : e = 1 ∨ e = 72) (hR : Run g T) : ∃ M1, f_X0_makeRoom e M = some ((sA1 g).1, M1) ∧ RF e M0 M1 (sA1 g).2 := by
  have key : ∀ (d n : Nat) (M : fMem) (g : Int → Int) (v : Int), RF e M0 M g → Run g T → phi g < d → d ≤ n → 0 ≤ v → v + d ≤ 500000 → ∃ M1, L_X0_makeRoom_2 e (fun v1_7 M_7 => some (v1_7, M_7)) n v M = some (v + (sFor d g).1, M1) ∧ RF e M0 M1 (sFor d g).2 := by
    intro d
    induction d with
    | zero =>
      intro n M g v h hR h1
      have := phi_bd hR.1.1
      omega
    | succ d ih =>
      intro n M g v h hR h1 hn h0 hv
      obtain ⟨n, rfl⟩ : ∃ n', n = n' + 1 := ⟨n - 1, by omega⟩
      rw [L_X0_makeRoom_2, if_neg (by omega)]
      by_cases hf : fFr g 0 = -1
      · rcases lowM_or g with hno | ⟨l, hl⟩
        · exact absurd hno (no_dead hR.1 hf)
        · obtain ⟨N, b1, b2⟩ := c_step h he hR hl
          obtain ⟨a, b, -⟩ := Run_step (M := fun _ _ => 0) hR hl
          obtain ⟨M1, i1, i2⟩ := ih n N _ (v + 1) b2 a (by omega) (by omega) (by omega) (by omega)
          refine ⟨M1, ?_, ?_⟩
          · refine bc (c_firstFree h.1 (by omega)) (it hf (bc b1 (ie (by simp) ?_)))
            rw [i1]
            simp only [sFor, if_pos hf, low_of hl]
            rw [show v + 1 + (sFor d (sStep g l)).1 = v + ((sFor d (sStep g l)).1 + 1) by omega]
          · simp only [sFor, if_pos hf, low_of hl]; exact i2
      · refine ⟨M, ?_, ?_⟩
        · refine bc (c_firstFree h.1 (by omega)) (ie hf ?_)
          simp [sFor, if_neg hf]
        · simp only [sFor, if_neg hf]; exact h
  have b := phi_bd hR.1.1
  obtain ⟨M1, b1, b2⟩ := key 300000 2000000 M g 0 h hR (by omega) (by omega) (by omega) (by omega)
  exact ⟨M1, by unfold f_X0_makeRoom; rw [b1, Int.zero_add]; rfl, b2⟩
theorem c_layFirst {e : Nat} {M0 M : fMem} {g : Int → Int} {k v : Int} (h : RF e M0 M g) (he : e = 1 ∨ e = 72) (hi : InvS g) (hf : fFr g 0 ≠ -1) (c2 : rg (g 7738 + 1)) : ∃ M1, f_X0_layFirst e k v M = some M1 ∧ RF e M0 M1 (sLay g (fFr g 0) k v) := by
  have hb := (fFr_bd (g := g) (l := 0) (by omega)).resolve_left hf
  have ff := c_firstFree (l := 0) h.1 (by omega)
  generalize fFr g 0 = r at *
  have hr : 0 ≤ r ∧ r < 19 := by omega
  have hz : g (7600 + r) = 0 := (hi.1 r hr.1 hr.2).2.2.1 hb.2.2.1
  obtain ⟨N1, a1, a2⟩ := c_clear (s := 0) h hr (by omega)
  rw [us_id hb.2.2.1, us_id hz] at a2
  have hrm := rmR_bd r
  obtain ⟨N2, b1, b2, -⟩ := c_append (k := k) (v := v) a2 he hr (by omega)
  rw [hz, Int.add_zero, Int.add_zero, Int.zero_add] at b2
  obtain ⟨N3, d1, d2⟩ := c_shut b2 hr (by rw [us_ne (by omega), us_ne (by omega), us_ne (by omega)]; exact c2)
  refine ⟨N3, ?_, d2⟩
  unfold f_X0_layFirst
  exact bc ff (ie (by omega) (si hr (bc a1 (bc b1 (bc d1 rfl)))))
theorem rf_far {e : Nat} {M0 M : fMem} {g : Int → Int} {x v : Int} (h : RF e M0 M g) (hx : 7747 ≤ x ∨ x = 7740) : RF e M0 M (us g x v) := by
  refine ⟨⟨fun r r0 r1 => ?_, fun l l0 l1 => ?_, ?_⟩, h.2⟩
  · exact rowE_cg ⟨r0, r1⟩ (h.1.1 r r0 r1) ⟨rfl, rfl, rfl⟩ (fun y hy => us_ne (by omega))
  · exact mrgE_cg ⟨l0, l1⟩ (h.1.2.1 l l0 l1) rfl (fun y hy => us_ne (by omega))
  · exact ctrE_cg h.1.2.2 rfl (fun y hy hy2 => us_ne (by omega))
theorem c_act {e : Nat} {M0 M : fMem} {g : Int → Int} {T k v : Int} (h : RF e M0 M g) (he : e = 1 ∨ e = 72) (hR : Run g T) (hb : 0 ≤ g 7739 ∧ g 7739 ≤ 40) (hk : 0 ≤ k ∧ k < 200) (hv : -1 ≤ v ∧ v ≤ 999) (hT0 : 500000 ≤ T) (hT : T + 1000 < 2000000000) : ∃ M1, f_X0_act e k v M = some (sAll3 g k v, M1) ∧ RF e M0 M1 (sAct g k v) := by
  obtain ⟨b1, b2, b3, b4, b5⟩ := sA1_run hR
  obtain ⟨a1, a2, a3, a4⟩ := sA3_run hR hk hv hT
  obtain ⟨c1, c2, c3⟩ := sA2_run hR hk hv hT
  obtain ⟨-, s1, s2, s3, s4⟩ := sAct_run hR hk hv hT0 hT
  have d2 := Run_rg b1 (x := 7738) (by unfold isC; omega)
  obtain ⟨i1, i2, i3, i4, i5⟩ := sLay_inv (k := k) (v := v) b1.1 rfl b2 hk hv d2
  have p1 := phi_bd hR.1.1
  have n := hR.2.1 7741 (by unfold isC; omega)
  have n2 := hR.2.1 7743 (by unfold isC; omega)
  have n3 := hR.2.1 7744 (by unfold isC; omega)
  have u1 := a4 7741 (by unfold isU; omega)
  have u2 := a4 7743 (by unfold isU; omega)
  have u3 := a4 7744 (by unfold isU; omega)
  obtain ⟨N1, f1, f2⟩ := c_makeRoom h he hR
  obtain ⟨N2, g1, g2⟩ := c_layFirst (k := k) (v := v) f2 he b1.1.1 b2 d2
  obtain ⟨N3, h1, h2⟩ := c_askLevels g2 i1
  have h2' : RF e M0 N3 (sA2 g k v) := h2
  have bud : N3 e 2 = g 7739 := by rw [h2'.1.2.2.1, c3 7739 (by unfold isU; omega)]
  obtain ⟨N4, k1, k2⟩ := c_takeSteps (a := g 7739) h2' he c1 (by omega)
  have e3 : sTake (g 7739).toNat (sA2 g k v) = sA3 g k v := by unfold sA3; rw [c3 7739 (by unfold isU; omega)]
  rw [e3] at k1 k2
  have t0 := rf_far (x := 7747 + (sA3 g k v).2 7741 % 40) (v := sAll3 g k v) k2 (by omega)
  have t1 := rf_ctr (i := 4) (x := 7741) (v := (sA3 g k v).2 7741 + 1) t0 (by omega)
  have t2 := rf_ctr (i := 6) (x := 7743) (v := (sA3 g k v).2 7743 + (sA1 g).1) t1 (by omega)
  have t3 := rf_ctr (i := 7) (x := 7744) (v := max ((sA3 g k v).2 7744) (sAll3 g k v)) t2 (by omega)
  refine ⟨_, ?_, t3⟩
  unfold f_X0_act
  refine bc f1 (bc g1 (bc h1 ?_))
  rw [bud]
  refine bc k1 ?_
  dsimp only
  have r4 : N4 e 4 = (sA3 g k v).2 7741 := k2.1.2.2.2.2.1
  have r6 : N4 e 6 = (sA3 g k v).2 7743 := k2.1.2.2.2.2.2.2.1
  have r7 : N4 e 7 = (sA3 g k v).2 7744 := k2.1.2.2.2.2.2.2.2.1
  refine si (by rw [r4]; omega) (bs fun x1 q1 => ?_)
  have z6 : x1 e 6 = (sA3 g k v).2 7743 := by rw [q1, mset_slot (by omega), r6]
  refine si (by rw [z6]; omega) (bs fun x2 q2 => ?_)
  have z7 : x2 e 7 = (sA3 g k v).2 7744 := by rw [q2, mset_slot (by omega), q1, mset_slot (by omega), r7]
  have e4 : (sA1 g).1 + (sA3 g k v).1 = sAll3 g k v := rfl
  refine si (by rw [e4]; omega) (bs fun x3 q3 => ?_)
  rw [q3, z7, q2, z6, q1, r4, e4]
end CLS4
