/-! an act of the reference: it runs -/
section RUN5
theorem InvS_cg {g g1 : Int → Int} (h : InvS g) (e : ∀ x, x < 7720 ∨ x = 7738 → g1 x = g x) (hr : ∀ x, rg (g1 x)) : InvS g1 := by
  obtain ⟨hR, hM, hO, hI, h8, -⟩ := h
  have ag : agK g g1 := fun i a b => e i (by omega)
  refine ⟨?_, ?_, ⟨?_, ?_⟩, ⟨?_, ?_⟩, by rw [shM_ag ag (by omega)]; exact h8, hr⟩
  · intro r r0 r1
    have hrm := rmR_bd r
    have hmn := (hR r r0 r1).2.1
    exact okR_cg (e _ (by omega)) (e _ (by omega)) (fun j j0 j1 => ⟨e _ (by omega), e _ (by omega)⟩) (hR r r0 r1)
  · intro k k0 k1
    refine okM_cg (e _ (by omega)) (e _ (by omega)) (e _ (by omega)) (e _ (by omega)) (e _ (by omega)) (e _ (by omega)) (e _ (by omega)) (fun hm q hq => ?_) (hM k k0 k1)
    obtain ⟨c1, c2, c3, c4, c5, c6, c7, -⟩ := (hM k k0 k1).2.2 hm
    have hlk := lst_bd k
    have hlk2 := lst_bd (nxt k)
    have hnk := nxt_cs k
    have hq2 : 0 ≤ q ∧ q < 19 := by omega
    have hrm := rmR_bd q
    have hmn := (hR q hq2.1 hq2.2).2.1
    exact ⟨e _ (by omega), e _ (by omega), fun j j0 j1 => e _ (by omega)⟩
  · intro r r0 r1 hr
    rw [e _ (by omega)] at hr
    rw [e (7638 + r) (by omega), e 7738 (by omega)]; exact hO.1 r r0 r1 hr
  · intro r q r0 r1 q0 q1 hn hr hq
    rw [e _ (by omega)] at hr hq
    rw [e (7638 + r) (by omega), e (7638 + q) (by omega)]
    exact hO.2 r q r0 r1 q0 q1 hn hr hq
  · intro l k l0 l1 k0 k1 hn hl hk
    rw [e _ (by omega)] at hl hk
    rw [e (7675 + l) (by omega), e (7675 + k) (by omega)]
    exact hI.1 l k l0 l1 k0 k1 hn hl hk
  · intro r r0 r1 hr
    rw [e _ (by omega)] at hr
    obtain ⟨l, l0, l1, a, b⟩ := hI.2 r r0 r1 hr
    exact ⟨l, l0, l1, by rw [e _ (by omega)]; exact a, by rw [e _ (by omega)]; exact b⟩
theorem Inv_cg {g g1 : Int → Int} (h : Inv g) (e : ∀ x, x < 7720 ∨ x = 7738 → g1 x = g x) (hr : ∀ x, rg (g1 x)) : Inv g1 := by
  have ag : agK g g1 := fun i a b => e i (by omega)
  refine ⟨InvS_cg h.1 e hr, fun l l0 l1 h2 => ?_⟩
  rw [shM_ag ag ⟨l0, l1⟩] at h2
  rcases h.2 l l0 l1 h2 with z | ⟨z1, z2⟩
  · left; rw [e _ (by omega)]; exact z
  · right; exact ⟨z1, by rw [fFr_ag ag ⟨by omega, by omega⟩]; exact z2⟩
theorem phi_cg {g g1 : Int → Int} (h : InvS g) (e : ∀ x, x < 7720 ∨ x = 7738 → g1 x = g x) : phi g1 = phi g := by
  have ck : ∀ k', 0 ≤ k' → k' ≤ 7 → cL g1 k' = cL g k' := fun k' k0 k1 => cL_cg (e _ (by omega)) (e _ (by omega)) (e _ (by omega)) (e _ (by omega)) (e _ (by omega))
  have c8 : phi8 g1 = phi8 g := by
    unfold phi8
    rw [e 7665 (by omega)]
    split
    · rename_i hm
      obtain ⟨hy, he, -⟩ := mrg_rows (l := 8) (by omega) h hm
      unfold left
      rw [e (7684 + 8) (by omega), e (7693 + 8) (by omega), e (7702 + 8) (by omega), e (7711 + 8) (by omega), e _ (by omega), e _ (by omega)]
    · rfl
  unfold phi
  rw [ck 0 (by omega) (by omega), ck 1 (by omega) (by omega), ck 2 (by omega) (by omega), ck 3 (by omega) (by omega), ck 4 (by omega) (by omega), ck 5 (by omega) (by omega), ck 6 (by omega) (by omega), ck 7 (by omega) (by omega), c8]
theorem sA1_run {g : Int → Int} {T : Int} (h : Run g T) : Run (sA1 g).2 T ∧ fFr (sA1 g).2 0 ≠ -1 ∧ 0 ≤ (sA1 g).1 ∧ phi (sA1 g).2 + (sA1 g).1 ≤ phi g ∧ ∀ x, isU x → (sA1 g).2 x = g x := by
  have b := phi_bd h.1.1
  obtain ⟨-, a1, a2, a3, a4⟩ := acts_loop (M := fun _ _ => 0) (k := fun _ _ _ _ => none) 300000 300000 g 0 0 0 h (by omega) (by omega) (by omega) (by omega)
  exact ⟨a1, a2, a3, a4, fun x hx => sFor_con hx _ g h⟩
theorem sA2_run {g : Int → Int} {T k v : Int} (h : Run g T) (hk : 0 ≤ k ∧ k < 200) (hv : -1 ≤ v ∧ v ≤ 999) (hT : T + 1000 < 2000000000) : Run (sA2 g k v) (T + 409) ∧ phi (sA2 g k v) = phi (sA1 g).2 + 408 ∧ ∀ x, isU x → sA2 g k v x = g x := by
  obtain ⟨a1, a2, a3, a4, a5⟩ := sA1_run h
  have b := phi_bd a1.1.1
  have c2 := Run_rg a1 (x := 7738) (by unfold isC; omega)
  obtain ⟨i1, i2, i3, i4, i5⟩ := sLay_inv (k := k) (v := v) a1.1 rfl a2 hk hv c2
  obtain ⟨w1, w2, w3, w4, w5, w6, w7⟩ := sLay_v (g := (sA1 g).2) (k := k) (v := v) i4
  unfold sA2
  obtain ⟨j1, j2⟩ := sAll_inv 9 _ (by omega) i1 (fun k k0 k1 => by omega) (fun _ z => Or.inl (i3 z))
  have p : phi (sAll (sLay (sA1 g).2 (fFr (sA1 g).2 0) k v) 9) = phi (sA1 g).2 + 408 := by
    rcases phi_all i1 with z | ⟨-, z1, z2⟩
    · rw [z, i2]
    · exact absurd (i3 z2) z1
  refine ⟨⟨j1, fun x hx => ?_, by omega⟩, p, fun x hx => ?_⟩
  · have hx2 := hx
    unfold isC at hx2
    rw [j2.1 x (by omega), p]
    have c := a1.2.1 x hx
    by_cases q : x = 7738
    · subst q; omega
    · rw [w7 x (by omega) (by omega) (by omega) (by omega) (by omega) q]; omega
  · have hx2 := hx
    unfold isU at hx2
    rw [j2.1 x (by omega), w7 x (by omega) (by omega) (by omega) (by omega) (by omega) (by omega)]
    exact a5 x hx
theorem sA3_run {g : Int → Int} {T k v : Int} (h : Run g T) (hk : 0 ≤ k ∧ k < 200) (hv : -1 ≤ v ∧ v ≤ 999) (hT : T + 1000 < 2000000000) : Run (sA3 g k v).2 (T + 409) ∧ 0 ≤ (sA3 g k v).1 ∧ phi (sA3 g k v).2 + (sA3 g k v).1 ≤ phi (sA1 g).2 + 408 ∧ ∀ x, isU x → (sA3 g k v).2 x = g x := by
  obtain ⟨a1, a2, a3⟩ := sA2_run h hk hv hT
  obtain ⟨b1, b2, b3, b4⟩ := sTake_run (sA2 g k v 7739).toNat _ a1
  exact ⟨b1, b2, by rw [← a2]; exact b4, fun x hx => by unfold sA3; rw [sTake_con hx _ _ a1, a3 x hx]⟩
theorem sAct_v {g : Int → Int} {T k v : Int} (h : Run g T) (hk : 0 ≤ k ∧ k < 200) (hv : -1 ≤ v ∧ v ≤ 999) (hT : T + 1000 < 2000000000) : sAct g k v (7747 + g 7741 % 40) = sAll3 g k v ∧ sAct g k v 7741 = g 7741 + 1 ∧ sAct g k v 7743 = g 7743 + (sA1 g).1 ∧ sAct g k v 7744 = max (g 7744) (sAll3 g k v) ∧ ∀ x, x ≠ 7747 + g 7741 % 40 → x ≠ 7741 → x ≠ 7743 → x ≠ 7744 → sAct g k v x = (sA3 g k v).2 x := by
  obtain ⟨a1, a2, a3, a4⟩ := sA3_run h hk hv hT
  have u1 := a4 7741 (by unfold isU; omega)
  have u2 := a4 7743 (by unfold isU; omega)
  have u3 := a4 7744 (by unfold isU; omega)
  unfold sAct
  rw [u1, u2, u3]
  refine ⟨?_, ?_, ?_, ?_, fun x x1 x2 x3 x4 => ?_⟩
  · rw [us_ne (by omega), us_ne (by omega), us_ne (by omega), us_eq]
  · rw [us_ne (by omega), us_ne (by omega), us_eq]
  · rw [us_ne (by omega), us_eq]
  · rw [us_eq]
  · rw [us_ne x4, us_ne x3, us_ne x2, us_ne x1]
theorem sAct_run {g : Int → Int} {T k v : Int} (h : Run g T) (hk : 0 ≤ k ∧ k < 200) (hv : -1 ≤ v ∧ v ≤ 999) (hT0 : 500000 ≤ T) (hT : T + 1000 < 2000000000) : Run (sAct g k v) (T + 1000) ∧ 0 ≤ sAll3 g k v ∧ sAll3 g k v ≤ 205812 ∧ 0 ≤ (sA1 g).1 ∧ (sA1 g).1 ≤ 205404 := by
  obtain ⟨b1, b2, b3, b4, b5⟩ := sA1_run h
  obtain ⟨a1, a2, a3, a4⟩ := sA3_run h hk hv hT
  obtain ⟨v1, v2, v3, v4, v5⟩ := sAct_v h hk hv hT
  have p1 := phi_bd h.1.1
  have p2 := phi_bd b1.1.1
  have p3 := phi_bd a1.1.1
  have n := h.2.1 7741 (by unfold isC; omega)
  have n2 := h.2.1 7743 (by unfold isC; omega)
  have n3 := h.2.1 7744 (by unfold isC; omega)
  have hs : 0 ≤ sAll3 g k v ∧ sAll3 g k v ≤ 205812 := by unfold sAll3; omega
  have e : ∀ x, x < 7720 ∨ x = 7738 → sAct g k v x = (sA3 g k v).2 x := fun x hx => v5 x (by omega) (by omega) (by omega) (by omega)
  have hrg : ∀ x, rg (sAct g k v x) := by
    intro x
    by_cases q1 : x = 7747 + g 7741 % 40
    · subst q1; rw [v1]; unfold rg; omega
    by_cases q2 : x = 7741
    · subst q2; rw [v2]; unfold rg; omega
    by_cases q3 : x = 7743
    · subst q3; rw [v3]; unfold rg; omega
    by_cases q4 : x = 7744
    · subst q4; rw [v4]; unfold rg; omega
    rw [v5 x q1 q2 q3 q4]; exact a1.1.1.2.2.2.2.2 x
  have p := phi_cg a1.1.1 e
  refine ⟨⟨Inv_cg a1.1 e hrg, fun x hx => ?_, by omega⟩, hs.1, hs.2, b3, by omega⟩
  rw [p]
  have hx2 := hx
  unfold isC at hx2
  by_cases q2 : x = 7741
  · subst q2; rw [v2]; omega
  by_cases q3 : x = 7743
  · subst q3; rw [v3]; omega
  by_cases q4 : x = 7744
  · subst q4; rw [v4]; omega
  rw [v5 x (by omega) q2 q3 q4]
  have := a1.2.1 x hx
  omega
theorem e_acts {M : fMem} {g : Int → Int} {T k v : Int} (h : Run g T) (hb : 0 ≤ g 7739 ∧ g 7739 ≤ 40) (hk : 0 ≤ k ∧ k < 200) (hv : -1 ≤ v ∧ v ≤ 999) (hT0 : 500000 ≤ T) (hT : T + 1000 < 2000000000) : f_X11_acts k v (oset M 419 g) = some (sAll3 g k v, oset M 419 (sAct g k v)) := by
  obtain ⟨b1, b2, b3, b4, b5⟩ := sA1_run h
  obtain ⟨a1, a2, a3, a4⟩ := sA3_run h hk hv hT
  obtain ⟨c1, c2, c3⟩ := sA2_run h hk hv hT
  obtain ⟨-, s1, s2, s3, s4⟩ := sAct_run h hk hv hT0 hT
  have p1 := phi_bd h.1.1
  have n := h.2.1 7741 (by unfold isC; omega)
  have n2 := h.2.1 7743 (by unfold isC; omega)
  have n3 := h.2.1 7744 (by unfold isC; omega)
  have d2 := Run_rg b1 (x := 7738) (by unfold isC; omega)
  obtain ⟨i1, i2, i3, i4, i5⟩ := sLay_inv (k := k) (v := v) b1.1 rfl b2 hk hv d2
  unfold f_X11_acts
  have lp := (acts_loop (M := M) (k := fun v1_7 v2_7 v3_7 M_7 => j_X11_acts_24 v1_7 v2_7 v3_7 M_7) 300000 2000000 g k v 0 h (by omega) (by omega) (by omega) (by omega)).1
  rw [lp]
  rw [show (sFor 300000 g) = sA1 g from rfl, Int.zero_add]
  unfold j_X11_acts_24
  refine bc (e_firstFree (by omega)) ?_
  have e1 : sA2 g k v = sAll (sLay (sA1 g).2 (fFr (sA1 g).2 0) k v) 9 := rfl
  generalize hr : fFr (sA1 g).2 0 = r at *
  refine si (by omega) (bm fun g1 q1 => ?_)
  refine si (by omega) (bm fun g2 q2 => ?_)
  refine si (by omega) (bm fun g3 q3 => ?_)
  have z1 : g3 7738 = (sA1 g).2 7738 := by rw [q3, us_ne (by omega), q2, us_ne (by omega), q1, us_ne (by omega)]
  refine bc (e_shuts ⟨by omega, by omega⟩ (by rw [z1]; exact d2)) ?_
  have e2 : sShut g3 r = sLay (sA1 g).2 r k v := by unfold sLay; rw [q3, q2, q1]
  rw [e2]
  refine bc e_asksAll ?_
  rw [← e1]
  simp only [os]
  refine bc (e_takes c1 (by rw [c3 7739 (by unfold isU; omega)]; omega)) ?_
  have e3 : sTake (sA2 g k v 7739).toNat (sA2 g k v) = sA3 g k v := rfl
  rw [e3]
  have u1 := a4 7741 (by unfold isU; omega)
  have u2 := a4 7743 (by unfold isU; omega)
  have u3 := a4 7744 (by unfold isU; omega)
  simp only [os]
  have e4 : (sA1 g).1 + (sA3 g k v).1 = sAll3 g k v := rfl
  rw [e4]
  refine si (by omega) (si (by omega) (si (by omega) (bm fun g4 q4 => ?_)))
  have w1 : g4 7741 = (sA3 g k v).2 7741 := by rw [q4, us_ne (by omega)]
  simp only [os]
  rw [w1]
  refine si (by omega) (bm fun g5 q5 => ?_)
  have w2 : g5 7743 = (sA3 g k v).2 7743 := by rw [q5, us_ne (by omega), q4, us_ne (by omega)]
  simp only [os]
  rw [w2]
  refine si (by omega) (bm fun g6 q6 => ?_)
  have w3 : g6 7744 = (sA3 g k v).2 7744 := by rw [q6, us_ne (by omega), q5, us_ne (by omega), q4, us_ne (by omega)]
  simp only [os]
  rw [w3]
  by_cases hm : sAll3 g k v ≤ (sA3 g k v).2 7744
  · refine it hm (bm fun g7 q7 => ?_)
    rw [q7, q6, q5, q4]
    unfold sAct
    rw [Int.max_eq_left hm]
  · refine ie hm (bm fun g7 q7 => ?_)
    rw [q7, q6, q5, q4]
    unfold sAct
    rw [Int.max_eq_right (by omega)]
end RUN5
