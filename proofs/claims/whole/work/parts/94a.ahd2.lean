/-! ahead, the call -/
section AHD2
noncomputable def ahV (g : Int → Int) (a : Nat) (w : Int) : Int := if w = 0 then sAh g a 7742 - g 7742 else if w = 1 then sAh g a 7743 - g 7743 else if w = 2 then ahM g a 0 0 else if w = 3 then (ordL (sAh g a)).length else kS (tH (fun κ => hV (sAh g a) κ (ordL (sAh g a)))) 0 200
theorem ahV_bd {g : Int → Int} {T w : Int} (h : Run g T) (hb : 0 ≤ g 7739 ∧ g 7739 ≤ 40) (hT0 : 500000 ≤ T) (hT : T + 70000 < 2000000000) {a : Nat} (ha : a ≤ 64) : rg (ahV g a w) := by
  obtain ⟨a1, b⟩ := sAh_run h hb hT0 a (by omega)
  have q1 := a1.2.1 7742 (by unfold isC; omega)
  have q2 := h.2.1 7742 (by unfold isC; omega)
  have q5 := a1.2.1 7743 (by unfold isC; omega)
  have q6 := h.2.1 7743 (by unfold isC; omega)
  have q3 := phi_bd h.1.1
  have q4 := phi_bd a1.1.1
  have hT2 := h.2.2
  have hv := okV_of a1.1.1
  have b7 := ordL_len hv
  have b6 := kS_bd (f := tH (fun κ => hV (sAh g a) κ (ordL (sAh g a)))) 200 0 (fun j _ _ => tH_bd _ _)
  have b8 := ahM_bd h hb hT0 hT a 0 0 (by omega) (by omega) (by omega)
  unfold ahV rg
  split
  · omega
  · split
    · omega
    · split
      · omega
      · split <;> omega
theorem C_ahead {M : fMem} {n w : Int} {a : Nat} (h : St M n) (hn : n < 600) (ha : a ≤ 64) (hw : 0 ≤ w ∧ w < 5) : Cq (f_X10_ahead a w) M n 0 (ahV (M 419) a w) := by
  have hR := h.2.1.1
  have hT0 : 500000 ≤ TT n := h.2.1.2.1
  have hb := h.2.1.2.2.1
  have hT : TT n + 70000 < 2000000000 := by unfold TT; omega
  obtain ⟨A, a1, a2⟩ := C_copy h
  obtain ⟨g, hg⟩ : ∃ g, g = M 419 := ⟨_, rfl⟩
  rw [← hg] at hR hb a2 ⊢
  obtain ⟨s1, sb⟩ := sAh_run hR hb hT0 a (by omega)
  have q1 := s1.2.1 7742 (by unfold isC; omega)
  have q2 := hR.2.1 7742 (by unfold isC; omega)
  have q5 := s1.2.1 7743 (by unfold isC; omega)
  have q6 := hR.2.1 7743 (by unfold isC; omega)
  have q3 := phi_bd hR.1.1
  have q4 := phi_bd s1.1.1
  have hT2 := hR.2.2
  have hv := okV_of s1.1.1
  obtain ⟨B, b1', b2⟩ := c_ahL (M0 := M) (w := w) (k := fun (v2_9 : Int) (v3_9 : Int) (M_9 : fMem) => (if v2_9 = 0 then (if -2147483648 ≤ (M_9 72 5) - (M_9 1 5) ∧ (M_9 72 5) - (M_9 1 5) < 2147483648 then some (0, (M_9 72 5) - (M_9 1 5), M_9) else none) else (if v2_9 = 1 then (if -2147483648 ≤ (M_9 72 6) - (M_9 1 6) ∧ (M_9 72 6) - (M_9 1 6) < 2147483648 then some (0, (M_9 72 6) - (M_9 1 6), M_9) else none) else (if v2_9 = 2 then some (0, v3_9, M_9) else (if v2_9 = 3 then ((f_X7_arrange 73 M_9).bind fun (r16 : Int × fMem) => some (0, r16.1, r16.2)) else ((f_X10_keysNow 73 M_9).bind fun (r18 : Int × fMem) => some (0, r18.1, r18.2))))))) hR hb hT0 hT ha a 20000 0 0 A (by omega) (by omega) a2
  have pre : ∀ P, (if w = 0 then (if -2147483648 ≤ (B 72 5) - (B 1 5) ∧ (B 72 5) - (B 1 5) < 2147483648 then some ((0 : Int), (B 72 5) - (B 1 5), B) else none) else (if w = 1 then (if -2147483648 ≤ (B 72 6) - (B 1 6) ∧ (B 72 6) - (B 1 6) < 2147483648 then some (0, (B 72 6) - (B 1 6), B) else none) else (if w = 2 then some (0, ahM g a 0 0, B) else (if w = 3 then ((f_X7_arrange 73 B).bind fun (r16 : Int × fMem) => some (0, r16.1, r16.2)) else ((f_X10_keysNow 73 B).bind fun (r18 : Int × fMem) => some (0, r18.1, r18.2)))))) = some P → f_X10_ahead a w M = some P := by
    intro P hP
    unfold f_X10_ahead
    refine bc (c_needWhat _ _ _) ?_
    rw [if_pos hw]
    refine it rfl (bc (c_needActs _ _) ?_)
    rw [if_pos (c := 0 ≤ (a : Int) ∧ (a : Int) ≤ 64) (by omega)]
    exact it rfl (bc a1 (b1'.trans hP))
  have e5 : B 72 5 - B 1 5 = sAh g a 7742 - g 7742 := by
    rw [b2.2 1 (by omega), h.1.1.2.2.2.2.2.1, b2.1.2.2.2.2.2.1, hg]
  have e6 : B 72 6 - B 1 6 = sAh g a 7743 - g 7743 := by
    rw [b2.2 1 (by omega), h.1.1.2.2.2.2.2.2.1, b2.1.2.2.2.2.2.2.1, hg]
  have hS : St B n := St_trial h b2.2
  have hF : ∀ x, 418 ≤ x → B x = M x := fun x hx => b2.2 x (by omega)
  have hRV := RelV_of b2.1 (Or.inr rfl)
  by_cases c0 : w = 0
  · refine ⟨B, pre _ (it c0 (si (by omega) ?_)), hS, hF⟩
    rw [e5]
    unfold ahV
    rw [if_pos c0]
  by_cases c1 : w = 1
  · refine ⟨B, pre _ (ie c0 (it c1 (si (by omega) ?_))), hS, hF⟩
    rw [e6]
    unfold ahV
    rw [if_neg c0, if_pos c1]
  by_cases c2 : w = 2
  · refine ⟨B, pre _ (ie c0 (ie c1 (it c2 ?_))), hS, hF⟩
    unfold ahV
    rw [if_neg c0, if_neg c1, if_pos c2]
  by_cases c3 : w = 3
  · obtain ⟨C, k1, k2, k3⟩ := c_arrange hRV.1 hv
    have e : ahV g a w = (ordL (sAh g a)).length := by unfold ahV; rw [if_neg c0, if_neg c1, if_neg c2, if_pos c3]
    rw [e]
    have fr : ∀ x, x < 72 ∨ (143 ≤ x ∧ x < 232) ∨ 235 ≤ x → C x = M x := fun x hx => by rw [k3.2 x (by omega) (by omega), b2.2 x (by omega)]
    exact ⟨C, pre _ (ie c0 (ie c1 (ie c2 (it c3 (bc k1 rfl))))), St_tr2 h fr, fun x hx => fr x (by omega)⟩
  · obtain ⟨C, k1, k2, k3, k4, k5⟩ := c_read (o := 232) (h := 72 + 1) hRV hv ⟨rfl, rfl⟩ (by omega)
    have e : ahV g a w = kS (tH (fun κ => hV (sAh g a) κ (ordL (sAh g a)))) 0 200 := by unfold ahV; rw [if_neg c0, if_neg c1, if_neg c2, if_neg c3]
    rw [e]
    have fr : ∀ x, x < 72 ∨ (143 ≤ x ∧ x < 232) ∨ 235 ≤ x → C x = M x := fun x hx => by rw [k5 x (by omega) (by omega) (by omega) (by omega) (by omega), b2.2 x (by omega)]
    have ek : kS (tH (C 233)) 0 (199 + 1 - 0 : Int).toNat = kS (tH (fun κ => hV (sAh g a) κ (ordL (sAh g a)))) 0 200 := kS_cg _ _ (fun j j0 j1 => by unfold tH; rw [(k2.1 j (by omega) (by omega)).1])
    have kn : f_X10_keysNow 73 B = some (kS (tH (fun κ => hV (sAh g a) κ (ordL (sAh g a)))) 0 200, C) := by
      unfold f_X10_keysNow
      refine bc k1 (bc (c_keysThere (by omega) (by omega)) ?_)
      show some (kS (tH (C 233)) 0 (199 + 1 - 0 : Int).toNat, C) = _
      rw [ek]
    exact ⟨C, pre _ (ie c0 (ie c1 (ie c2 (ie c3 (bc kn rfl))))), St_tr2 h fr, fun x hx => fr x (by omega)⟩
theorem K_ahead {M : fMem} {n a w : Int} (h : St M n) (hn : n < 600) : thrK2 (f_X10_ahead a w) (f_X11_ahead a w) M n := by
  have hR := h.2.1.1
  have hT0 : 500000 ≤ TT n := h.2.1.2.1
  have hb := h.2.1.2.2.1
  have hT : TT n + 70000 < 2000000000 := by unfold TT; omega
  by_cases hw : 0 ≤ w ∧ w ≤ 4
  · by_cases ha : 0 ≤ a ∧ a ≤ 64
    · obtain ⟨k, rfl⟩ : ∃ k : Nat, a = k := ⟨a.toNat, by omega⟩
      refine thr_join2 (c := 0) (v := ahV (M 419) k w) (C_ahead h hn (by omega) (by omega)) (by omega) (ahV_bd hR hb hT0 hT (by omega)) (fun N hN hx => ?_)
      obtain ⟨r1, r2, r3, r4⟩ := R_0 hN
      have gN : mset N 418 4 0 419 = M 419 := by rw [r3 419 (by omega), hx 419 (by omega) (by omega)]
      obtain ⟨P, hP⟩ : ∃ P, P = mset N 418 4 0 := ⟨_, rfl⟩
      obtain ⟨Q, hQ⟩ : ∃ Q, Q = oset P 420 (fun x => if 0 ≤ x ∧ x < 7787 then P 419 x else P 420 x) := ⟨_, rfl⟩
      have p9 : P 419 = M 419 := by rw [hP, gN]
      have q9 : Q 419 = M 419 := by rw [hQ, os_ne (by omega), p9]
      have q0 : ∀ x, 0 ≤ x → x < 7787 → Q 420 x = M 419 x := fun x x0 x1 => by
        rw [hQ, os, if_pos ⟨x0, x1⟩, p9]
      obtain ⟨g, hg⟩ : ∃ g, g = M 419 := ⟨_, rfl⟩
      rw [← hg] at hR hb q9 q0 p9 ⊢
      have qq : oset Q 419 (sAh g 0) = Q := by
        funext a
        by_cases ha : a = 419
        · subst ha; rw [os, q9]; rfl
        · rw [os_ne ha]
      obtain ⟨s1, sb⟩ := sAh_run hR hb hT0 k (by omega)
      have hv := okV_of s1.1.1
      have z5 := s1.2.1 7743 (by unfold isC; omega)
      have z6 := hR.2.1 7743 (by unfold isC; omega)
      have z3 := phi_bd hR.1.1
      have z4 := phi_bd s1.1.1
      have hT2 := hR.2.2
      obtain ⟨R, hRd⟩ : ∃ R, R = oset Q 419 (sAh g k) := ⟨_, rfl⟩
      have R9 : R 419 = sAh g k := by rw [hRd, os]
      have Rn : ∀ x, x ≠ 419 → R x = Q x := fun x hx => by rw [hRd, os_ne hx]
      have as : f_X11_allShut R = some (((ordL (sAh g k)).length : Int)) := by
        rw [r_allShut, R9, len_lS, lS_ord hv]
      obtain ⟨S, t1, t2, t3⟩ := r_laysKeys (M := R) (by rw [R9]; exact hv)
      rw [R9] at t2
      have th : f_X11_thereMany R = some (kS (tH (fun κ => hV (sAh g k) κ (ordL (sAh g k)))) 0 200, S) := by
        unfold f_X11_thereMany
        refine bc t1 ?_
        rw [r_thereL 200 20000 0 0 (by omega) (by omega) (by omega) (by omega) (by omega), Int.zero_add]
        rw [kS_cg (f := tH (S 422)) (f1 := tH (fun κ => hV (sAh g k) κ (ordL (sAh g k)))) _ _ (fun j j0 j1 => by unfold tH; rw [(t2 j (by omega) (by omega)).2.1])]
      have bk : f_X11_comesBack S = some (oset S 419 g) := e_backTo (fun x x0 x1 => by rw [t3 420 (by omega) (by omega) (by omega), Rn 420 (by omega)]; exact q0 x x0 x1) (fun x hx => by rw [t3 419 (by omega) (by omega) (by omega), R9]; exact sAh_out hR hb hT0 hx k (by omega))
      have fr : ∀ x, x ≠ 420 → x ≠ 422 → x ≠ 423 → x ≠ 424 → oset S 419 g x = P x := by
        intro x h0 h2 h3 h4
        by_cases c : x = 419
        · subst c; rw [os, p9]
        · rw [os_ne c, t3 x h2 h3 h4, Rn x c, hQ, os_ne h0]
      have rr := r_ahL (N := Q) (w := w) (k := fun (v2_18 : Int) (v3_18 : Int) (v4_18 : Int) (M_18 : fMem) => ((f_X11_allShut M_18).bind fun (r19 : Int) => ((f_X11_thereMany M_18).bind fun (r20 : Int × fMem) => ((f_X11_comesBack r20.2).bind fun (r22 : fMem) => (if v2_18 = 0 then some (v3_18, r22) else (if v2_18 = 1 then (if -2147483648 ≤ (M_18 419 7743) - (M_18 420 7743) ∧ (M_18 419 7743) - (M_18 420 7743) < 2147483648 then some ((M_18 419 7743) - (M_18 420 7743), r22) else none) else (if v2_18 = 2 then some (v4_18, r22) else (if v2_18 = 3 then some (r19, r22) else some (r20.1, r22))))))))) hR hb hT0 hT (a := k) (by omega) k 20000 0 0 0 (by omega) (by omega) (by show (0 : Int) = g 7742 - g 7742; omega)
      rw [qq, ← hRd] at rr
      refine ⟨ahV g k w, oset S 419 g, ?_, by rw [fr 418 (by omega) (by omega) (by omega) (by omega), hP, r2], fun _ => rfl, by rw [fr 439 (by omega) (by omega) (by omega) (by omega), hP, r3 439 (by omega)], St_rF hN (rF_tr r4 ⟨fun x h1 h2 h3 => by rw [fr x h2 (by omega) (by omega) (by omega), hP], by rw [fr 418 (by omega) (by omega) (by omega) (by omega), hP], by rw [fr 418 (by omega) (by omega) (by omega) (by omega), hP]⟩) hn⟩
      unfold f_X11_ahead
      refine bs fun x e => ?_
      rw [← hP] at e
      subst e
      refine bc (r_isIn _ _ _ _) ?_
      rw [if_pos hw]
      refine bc (r_right1 (by rw [hP, r2])) (ie (by simp) (bc (r_isIn _ _ _ _) ?_))
      rw [if_pos ha]
      refine bc (r_right1 (by show x 418 4 = 0; rw [hP, r2])) (ie (by simp) (bc (e_goesA _) ?_))
      show L_X11_ahead_48 _ 20000 k w 0 0 0 (oset x 420 (fun y => if 0 ≤ y ∧ y < 7787 then x 419 y else x 420 y)) = _
      rw [← hQ]
      refine rr.trans (bc as (bc th (bc bk ?_)))
      have e7 : R 419 7743 - R 420 7743 = sAh g k 7743 - g 7743 := by rw [R9, Rn 420 (by omega), q0 7743 (by omega) (by omega)]
      by_cases c0 : w = 0
      · refine it c0 ?_
        unfold ahV
        rw [if_pos c0]
      by_cases c1 : w = 1
      · refine ie c0 (it c1 (si (by rw [e7]; omega) ?_))
        rw [e7]
        unfold ahV
        rw [if_neg c0, if_pos c1]
      by_cases c2 : w = 2
      · refine ie c0 (ie c1 (it c2 ?_))
        unfold ahV
        rw [if_neg c0, if_neg c1, if_pos c2]
      by_cases c3 : w = 3
      · refine ie c0 (ie c1 (ie c2 (it c3 ?_)))
        unfold ahV
        rw [if_neg c0, if_neg c1, if_neg c2, if_pos c3]
      · refine ie c0 (ie c1 (ie c2 (ie c3 ?_)))
        unfold ahV
        rw [if_neg c0, if_neg c1, if_neg c2, if_neg c3]
    · refine thr_join2 (c := 2) (v := 0) ⟨M, ?_, h, fun _ _ => rfl⟩ (by omega) ⟨by omega, by omega⟩ (fun N hN hx => R_no hN hn ?_ (by omega))
      · unfold f_X10_ahead
        refine bc (c_needWhat _ _ _) ?_
        rw [if_pos (c := 0 ≤ w ∧ w < 5) (by omega)]
        refine it rfl (bc (c_needActs _ _) ?_)
        rw [if_neg ha]
        exact ie (by omega) rfl
      · obtain ⟨r1, r2, r3, r4⟩ := R_0 hN
        unfold f_X11_ahead
        refine bs fun x e => ?_
        subst e
        refine bc (r_isIn _ _ _ _) ?_
        rw [if_pos hw]
        refine bc (r_right1 r2) (ie (by simp) (bc (r_isIn _ _ _ _) ?_))
        rw [if_neg ha]
        exact bc (r_right0 r2 (by omega)) (it rfl rfl)
  · refine thr_join2 (c := 1) (v := 0) ⟨M, ?_, h, fun _ _ => rfl⟩ (by omega) ⟨by omega, by omega⟩ (fun N hN hx => R_no hN hn ?_ (by omega))
    · unfold f_X10_ahead
      refine bc (c_needWhat _ _ _) ?_
      rw [if_neg (c := 0 ≤ w ∧ w < 5) (by omega)]
      exact ie (by omega) rfl
    · obtain ⟨r1, r2, r3, r4⟩ := R_0 hN
      unfold f_X11_ahead
      refine bs fun x e => ?_
      subst e
      refine bc (r_isIn _ _ _ _) ?_
      rw [if_neg hw]
      exact bc (r_right0 r2 (by omega)) (it rfl rfl)
end AHD2
