/-! waste, trace, toll, thing -/
section CAL5
theorem R_there {N : fMem} {n : Int} (h : St N n) : ∃ N1, f_X11_thereMany N = some (kS (tH (fun κ => hV (N 419) κ (ordL (N 419)))) 0 200, N1) ∧ keyR N1 (N 419) (ordL (N 419)) ∧ rF N N1 ∧ N1 418 4 = N 418 4 ∧ N1 439 = N 439 ∧ N1 419 = N 419 := by
  obtain ⟨N1, b1, b2, b3, b4, b5, b6⟩ := R_keys h
  refine ⟨N1, ?_, b2, b3, b4, b5, b6⟩
  unfold f_X11_thereMany
  refine bc b1 ?_
  rw [r_thereL 200 20000 0 0 (by omega) (by omega) (by omega) (by omega) (by omega), Int.zero_add]
  rw [kS_cg (f := tH (N1 422)) (f1 := tH (fun κ => hV (N 419) κ (ordL (N 419)))) _ _ (fun j j0 j1 => by unfold tH; rw [(b2 j (by omega) (by omega)).2.1])]
theorem hT_all {g : Int → Int} (hv : okV g) : hT g (ordL g) = kS (wR g (fun r => g (7600 + r))) 0 19 := by rw [hT_lS, lS_ord hv]
theorem hT_b {g : Int → Int} (hv : okV g) : 0 ≤ hT g (ordL g) ∧ hT g (ordL g) ≤ 3600 := by
  have := hT_bd (g := g) (ordL g) (fun r hr => by
    have hq := ordL_mem hv r hr
    have := (hv.1 r hq.1.1 hq.1.2 hq.2).2.1
    have := rmR_bd r
    omega)
  have := ordL_len hv
  omega
theorem R_allT {N : fMem} {n : Int} (h : St N n) : f_X11_allThings N = some (hT (N 419) (ordL (N 419))) := by
  obtain ⟨-, hv⟩ := C_rel h
  rw [hT_all hv]
  refine r_allThings (fun r r0 r1 hr => ?_)
  have := (hv.1 r r0 r1 hr).2.1
  have := rmR_bd r
  omega
theorem K_waste {M : fMem} {n a : Int} (h : St M n) (hn : n < 600) : thrK (f_X10_waste a) (f_X11_waste a) M n := by
  by_cases ha : 0 ≤ a ∧ a < 3
  · obtain ⟨-, hv⟩ := C_rel h
    obtain ⟨M1, a1, a2, a3, a4⟩ := C_read h
    generalize hg : M 419 = g at *
    have e1 : kS (tC (M1 234)) 0 200 = kS (tC (fun κ => hC g κ (ordL g))) 0 200 := kS_cg _ _ (fun j j0 j1 => by unfold tC; rw [(a4.1 j (by omega) (by omega)).2])
    have e2 : kS (tL (M1 233) (M1 234)) 0 200 = kS (tL (fun κ => hV g κ (ordL g)) (fun κ => hC g κ (ordL g))) 0 200 := kS_cg _ _ (fun j j0 j1 => by unfold tL; rw [(a4.1 j (by omega) (by omega)).1, (a4.1 j (by omega) (by omega)).2])
    have e3 : kS (tH (M1 233)) 0 (199 + 1 - 0 : Int).toNat = kS (tH (fun κ => hV g κ (ordL g))) 0 200 := kS_cg _ _ (fun j j0 j1 => by unfold tH; rw [(a4.1 j (by omega) (by omega)).1])
    have b1 := kS_bd (f := tC (fun κ => hC g κ (ordL g))) 200 0 (fun j _ _ => by unfold tC; split <;> omega)
    have b2 := kS_bd (f := tL (fun κ => hV g κ (ordL g)) (fun κ => hC g κ (ordL g))) 200 0 (fun j _ _ => by unfold tL; split <;> omega)
    have b3 := kS_bd (f := tH (fun κ => hV g κ (ordL g))) 200 0 (fun j _ _ => tH_bd _ _)
    have bt := hT_b hv
    have m2 : M1 232 2 = hT g (ordL g) := a4.2
    generalize hv1 : kS (tC (fun κ => hC g κ (ordL g))) 0 200 = v1 at *
    generalize hv2 : kS (tL (fun κ => hV g κ (ordL g)) (fun κ => hC g κ (ordL g))) 0 200 = v2 at *
    generalize hv3 : kS (tH (fun κ => hV g κ (ordL g))) 0 200 = v3 at *
    refine thr_join (c := 0) (v := if a = 0 then hT g (ordL g) - v1 else if a = 1 then v2 else hT g (ordL g) - v3) ⟨M1, ?_, a2, a3⟩ (by omega) (by unfold rg; repeat' split; all_goals omega) (fun N hN hx => ?_)
    · unfold f_X10_waste
      refine bc (c_needWhat _ _ _) ?_
      rw [if_pos ha]
      refine it rfl (bc a1 ?_)
      by_cases q0 : a = 0
      · rw [if_pos (c := a = 0) (t := hT g (ordL g) - v1) q0]
        refine it q0 (bc c_heldKeys ?_)
        show (if -2147483648 ≤ M1 232 2 - kS (tC (M1 234)) 0 200 ∧ M1 232 2 - kS (tC (M1 234)) 0 200 < 2147483648 then some (0, M1 232 2 - kS (tC (M1 234)) 0 200, M1) else none) = _
        rw [e1, m2]
        exact si (by omega) rfl
      · rw [if_neg (c := a = 0) (t := hT g (ordL g) - v1) q0]
        refine ie q0 ?_
        by_cases q1 : a = 1
        · rw [if_pos (c := a = 1) (t := v2) q1]
          refine it q1 (bc c_loneSigns ?_)
          show some (0, kS (tL (M1 233) (M1 234)) 0 200, M1) = _
          rw [e2]
        · rw [if_neg (c := a = 1) (t := v2) q1]
          refine ie q1 (bc (c_keysThere (by omega) (by omega)) ?_)
          show (if -2147483648 ≤ M1 232 2 - kS (tH (M1 233)) 0 (199 + 1 - 0 : Int).toNat ∧ M1 232 2 - kS (tH (M1 233)) 0 (199 + 1 - 0 : Int).toNat < 2147483648 then some (0, M1 232 2 - kS (tH (M1 233)) 0 (199 + 1 - 0 : Int).toNat, M1) else none) = _
          rw [e3, m2]
          exact si (by omega) rfl
    · obtain ⟨r1, r2, r3, r4⟩ := R_0 hN
      obtain ⟨N1, c1, c2, c3, c4, c5, c6⟩ := R_there r1
      have gN : mset N 418 4 0 419 = g := by rw [r3 419 (by omega), hx 419 (by omega) (by omega), hg]
      rw [gN] at c1 c2 c6
      have sN := St_rF r1 c3 hn
      have at' := R_allT sN
      rw [c6] at at'
      have f1 : kS (tC (N1 424)) 0 200 = v1 := by rw [← hv1]; exact kS_cg _ _ (fun j j0 j1 => by unfold tC; rw [(c2 j (by omega) (by omega)).2.2])
      have f2 : kS (tL (N1 422) (N1 424)) 0 200 = v2 := by rw [← hv2]; exact kS_cg _ _ (fun j j0 j1 => by unfold tL; rw [(c2 j (by omega) (by omega)).2.2, (c2 j (by omega) (by omega)).2.1])
      refine ⟨_, N1, ?_, by rw [c4, r2], fun _ => rfl, by rw [c5, r3 439 (by omega)], St_rF hN (rF_tr r4 c3) hn⟩
      unfold f_X11_waste
      refine bs fun x e => ?_
      subst e
      refine bc (r_isIn _ _ _ _) ?_
      rw [if_pos (by omega)]
      refine bc (r_right1 r2) (ie (by simp) (bc c1 ?_))
      rw [hv3, r_wasteL 200 20000 0 0 0 (by omega) (by omega) (by omega) (by omega) (by omega) (by omega) (by omega), f1, f2, Int.zero_add, Int.zero_add]
      by_cases q0 : a = 0
      · rw [if_pos (c := a = 0) (t := hT g (ordL g) - v1) q0]
        exact it q0 (bc at' (si (by omega) rfl))
      · rw [if_neg (c := a = 0) (t := hT g (ordL g) - v1) q0]
        refine ie q0 ?_
        by_cases q1 : a = 1
        · rw [if_pos (c := a = 1) (t := v2) q1]
          exact it q1 rfl
        · rw [if_neg (c := a = 1) (t := v2) q1]
          exact ie q1 (bc at' (si (by omega) rfl))
  · refine thr_join (c := 1) (v := 0) ⟨M, ?_, h, fun _ _ => rfl⟩ (by omega) ⟨by omega, by omega⟩ (fun N hN hx => R_no hN hn ?_ (by omega))
    · unfold f_X10_waste
      refine bc (c_needWhat _ _ _) ?_
      rw [if_neg ha]
      exact ie (by omega) rfl
    · obtain ⟨r1, r2, r3, r4⟩ := R_0 hN
      unfold f_X11_waste
      refine bs fun x e => ?_
      subst e
      refine bc (r_isIn _ _ _ _) ?_
      rw [if_neg (by omega)]
      exact bc (r_right0 r2 (by omega)) (it rfl rfl)
theorem r_levelOf {r : Int} {M : fMem} (hr : 0 ≤ r ∧ r < 19) : f_X11_levelOf r M = some (LO r) := by
  unfold f_X11_levelOf LO
  refine si hr.1 (si (by omega) ?_)
  by_cases c : 16 ≤ r
  · rw [if_pos c, if_pos (by omega)]
  · rw [if_neg c, if_neg (by omega)]
theorem LO_bd {r : Int} (hr : 0 ≤ r ∧ r < 19) : 0 ≤ LO r ∧ LO r ≤ 8 ∧ 0 ≤ r - 2 * LO r ∧ r - 2 * LO r ≤ 2 := by unfold LO; split <;> omega
theorem K_trace {M : fMem} {n κ a : Int} (h : St M n) (hn : n < 600) : thrK (f_X10_trace κ a) (f_X11_trace κ a) M n := by
  by_cases hk : 0 ≤ κ ∧ κ < 200
  · by_cases ha : 0 ≤ a ∧ a < 3
    · obtain ⟨M1, a1, a2, a3, a4⟩ := C_arr h
      obtain ⟨hR, hv⟩ := C_rel a2
      rw [a3 419 (by omega)] at hR hv
      generalize hg : M 419 = g at *
      have hl := ordL_len hv
      have rw1 : f_X7_rowsWith 2 κ M1 = some (hC g κ (ordL g)) := by
        unfold f_X7_rowsWith
        rw [c_rowsWith hR hv hk (ordL g) 20000 0 0 (ordL_mem hv) a4 (by omega) (by omega) (by omega) (by omega) (by omega), Int.zero_add]
      have fw := c_firstWith hR hv hk (ordL g) 20000 0 (ordL_mem hv) a4 (by omega) (by omega) (by omega)
      have fw' : f_X7_firstWith 2 κ M1 = some (hF g κ (ordL g)) := fw
      have hcb := hC_bd g κ (ordL g)
      have hfm : hF g κ (ordL g) = -1 ∨ (0 ≤ hF g κ (ordL g) ∧ hF g κ (ordL g) < 19) := by
        rcases hF_cs (g := g) (κ := κ) (ordL g) with ⟨z, -⟩ | ⟨z, -⟩
        · exact Or.inl z
        · exact Or.inr (ordL_mem hv _ z).1
      generalize hq : hF g κ (ordL g) = q at *
      have hrgv : rg (if a = 0 then hC g κ (ordL g) else if q = -1 then -1 else if a = 1 then LO q else q - 2 * LO q) := by
        unfold rg
        by_cases z : q = -1
        · repeat' split
          all_goals omega
        · have := LO_bd (hfm.resolve_left z)
          repeat' split
          all_goals omega
      refine thr_join (c := 0) (v := if a = 0 then hC g κ (ordL g) else if q = -1 then -1 else if a = 1 then LO q else q - 2 * LO q) ⟨M1, ?_, a2, a3⟩ (by omega) hrgv (fun N hN hx => ?_)
      · unfold f_X10_trace
        refine bc (c_needKey _ _) ?_
        rw [if_pos hk]
        refine it rfl (bc (c_needWhat _ _ _) ?_)
        rw [if_pos ha]
        refine it rfl (bc a1 ?_)
        by_cases q0 : a = 0
        · rw [if_pos (c := a = 0) (t := hC g κ (ordL g)) q0]
          exact it q0 (bc rw1 rfl)
        · rw [if_neg (c := a = 0) (t := hC g κ (ordL g)) q0]
          refine ie q0 (bc fw' ?_)
          by_cases z : q = -1
          · rw [if_pos (c := q = -1) (t := (-1 : Int)) z]; exact it z rfl
          · rw [if_neg (c := q = -1) (t := (-1 : Int)) z]
            refine ie z ?_
            have hb := hfm.resolve_left z
            by_cases q1 : a = 1
            · rw [if_pos (c := a = 1) (t := LO q) q1]
              exact it q1 (si hb rfl)
            · rw [if_neg (c := a = 1) (t := LO q) q1]
              refine ie q1 (bc (FR_LO hb) ?_)
              rfl
      · obtain ⟨r1, r2, r3, r4⟩ := R_0 hN
        obtain ⟨N1, b1, b2, b3, b4, b5, b6⟩ := R_keys r1
        rw [r3 419 (by omega), hx 419 (by omega) (by omega), hg] at b2
        obtain ⟨k1, k2, k3⟩ := b2 κ hk.1 hk.2
        rw [hq] at k1
        refine ⟨_, N1, ?_, by rw [b4, r2], fun _ => rfl, by rw [b5, r3 439 (by omega)], St_rF hN (rF_tr r4 b3) hn⟩
        unfold f_X11_trace
        refine bs fun x e => ?_
        subst e
        refine bc (r_isKey _ _) ?_
        rw [if_pos hk]
        refine ie (by omega) (bc (r_isIn _ _ _ _) ?_)
        rw [if_pos (c := 0 ≤ a ∧ a ≤ 2) (by omega)]
        refine ie (by omega) ?_
        unfold j_X11_trace_27
        refine si (by omega) (bc (r_right1 r2) (ie (by simp) (bc b1 ?_)))
        rw [k3, k1]
        by_cases q0 : a = 0
        · rw [if_pos (c := a = 0) (t := hC g κ (ordL g)) q0]
          exact it q0 (si hk rfl)
        · rw [if_neg (c := a = 0) (t := hC g κ (ordL g)) q0]
          refine ie q0 (si hk ?_)
          by_cases z : q = -1
          · rw [if_pos (c := q = -1) (t := (-1 : Int)) z]; exact it z rfl
          · rw [if_neg (c := q = -1) (t := (-1 : Int)) z]
            have hb := hfm.resolve_left z
            have lb := LO_bd hb
            refine ie z ?_
            by_cases q1 : a = 1
            · rw [if_pos (c := a = 1) (t := LO q) q1]
              exact it q1 (bc (r_levelOf hb) rfl)
            · rw [if_neg (c := a = 1) (t := LO q) q1]
              exact ie q1 (bc (r_levelOf hb) (si (by omega) rfl))
    · refine thr_join (c := 1) (v := 0) ⟨M, ?_, h, fun _ _ => rfl⟩ (by omega) ⟨by omega, by omega⟩ (fun N hN hx => R_no hN hn ?_ (by omega))
      · unfold f_X10_trace
        refine bc (c_needKey _ _) ?_
        rw [if_pos hk]
        refine it rfl (bc (c_needWhat _ _ _) ?_)
        rw [if_neg ha]
        exact ie (by omega) rfl
      · obtain ⟨r1, r2, r3, r4⟩ := R_0 hN
        unfold f_X11_trace
        refine bs fun x e => ?_
        subst e
        refine bc (r_isKey _ _) ?_
        rw [if_pos hk]
        refine ie (by omega) (bc (r_isIn _ _ _ _) ?_)
        rw [if_neg (c := 0 ≤ a ∧ a ≤ 2) (by omega)]
        refine it rfl ?_
        unfold j_X11_trace_26 j_X11_trace_27
        exact si (by omega) (bc (r_right0 r2 (by omega)) (it rfl rfl))
  · refine thr_join (c := 1) (v := 0) ⟨M, ?_, h, fun _ _ => rfl⟩ (by omega) ⟨by omega, by omega⟩ (fun N hN hx => R_no hN hn ?_ (by omega))
    · unfold f_X10_trace
      refine bc (c_needKey _ _) ?_
      rw [if_neg hk]
      exact ie (by omega) rfl
    · obtain ⟨r1, r2, r3, r4⟩ := R_0 hN
      unfold f_X11_trace
      refine bs fun x e => ?_
      subst e
      refine bc (r_isKey _ _) ?_
      rw [if_neg hk]
      refine it rfl ?_
      unfold j_X11_trace_26 j_X11_trace_27
      exact si (by omega) (bc (r_right0 r2 (by omega)) (it rfl rfl))
theorem K_toll {M : fMem} {n a : Int} (h : St M n) (hn : n < 600) : thrK (f_X10_toll a) (f_X11_toll a) M n := by
  obtain ⟨t1, t2, t3⟩ := h.1.2.2.2.1
  have hR := h.2.1.1
  have p := phi_bd hR.1.1
  have cn := hR.2.1 7741 (by unfold isC; omega)
  have hrg := hR.1.1.2.2.2.2.2
  have hT := hR.2.2
  by_cases ha : 0 ≤ a ∧ a ≤ 39 ∧ a < M 419 7741
  · refine thr_join (c := 0) (v := M 419 (7747 + (M 419 7741 - 1 - a) % 40)) ⟨M, ?_, h, fun _ _ => rfl⟩ (by omega) (hrg _) (fun N hN hx => ?_)
    · unfold f_X10_toll f_X9_stepsOf
      rw [t1, t2]
      refine ie (by omega) (it (by omega) ?_)
      rw [if_neg (by omega), if_neg (by omega), if_pos (by omega), if_pos (by omega)]
      have := t3 ((M 419 7741 - 1 - a) % 40) (by omega) (by omega)
      rw [show ((M 419 7741 - 1 - a) % 40 + 1) % 40 = (M 419 7741 % 40 + 40 - a) % 40 by omega] at this
      rw [this]; rfl
    · obtain ⟨r1, r2, r3, r4⟩ := R_0 hN
      have gN : mset N 418 4 0 419 = M 419 := by rw [r3 419 (by omega), hx 419 (by omega) (by omega)]
      refine ⟨_, mset N 418 4 0, ?_, r2, fun _ => rfl, r3 439 (by omega), St_rF hN r4 hn⟩
      unfold f_X11_toll
      refine bs fun x e => ?_
      subst e
      refine bc (r_isIn _ _ _ _) ?_
      rw [if_pos (c := 0 ≤ a ∧ a ≤ 39) (by omega), gN]
      refine ie (by omega) (ie (by omega) ?_)
      unfold j_X11_toll_33
      refine si (by omega) (bc (r_right1 r2) (ie (by simp) ?_))
      refine si (by show 0 ≤ mset N 418 4 0 419 7741 - 1 - a ∧ mset N 418 4 0 419 7741 - 1 - a < 2147483648; rw [gN]; omega) (si (by show 0 ≤ 7747 + (mset N 418 4 0 419 7741 - 1 - a) % 40 ∧ 7747 + (mset N 418 4 0 419 7741 - 1 - a) % 40 < 7787; rw [gN]; omega) ?_)
      show some (mset N 418 4 0 419 (7747 + (mset N 418 4 0 419 7741 - 1 - a) % 40), mset N 418 4 0) = _
      rw [gN]
  · refine thr_join (c := 1) (v := 0) ⟨M, ?_, h, fun _ _ => rfl⟩ (by omega) ⟨by omega, by omega⟩ (fun N hN hx => R_no hN hn ?_ (by omega))
    · unfold f_X10_toll
      rw [t2]
      by_cases c : a < 0
      · exact it c rfl
      · exact ie c (ie (by omega) rfl)
    · obtain ⟨r1, r2, r3, r4⟩ := R_0 hN
      have gN : mset N 418 4 0 419 = M 419 := by rw [r3 419 (by omega), hx 419 (by omega) (by omega)]
      unfold f_X11_toll
      refine bs fun x e => ?_
      subst e
      refine bc (r_isIn _ _ _ _) ?_
      have no : j_X11_toll_32 a (mset N 418 4 0) = some (0, mset (mset N 418 4 0) 418 4 1) := by
        unfold j_X11_toll_32 j_X11_toll_33
        exact si (by omega) (bc (r_right0 r2 (by omega)) (it rfl rfl))
      rw [gN]
      by_cases c : 0 ≤ a ∧ a ≤ 39
      · rw [if_pos c]; exact ie (by omega) (it (by omega) no)
      · rw [if_neg c]; exact it rfl no
/-- a row that there is -/
def rowOK (l r : Int) : Prop := (0 ≤ l ∧ l ≤ 8) ∧ 0 ≤ r ∧ 2 * l + r < ER l
theorem c_needRow (l r : Int) (M : fMem) : (rowOK l r → f_X10_needRow l r M = some 0) ∧ (¬ rowOK l r → f_X10_needRow l r M = some 1) := by
  have hlv : f_X10_needLevel l M = some (if 0 ≤ l ∧ l < 9 then 0 else 1) := by
    unfold f_X10_needLevel
    by_cases c : l < 0
    · rw [if_pos c, if_neg (by omega)]
    · rw [if_neg c]
      by_cases c2 : l < 9
      · rw [if_pos c2, if_pos (by omega)]
      · rw [if_neg c2, if_neg (by omega)]
  have hFR : FR l = 2 * l := rfl
  unfold rowOK f_X10_needRow
  rw [hlv, hFR]
  refine ⟨fun h => ?_, fun h => ?_⟩
  · have hE : ER l ≤ 2 * l + 3 := by unfold ER; split <;> omega
    rw [if_pos (by omega)]
    exact bs fun x e => by subst e; exact it rfl (ie (by omega) (si (by omega) (si (by omega) (it (by omega) rfl))))
  · by_cases c : 0 ≤ l ∧ l < 9
    · have hE : ER l ≤ 2 * l + 3 := by unfold ER; split <;> omega
      have hE2 : 2 * l ≤ ER l := by unfold ER; split <;> omega
      rw [if_pos c]
      refine bs fun x e => ?_
      subst e
      refine it rfl ?_
      by_cases c2 : r < 0
      · exact it c2 rfl
      · exact ie c2 (si (by omega) (si (by omega) (ie (by omega) rfl)))
    · rw [if_neg c]
      exact bs fun x e => by subst e; exact ie (by omega) rfl
theorem r_isRow (l r : Int) (M : fMem) : (rowOK l r → f_X11_isRow l r M = some 1) ∧ (¬ rowOK l r → f_X11_isRow l r M = some 0) := by
  have e1 : f_X11_isLevel l M = some (if 0 ≤ l ∧ l ≤ 8 then 1 else 0) := by
    unfold f_X11_isLevel
    exact bc (r_isIn _ _ _ _) rfl
  have hR : (if l = 8 then (3 : Int) else 2) = 3 ∧ l = 8 ∨ (if l = 8 then (3 : Int) else 2) = 2 ∧ l ≠ 8 := by split <;> omega
  have er : ER l = if l = 8 then 19 else 2 * l + 2 := rfl
  have hE : (l = 8 ∧ ER l = 19) ∨ (l ≠ 8 ∧ ER l = 2 * l + 2) := by rw [er]; split <;> omega
  unfold rowOK f_X11_isRow
  rw [e1]
  have e2 := e_rowsOf l M
  generalize (if l = 8 then (3 : Int) else 2) = R at *
  refine ⟨fun h => ?_, fun h => ?_⟩
  · rw [if_pos h.1]
    refine bs fun x e => ?_
    subst e
    refine ie (by omega) (bc e2 (si (by omega) (bc (r_isIn _ _ _ _) ?_)))
    rw [if_pos (c := 0 ≤ r ∧ r ≤ R - 1) (by omega)]
    exact ie (by omega) rfl
  · by_cases c : 0 ≤ l ∧ l ≤ 8
    · rw [if_pos c]
      refine bs fun x e => ?_
      subst e
      refine ie (by omega) (bc e2 (si (by omega) (bc (r_isIn _ _ _ _) ?_)))
      rw [if_neg (c := 0 ≤ r ∧ r ≤ R - 1) (by omega)]
      exact it rfl rfl
    · rw [if_neg c]
      refine bs fun x e => ?_
      subst e
      exact it rfl rfl
theorem c_at {l r : Int} {M : fMem} (h : rowOK l r) : f_X10_at l r M = some (2 * l + r) := by
  have hE : ER l ≤ 2 * l + 3 := by have := h.1; unfold ER; split <;> omega
  have := h.2
  unfold f_X10_at FR
  exact si (by have := h.1; omega) (si (by have := h.1; omega) rfl)
theorem K_thing {M : fMem} {n l r i a : Int} (h : St M n) (hn : n < 600) : thrK (f_X10_thing l r i a) (f_X11_thing l r i a) M n := by
  have hre := h.1.1
  have hI := h.2.1.1.1.1
  have hrg := hI.2.2.2.2.2
  by_cases hr : rowOK l r
  · have hE : ER l ≤ 19 := by have := hr.1; unfold ER; split <;> omega
    have h19 : 0 ≤ 2 * l + r ∧ 2 * l + r < 19 := by have := hr.1; have := hr.2; omega
    have hrow := hre.1 (2 * l + r) h19.1 h19.2
    have hrm := rmR_bd (2 * l + r)
    have rk : rowK (3 * (2 * l + r).toNat + 5) M (M 419) (2 * l + r) := by
      have := hrow
      rw [show 1 + 3 * (2 * l + r).toNat + 4 = 3 * (2 * l + r).toNat + 5 by omega] at this
      have ln := Ln_E (e := 1) (Or.inl rfl) h19
      rw [show 1 + 3 * (2 * l + r).toNat + 4 = 3 * (2 * l + r).toNat + 5 by omega] at ln
      exact ⟨this.2.1, this.2.2.2.2.1, ln, this.2.2.2.2.2⟩
    have sz := rk.2.1
    have refuse : ¬ ((0 ≤ i ∧ i < M 419 (7600 + (2 * l + r))) ∧ (0 ≤ a ∧ a < 2)) → thrK (f_X10_thing l r i a) (f_X11_thing l r i a) M n := by
      intro hno
      refine thr_join (c := 1) (v := 0) ⟨M, ?_, h, fun _ _ => rfl⟩ (by omega) ⟨by omega, by omega⟩ (fun N hN hx => R_no hN hn ?_ (by omega))
      · unfold f_X10_thing
        refine bc ((c_needRow l r M).1 hr) (it rfl (bc (c_needWhat _ _ _) ?_))
        by_cases ha : 0 ≤ a ∧ a < 2
        · rw [if_pos ha]
          refine it rfl (bc (c_at hr) (si h19 ?_))
          rw [rk.1]
          by_cases c : i < 0
          · exact it c rfl
          · exact ie c (ie (by omega) rfl)
        · rw [if_neg ha]; exact ie (by omega) rfl
      · obtain ⟨r1, r2, r3, r4⟩ := R_0 hN
        have gN : mset N 418 4 0 419 = M 419 := by rw [r3 419 (by omega), hx 419 (by omega) (by omega)]
        have no : j_X11_thing_52 l r i a (mset N 418 4 0) = some (0, mset (mset N 418 4 0) 418 4 1) := by
          unfold j_X11_thing_52 j_X11_thing_53
          exact si (by omega) (bc (r_right0 r2 (by omega)) (it rfl rfl))
        unfold f_X11_thing
        refine bs fun x e => ?_
        subst e
        refine bc ((r_isRow l r _).1 hr) (ie (by omega) (bc (e_rowAt _ hr.1 (by have := hr.2; have : ER l ≤ 2 * l + 3 := (by have := hr.1; unfold ER; split <;> omega); omega)) (si (by omega) ?_)))
        rw [gN]
        refine si (by omega) (bc (r_isIn _ _ _ _) ?_)
        by_cases c : 0 ≤ i ∧ i ≤ M 419 (7600 + (2 * l + r)) - 1
        · rw [if_pos c]
          refine ie (by omega) (bc (r_isIn _ _ _ _) ?_)
          rw [if_neg (c := 0 ≤ a ∧ a ≤ 1) (by omega)]
          exact it rfl no
        · rw [if_neg c]; exact it rfl no
    by_cases hok : (0 ≤ i ∧ i < M 419 (7600 + (2 * l + r))) ∧ (0 ≤ a ∧ a < 2)
    · refine thr_join (c := 0) (v := if a = 0 then M 419 (200 * (2 * l + r) + i) else M 419 (3800 + 200 * (2 * l + r) + i)) ⟨M, ?_, h, fun _ _ => rfl⟩ (by omega) (by split <;> exact hrg _) (fun N hN hx => ?_)
      · unfold f_X10_thing
        refine bc ((c_needRow l r M).1 hr) (it rfl (bc (c_needWhat _ _ _) ?_))
        rw [if_pos hok.2]
        refine it rfl (bc (c_at hr) (si h19 (ie (by omega) (it (by rw [rk.1]; omega) ?_))))
        by_cases q : a = 0
        · rw [if_pos (c := a = 0) (t := M 419 (200 * (2 * l + r) + i)) q]
          refine it q (bc (k_keyAt rk hok.1.1) ?_)
          rw [if_neg (by omega)]
        · rw [if_neg (c := a = 0) (t := M 419 (200 * (2 * l + r) + i)) q]
          exact ie q (bc (k_valueAt rk hok.1) rfl)
      · obtain ⟨r1, r2, r3, r4⟩ := R_0 hN
        have gN : mset N 418 4 0 419 = M 419 := by rw [r3 419 (by omega), hx 419 (by omega) (by omega)]
        have ra := e_rowAt (l := l) (r := r) (mset N 418 4 0) hr.1 (by have := hr.2; have : ER l ≤ 2 * l + 3 := (by have := hr.1; unfold ER; split <;> omega); omega)
        refine ⟨_, mset N 418 4 0, ?_, r2, fun _ => rfl, r3 439 (by omega), St_rF hN r4 hn⟩
        unfold f_X11_thing
        refine bs fun x e => ?_
        subst e
        refine bc ((r_isRow l r _).1 hr) (ie (by omega) (bc ra (si (by omega) ?_)))
        rw [gN]
        refine si (by omega) (bc (r_isIn _ _ _ _) ?_)
        rw [if_pos (c := 0 ≤ i ∧ i ≤ M 419 (7600 + (2 * l + r)) - 1) (by omega)]
        refine ie (by omega) (bc (r_isIn _ _ _ _) ?_)
        rw [if_pos (c := 0 ≤ a ∧ a ≤ 1) (by omega)]
        refine ie (by omega) ?_
        unfold j_X11_thing_53
        refine si (by omega) (bc (r_right1 r2) (ie (by simp) ?_))
        have ky := r_keyAt (M := mset N 418 4 0) (r := 2 * l + r) (j := i) h19 (by omega)
        have vy := r_valueAt (M := mset N 418 4 0) (r := 2 * l + r) (j := i) h19 (by omega)
        rw [gN] at ky vy
        by_cases q : a = 0
        · rw [if_pos (c := a = 0) (t := M 419 (200 * (2 * l + r) + i)) q]
          exact it q (bc ra (bc ky rfl))
        · rw [if_neg (c := a = 0) (t := M 419 (200 * (2 * l + r) + i)) q]
          exact ie q (bc ra (bc vy rfl))
    · exact refuse hok
  · refine thr_join (c := 1) (v := 0) ⟨M, ?_, h, fun _ _ => rfl⟩ (by omega) ⟨by omega, by omega⟩ (fun N hN hx => R_no hN hn ?_ (by omega))
    · unfold f_X10_thing
      exact bc ((c_needRow l r M).2 hr) (ie (by omega) rfl)
    · obtain ⟨r1, r2, r3, r4⟩ := R_0 hN
      unfold f_X11_thing
      refine bs fun x e => ?_
      subst e
      refine bc ((r_isRow l r _).2 hr) (it rfl ?_)
      unfold j_X11_thing_52 j_X11_thing_53
      exact si (by omega) (bc (r_right0 r2 (by omega)) (it rfl rfl))
end CAL5
