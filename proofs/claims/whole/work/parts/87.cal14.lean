/-! count -/
section CAL14
noncomputable def cnV (g : Int → Int) (tn a : Int) : Int := if a = 6 then kS (tH (fun κ => hV g κ (ordL g))) 0 200 else if a = 7 then (ordL g).length else if a = 8 then hT g (ordL g) else if a = 9 then dp g 9 else if a = 10 then g 7739 else if a = 11 then g 7740 else if a = 12 then mgS g 9 else if a = 13 then tn else if a = 14 then mxL g 0 0 0 200 else if a = 15 then mxL g 1 0 0 200 else g (7741 + a)
theorem C_keysNow {M : fMem} {n : Int} (h : St M n) : ∃ M1, f_X10_keysNow 2 M = some (kS (tH (fun κ => hV (M 419) κ (ordL (M 419)))) 0 200, M1) ∧ St M1 n ∧ ∀ x, 418 ≤ x → M1 x = M x := by
  obtain ⟨M1, a1, a2, a3, a4⟩ := C_read h
  refine ⟨M1, ?_, a2, a3⟩
  have e : kS (tH (M1 233)) 0 (199 + 1 - 0 : Int).toNat = kS (tH (fun κ => hV (M 419) κ (ordL (M 419)))) 0 200 := kS_cg _ _ (fun j j0 j1 => by unfold tH; rw [(a4.1 j (by omega) (by omega)).1])
  unfold f_X10_keysNow
  refine bc a1 (bc (c_keysThere (by omega) (by omega)) ?_)
  show some (kS (tH (M1 233)) 0 (199 + 1 - 0 : Int).toNat, M1) = _
  rw [e]
theorem K_count {M : fMem} {n a : Int} (h : St M n) (hn : n < 600) : thrK (f_X10_count a) (f_X11_count a) M n := by
  obtain ⟨hR, hv⟩ := C_rel h
  have hst := h.2.1.2.2.2.1
  have hI := h.2.1.1.1.1
  have hrg := hI.2.2.2.2.2
  by_cases ha : 0 ≤ a ∧ a < 16
  · obtain ⟨e2, e3, e4, e5, e6, e7, e8, e9⟩ := h.1.1.2.2
    have t0 : M 145 1 = M 418 3 := h.1.2.2.1.1
    have tb := h.2.1.2.2.2.2.1
    have b6 := kS_bd (f := tH (fun κ => hV (M 419) κ (ordL (M 419)))) 200 0 (fun j _ _ => tH_bd _ _)
    have b7 := ordL_len hv
    have b8 := hT_b hv
    have b9 := dp_bd (g := M 419) 9
    have b12 := mgS_bd hI 9 (by omega)
    have b14 := mxL_bd (a := 0) hv hst 200 0 0 (by omega) (by omega)
    have b15 := mxL_bd (a := 1) hv hst 200 0 0 (by omega) (by omega)
    have rgv : rg (cnV (M 419) (M 418 3) a) := by
      have q1 := hrg (7741 + a)
      have q2 := hrg 7739
      unfold cnV
      unfold rg at *
      repeat' split
      all_goals omega
    have cl : ∃ M1, f_X10_count a M = some (0, cnV (M 419) (M 418 3) a, M1) ∧ St M1 n ∧ ∀ x, 418 ≤ x → M1 x = M x := by
      have pre : ∀ P, (if a = 0 then some (0, M 1 4, M) else (if a = 1 then some (0, M 1 5, M) else (if a = 2 then some (0, M 1 6, M) else (if a = 3 then some (0, M 1 7, M) else (if a = 4 then some (0, M 1 8, M) else (if a = 5 then some (0, M 1 9, M) else (if a = 6 then ((f_X10_keysNow 2 M).bind fun (r9 : Int × fMem) => some (0, r9.1, r9.2)) else (if a = 7 then ((f_X7_arrange 2 M).bind fun (r12 : Int × fMem) => some (0, r12.1, r12.2)) else (if a = 8 then ((f_X7_things 2 M).bind fun (r15 : Int) => some (0, r15, M)) else (if a = 9 then ((f_X7_deepest 2 M).bind fun (r17 : Int) => some (0, r17, M)) else (if a = 10 then some (0, M 1 2, M) else (if a = 11 then some (0, M 0 10, M) else (if a = 12 then ((f_X0_merging 1 M).bind fun (r21 : Int) => some (0, r21, M)) else (if a = 13 then some (0, M 145 1, M) else (if a = 14 then ((f_X10_mostLooks 0 M).bind fun (r24 : Int × fMem) => some (0, r24.1, r24.2)) else ((f_X10_mostLooks 1 M).bind fun (r26 : Int × fMem) => some (0, r26.1, r26.2))))))))))))))))) = P → f_X10_count a M = P := by
        intro P hP
        unfold f_X10_count
        refine bc (c_needWhat _ _ _) ?_
        rw [if_pos ha]
        exact it rfl hP
      have z : ∀ (w : Int) (M1 : fMem), f_X10_count a M = some (0, w, M1) → cnV (M 419) (M 418 3) a = w → St M1 n → (∀ x, 418 ≤ x → M1 x = M x) → ∃ M1, f_X10_count a M = some (0, cnV (M 419) (M 418 3) a, M1) ∧ St M1 n ∧ ∀ x, 418 ≤ x → M1 x = M x := fun w M1 a1 a2 a3 a4 => ⟨M1, by rw [a2]; exact a1, a3, a4⟩
      by_cases c0 : a = 0
      · exact z (M 419 7741) M (pre _ (it c0 (by rw [e4]))) (by unfold cnV; rw [if_neg (c := a = 6) (by omega), if_neg (c := a = 7) (by omega), if_neg (c := a = 8) (by omega), if_neg (c := a = 9) (by omega), if_neg (c := a = 10) (by omega), if_neg (c := a = 11) (by omega), if_neg (c := a = 12) (by omega), if_neg (c := a = 13) (by omega), if_neg (c := a = 14) (by omega), if_neg (c := a = 15) (by omega), show 7741 + a = 7741 by omega]) h (fun _ _ => rfl)
      by_cases c1 : a = 1
      · exact z (M 419 7742) M (pre _ (ie c0 (it c1 (by rw [e5])))) (by unfold cnV; rw [if_neg (c := a = 6) (by omega), if_neg (c := a = 7) (by omega), if_neg (c := a = 8) (by omega), if_neg (c := a = 9) (by omega), if_neg (c := a = 10) (by omega), if_neg (c := a = 11) (by omega), if_neg (c := a = 12) (by omega), if_neg (c := a = 13) (by omega), if_neg (c := a = 14) (by omega), if_neg (c := a = 15) (by omega), show 7741 + a = 7742 by omega]) h (fun _ _ => rfl)
      by_cases c2 : a = 2
      · exact z (M 419 7743) M (pre _ (ie c0 (ie c1 (it c2 (by rw [e6]))))) (by unfold cnV; rw [if_neg (c := a = 6) (by omega), if_neg (c := a = 7) (by omega), if_neg (c := a = 8) (by omega), if_neg (c := a = 9) (by omega), if_neg (c := a = 10) (by omega), if_neg (c := a = 11) (by omega), if_neg (c := a = 12) (by omega), if_neg (c := a = 13) (by omega), if_neg (c := a = 14) (by omega), if_neg (c := a = 15) (by omega), show 7741 + a = 7743 by omega]) h (fun _ _ => rfl)
      by_cases c3 : a = 3
      · exact z (M 419 7744) M (pre _ (ie c0 (ie c1 (ie c2 (it c3 (by rw [e7])))))) (by unfold cnV; rw [if_neg (c := a = 6) (by omega), if_neg (c := a = 7) (by omega), if_neg (c := a = 8) (by omega), if_neg (c := a = 9) (by omega), if_neg (c := a = 10) (by omega), if_neg (c := a = 11) (by omega), if_neg (c := a = 12) (by omega), if_neg (c := a = 13) (by omega), if_neg (c := a = 14) (by omega), if_neg (c := a = 15) (by omega), show 7741 + a = 7744 by omega]) h (fun _ _ => rfl)
      by_cases c4 : a = 4
      · exact z (M 419 7745) M (pre _ (ie c0 (ie c1 (ie c2 (ie c3 (it c4 (by rw [e8]))))))) (by unfold cnV; rw [if_neg (c := a = 6) (by omega), if_neg (c := a = 7) (by omega), if_neg (c := a = 8) (by omega), if_neg (c := a = 9) (by omega), if_neg (c := a = 10) (by omega), if_neg (c := a = 11) (by omega), if_neg (c := a = 12) (by omega), if_neg (c := a = 13) (by omega), if_neg (c := a = 14) (by omega), if_neg (c := a = 15) (by omega), show 7741 + a = 7745 by omega]) h (fun _ _ => rfl)
      by_cases c5 : a = 5
      · exact z (M 419 7746) M (pre _ (ie c0 (ie c1 (ie c2 (ie c3 (ie c4 (it c5 (by rw [e9])))))))) (by unfold cnV; rw [if_neg (c := a = 6) (by omega), if_neg (c := a = 7) (by omega), if_neg (c := a = 8) (by omega), if_neg (c := a = 9) (by omega), if_neg (c := a = 10) (by omega), if_neg (c := a = 11) (by omega), if_neg (c := a = 12) (by omega), if_neg (c := a = 13) (by omega), if_neg (c := a = 14) (by omega), if_neg (c := a = 15) (by omega), show 7741 + a = 7746 by omega]) h (fun _ _ => rfl)
      by_cases c6 : a = 6
      · obtain ⟨M1, k1, k2, k3⟩ := C_keysNow h
        exact z (kS (tH (fun κ => hV (M 419) κ (ordL (M 419)))) 0 200) M1 (pre _ (ie c0 (ie c1 (ie c2 (ie c3 (ie c4 (ie c5 (it c6 (bc k1 rfl))))))))) (by unfold cnV; rw [if_pos c6]) k2 k3
      by_cases c7 : a = 7
      · obtain ⟨M1, k1, k2, k3, -⟩ := C_arr h
        exact z ((ordL (M 419)).length : Int) M1 (pre _ (ie c0 (ie c1 (ie c2 (ie c3 (ie c4 (ie c5 (ie c6 (it c7 (bc k1 rfl)))))))))) (by unfold cnV; rw [if_neg c6, if_pos c7]) k2 k3
      by_cases c8 : a = 8
      · exact z (hT (M 419) (ordL (M 419))) M (pre _ (ie c0 (ie c1 (ie c2 (ie c3 (ie c4 (ie c5 (ie c6 (ie c7 (it c8 (bc (c_things hR hv) rfl))))))))))) (by unfold cnV; rw [if_neg c6, if_neg c7, if_pos c8]) h (fun _ _ => rfl)
      by_cases c9 : a = 9
      · exact z (dp (M 419) 9) M (pre _ (ie c0 (ie c1 (ie c2 (ie c3 (ie c4 (ie c5 (ie c6 (ie c7 (ie c8 (it c9 (bc (c_deepest hR.1) rfl)))))))))))) (by unfold cnV; rw [if_neg c6, if_neg c7, if_neg c8, if_pos c9]) h (fun _ _ => rfl)
      by_cases c10 : a = 10
      · exact z (M 419 7739) M (pre _ (ie c0 (ie c1 (ie c2 (ie c3 (ie c4 (ie c5 (ie c6 (ie c7 (ie c8 (ie c9 (it c10 (by rw [e2]))))))))))))) (by unfold cnV; rw [if_neg c6, if_neg c7, if_neg c8, if_neg c9, if_pos c10]) h (fun _ _ => rfl)
      by_cases c11 : a = 11
      · exact z (M 419 7740) M (pre _ (ie c0 (ie c1 (ie c2 (ie c3 (ie c4 (ie c5 (ie c6 (ie c7 (ie c8 (ie c9 (ie c10 (it c11 (by rw [h.1.2.1])))))))))))))) (by unfold cnV; rw [if_neg c6, if_neg c7, if_neg c8, if_neg c9, if_neg c10, if_pos c11]) h (fun _ _ => rfl)
      by_cases c12 : a = 12
      · exact z (mgS (M 419) 9) M (pre _ (ie c0 (ie c1 (ie c2 (ie c3 (ie c4 (ie c5 (ie c6 (ie c7 (ie c8 (ie c9 (ie c10 (ie c11 (it c12 (bc (c_merging h.1.1 hI) rfl))))))))))))))) (by unfold cnV; rw [if_neg c6, if_neg c7, if_neg c8, if_neg c9, if_neg c10, if_neg c11, if_pos c12]) h (fun _ _ => rfl)
      by_cases c13 : a = 13
      · exact z (M 418 3) M (pre _ (ie c0 (ie c1 (ie c2 (ie c3 (ie c4 (ie c5 (ie c6 (ie c7 (ie c8 (ie c9 (ie c10 (ie c11 (ie c12 (it c13 (by rw [t0])))))))))))))))) (by unfold cnV; rw [if_neg c6, if_neg c7, if_neg c8, if_neg c9, if_neg c10, if_neg c11, if_neg c12, if_pos c13]) h (fun _ _ => rfl)
      by_cases c14 : a = 14
      · obtain ⟨M1, k1, k2, k3⟩ := C_most h (a := 0) (Or.inl rfl)
        exact z (mxL (M 419) 0 0 0 200) M1 (pre _ (ie c0 (ie c1 (ie c2 (ie c3 (ie c4 (ie c5 (ie c6 (ie c7 (ie c8 (ie c9 (ie c10 (ie c11 (ie c12 (ie c13 (it c14 (bc k1 rfl))))))))))))))))) (by unfold cnV; rw [if_neg c6, if_neg c7, if_neg c8, if_neg c9, if_neg c10, if_neg c11, if_neg c12, if_neg c13, if_pos c14]) k2 k3
      have c15 : a = 15 := by omega
      obtain ⟨M1, k1, k2, k3⟩ := C_most h (a := 1) (Or.inr rfl)
      exact z (mxL (M 419) 1 0 0 200) M1 (pre _ (ie c0 (ie c1 (ie c2 (ie c3 (ie c4 (ie c5 (ie c6 (ie c7 (ie c8 (ie c9 (ie c10 (ie c11 (ie c12 (ie c13 (ie c14 (bc k1 rfl))))))))))))))))) (by unfold cnV; rw [if_neg c6, if_neg c7, if_neg c8, if_neg c9, if_neg c10, if_neg c11, if_neg c12, if_neg c13, if_neg c14, if_pos c15]) k2 k3
    obtain ⟨M1, k1, k2, k3⟩ := cl
    refine thr_join (c := 0) (v := cnV (M 419) (M 418 3) a) ⟨M1, k1, k2, k3⟩ (by omega) rgv (fun N hN hx => ?_)
    obtain ⟨r1, r2, r3, r4⟩ := R_0 hN
    have gN : mset N 418 4 0 419 = M 419 := by rw [r3 419 (by omega), hx 419 (by omega) (by omega)]
    have tN : mset N 418 4 0 418 3 = M 418 3 := by rw [mset_slot (by omega), hx 418 (by omega) (by omega)]
    have rf0 : rF (mset N 418 4 0) (mset N 418 4 0) := ⟨fun _ _ _ _ => rfl, rfl, rfl⟩
    have z : ∀ {w K}, f_X11_count a N = some (w, K) → w = cnV (M 419) (M 418 3) a → rF (mset N 418 4 0) K → K 418 4 = 0 → K 439 = N 439 → Rq (f_X11_count a) N n 0 (cnV (M 419) (M 418 3) a) := fun a1 a2 a3 a4 a5 => ⟨_, _, a1, a4, fun _ => a2, a5, St_rF hN (rF_tr r4 a3) hn⟩
    have pre : ∀ P, (if a = 6 then ((f_X11_thereMany (mset N 418 4 0)).bind fun (r7 : Int × fMem) => some (r7.1, r7.2)) else (if a = 7 then ((f_X11_allShut (mset N 418 4 0)).bind fun (r10 : Int) => some (r10, mset N 418 4 0)) else (if a = 8 then ((f_X11_allThings (mset N 418 4 0)).bind fun (r12 : Int) => some (r12, mset N 418 4 0)) else (if a = 9 then ((f_X11_deepest (mset N 418 4 0)).bind fun (r14 : Int) => some (r14, mset N 418 4 0)) else (if a = 10 then some ((mset N 418 4 0) 419 7739, mset N 418 4 0) else (if a = 11 then some ((mset N 418 4 0) 419 7740, mset N 418 4 0) else (if a = 12 then ((f_X11_mergingMany (mset N 418 4 0)).bind fun (r18 : Int) => some (r18, mset N 418 4 0)) else (if a = 13 then some ((mset N 418 4 0) 418 3, mset N 418 4 0) else (if a = 14 then ((f_X11_mostLooks 0 (mset N 418 4 0)).bind fun (r21 : Int × fMem) => some (r21.1, r21.2)) else (if a = 15 then ((f_X11_mostLooks 1 (mset N 418 4 0)).bind fun (r24 : Int × fMem) => some (r24.1, r24.2)) else (if 0 ≤ 7741 + a ∧ 7741 + a < 7787 then some ((mset N 418 4 0) 419 (7741 + a), mset N 418 4 0) else none))))))))))) = P → f_X11_count a N = P := by
      intro P hP
      unfold f_X11_count
      refine bs fun x e => ?_
      subst e
      refine bc (r_isIn _ _ _ _) ?_
      rw [if_pos (c := 0 ≤ a ∧ a ≤ 15) (by omega)]
      exact bc (r_right1 r2) (ie (by simp) hP)
    by_cases c6 : a = 6
    · obtain ⟨N1, d1, d2, d3, d4, d5, d6⟩ := R_there r1
      rw [gN] at d1
      exact z (w := kS (tH (fun κ => hV (M 419) κ (ordL (M 419)))) 0 200) (K := N1) (pre _ (it c6 (bc d1 rfl))) (by unfold cnV; rw [if_pos c6]) d3 (by rw [d4, r2]) (by rw [d5, r3 439 (by omega)])
    by_cases c7 : a = 7
    · have e : f_X11_allShut (mset N 418 4 0) = some (((ordL (M 419)).length : Int)) := by
        rw [r_allShut, gN, len_lS, lS_ord hv]
      exact z (pre _ (ie c6 (it c7 (bc e rfl)))) (by unfold cnV; rw [if_neg c6, if_pos c7]) rf0 r2 (r3 439 (by omega))
    by_cases c8 : a = 8
    · have e := R_allT r1
      rw [gN] at e
      exact z (pre _ (ie c6 (ie c7 (it c8 (bc e rfl))))) (by unfold cnV; rw [if_neg c6, if_neg c7, if_pos c8]) rf0 r2 (r3 439 (by omega))
    by_cases c9 : a = 9
    · have e := r_deepest (M := mset N 418 4 0)
      rw [gN] at e
      exact z (pre _ (ie c6 (ie c7 (ie c8 (it c9 (bc e rfl)))))) (by unfold cnV; rw [if_neg c6, if_neg c7, if_neg c8, if_pos c9]) rf0 r2 (r3 439 (by omega))
    by_cases c10 : a = 10
    · exact z (pre _ (ie c6 (ie c7 (ie c8 (ie c9 (it c10 rfl)))))) (by unfold cnV; rw [if_neg c6, if_neg c7, if_neg c8, if_neg c9, if_pos c10, gN]) rf0 r2 (r3 439 (by omega))
    by_cases c11 : a = 11
    · exact z (pre _ (ie c6 (ie c7 (ie c8 (ie c9 (ie c10 (it c11 rfl))))))) (by unfold cnV; rw [if_neg c6, if_neg c7, if_neg c8, if_neg c9, if_neg c10, if_pos c11, gN]) rf0 r2 (r3 439 (by omega))
    by_cases c12 : a = 12
    · have e := r_mergingMany (M := mset N 418 4 0) (by rw [gN]; exact hI)
      rw [gN] at e
      exact z (pre _ (ie c6 (ie c7 (ie c8 (ie c9 (ie c10 (ie c11 (it c12 (bc e rfl))))))))) (by unfold cnV; rw [if_neg c6, if_neg c7, if_neg c8, if_neg c9, if_neg c10, if_neg c11, if_pos c12]) rf0 r2 (r3 439 (by omega))
    by_cases c13 : a = 13
    · exact z (pre _ (ie c6 (ie c7 (ie c8 (ie c9 (ie c10 (ie c11 (ie c12 (it c13 rfl))))))))) (by unfold cnV; rw [if_neg c6, if_neg c7, if_neg c8, if_neg c9, if_neg c10, if_neg c11, if_neg c12, if_pos c13, tN]) rf0 r2 (r3 439 (by omega))
    by_cases c14 : a = 14
    · obtain ⟨N1, d1, d2, d3, d4⟩ := R_most r1 hn (a := 0) (Or.inl rfl)
      rw [gN] at d1
      exact ⟨_, N1, pre _ (ie c6 (ie c7 (ie c8 (ie c9 (ie c10 (ie c11 (ie c12 (ie c13 (it c14 (bc d1 rfl)))))))))), by rw [d3, r2], fun _ => by unfold cnV; rw [if_neg c6, if_neg c7, if_neg c8, if_neg c9, if_neg c10, if_neg c11, if_neg c12, if_neg c13, if_pos c14], by rw [d4, r3 439 (by omega)], d2⟩
    by_cases c15 : a = 15
    · obtain ⟨N1, d1, d2, d3, d4⟩ := R_most r1 hn (a := 1) (Or.inr rfl)
      rw [gN] at d1
      exact ⟨_, N1, pre _ (ie c6 (ie c7 (ie c8 (ie c9 (ie c10 (ie c11 (ie c12 (ie c13 (ie c14 (it c15 (bc d1 rfl))))))))))), by rw [d3, r2], fun _ => by unfold cnV; rw [if_neg c6, if_neg c7, if_neg c8, if_neg c9, if_neg c10, if_neg c11, if_neg c12, if_neg c13, if_neg c14, if_pos c15], by rw [d4, r3 439 (by omega)], d2⟩
    exact z (pre _ (ie c6 (ie c7 (ie c8 (ie c9 (ie c10 (ie c11 (ie c12 (ie c13 (ie c14 (ie c15 (si (by omega) rfl)))))))))))) (by unfold cnV; rw [if_neg c6, if_neg c7, if_neg c8, if_neg c9, if_neg c10, if_neg c11, if_neg c12, if_neg c13, if_neg c14, if_neg c15, gN]) rf0 r2 (r3 439 (by omega))
  · refine thr_join (c := 1) (v := 0) ⟨M, ?_, h, fun _ _ => rfl⟩ (by omega) ⟨by omega, by omega⟩ (fun N hN hx => R_no hN hn ?_ (by omega))
    · unfold f_X10_count
      refine bc (c_needWhat _ _ _) ?_
      rw [if_neg ha]
      exact ie (by omega) rfl
    · obtain ⟨r1, r2, r3, r4⟩ := R_0 hN
      unfold f_X11_count
      refine bs fun x e => ?_
      subst e
      refine bc (r_isIn _ _ _ _) ?_
      rw [if_neg (c := 0 ≤ a ∧ a ≤ 15) (by omega)]
      exact bc (r_right0 r2 (by omega)) (it rfl rfl)
end CAL14
