/-! level -/
section CAL12
noncomputable def lvV (g : Int → Int) (l a : Int) : Int := if a = 0 then shM g l else if a = 1 then g (7657 + l) else if a = 2 then tI g l else if a = 3 then g (7720 + l) else if a = 4 then g (7729 + l) else if a = 5 then (if g (7657 + l) = 0 then 0 else left g l) else if a = 6 then g (7657 + l) * g (7666 + l) else if a = 7 then (if bA g l 0 = -1 then -1 else bA g l 0 - 2 * l) else (if bA g l 0 = -1 then 0 else nmE (E g (bA g l 0)))
theorem c_needLevel (l : Int) (M : fMem) : f_X10_needLevel l M = some (if 0 ≤ l ∧ l ≤ 8 then 0 else 1) := by
  unfold f_X10_needLevel
  by_cases c : l < 0
  · rw [if_pos c, if_neg (by omega)]
  · rw [if_neg c]
    by_cases c2 : l < 9
    · rw [if_pos c2, if_pos (by omega)]
    · rw [if_neg c2, if_neg (by omega)]
theorem r_isLevel (l : Int) (M : fMem) : f_X11_isLevel l M = some (if 0 ≤ l ∧ l ≤ 8 then 1 else 0) := by
  unfold f_X11_isLevel
  exact bc (r_isIn _ _ _ _) rfl
theorem K_level {M : fMem} {n l a : Int} (h : St M n) (hn : n < 600) : thrK (f_X10_level l a) (f_X11_level l a) M n := by
  obtain ⟨hR, hv⟩ := C_rel h
  have hst := h.2.1.2.2.2.1
  have hI := h.2.1.1.1.1
  have hrg := hI.2.2.2.2.2
  by_cases hl : 0 ≤ l ∧ l ≤ 8
  · by_cases ha : 0 ≤ a ∧ a < 9
    · obtain ⟨m0, m1, m2, m3, m4, m5, m6, m7, m8⟩ := h.1.1.2.1 l hl.1 hl.2
      rw [show 1 + l.toNat + 62 = l.toNat + 63 by omega] at m0 m1 m7 m8
      obtain ⟨on, br, mg⟩ := hI.2.1 l hl.1 hl.2
      obtain ⟨y0, -⟩ := yB_bA (g := M 419) (l := l) hl hv.2.1 hv.2.2
      have lead : f_X7_leadOf 2 l M = some (bA (M 419) l 0) := by
        unfold f_X7_leadOf
        refine bc (c_youngestBut hR.1 hl) ?_
        rw [y0]
      have hE : ER l ≤ 19 := by unfold ER; split <;> omega
      have lb : bA (M 419) l 0 = -1 ∨ (2 * l ≤ bA (M 419) l 0 ∧ bA (M 419) l 0 < ER l) := by
        rcases lv_cs (g := M 419) hl hv with ⟨a1, a2, a3, -⟩ | ⟨a1, a2, a3, -⟩ | ⟨a1, a2, a3, -⟩ <;> omega
      have lf : M 419 (7657 + l) = 1 → 0 < left (M 419) l ∧ left (M 419) l ≤ 400 := fun z => left_le hl hI z
      have sm := shM_bd (M 419) l
      have t0 := wR_bd (r := 2 * l) hv (by omega)
      have t1 := wR_bd (r := 2 * l + 1) hv (by omega)
      have t2 : l = 8 → 0 ≤ wR (M 419) (fun r => M 419 (7600 + r)) (2 * l + 2) ∧ wR (M 419) (fun r => M 419 (7600 + r)) (2 * l + 2) ≤ 200 := fun z => wR_bd (r := 2 * l + 2) hv (by omega)
      have tb : 0 ≤ tI (M 419) l ∧ tI (M 419) l ≤ 600 := by
        unfold tI
        by_cases h8 : l = 8
        · have := t2 h8; rw [if_pos h8]; omega
        · rw [if_neg h8]; omega
      have cl : ∃ M1, f_X10_level l a M = some (0, lvV (M 419) l a, M1) ∧ St M1 n ∧ ∀ x, 418 ≤ x → M1 x = M x := by
        have pre : ∀ P, (if a = 0 then ((f_X7_shutOf 2 l M).bind fun (r7 : Int) => some (0, r7, M)) else (if a = 1 then (if (M (l.toNat + 63) 0) = 0 then some (0, 0, M) else some (0, 1, M)) else (if a = 2 then ((f_X7_thingsOf 2 l M).bind fun (r11 : Int) => some (0, r11, M)) else (if a = 3 then some (0, M (l.toNat + 63) 7, M) else (if a = 4 then some (0, M (l.toNat + 63) 8, M) else (if a = 5 then ((f_X0_leftOf 1 l M).bind fun (r15 : Int) => some (0, r15, M)) else (if a = 6 then (if (M (l.toNat + 63) 0) = 0 then some (0, 0, M) else (if (M (l.toNat + 63) 1) = 0 then some (0, 0, M) else some (0, 1, M))) else (if a = 7 then (if bA (M 419) l 0 = ((-1)) then some (0, (-1), M) else ((f_X10_numberOf (bA (M 419) l 0) M).bind fun (r21 : Int) => some (0, r21, M))) else (if bA (M 419) l 0 = ((-1)) then some (0, 0, M) else ((f_X10_marksOf (bA (M 419) l 0) M).bind fun (r23 : Int × fMem) => some (0, r23.1, r23.2))))))))))) = P → f_X10_level l a M = P := by
          intro P hP
          unfold f_X10_level
          refine bc (c_needLevel _ _) ?_
          rw [if_pos hl]
          refine it rfl (bc (c_needWhat _ _ _) ?_)
          rw [if_pos ha]
          exact it rfl (si (by omega) (bc lead hP))
        unfold lvV
        by_cases c0 : a = 0
        · rw [if_pos c0]; exact ⟨M, pre _ (by rw [if_pos c0]; exact bc (c_shutOf hR.1 hl) rfl), h, fun _ _ => rfl⟩
        rw [if_neg c0]
        by_cases c1 : a = 1
        · rw [if_pos c1]
          refine ⟨M, pre _ ?_, h, fun _ _ => rfl⟩
          rw [if_neg c0, if_pos c1, m0]
          rcases on with z | z
          · rw [if_pos z, z]
          · rw [if_neg (by omega), z]
        rw [if_neg c1]
        by_cases c2 : a = 2
        · rw [if_pos c2]; exact ⟨M, pre _ (by rw [if_neg c0, if_neg c1, if_pos c2]; exact bc (c_thingsOf hR hv hl) rfl), h, fun _ _ => rfl⟩
        rw [if_neg c2]
        by_cases c3 : a = 3
        · rw [if_pos c3]; exact ⟨M, pre _ (by rw [if_neg c0, if_neg c1, if_neg c2, if_pos c3, m7]), h, fun _ _ => rfl⟩
        rw [if_neg c3]
        by_cases c4 : a = 4
        · rw [if_pos c4]; exact ⟨M, pre _ (by rw [if_neg c0, if_neg c1, if_neg c2, if_neg c3, if_pos c4, m8]), h, fun _ _ => rfl⟩
        rw [if_neg c4]
        by_cases c5 : a = 5
        · rw [if_pos c5]
          refine ⟨M, pre _ ?_, h, fun _ _ => rfl⟩
          rw [if_neg c0, if_neg c1, if_neg c2, if_neg c3, if_neg c4, if_pos c5]
          have e : f_X0_leftOf 1 l M = some (if M 419 (7657 + l) = 0 then 0 else left (M 419) l) := by
            rcases on with z | z
            · rw [if_pos z]
              unfold f_X0_leftOf
              rw [show 1 + l.toNat + 62 = l.toNat + 63 by omega, m0]
              exact si (by omega) (it z rfl)
            · rw [if_neg (by omega)]
              obtain ⟨hy, he, -⟩ := mrg_rows hl hI z
              have := lf z
              exact c_leftOf h.1.1 hl hy he (by omega) ⟨by omega, by omega⟩
          exact bc e rfl
        rw [if_neg c5]
        by_cases c6 : a = 6
        · rw [if_pos c6]
          refine ⟨M, pre _ ?_, h, fun _ _ => rfl⟩
          rw [if_neg c0, if_neg c1, if_neg c2, if_neg c3, if_neg c4, if_neg c5, if_pos c6, m0, m1]
          rcases on with z | z
          · rw [if_pos z, z, Int.zero_mul]
          · rw [if_neg (by omega), z, Int.one_mul]
            rcases br with w | w
            · rw [if_pos w, w]
            · rw [if_neg (by omega), w]
        rw [if_neg c6]
        by_cases c7 : a = 7
        · rw [if_pos c7]
          refine ⟨M, pre _ ?_, h, fun _ _ => rfl⟩
          rw [if_neg c0, if_neg c1, if_neg c2, if_neg c3, if_neg c4, if_neg c5, if_neg c6, if_pos c7]
          by_cases z : bA (M 419) l 0 = -1
          · rw [if_pos z, if_pos z]
          · rw [if_neg z, if_neg z]
            have hb := lb.resolve_left z
            refine bc (FR_LO (by omega)) ?_
            have : LO (bA (M 419) l 0) = l := lvR_of hl hb
            rw [this]; rfl
        rw [if_neg c7]
        by_cases z : bA (M 419) l 0 = -1
        · rw [if_pos z]
          refine ⟨M, pre _ ?_, h, fun _ _ => rfl⟩
          rw [if_neg c0, if_neg c1, if_neg c2, if_neg c3, if_neg c4, if_neg c5, if_neg c6, if_neg c7, if_pos z]
        · rw [if_neg z]
          have hb := lb.resolve_left z
          obtain ⟨M1, a1, a2, a3, a4, a5⟩ := C_refresh h
          refine ⟨M1, pre _ ?_, a2, a3⟩
          rw [if_neg c0, if_neg c1, if_neg c2, if_neg c3, if_neg c4, if_neg c5, if_neg c6, if_neg c7, if_neg z]
          have hm : M1 (4 * psO (bA (M 419) l 0).toNat + 151) 4 = nmE (E (M 419) (bA (M 419) l 0)) := (a4.1 _ (by omega) (by omega)).2.1
          have e : f_X10_marksOf (bA (M 419) l 0) M = some (nmE (E (M 419) (bA (M 419) l 0)), M1) := by
            unfold f_X10_marksOf
            refine bc a1 (si (by omega) ?_)
            rw [hm]
          exact bc e rfl
      obtain ⟨M1, k1, k2, k3⟩ := cl
      have rgv : rg (lvV (M 419) l a) := by
        have q1 := hrg (7657 + l)
        have q2 := hrg (7720 + l)
        have q3 := hrg (7729 + l)
        have q4 : 0 ≤ M 419 (7657 + l) * M 419 (7666 + l) ∧ M 419 (7657 + l) * M 419 (7666 + l) ≤ 1 := by
          rcases on with z | z <;> rcases br with w | w <;> rw [z, w] <;> simp
        have q5 : 0 ≤ (if M 419 (7657 + l) = 0 then 0 else left (M 419) l) ∧ (if M 419 (7657 + l) = 0 then 0 else left (M 419) l) ≤ 400 := by
          rcases on with z | z
          · rw [if_pos z]; omega
          · rw [if_neg (by omega)]; have := lf z; omega
        have q6 : 0 ≤ (if bA (M 419) l 0 = -1 then 0 else nmE (E (M 419) (bA (M 419) l 0))) ∧ (if bA (M 419) l 0 = -1 then 0 else nmE (E (M 419) (bA (M 419) l 0))) ≤ 400 := by
          by_cases z : bA (M 419) l 0 = -1
          · rw [if_pos z]; omega
          · rw [if_neg z]
            have hb := lb.resolve_left z
            have := nmE_bd (E (M 419) (bA (M 419) l 0))
            have := E328 (r := bA (M 419) l 0) hv hst (by omega)
            omega
        have q7 : -1 ≤ (if bA (M 419) l 0 = -1 then -1 else bA (M 419) l 0 - 2 * l) ∧ (if bA (M 419) l 0 = -1 then -1 else bA (M 419) l 0 - 2 * l) ≤ 20 := by
          split <;> omega
        unfold lvV
        generalize (if bA (M 419) l 0 = -1 then 0 else nmE (E (M 419) (bA (M 419) l 0))) = z1 at *
        generalize (if bA (M 419) l 0 = -1 then -1 else bA (M 419) l 0 - 2 * l) = z2 at *
        generalize (if M 419 (7657 + l) = 0 then 0 else left (M 419) l) = z3 at *
        generalize M 419 (7657 + l) * M 419 (7666 + l) = z4 at *
        unfold rg at *
        repeat' split
        all_goals omega
      refine thr_join (c := 0) (v := lvV (M 419) l a) ⟨M1, k1, k2, k3⟩ (by omega) rgv (fun N hN hx => ?_)
      obtain ⟨r1, r2, r3, r4⟩ := R_0 hN
      have gN : mset N 418 4 0 419 = M 419 := by rw [r3 419 (by omega), hx 419 (by omega) (by omega)]
      obtain ⟨N1, d1, d2, d3, d4, d5, d6⟩ := R_ent0 r1 gN
      have ld : f_X11_leadOf l (mset N 418 4 0) = some (bA (M 419) l 0) := by
        unfold f_X11_leadOf
        refine bc (r_byAge hl) ?_
        rw [gN]
      have rf0 : rF (mset N 418 4 0) (mset N 418 4 0) := ⟨fun _ _ _ _ => rfl, rfl, rfl⟩
      have z : ∀ {w K}, f_X11_level l a N = some (w, K) → w = lvV (M 419) l a → rF (mset N 418 4 0) K → K 418 4 = 0 → K 439 = N 439 → Rq (f_X11_level l a) N n 0 (lvV (M 419) l a) := fun a1 a2 a3 a4 a5 => ⟨_, _, a1, a4, fun _ => a2, a5, St_rF hN (rF_tr r4 a3) hn⟩
      have pre : ∀ P, j_X11_level_28 l a 1 (mset N 418 4 0) = P → f_X11_level l a N = P := by
        intro P hP
        unfold f_X11_level
        refine bs fun x e => ?_
        subst e
        refine bc (r_isLevel _ _) ?_
        rw [if_pos hl]
        refine ie (by omega) (bc (r_isIn _ _ _ _) ?_)
        rw [if_pos (c := 0 ≤ a ∧ a ≤ 8) (by omega)]
        exact ie (by omega) hP
      unfold j_X11_level_28 at pre
      unfold lvV at z ⊢
      by_cases c0 : a = 0
      · rw [if_pos c0] at z ⊢
        refine z (w := shM (M 419) l) (K := mset N 418 4 0) (pre _ (si (by omega) (bc (r_right1 r2) (ie (by simp) (bc ld (it c0 (bc (r_shutMany hl) ?_))))))) rfl rf0 r2 (r3 439 (by omega))
        show some (shM (mset N 418 4 0 419) l, mset N 418 4 0) = _
        rw [gN]
      rw [if_neg c0] at z ⊢
      by_cases c1 : a = 1
      · rw [if_pos c1] at z ⊢
        exact z (w := mset N 418 4 0 419 (7657 + l)) (K := mset N 418 4 0) (pre _ (si (by omega) (bc (r_right1 r2) (ie (by simp) (bc ld (ie c0 (it c1 (si (by omega) rfl)))))))) (by rw [gN]) rf0 r2 (r3 439 (by omega))
      rw [if_neg c1] at z ⊢
      by_cases c2 : a = 2
      · rw [if_pos c2] at z ⊢
        have ti := r_thingsIn (M := mset N 418 4 0) (l := l) (by rw [gN]; exact hv) hl
        rw [gN] at ti
        exact z (w := tI (M 419) l) (K := mset N 418 4 0) (pre _ (si (by omega) (bc (r_right1 r2) (ie (by simp) (bc ld (ie c0 (ie c1 (it c2 (bc ti rfl))))))))) rfl rf0 r2 (r3 439 (by omega))
      rw [if_neg c2] at z ⊢
      by_cases c3 : a = 3
      · rw [if_pos c3] at z ⊢
        exact z (w := mset N 418 4 0 419 (7720 + l)) (K := mset N 418 4 0) (pre _ (si (by omega) (bc (r_right1 r2) (ie (by simp) (bc ld (ie c0 (ie c1 (ie c2 (it c3 (si (by omega) rfl)))))))))) (by rw [gN]) rf0 r2 (r3 439 (by omega))
      rw [if_neg c3] at z ⊢
      by_cases c4 : a = 4
      · rw [if_pos c4] at z ⊢
        exact z (w := mset N 418 4 0 419 (7729 + l)) (K := mset N 418 4 0) (pre _ (si (by omega) (bc (r_right1 r2) (ie (by simp) (bc ld (ie c0 (ie c1 (ie c2 (ie c3 (it c4 (si (by omega) rfl))))))))))) (by rw [gN]) rf0 r2 (r3 439 (by omega))
      rw [if_neg c4] at z ⊢
      by_cases c5 : a = 5
      · rw [if_pos c5] at z ⊢
        have lo : f_X11_leftOf l (mset N 418 4 0) = some (if M 419 (7657 + l) = 0 then 0 else left (M 419) l) := by
          rcases on with w | w
          · rw [if_pos w]
            unfold f_X11_leftOf
            rw [gN]
            exact si (by omega) (it w rfl)
          · rw [if_neg (by omega)]
            obtain ⟨hy, he, -⟩ := mrg_rows hl hI w
            have := lf w
            have le := e_leftOf (M := mset N 418 4 0) (g := M 419) hl hy he (by omega) ⟨by omega, by omega⟩
            rw [← gN, os_id, gN] at le
            exact le
        exact z (w := if M 419 (7657 + l) = 0 then 0 else left (M 419) l) (K := mset N 418 4 0) (pre _ (si (by omega) (bc (r_right1 r2) (ie (by simp) (bc ld (ie c0 (ie c1 (ie c2 (ie c3 (ie c4 (it c5 (bc lo rfl)))))))))))) rfl rf0 r2 (r3 439 (by omega))
      rw [if_neg c5] at z ⊢
      by_cases c6 : a = 6
      · rw [if_pos c6] at z ⊢
        have q4 : 0 ≤ M 419 (7657 + l) * M 419 (7666 + l) ∧ M 419 (7657 + l) * M 419 (7666 + l) ≤ 1 := by
          rcases on with z | z <;> rcases br with w | w <;> rw [z, w] <;> simp
        exact z (w := mset N 418 4 0 419 (7657 + l) * mset N 418 4 0 419 (7666 + l)) (K := mset N 418 4 0) (pre _ (si (by omega) (bc (r_right1 r2) (ie (by simp) (bc ld (ie c0 (ie c1 (ie c2 (ie c3 (ie c4 (ie c5 (it c6 (si (by omega) (si (by omega) (si (by show -2147483648 ≤ mset N 418 4 0 419 (7657 + l) * mset N 418 4 0 419 (7666 + l) ∧ mset N 418 4 0 419 (7657 + l) * mset N 418 4 0 419 (7666 + l) < 2147483648; rw [gN]; omega) rfl))))))))))))))) (by rw [gN]) rf0 r2 (r3 439 (by omega))
      rw [if_neg c6] at z ⊢
      by_cases c7 : a = 7
      · rw [if_pos c7] at z ⊢
        refine z (w := if bA (M 419) l 0 = -1 then -1 else bA (M 419) l 0 - 2 * l) (K := mset N 418 4 0) (pre _ (si (by omega) (bc (r_right1 r2) (ie (by simp) (bc ld (ie c0 (ie c1 (ie c2 (ie c3 (ie c4 (ie c5 (ie c6 (it c7 ?_))))))))))))) rfl rf0 r2 (r3 439 (by omega))
        by_cases w : bA (M 419) l 0 = -1
        · rw [if_pos w, if_pos w]
        · rw [if_neg w, if_neg w]
          have hb := lb.resolve_left w
          exact si (by omega) rfl
      rw [if_neg c7] at z ⊢
      refine z (w := if bA (M 419) l 0 = -1 then 0 else nmE (E (M 419) (bA (M 419) l 0))) (K := N1) (pre _ (si (by omega) (bc (r_right1 r2) (ie (by simp) (bc ld (ie c0 (ie c1 (ie c2 (ie c3 (ie c4 (ie c5 (ie c6 (ie c7 (bc d1 ?_)))))))))))))) rfl d3 (by rw [d4, r2]) (by rw [d5, r3 439 (by omega)])
      by_cases w : bA (M 419) l 0 = -1
      · rw [if_pos w, if_pos w]
      · rw [if_neg w, if_neg w]
        have hb := lb.resolve_left w
        exact bc (R_marks (N := N) hv hst (by omega) d6 (d2 _ (by omega) (by omega))) rfl
    · refine thr_join (c := 1) (v := 0) ⟨M, ?_, h, fun _ _ => rfl⟩ (by omega) ⟨by omega, by omega⟩ (fun N hN hx => R_no hN hn ?_ (by omega))
      · unfold f_X10_level
        refine bc (c_needLevel _ _) ?_
        rw [if_pos hl]
        refine it rfl (bc (c_needWhat _ _ _) ?_)
        rw [if_neg ha]
        exact ie (by omega) rfl
      · obtain ⟨r1, r2, r3, r4⟩ := R_0 hN
        unfold f_X11_level
        refine bs fun x e => ?_
        subst e
        refine bc (r_isLevel _ _) ?_
        rw [if_pos hl]
        refine ie (by omega) (bc (r_isIn _ _ _ _) ?_)
        rw [if_neg (c := 0 ≤ a ∧ a ≤ 8) (by omega)]
        refine it rfl ?_
        unfold j_X11_level_27 j_X11_level_28
        exact si (by omega) (bc (r_right0 r2 (by omega)) (it rfl rfl))
  · refine thr_join (c := 1) (v := 0) ⟨M, ?_, h, fun _ _ => rfl⟩ (by omega) ⟨by omega, by omega⟩ (fun N hN hx => R_no hN hn ?_ (by omega))
    · unfold f_X10_level
      refine bc (c_needLevel _ _) ?_
      rw [if_neg hl]
      exact ie (by omega) rfl
    · obtain ⟨r1, r2, r3, r4⟩ := R_0 hN
      unfold f_X11_level
      refine bs fun x e => ?_
      subst e
      refine bc (r_isLevel _ _) ?_
      rw [if_neg hl]
      refine it rfl ?_
      unfold j_X11_level_27 j_X11_level_28
      exact si (by omega) (bc (r_right0 r2 (by omega)) (it rfl rfl))
end CAL12
