/-! row, level -/
section CAL11
theorem R_marks {N N1 : fMem} {g : Int → Int} {r : Int} (hv : okV g) (hst : 2 ≤ g 7740 ∧ g 7740 ≤ 8) (hr : 0 ≤ r ∧ r < 19) (hg : N1 419 = g) (he : enR N1 r (E g r)) : f_X11_marksIn r N1 = some (nmE (E g r)) := by
  unfold f_X11_marksIn
  refine bc (r_isShut hr) ?_
  rw [hg, nm_E hv hst hr]
  by_cases q : g (7619 + r) = 2
  · have := (hv.1 r hr.1 hr.2 q).2.1
    have := rmR_bd r
    have := E328 hv hst hr
    rw [if_pos q, show b1 (g (7619 + r) = 2) = 1 by simp [b1, q], he.1]
    exact ie (by omega) (si hr (si (by omega) (si (by omega) rfl)))
  · rw [if_neg q, show b1 (g (7619 + r) = 2) = 0 by simp [b1, q]]
    exact it rfl rfl
theorem R_ent0 {N : fMem} {n : Int} {g : Int → Int} (h : St N n) (hg : N 419 = g) : ∃ N1, f_X11_laysEntries 0 N = some N1 ∧ (∀ r, 0 ≤ r → r < 19 → enR N1 r (E g r)) ∧ rF N N1 ∧ N1 418 4 = N 418 4 ∧ N1 439 = N 439 ∧ N1 419 = g := by
  obtain ⟨N1, c1, c2, c3, c4, c5, c6, c7⟩ := R_ent h (a := 0) (Or.inl rfl)
  refine ⟨N1, c1, fun r r0 r1 => ?_, c4, c5, c6, by rw [c7, hg]⟩
  have := c2 r r0 r1
  rw [hg] at this
  unfold eA at this; rw [if_pos rfl] at this; exact this
noncomputable def rwV (g : Int → Int) (q a : Int) : Int := if a = 0 then g (7619 + q) else if a = 1 then g (7600 + q) else if a = 2 then (E g q).length else if a = 3 then nmE (E g q) else if a = 4 then sgN g q (g (7600 + q)).toNat else aI q (ordL g) 0
theorem aI_bd {r : Int} : ∀ (xs : List Int) (i : Int), 0 ≤ i → -1 ≤ aI r xs i ∧ aI r xs i ≤ i + xs.length := by
  intro xs
  induction xs with
  | nil => intro i h; simp [aI]; omega
  | cons x xs ih =>
    intro i h
    have := ih (i + 1) (by omega)
    rw [aI, List.length_cons]; push_cast; split <;> omega
theorem K_row {M : fMem} {n l r a : Int} (h : St M n) (hn : n < 600) : thrK (f_X10_row l r a) (f_X11_row l r a) M n := by
  obtain ⟨-, hv⟩ := C_rel h
  have hst := h.2.1.2.2.2.1
  have hI := h.2.1.1.1.1
  have hrg := hI.2.2.2.2.2
  by_cases hr : rowOK l r
  · have h19 := row19 hr
    have lr : lvR (2 * l + r) = l := lvR_of hr.1 ⟨by have := hr.2; omega, hr.2.2⟩
    have hrow := h.1.1.1 (2 * l + r) h19.1 h19.2
    rw [show 1 + 3 * (2 * l + r).toNat + 4 = 3 * (2 * l + r).toNat + 5 by omega] at hrow
    obtain ⟨w1, w2, w3, w4, w5, w6⟩ := hrow
    have hrm := rmR_bd (2 * l + r)
    have ra : ∀ N, f_X11_rowAt l r N = some (2 * l + r) := fun N => e_rowAt N hr.1 (by have := hr.2; have : ER l ≤ 2 * l + 3 := (by have := hr.1; unfold ER; split <;> omega); omega)
    by_cases ha : 0 ≤ a ∧ a < 6
    · have el := E328 hv hst h19
      have nb := nmE_bd (E (M 419) (2 * l + r))
      have sb := sgN_bd (M 419) (2 * l + r) (M 419 (7600 + (2 * l + r))).toNat
      have ab := aI_bd (r := 2 * l + r) (ordL (M 419)) 0 (by omega)
      have ol := ordL_len hv
      have q1 := hrg (7619 + (2 * l + r))
      have cl : ∃ M1, f_X10_row l r a M = some (0, rwV (M 419) (2 * l + r) a, M1) ∧ St M1 n ∧ ∀ x, 418 ≤ x → M1 x = M x := by
        have pre : ∀ P, (if a = 0 then some (0, M (3 * (2 * l + r).toNat + 5) 2, M) else (if a = 1 then some (0, M (3 * (2 * l + r).toNat + 5) 3, M) else (if a = 2 then ((f_X10_entriesOf (2 * l + r) M).bind fun (r9 : Int × fMem) => some (0, r9.1, r9.2)) else (if a = 3 then ((f_X10_marksOf (2 * l + r) M).bind fun (r12 : Int × fMem) => some (0, r12.1, r12.2)) else (if a = 4 then some (0, M (3 * (2 * l + r).toNat + 5) 4, M) else ((f_X10_aheadOf (2 * l + r) M).bind fun (r15 : Int × fMem) => some (0, r15.1, r15.2))))))) = P → f_X10_row l r a M = P := by
          intro P hP
          unfold f_X10_row
          refine bc ((c_needRow l r M).1 hr) (it rfl (bc (c_needWhat _ _ _) ?_))
          rw [if_pos ha]
          exact it rfl (bc (c_at hr) (si h19 hP))
        unfold rwV
        by_cases c0 : a = 0
        · rw [if_pos c0]; exact ⟨M, pre _ (by rw [if_pos c0, w1]), h, fun _ _ => rfl⟩
        · rw [if_neg c0]
          by_cases c1 : a = 1
          · rw [if_pos c1]; exact ⟨M, pre _ (by rw [if_neg c0, if_pos c1, w2]), h, fun _ _ => rfl⟩
          · rw [if_neg c1]
            by_cases c2 : a = 2
            · rw [if_pos c2]
              obtain ⟨M1, a1, a2, a3, a4, a5⟩ := C_refresh h
              refine ⟨M1, pre _ ?_, a2, a3⟩
              rw [if_neg c0, if_neg c1, if_pos c2]
              have : M1 (4 * psO (2 * l + r).toNat + 151) 3 = (E (M 419) (2 * l + r)).length := (a4.1 _ h19.1 h19.2).1
              have e : f_X10_entriesOf (2 * l + r) M = some (((E (M 419) (2 * l + r)).length : Int), M1) := by
                unfold f_X10_entriesOf
                refine bc a1 (si h19 ?_)
                rw [this]
              exact bc e rfl
            · rw [if_neg c2]
              by_cases c3 : a = 3
              · rw [if_pos c3]
                obtain ⟨M1, a1, a2, a3, a4, a5⟩ := C_refresh h
                refine ⟨M1, pre _ ?_, a2, a3⟩
                rw [if_neg c0, if_neg c1, if_neg c2, if_pos c3]
                have : M1 (4 * psO (2 * l + r).toNat + 151) 4 = nmE (E (M 419) (2 * l + r)) := (a4.1 _ h19.1 h19.2).2.1
                have e : f_X10_marksOf (2 * l + r) M = some (nmE (E (M 419) (2 * l + r)), M1) := by
                  unfold f_X10_marksOf
                  refine bc a1 (si h19 ?_)
                  rw [this]
                exact bc e rfl
              · rw [if_neg c3]
                by_cases c4 : a = 4
                · rw [if_pos c4]; exact ⟨M, pre _ (by rw [if_neg c0, if_neg c1, if_neg c2, if_neg c3, if_pos c4, w3]), h, fun _ _ => rfl⟩
                · rw [if_neg c4]
                  obtain ⟨M1, a1, a2, a3⟩ := c_aheadOf (r := 2 * l + r) h
                  refine ⟨M1, pre _ ?_, a2, a3⟩
                  rw [if_neg c0, if_neg c1, if_neg c2, if_neg c3, if_neg c4]
                  exact bc a1 rfl
      obtain ⟨M1, k1, k2, k3⟩ := cl
      refine thr_join (c := 0) (v := rwV (M 419) (2 * l + r) a) ⟨M1, k1, k2, k3⟩ (by omega) (by unfold rwV rg; unfold rg at q1; repeat' split; all_goals omega) (fun N hN hx => ?_)
      obtain ⟨r1, r2, r3, r4⟩ := R_0 hN
      have gN : mset N 418 4 0 419 = M 419 := by rw [r3 419 (by omega), hx 419 (by omega) (by omega)]
      have pre : ∀ P, (if a = 0 then (if 0 ≤ 7619 + (2 * l + r) ∧ 7619 + (2 * l + r) < 7787 then some ((mset N 418 4 0) 419 (7619 + (2 * l + r)), mset N 418 4 0) else none) else (if a = 1 then (if 0 ≤ 7600 + (2 * l + r) ∧ 7600 + (2 * l + r) < 7787 then some ((mset N 418 4 0) 419 (7600 + (2 * l + r)), mset N 418 4 0) else none) else (if a = 2 then ((f_X11_laysEntries 0 (mset N 418 4 0)).bind fun (r14 : fMem) => (if 0 ≤ (2 * l + r) ∧ (2 * l + r) < 19 then some (r14 429 (2 * l + r), r14) else none)) else (if a = 3 then ((f_X11_laysEntries 0 (mset N 418 4 0)).bind fun (r18 : fMem) => ((f_X11_marksIn (2 * l + r) r18).bind fun (r20 : Int) => some (r20, r18))) else (if a = 4 then ((f_X11_signsIn (2 * l + r) (mset N 418 4 0)).bind fun (r22 : Int) => some (r22, mset N 418 4 0)) else ((f_X11_shutAhead l (2 * l + r) (mset N 418 4 0)).bind fun (r23 : Int) => some (r23, mset N 418 4 0))))))) = P → f_X11_row l r a N = P := by
        intro P hP
        unfold f_X11_row
        refine bs fun x e => ?_
        subst e
        refine bc ((r_isRow l r _).1 hr) (ie (by omega) (bc (r_isIn _ _ _ _) ?_))
        rw [if_pos (c := 0 ≤ a ∧ a ≤ 5) (by omega)]
        refine ie (by omega) ?_
        unfold j_X11_row_28
        refine si (by omega) (bc (r_right1 r2) (ie (by simp) (bc (ra _) hP)))
      have z : ∀ {w N1}, f_X11_row l r a N = some (w, N1) → w = rwV (M 419) (2 * l + r) a → rF (mset N 418 4 0) N1 → N1 418 4 = 0 → N1 439 = N 439 → Rq (f_X11_row l r a) N n 0 (rwV (M 419) (2 * l + r) a) := fun a1 a2 a3 a4 a5 => ⟨_, _, a1, a4, fun _ => a2, a5, St_rF hN (rF_tr r4 a3) hn⟩
      have rf0 : rF (mset N 418 4 0) (mset N 418 4 0) := ⟨fun _ _ _ _ => rfl, rfl, rfl⟩
      unfold rwV at z ⊢
      by_cases c0 : a = 0
      · rw [if_pos c0] at z ⊢
        exact z (pre _ (by rw [if_pos c0, if_pos (by omega)])) (by rw [gN]) rf0 r2 (r3 439 (by omega))
      · rw [if_neg c0] at z ⊢
        by_cases c1 : a = 1
        · rw [if_pos c1] at z ⊢
          exact z (pre _ (by rw [if_neg c0, if_pos c1, if_pos (by omega)])) (by rw [gN]) rf0 r2 (r3 439 (by omega))
        · rw [if_neg c1] at z ⊢
          obtain ⟨N1, d1, d2, d3, d4, d5, d6⟩ := R_ent0 r1 gN
          by_cases c2 : a = 2
          · rw [if_pos c2] at z ⊢
            refine z (w := N1 429 (2 * l + r)) (N1 := N1) (pre _ ?_) (d2 _ h19.1 h19.2).1 d3 (by rw [d4, r2]) (by rw [d5, r3 439 (by omega)])
            rw [if_neg c0, if_neg c1, if_pos c2]
            exact bc d1 (si h19 rfl)
          · rw [if_neg c2] at z ⊢
            by_cases c3 : a = 3
            · rw [if_pos c3] at z ⊢
              refine z (w := nmE (E (M 419) (2 * l + r))) (N1 := N1) (pre _ ?_) rfl d3 (by rw [d4, r2]) (by rw [d5, r3 439 (by omega)])
              rw [if_neg c0, if_neg c1, if_neg c2, if_pos c3]
              exact bc d1 (bc (R_marks (N := N) hv hst h19 d6 (d2 _ h19.1 h19.2)) rfl)
            · rw [if_neg c3] at z ⊢
              by_cases c4 : a = 4
              · rw [if_pos c4] at z ⊢
                have sg := r_signsIn (M := mset N 418 4 0) h19 (by rw [gN]; omega)
                rw [gN] at sg
                refine z (w := sgN (M 419) (2 * l + r) (M 419 (7600 + (2 * l + r))).toNat) (N1 := mset N 418 4 0) (pre _ ?_) rfl rf0 r2 (r3 439 (by omega))
                rw [if_neg c0, if_neg c1, if_neg c2, if_neg c3, if_pos c4]
                exact bc sg rfl
              · rw [if_neg c4] at z ⊢
                have sa := r_shutAhead (M := mset N 418 4 0) (l := l) (r := 2 * l + r) (by rw [gN]; exact hv) h19 lr
                rw [gN] at sa
                refine z (w := aI (2 * l + r) (ordL (M 419)) 0) (N1 := mset N 418 4 0) (pre _ ?_) rfl rf0 r2 (r3 439 (by omega))
                rw [if_neg c0, if_neg c1, if_neg c2, if_neg c3, if_neg c4]
                exact bc sa rfl
    · refine thr_join (c := 1) (v := 0) ⟨M, ?_, h, fun _ _ => rfl⟩ (by omega) ⟨by omega, by omega⟩ (fun N hN hx => R_no hN hn ?_ (by omega))
      · unfold f_X10_row
        refine bc ((c_needRow l r M).1 hr) (it rfl (bc (c_needWhat _ _ _) ?_))
        rw [if_neg ha]
        exact ie (by omega) rfl
      · obtain ⟨r1, r2, r3, r4⟩ := R_0 hN
        unfold f_X11_row
        refine bs fun x e => ?_
        subst e
        refine bc ((r_isRow l r _).1 hr) (ie (by omega) (bc (r_isIn _ _ _ _) ?_))
        rw [if_neg (c := 0 ≤ a ∧ a ≤ 5) (by omega)]
        refine it rfl ?_
        unfold j_X11_row_27 j_X11_row_28
        exact si (by omega) (bc (r_right0 r2 (by omega)) (it rfl rfl))
  · refine thr_join (c := 1) (v := 0) ⟨M, ?_, h, fun _ _ => rfl⟩ (by omega) ⟨by omega, by omega⟩ (fun N hN hx => R_no hN hn ?_ (by omega))
    · unfold f_X10_row
      exact bc ((c_needRow l r M).2 hr) (ie (by omega) rfl)
    · obtain ⟨r1, r2, r3, r4⟩ := R_0 hN
      unfold f_X11_row
      refine bs fun x e => ?_
      subst e
      refine bc ((r_isRow l r _).2 hr) (it rfl ?_)
      unfold j_X11_row_27 j_X11_row_28
      exact si (by omega) (bc (r_right0 r2 (by omega)) (it rfl rfl))
end CAL11
