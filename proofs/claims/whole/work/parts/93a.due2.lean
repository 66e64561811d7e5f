/-! due, the call -/
section DUE2
theorem K_due {M : fMem} {n l : Int} (h : St M n) (hn : n < 600) : thrK (f_X10_due l) (f_X11_due l) M n := by
  have hR := h.2.1.1
  have hT0 : 500000 ≤ TT n := h.2.1.2.1
  have hb := h.2.1.2.2.1
  have hT : TT n + 70000 < 2000000000 := by unfold TT; omega
  by_cases hl : 0 ≤ l ∧ l ≤ 8
  · have bd := duN_bd (M 419) l 64 0 (by omega)
    have cl : ∃ M1, f_X10_due l M = some (0, duN (M 419) l 64 0, M1) ∧ St M1 n ∧ ∀ x, 418 ≤ x → M1 x = M x := by
      obtain ⟨A, a1, a2⟩ := C_copy h
      obtain ⟨B, b1', b2⟩ := c_dueL (M0 := M) hR hb hT0 hT hl h.1.1 64 20000 0 A (by omega) (by omega) a2
      refine ⟨B, ?_, St_trial h b2, fun x hx => b2 x (by omega)⟩
      unfold f_X10_due
      refine bc (c_needLevel _ _) ?_
      rw [if_pos hl]
      exact it rfl (bc a1 b1')
    refine thr_join (c := 0) (v := duN (M 419) l 64 0) cl (by omega) (by unfold rg; omega) (fun N hN hx => ?_)
    obtain ⟨r1, r2, r3, r4⟩ := R_0 hN
    have gN : mset N 418 4 0 419 = M 419 := by rw [r3 419 (by omega), hx 419 (by omega) (by omega)]
    obtain ⟨P, hP⟩ : ∃ P, P = mset N 418 4 0 := ⟨_, rfl⟩
    obtain ⟨Q, hQ⟩ : ∃ Q, Q = oset P 420 (fun x => if 0 ≤ x ∧ x < 7787 then P 419 x else P 420 x) := ⟨_, rfl⟩
    have p9 : P 419 = M 419 := by rw [hP, gN]
    have q9 : Q 419 = M 419 := by rw [hQ, os_ne (by omega), p9]
    have q0 : ∀ x, 0 ≤ x → x < 7787 → Q 420 x = M 419 x := fun x x0 x1 => by
      rw [hQ, os, if_pos ⟨x0, x1⟩, p9]
    have qq : oset Q 419 (sAh (M 419) 0) = Q := by
      funext a
      by_cases ha : a = 419
      · subst ha; rw [os, q9]; rfl
      · rw [os_ne ha]
    obtain ⟨j, j0, j1⟩ := r_dueL (N := Q) (k := fun (v2_14 : Int) (M_14 : fMem) => ((f_X11_comesBack M_14).bind fun (r15 : fMem) => some (v2_14, r15))) hR hb hT0 hT hl q0 64 20000 0 (by omega) (by omega)
    rw [qq] at j1
    have bk : f_X11_comesBack (oset Q 419 (sAh (M 419) j)) = some (oset (oset Q 419 (sAh (M 419) j)) 419 (M 419)) := e_backTo (fun x x0 x1 => by rw [os_ne (by omega)]; exact q0 x x0 x1) (fun x hx => by rw [os]; exact sAh_out hR hb hT0 hx j (by omega))
    have fr : ∀ x, x ≠ 420 → oset (oset Q 419 (sAh (M 419) j)) 419 (M 419) x = P x := by
      intro x hx
      by_cases c : x = 419
      · subst c; rw [os, p9]
      · rw [os_ne c, os_ne c, hQ, os_ne hx]
    refine ⟨duN (M 419) l 64 0, oset (oset Q 419 (sAh (M 419) j)) 419 (M 419), ?_, by rw [fr 418 (by omega), hP, r2], fun _ => rfl, by rw [fr 439 (by omega), hP, r3 439 (by omega)], St_rF hN (rF_tr r4 ⟨fun x h1 h2 _ => by rw [fr x h2, hP], by rw [fr 418 (by omega), hP], by rw [fr 418 (by omega), hP]⟩) hn⟩
    unfold f_X11_due
    refine bs fun x e => ?_
    rw [← hP] at e
    subst e
    refine bc (r_isLevel _ _) ?_
    rw [if_pos hl]
    refine bc (r_right1 (by rw [hP, r2])) (ie (by simp) (bc (e_goesA _) ?_))
    show L_X11_due_27 _ 20000 l (-1) 0 (oset x 420 (fun y => if 0 ≤ y ∧ y < 7787 then x 419 y else x 420 y)) = _
    rw [← hQ]
    exact j1.trans (bc bk rfl)
  · refine thr_join (c := 1) (v := 0) ⟨M, ?_, h, fun _ _ => rfl⟩ (by omega) ⟨by omega, by omega⟩ (fun N hN hx => R_no hN hn ?_ (by omega))
    · unfold f_X10_due
      refine bc (c_needLevel _ _) ?_
      rw [if_neg hl]
      exact ie (by omega) rfl
    · obtain ⟨r1, r2, r3, r4⟩ := R_0 hN
      unfold f_X11_due
      refine bs fun x e => ?_
      subst e
      refine bc (r_isLevel _ _) ?_
      rw [if_neg hl]
      exact bc (r_right0 r2 (by omega)) (it rfl rfl)
end DUE2
