/-! calm, the call of both -/
section CALM6
def calmX (a : Int) (M : fMem) : Option (Int × Int × fMem) := (f_X10_calm a M).bind fun r => if r.1 = 0 then some r else if r.1 = 2 then some (1, r.2) else none
theorem K_calm {M : fMem} {n a : Int} (h : St M n) (hn : n < 600) : thrK (calmX a) (f_X11_calm a) M n := by
  have hR := h.2.1.1
  have hT0 : 500000 ≤ TT n := h.2.1.2.1
  have hT : TT n + 70000 < 2000000000 := by unfold TT; omega
  by_cases ha : 0 ≤ a ∧ a ≤ 64
  · obtain ⟨k, rfl⟩ : ∃ k : Nat, a = k := ⟨a.toNat, by omega⟩
    have bd := cmV_bd (M 419) k 41 0 (by omega) (by omega)
    have cl : ∃ M1, calmX k M = some (0, cmV (M 419) k 41 0, M1) ∧ St M1 n ∧ ∀ x, 418 ≤ x → M1 x = M x := by
      obtain ⟨B, b1', b2, b3⟩ := C_calmL (g := M 419) (a := k) hn (by omega) 41 20000 0 M (by omega) (by omega) (by omega) h rfl
      refine ⟨B, ?_, b2, b3⟩
      unfold calmX f_X10_calm
      have e : f_X10_needActs k M = some 0 := by rw [c_needActs, if_pos ha]
      exact bc (bc e (it rfl b1')) (it rfl rfl)
    refine thr_join (c := 0) (v := cmV (M 419) k 41 0) cl (by omega) (by unfold rg; omega) (fun N hN hx => ?_)
    obtain ⟨r1, r2, r3, r4⟩ := R_0 hN
    have gN : mset N 418 4 0 419 = M 419 := by rw [r3 419 (by omega), hx 419 (by omega) (by omega)]
    obtain ⟨P, hP⟩ : ∃ P, P = mset N 418 4 0 := ⟨_, rfl⟩
    obtain ⟨Q, hQ⟩ : ∃ Q, Q = oset P 420 (fun x => if 0 ≤ x ∧ x < 7787 then P 419 x else P 420 x) := ⟨_, rfl⟩
    have p9 : P 419 = M 419 := by rw [hP, gN]
    have q9 : Q 419 = M 419 := by rw [hQ, os_ne (by omega), p9]
    have q0 : ∀ x, 0 ≤ x → x < 7787 → Q 420 x = M 419 x := fun x x0 x1 => by
      rw [hQ, os, if_pos ⟨x0, x1⟩, p9]
    have j1 := R_calmL (Q := Q) (a := k) hR hT0 hT (by omega) q9 q0 41 20000 0 (by omega) (by omega) (by omega)
    have fr : ∀ x, x ≠ 420 → Q x = P x := fun x hx => by rw [hQ, os_ne hx]
    refine ⟨cmV (M 419) k 41 0, Q, ?_, by rw [fr 418 (by omega), hP, r2], fun _ => rfl, by rw [fr 439 (by omega), hP, r3 439 (by omega)], St_rF hN (rF_tr r4 ⟨fun x h1 h2 _ => by rw [fr x h2, hP], by rw [fr 418 (by omega), hP], by rw [fr 418 (by omega), hP]⟩) hn⟩
    unfold f_X11_calm
    refine bs fun x e => ?_
    rw [← hP] at e
    subst e
    refine bc (r_isIn _ _ _ _) ?_
    rw [if_pos ha]
    refine bc (r_right1 (by rw [hP, r2])) (ie (by simp) (bc (e_goesA _) ?_))
    show L_X11_calm_28 _ 20000 k 0 (oset x 420 (fun y => if 0 ≤ y ∧ y < 7787 then x 419 y else x 420 y)) = _
    rw [← hQ]
    exact j1
  · refine thr_join (c := 1) (v := 0) ⟨M, ?_, h, fun _ _ => rfl⟩ (by omega) ⟨by omega, by omega⟩ (fun N hN hx => R_no hN hn ?_ (by omega))
    · unfold calmX f_X10_calm
      have e : f_X10_needActs a M = some 2 := by rw [c_needActs, if_neg ha]
      exact bc (bc e (ie (by omega) rfl)) (ie (by show ¬ ((2 : Int) = 0); omega) (it rfl rfl))
    · obtain ⟨r1, r2, r3, r4⟩ := R_0 hN
      unfold f_X11_calm
      refine bs fun x e => ?_
      subst e
      refine bc (r_isIn _ _ _ _) ?_
      rw [if_neg ha]
      exact bc (r_right0 r2 (by omega)) (it rfl rfl)
end CALM6
