/-! against, between: the calls -/
section VW5
/-- what a key adds to against: v of the view, w of now -/
def agI (k : Int) (v w : Int → Int) : Int → Int := fun κ => if k = 0 then tH v κ else if k = 1 then tX v w κ else tM w v κ
theorem agI_bd (k : Int) (v w : Int → Int) (κ : Int) : 0 ≤ agI k v w κ ∧ agI k v w κ ≤ 1 := by
  unfold agI tH tX tM
  repeat' split
  all_goals omega
theorem r_agL {M : fMem} {b : Int} {k : Int → fMem → Option (Int × fMem)} (hb : b = 0 ∨ b = 1 ∨ b = 2) : ∀ (d n : Nat) (c v : Int), v + d = 200 → 0 ≤ v → d < n → 0 ≤ c → c + d ≤ 1000 → L_X11_against_62 k n b c v M = k (c + kS (agI b (M 437) (M 422)) v d) M := by
  intro d
  induction d with
  | zero =>
    intro n c v h1 h2 hn c0 c1
    obtain ⟨n, rfl⟩ : ∃ n', n = n' + 1 := ⟨n - 1, by omega⟩
    rw [L_X11_against_62, if_pos (by omega), kS, Int.add_zero]
  | succ d ih =>
    intro n c v h1 h2 hn c0 c1
    obtain ⟨n, rfl⟩ : ∃ n', n = n' + 1 := ⟨n - 1, by omega⟩
    have i0 := ih n (c + 0) (v + 1) (by omega) (by omega) (by omega) (by omega) (by omega)
    have i1 := ih n (c + 1) (v + 1) (by omega) (by omega) (by omega) (by omega) (by omega)
    have e : kS (agI b (M 437) (M 422)) v (d + 1) = agI b (M 437) (M 422) v + kS (agI b (M 437) (M 422)) (v + 1) d := rfl
    have z0 : agI b (M 437) (M 422) v = 0 → L_X11_against_62 k n b (c + 0) (v + 1) M = k (c + kS (agI b (M 437) (M 422)) v (d + 1)) M := fun z => by
      rw [i0, e, z, show c + (0 + kS (agI b (M 437) (M 422)) (v + 1) d) = c + 0 + kS (agI b (M 437) (M 422)) (v + 1) d by omega]
    have z1 : agI b (M 437) (M 422) v = 1 → L_X11_against_62 k n b (c + 1) (v + 1) M = k (c + kS (agI b (M 437) (M 422)) v (d + 1)) M := fun z => by
      rw [i1, e, z, show c + (1 + kS (agI b (M 437) (M 422)) (v + 1) d) = c + 1 + kS (agI b (M 437) (M 422)) (v + 1) d by omega]
    refine ie (by omega) (it (by omega) ?_)
    by_cases q : M 437 v = -1
    · refine it q ?_
      rcases hb with rfl | rfl | rfl
      · exact it rfl (it (by omega) (z0 (by unfold agI tH; rw [if_pos rfl, if_pos q])))
      · exact ie (by omega) (it rfl (it (by omega) (z0 (by unfold agI tX; rw [if_neg (by omega), if_pos rfl, if_pos q]))))
      · refine ie (by omega) (ie (by omega) ?_)
        by_cases p : M 422 v = -1
        · exact it p (it (by omega) (z0 (by unfold agI tM; rw [if_neg (by omega), if_neg (by omega), if_pos p])))
        · exact ie p (it (by omega) (z1 (by unfold agI tM; rw [if_neg (by omega), if_neg (by omega), if_neg p, if_pos q])))
    · refine ie q ?_
      rcases hb with rfl | rfl | rfl
      · exact it rfl (it (by omega) (z1 (by unfold agI tH; rw [if_pos rfl, if_neg q])))
      · refine ie (by omega) (it rfl ?_)
        by_cases p : M 437 v = M 422 v
        · exact it p (it (by omega) (z0 (by unfold agI tX; rw [if_neg (by omega), if_pos rfl, if_neg q, if_pos p.symm])))
        · exact ie p (it (by omega) (z1 (by unfold agI tX; rw [if_neg (by omega), if_pos rfl, if_neg q, if_neg (fun z => p z.symm)])))
      · exact ie (by omega) (ie (by omega) (it (by omega) (z0 (by
          unfold agI tM
          rw [if_neg (by omega), if_neg (by omega)]
          by_cases p : M 422 v = -1
          · rw [if_pos p]
          · rw [if_neg p, if_neg q]))))
theorem agI_cg {k : Int} {v w v1 w1 : Int → Int} {κ : Int} (hv : v κ = v1 κ) (hw : w κ = w1 κ) : agI k v w κ = agI k v1 w1 κ := by
  unfold agI tH tX tM
  rw [hv, hw]
noncomputable def nK (g : Int → Int) (κ : Int) : Int := hV g κ (ordL g)
theorem K_against {M : fMem} {n a b : Int} (h : St M n) (hn : n < 600) : thrK (f_X10_against a b) (f_X11_against a b) M n := by
  have ti := tkn_iff (a := a) h
  have no : ¬ (tkn (M 436) a ∧ 0 ≤ b ∧ b ≤ 3) → ∀ N, St N n → (∀ x, 418 ≤ x → x ≠ 439 → N x = M x) → Rq (f_X11_against a b) N n 1 0 := by
    intro q N hN hx
    refine R_no hN hn ?_ (by omega)
    obtain ⟨r1, r2, r3, r4⟩ := R_0 hN
    have j25 : j_X11_against_27 a b (mset N 418 4 0) = some (0, mset (mset N 418 4 0) 418 4 1) := by
      unfold j_X11_against_27 j_X11_against_28
      exact si (by omega) (bc (r_right0 r2 (by omega)) (it rfl rfl))
    have e36 : mset N 418 4 0 436 = M 436 := by rw [r3 436 (by omega), hx 436 (by omega) (by omega)]
    unfold f_X11_against
    refine bs fun x e => ?_
    subst e
    refine bc (r_isTaken _ _) ?_
    rw [e36]
    by_cases t : tkn (M 436) a
    · rw [if_pos t]
      refine ie (by omega) (bc (r_isIn _ _ _ _) ?_)
      rw [if_neg (fun z => q ⟨t, z⟩)]
      exact it rfl j25
    · rw [if_neg t]
      exact it rfl j25
  by_cases t : tkn (M 436) a
  · have ha := t.1
    by_cases hb : 0 ≤ b ∧ b ≤ 3
    · obtain ⟨M1, a1, a2, a3, a4⟩ := C_read h
      obtain ⟨M2, b1', b2, b3, b4, b5⟩ := C_readV (o := 235) a2 ha (Or.inr rfl)
      rw [a3 435 (by omega)] at b4
      have m2 : ∀ x, 418 ≤ x → M2 x = M x := fun x hx => by rw [b3 x hx, a3 x hx]
      have v33 : ∀ κ, 0 ≤ κ → κ < 200 → M2 233 κ = nK (M 419) κ := fun κ k0 k1 => by rw [b5 233 (by omega)]; exact (a4.1 κ k0 k1).1
      have v36 : ∀ κ, 0 ≤ κ → κ < 200 → M2 236 κ = vK (M 435) a κ := fun κ k0 k1 => (b4.1 κ k0 k1).1
      have pre : ∀ P, (if b = 0 then ((f_X2_keysThere 235 0 199 M2).bind fun (r10 : Int) => some ((0 : Int), r10, M2)) else (if b = 1 then ((f_X2_lostIn 235 232 M2).bind fun (r12 : Int) => some (0, r12, M2)) else (if b = 2 then ((f_X2_missingIn 232 235 M2).bind fun (r14 : Int) => some (0, r14, M2)) else ((f_X7_shutYetIn (60 * a.toNat + 238) 2 M2).bind fun (r16 : Int) => some (0, r16, M2))))) = some P → f_X10_against a b M = some P := by
        intro P hP
        unfold f_X10_against
        refine bc (c_needTaken _ _) ?_
        rw [if_pos (ti.mpr t)]
        refine it rfl (bc (c_needWhat _ _ _) ?_)
        rw [if_pos (c := 0 ≤ b ∧ b < 4) (by omega)]
        exact it rfl (bc a1 (si ha (bc b1' hP)))
      have e36 : ∀ N, (∀ x, 418 ≤ x → x ≠ 439 → N x = M x) → mset N 418 4 0 436 = M 436 := fun N hx => by rw [mset_ne (by omega), hx 436 (by omega) (by omega)]
      by_cases c3 : b = 3
      · have hv1 := (C_rel b2).1
        have hv2 := (C_vw b2 ha).1
        rw [m2 419 (by omega)] at hv1
        rw [m2 435 (by omega)] at hv2
        have bd := kS_bd (f := syV (M 419) (kv (M 435) a)) 19 0 (fun j _ _ => syV_bd _ _ _)
        refine thr_join (c := 0) (v := kS (syV (M 419) (kv (M 435) a)) 0 19) ⟨M2, pre _ (ie (by omega) (ie (by omega) (ie (by omega) (bc (c_shutYet hv2 hv1) rfl)))), b2, m2⟩ (by omega) (by unfold rg; omega) (fun N hN hx => ?_)
        obtain ⟨r1, r2, r3, r4⟩ := R_0 hN
        refine ⟨kS (syV (M 419) (kv (M 435) a)) 0 19, mset N 418 4 0, ?_, r2, fun _ => rfl, r3 439 (by omega), St_rF hN r4 hn⟩
        unfold f_X11_against
        refine bs fun x e => ?_
        subst e
        refine bc (r_isTaken _ _) ?_
        rw [e36 N hx, if_pos t]
        refine ie (by omega) (bc (r_isIn _ _ _ _) ?_)
        rw [if_pos hb]
        refine ie (by omega) ?_
        unfold j_X11_against_28
        refine si (by omega) (bc (r_right1 r2) (ie (by simp) (it c3 ?_)))
        have sy := r_shutYet (M := mset N 418 4 0) ha
        rw [r3 419 (by omega), r3 435 (by omega), hx 419 (by omega) (by omega), hx 435 (by omega) (by omega)] at sy
        exact bc sy rfl
      · have hb3 : b = 0 ∨ b = 1 ∨ b = 2 := by omega
        have bd := kS_bd (f := agI b (vK (M 435) a) (nK (M 419))) 200 0 (fun j _ _ => agI_bd _ _ _ _)
        have eq2 : kS (agI b (M2 236) (M2 233)) 0 200 = kS (agI b (vK (M 435) a) (nK (M 419))) 0 200 := kS_cg _ _ (fun j j0 j1 => agI_cg (v36 j (by omega) (by omega)) (v33 j (by omega) (by omega)))
        refine thr_join (c := 0) (v := kS (agI b (vK (M 435) a) (nK (M 419))) 0 200) ⟨M2, pre _ ?_, b2, m2⟩ (by omega) (by unfold rg; omega) (fun N hN hx => ?_)
        · rw [← eq2]
          rcases hb3 with rfl | rfl | rfl
          · refine it rfl (bc (c_keysThere (by omega) (by omega)) ?_)
            show some ((0 : Int), kS (tH (M2 236)) 0 (199 + 1 - 0 : Int).toNat, M2) = _
            have : (fun κ => agI 0 (M2 236) (M2 233) κ) = tH (M2 236) := by funext κ; unfold agI; rw [if_pos rfl]
            rw [show agI 0 (M2 236) (M2 233) = tH (M2 236) from this]
            rfl
          · refine ie (by omega) (it rfl (bc c_lostIn ?_))
            have : (fun κ => agI 1 (M2 236) (M2 233) κ) = tX (M2 236) (M2 233) := by funext κ; unfold agI; rw [if_neg (by omega), if_pos rfl]
            rw [show agI 1 (M2 236) (M2 233) = tX (M2 236) (M2 233) from this]
          · refine ie (by omega) (ie (by omega) (it rfl (bc c_missingIn ?_)))
            have : (fun κ => agI 2 (M2 236) (M2 233) κ) = tM (M2 233) (M2 236) := by funext κ; unfold agI; rw [if_neg (by omega), if_neg (by omega)]
            rw [show agI 2 (M2 236) (M2 233) = tM (M2 233) (M2 236) from this]
        · obtain ⟨r1, r2, r3, r4⟩ := R_0 hN
          obtain ⟨N1, s1, s2, s3, s4, s5, s6, s7, s8⟩ := R_seen r1 ha
          rw [r3 435 (by omega), hx 435 (by omega) (by omega)] at s2
          have hv : okV (N1 419) := by rw [s6]; exact (C_rel r1).2
          obtain ⟨N2, t1, t2, t3⟩ := r_laysKeys hv
          rw [s6, r3 419 (by omega), hx 419 (by omega) (by omega)] at t2
          have f2 : rF N1 N2 := ⟨fun x h1 h2 h3 => t3 x (by omega) (by omega) (by omega), by rw [t3 418 (by omega) (by omega) (by omega)], by rw [t3 418 (by omega) (by omega) (by omega)]⟩
          refine ⟨kS (agI b (vK (M 435) a) (nK (M 419))) 0 200, N2, ?_, by rw [t3 418 (by omega) (by omega) (by omega), s4, r2], fun _ => rfl, by rw [t3 439 (by omega) (by omega) (by omega), s5, r3 439 (by omega)], St_rF hN (rF_tr r4 (rF_tr s3 f2)) hn⟩
          unfold f_X11_against
          refine bs fun x e => ?_
          subst e
          refine bc (r_isTaken _ _) ?_
          rw [e36 N hx, if_pos t]
          refine ie (by omega) (bc (r_isIn _ _ _ _) ?_)
          rw [if_pos hb]
          refine ie (by omega) ?_
          unfold j_X11_against_28
          refine si (by omega) (bc (r_right1 r2) (ie (by simp) (ie c3 (bc s1 (bc t1 ?_)))))
          rw [r_agL hb3 200 20000 0 0 (by omega) (by omega) (by omega) (by omega) (by omega), Int.zero_add]
          rw [kS_cg (f := agI b (N2 437) (N2 422)) (f1 := agI b (vK (M 435) a) (nK (M 419))) _ _ (fun j j0 j1 => agI_cg (by rw [t3 437 (by omega) (by omega) (by omega)]; exact s2 j (by omega) (by omega)) (t2 j (by omega) (by omega)).2.1)]
    · refine thr_join (c := 1) (v := 0) ⟨M, ?_, h, fun _ _ => rfl⟩ (by omega) ⟨by omega, by omega⟩ (no (fun z => hb z.2))
      unfold f_X10_against
      refine bc (c_needTaken _ _) ?_
      rw [if_pos (ti.mpr t)]
      refine it rfl (bc (c_needWhat _ _ _) ?_)
      rw [if_neg (c := 0 ≤ b ∧ b < 4) (by omega)]
      exact ie (by omega) rfl
  · refine thr_join (c := 1) (v := 0) ⟨M, ?_, h, fun _ _ => rfl⟩ (by omega) ⟨by omega, by omega⟩ (no (fun z => t z.1))
    unfold f_X10_against
    refine bc (c_needTaken _ _) ?_
    rw [if_neg (fun z => t (ti.mp z))]
    exact ie (by omega) rfl
end VW5
