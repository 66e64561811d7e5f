/-! route, entry -/
section CAL8
theorem K_route {M : fMem} {n κ i a : Int} (h : St M n) (hn : n < 600) : thrK (f_X10_route κ i a) (f_X11_route κ i a) M n := by
  obtain ⟨-, hv⟩ := C_rel h
  have hst := h.2.1.2.2.2.1
  by_cases hk : 0 ≤ κ ∧ κ < 200
  · by_cases ha : 0 ≤ a ∧ a < 6
    · obtain ⟨M1, a1, a2, a3, a4, a5⟩ := C_refresh h
      rw [← a3 419 (by omega)] at a4
      obtain ⟨M2, b1, b2, b3, b4, b5, b6, b7⟩ := C_follow a2 a4 hk
      rw [a3 419 (by omega)] at a4 b5 b6 b7
      generalize hg : M 419 = g at *
      have fM : ∀ x, 418 ≤ x → M2 x = M x := fun x hx => by rw [b3 x hx, a3 x hx]
      have od : ∀ (j : Nat) (q : Int), (ordL g)[j]? = some q → M2 4 j = q := fun j q hq => by
        have := a4.2.2 j q hq
        rw [Int.zero_add] at this
        rw [b4 4 (by omega)]; exact this
      have hvl : (vis g κ (ordL g)).length ≤ (ordL g).length := by
        have := viX_len (g := g) (a := 0) (κ := κ) (ordL g)
        rw [(vi_0 g κ (ordL g)).1] at this
        exact this
      have hl := ordL_len hv
      -- the reference
      have ref : ∀ N, St N n → (∀ x, 418 ≤ x → x ≠ 439 → N x = M x) → ∃ N1 N2, f_X11_laysEntries 0 (mset N 418 4 0) = some N1 ∧ f_X11_looksFor κ N1 = some (lkT g 0 κ, N2) ∧ rts N2 g 0 κ (vis g κ (ordL g)) ∧ N2 418 4 = 0 ∧ N2 439 = N 439 ∧ St N2 (n + 1) := by
        intro N hN hx
        obtain ⟨r1, r2, r3, r4⟩ := R_0 hN
        obtain ⟨N1, c1, c2, c3, c4, c5, c6, c7⟩ := R_ent r1 (a := 0) (Or.inl rfl)
        have gN : N1 419 = g := by rw [c7, r3 419 (by omega), hx 419 (by omega) (by omega), hg]
        rw [r3 419 (by omega), hx 419 (by omega) (by omega), hg, ← gN] at c2
        obtain ⟨N2, d1, d2, d3, d4, d5⟩ := R_looks (κ := κ) (St_rF0 r1 c4) hn (Or.inl rfl) c3 c2
        rw [gN] at d1 d2
        rw [(vi_0 g κ (ordL g)).1] at d2
        exact ⟨N1, N2, c1, d1, d2, by rw [d3.2 4 (by omega) (by omega) (by omega) (by omega), c5, r2], by rw [d3.1 439 (by omega) (by omega), c6, r3 439 (by omega)], d4⟩
      have pre : ∀ (N N1 N2 : fMem) (P : Option (Int × fMem)), (mset N 418 4 0) 418 4 = 0 → f_X11_laysEntries 0 (mset N 418 4 0) = some N1 → f_X11_looksFor κ N1 = some (lkT g 0 κ, N2) → (if i = -1 then j_X11_route_68 i a N2 else (if -2147483648 ≤ (N2 418 22) - 1 ∧ (N2 418 22) - 1 < 2147483648 then ((f_X11_isIn i 0 ((N2 418 22) - 1) N2).bind fun (r28 : Int) => (if r28 = 0 then j_X11_route_73 i a 0 N2 else j_X11_route_68 i a N2)) else none)) = P → f_X11_route κ i a N = P := by
        intro N N1 N2 P r2 c1 d1 hP
        unfold f_X11_route
        refine bs fun x e => ?_
        subst e
        refine bc (r_isKey _ _) ?_
        rw [if_pos hk]
        refine ie (by omega) (bc (r_isIn _ _ _ _) ?_)
        rw [if_pos (c := 0 ≤ a ∧ a ≤ 5) (by omega)]
        refine ie (by omega) ?_
        unfold j_X11_route_27
        exact si (by omega) (bc (r_right1 r2) (ie (by simp) (bc c1 (bc d1 hP))))
      have cls : ∀ P, (if i = -1 then some (0, M2 227 4, M2) else (if i < 0 then some (1, 0, M2) else (if i < (M2 227 4) then (if 0 ≤ i ∧ i < 19 then (if a = 0 then (if 0 ≤ M2 4 i ∧ M2 4 i < 19 then some (0, LO (M2 4 i), M2) else none) else (if a = 1 then ((f_X10_numberOf (M2 4 i) M2).bind fun (r14 : Int) => some (0, r14, M2)) else (if a = 2 then (if 0 ≤ M2 4 i ∧ M2 4 i < 19 then some (0, M2 228 (M2 4 i), M2) else none) else (if a = 3 then (if 0 ≤ M2 4 i ∧ M2 4 i < 19 then some (0, M2 229 (M2 4 i), M2) else none) else (if a = 4 then (if 0 ≤ M2 4 i ∧ M2 4 i < 19 then some (0, M2 230 (M2 4 i), M2) else none) else (if 0 ≤ M2 4 i ∧ M2 4 i < 19 then some (0, M2 231 (M2 4 i), M2) else none)))))) else none) else some (1, 0, M2)))) = P → f_X10_route κ i a M = P := by
        intro P hP
        unfold f_X10_route
        refine bc (c_needKey _ _) ?_
        rw [if_pos hk]
        refine it rfl (bc (c_needWhat _ _ _) ?_)
        rw [if_pos ha]
        exact it rfl (bc a1 (bc b1 hP))
      by_cases c1 : i = -1
      · refine thr_join (c := 0) (v := (vis g κ (ordL g)).length) ⟨M2, cls _ ?_, b2, fM⟩ (by omega) ⟨by omega, by omega⟩ (fun N hN hx => ?_)
        · rw [b6]; exact it c1 rfl
        · obtain ⟨N1, N2, e1, e2, e3, e4, e5, e6⟩ := ref N hN hx
          refine ⟨_, N2, pre N N1 N2 _ (mset_self _ _ _ _) e1 e2 (it c1 ?_), e4, fun _ => rfl, e5, e6⟩
          unfold j_X11_route_68 j_X11_route_73
          refine si (by omega) (bc (r_right1 e4) (ie (by simp) (it c1 ?_)))
          show some (N2 418 22, N2) = _
          rw [e3.1]
      · by_cases c2 : 0 ≤ i ∧ i < (vis g κ (ordL g)).length
        · have hi : i.toNat < (vis g κ (ordL g)).length := by omega
          have gv : (vis g κ (ordL g))[i.toNat]? = some (vis g κ (ordL g))[i.toNat] := List.getElem?_eq_getElem hi
          generalize (vis g κ (ordL g))[i.toNat] = q at gv
          have hq := vis_get _ _ _ gv
          have hm : q ∈ vis g κ (ordL g) := List.mem_of_getElem? gv
          have q19 := (ordL_mem hv q (vis_mem _ q hm)).1
          have oq := od _ _ hq
          rw [show ((i.toNat : Nat) : Int) = i by omega] at oq
          obtain ⟨p1, p2, p3, p4⟩ := b5 q hm
          have lb := LO_bd q19
          have bd := bdX_bd (a := 0) (κ := κ) hv hst q19
          have el := eA_len (a := 0) (r := q) hv hst q19
          have fb := faX_bd (a := 0) (κ := κ) hv hst q19
          obtain ⟨xa, xb, xc, -⟩ := X_0 g κ
          refine thr_join (c := 0) (v := if a = 0 then LO q else if a = 1 then q - 2 * LO q else if a = 2 then (bdX g 0 κ q).1 else if a = 3 then (bdX g 0 κ q).2 else if a = 4 then (faX g 0 κ q).1 else lkX g 0 κ q) ⟨M2, cls _ ?_, b2, fM⟩ (by omega) (by unfold rg; repeat' split; all_goals omega) (fun N hN hx => ?_)
          · rw [oq, b6, p1, p2, p3, p4, xa, xb, xc]
            refine ie c1 (ie (by omega) (it (by omega) (si (by omega) ?_)))
            by_cases w0 : a = 0
            · rw [if_pos w0, if_pos w0, if_pos q19]
            · rw [if_neg w0, if_neg w0]
              by_cases w1 : a = 1
              · rw [if_pos w1, if_pos w1]; exact bc (FR_LO q19) rfl
              · rw [if_neg w1, if_neg w1]
                by_cases w2 : a = 2
                · rw [if_pos w2, if_pos w2, if_pos q19]
                · rw [if_neg w2, if_neg w2]
                  by_cases w3 : a = 3
                  · rw [if_pos w3, if_pos w3, if_pos q19]
                  · rw [if_neg w3, if_neg w3]
                    by_cases w4 : a = 4
                    · rw [if_pos w4, if_pos w4, if_pos q19]
                    · rw [if_neg w4, if_neg w4, if_pos q19]
          · obtain ⟨N1, N2, e1, e2, e3, e4, e5, e6⟩ := ref N hN hx
            obtain ⟨t0, t1, t2, t3, t4⟩ := e3.2.2 i.toNat q gv
            rw [show ((i.toNat : Nat) : Int) = i by omega] at t0 t1 t2 t3 t4
            refine ⟨_, N2, pre N N1 N2 _ (mset_self _ _ _ _) e1 e2 (ie c1 ?_), e4, fun _ => rfl, e5, e6⟩
            rw [e3.1]
            refine si (by omega) (bc (r_isIn _ _ _ _) ?_)
            rw [if_pos (c := 0 ≤ i ∧ i ≤ ((vis g κ (ordL g)).length : Int) - 1) (by omega)]
            refine ie (by omega) ?_
            unfold j_X11_route_68 j_X11_route_73
            refine si (by omega) ?_
            rw [r_right1 e4]
            show (if (1 : Int) = 0 then some (0, N2) else (if i = -1 then some (N2 418 22, N2) else (if 0 ≤ i ∧ i < 19 then (if a = 0 then ((f_X11_levelOf (N2 430 i) N2).bind fun (r20 : Int) => some (r20, N2)) else (if a = 1 then ((f_X11_levelOf (N2 430 i) N2).bind fun (r22 : Int) => (if -2147483648 ≤ (N2 430 i) - (2 * r22) ∧ (N2 430 i) - (2 * r22) < 2147483648 then some ((N2 430 i) - (2 * r22), N2) else none)) else (if a = 2 then some (N2 431 i, N2) else (if a = 3 then some (N2 432 i, N2) else (if a = 4 then some (N2 433 i, N2) else some (N2 434 i, N2)))))) else none))) = _
            rw [t0, t1, t2, t3, t4]
            refine ie (by omega) (ie c1 (si (by omega) ?_))
            by_cases w0 : a = 0
            · rw [if_pos w0, if_pos w0]; exact bc (r_levelOf q19) rfl
            · rw [if_neg w0, if_neg w0]
              by_cases w1 : a = 1
              · rw [if_pos w1, if_pos w1]; exact bc (r_levelOf q19) (si (by omega) rfl)
              · rw [if_neg w1, if_neg w1]
                by_cases w2 : a = 2
                · rw [if_pos w2, if_pos w2]
                · rw [if_neg w2, if_neg w2]
                  by_cases w3 : a = 3
                  · rw [if_pos w3, if_pos w3]
                  · rw [if_neg w3, if_neg w3]
                    by_cases w4 : a = 4
                    · rw [if_pos w4, if_pos w4]
                    · rw [if_neg w4, if_neg w4]
        · refine thr_join (c := 1) (v := 0) ⟨M2, cls _ ?_, b2, fM⟩ (by omega) ⟨by omega, by omega⟩ (fun N hN hx => ?_)
          · rw [b6]
            refine ie c1 ?_
            by_cases c3 : i < 0
            · exact it c3 rfl
            · exact ie c3 (ie (by omega) rfl)
          · obtain ⟨N1, N2, e1, e2, e3, e4, e5, e6⟩ := ref N hN hx
            refine ⟨0, mset N2 418 4 1, pre N N1 N2 _ (mset_self _ _ _ _) e1 e2 (ie c1 ?_), mset_self _ _ _ _, fun z => by omega, by rw [mset_ne (by omega), e5], ?_⟩
            · rw [e3.1]
              refine si (by omega) (bc (r_isIn _ _ _ _) ?_)
              rw [if_neg (c := 0 ≤ i ∧ i ≤ ((vis g κ (ordL g)).length : Int) - 1) (by omega)]
              refine it rfl ?_
              unfold j_X11_route_73
              exact si (by omega) (bc (r_right0 e4 (by omega)) (it rfl rfl))
            · exact St_rF0 e6 ⟨fun x h1 _ _ => mset_ne h1, mset_slot (by omega), mset_slot (by omega)⟩
    · refine thr_join (c := 1) (v := 0) ⟨M, ?_, h, fun _ _ => rfl⟩ (by omega) ⟨by omega, by omega⟩ (fun N hN hx => R_no hN hn ?_ (by omega))
      · unfold f_X10_route
        refine bc (c_needKey _ _) ?_
        rw [if_pos hk]
        refine it rfl (bc (c_needWhat _ _ _) ?_)
        rw [if_neg ha]
        exact ie (by omega) rfl
      · obtain ⟨r1, r2, r3, r4⟩ := R_0 hN
        unfold f_X11_route
        refine bs fun x e => ?_
        subst e
        refine bc (r_isKey _ _) ?_
        rw [if_pos hk]
        refine ie (by omega) (bc (r_isIn _ _ _ _) ?_)
        rw [if_neg (c := 0 ≤ a ∧ a ≤ 5) (by omega)]
        refine it rfl ?_
        unfold j_X11_route_26 j_X11_route_27
        exact si (by omega) (bc (r_right0 r2 (by omega)) (it rfl rfl))
  · refine thr_join (c := 1) (v := 0) ⟨M, ?_, h, fun _ _ => rfl⟩ (by omega) ⟨by omega, by omega⟩ (fun N hN hx => R_no hN hn ?_ (by omega))
    · unfold f_X10_route
      refine bc (c_needKey _ _) ?_
      rw [if_neg hk]
      exact ie (by omega) rfl
    · obtain ⟨r1, r2, r3, r4⟩ := R_0 hN
      unfold f_X11_route
      refine bs fun x e => ?_
      subst e
      refine bc (r_isKey _ _) ?_
      rw [if_neg hk]
      refine it rfl ?_
      unfold j_X11_route_26 j_X11_route_27
      exact si (by omega) (bc (r_right0 r2 (by omega)) (it rfl rfl))
end CAL8
