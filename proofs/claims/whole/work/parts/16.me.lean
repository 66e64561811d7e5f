section MTH
def mX11_budget : fMt := (yX11_budget, cX11_budget, 3, some .int, { frames := 1, cells := 0, slots := 0, locals := 40 })
theorem miX11_budget : fMv mX11_budget 1 := ⟨⟨fM 1375 (by decide +kernel) rfl, fM 101 (by decide +kernel) rfl, ⟨by decide +kernel, by decide +kernel⟩, by decide +kernel⟩, fM 1373 (by decide +kernel) rfl, fM 1374 (by decide +kernel) rfl⟩
def f_X11_budget (a1 : Int) (M : fMem) : Option (Int × fMem) := ((some (mset M 418 4 0)).bind fun (N1 : fMem) => ((f_X11_isIn a1 0 40 N1).bind fun (r2 : Int) => (if r2 = 0 then some ((-1), N1) else ((some (mset N1 419 7739 a1)).bind fun (N4 : fMem) => some (N1 419 7739, N4)))))
set_option maxRecDepth 100000 in
set_option maxHeartbeats 4000000 in
theorem s_X11_budget {G : fG} (hg : gbt G = true) {a1 : Int} (ga1 : rg a1) {M : fMem} {q : Int × fMem} (h : f_X11_budget a1 M = some q) : fSp G mX11_budget [rv G 418, iv a1] M (rP q.2 q.1) fNo := by
  refine fSp_of (by decide +kernel) (by decide +kernel) (fC1 rfl (fC1 rfl fC0)) (Nat.le_of_ble_eq_true rfl) ?_
  show fW G mX11_budget (fEm G mX11_budget (rP q.2 q.1) fNo) 0 0 0 [some (rv G 418), some (iv a1), none] [] M
  rw [f_X11_budget] at h
  refine fW_rg (fun hR => ?_)
  refine fW_aload_n 1 dX11_budget_0 rfl rfl ?_
  refine fW_iconst 2 dX11_budget_1 rfl ?_
  obtain ⟨N1, e1, h⟩ := fBd h
  replace e1 := Option.some.inj e1
  refine fW_putI 5 4 (ji := 4) hg clX11 rfl (by decide) rfl rfl rfl tc_418 (by decide) wd_1178 dX11_budget_2 rfl ?_
  rw [e1]
  refine fW_rg (fun hR1 => ?_)
  refine fW_iload_n 6 dX11_budget_5 rfl rfl ?_
  refine fW_iconst 7 dX11_budget_6 rfl ?_
  refine fW_bipush 9 dX11_budget_7 rfl (by decide) ?_
  obtain ⟨r2, e2, h⟩ := fBd h
  refine fW_cB (fI_S (as := [iv a1, iv 0, iv 40]) (rest := []) miX11_isIn rfl wd_1272 (fRoom_of rfl) rfl (Nat.le_of_ble_eq_true rfl) dX11_budget_9) (s_X11_isIn ga1 (by decide) (by decide) e2) rfl rfl rfl (fun g2 => ?_)
  refine fW_if_ne 15 17 (rg_z g2) dX11_budget_12 rfl rfl (fun c3 => ?_) (fun c3 => ?_)
  · replace h := fFf h c3
    refine fW_aload_n 18 dX11_budget_17 rfl rfl ?_
    refine fW_getR 21 (r := 419) 0 hg clX11 (by decide) rfl tc_418 tf_11_0 wd_1174 dX11_budget_18 rfl ?_
    refine fW_sipush 24 dX11_budget_21 rfl (by decide) ?_
    refine fW_iald 25 hg tc_419 ⟨by decide, by rw [show Ln 419 = 7787 from rfl]; decide⟩ dX11_budget_24 rfl ?_
    refine fW_istore_n 26 (ls' := [some (rv G 418), some (iv a1), some (iv (N1 419 7739))]) dX11_budget_25 rfl rfl rfl (by decide) ?_
    refine fW_aload_n 27 dX11_budget_26 rfl rfl ?_
    refine fW_getR 30 (r := 419) 0 hg clX11 (by decide) rfl tc_418 tf_11_0 wd_1174 dX11_budget_27 rfl ?_
    refine fW_sipush 33 dX11_budget_30 rfl (by decide) ?_
    refine fW_iload_n 34 dX11_budget_33 rfl rfl ?_
    obtain ⟨N4, e4, h⟩ := fBd h
    replace e4 := Option.some.inj e4
    refine fW_iast 35 hg tc_419 ⟨by decide, by rw [show Ln 419 = 7787 from rfl]; decide⟩ ga1 dX11_budget_34 rfl ?_
    rw [e4]
    refine fW_rg (fun hR4 => ?_)
    refine fW_iload_n 36 dX11_budget_35 rfl rfl ?_
    exact fW_iret rfl (by decide) (by decide) dX11_budget_36 (rI_i h (hR1 419 7739))
  · replace h := fTt h c3
    refine fW_iconst 16 dX11_budget_15 rfl ?_
    exact fW_iret rfl (by decide) (by decide) dX11_budget_16 (rI_i h (by decide))
def mX11_stride : fMt := (yX11_stride, cX11_stride, 3, some .int, { frames := 1, cells := 0, slots := 0, locals := 40 })
theorem miX11_stride : fMv mX11_stride 1 := ⟨⟨fM 1379 (by decide +kernel) rfl, fM 101 (by decide +kernel) rfl, ⟨by decide +kernel, by decide +kernel⟩, by decide +kernel⟩, fM 1377 (by decide +kernel) rfl, fM 1378 (by decide +kernel) rfl⟩
def f_X11_stride (a1 : Int) (M : fMem) : Option (Int × fMem) := ((some (mset M 418 4 0)).bind fun (N1 : fMem) => ((f_X11_isIn a1 2 8 N1).bind fun (r2 : Int) => (if r2 = 0 then some ((-1), N1) else ((some (mset N1 419 7740 a1)).bind fun (N4 : fMem) => some (N1 419 7740, N4)))))
set_option maxRecDepth 100000 in
set_option maxHeartbeats 4000000 in
theorem s_X11_stride {G : fG} (hg : gbt G = true) {a1 : Int} (ga1 : rg a1) {M : fMem} {q : Int × fMem} (h : f_X11_stride a1 M = some q) : fSp G mX11_stride [rv G 418, iv a1] M (rP q.2 q.1) fNo := by
  refine fSp_of (by decide +kernel) (by decide +kernel) (fC1 rfl (fC1 rfl fC0)) (Nat.le_of_ble_eq_true rfl) ?_
  show fW G mX11_stride (fEm G mX11_stride (rP q.2 q.1) fNo) 0 0 0 [some (rv G 418), some (iv a1), none] [] M
  rw [f_X11_stride] at h
  refine fW_rg (fun hR => ?_)
  refine fW_aload_n 1 dX11_stride_0 rfl rfl ?_
  refine fW_iconst 2 dX11_stride_1 rfl ?_
  obtain ⟨N1, e1, h⟩ := fBd h
  replace e1 := Option.some.inj e1
  refine fW_putI 5 4 (ji := 4) hg clX11 rfl (by decide) rfl rfl rfl tc_418 (by decide) wd_1178 dX11_stride_2 rfl ?_
  rw [e1]
  refine fW_rg (fun hR1 => ?_)
  refine fW_iload_n 6 dX11_stride_5 rfl rfl ?_
  refine fW_iconst 7 dX11_stride_6 rfl ?_
  refine fW_bipush 9 dX11_stride_7 rfl (by decide) ?_
  obtain ⟨r2, e2, h⟩ := fBd h
  refine fW_cB (fI_S (as := [iv a1, iv 2, iv 8]) (rest := []) miX11_isIn rfl wd_1272 (fRoom_of rfl) rfl (Nat.le_of_ble_eq_true rfl) dX11_stride_9) (s_X11_isIn ga1 (by decide) (by decide) e2) rfl rfl rfl (fun g2 => ?_)
  refine fW_if_ne 15 17 (rg_z g2) dX11_stride_12 rfl rfl (fun c3 => ?_) (fun c3 => ?_)
  · replace h := fFf h c3
    refine fW_aload_n 18 dX11_stride_17 rfl rfl ?_
    refine fW_getR 21 (r := 419) 0 hg clX11 (by decide) rfl tc_418 tf_11_0 wd_1174 dX11_stride_18 rfl ?_
    refine fW_sipush 24 dX11_stride_21 rfl (by decide) ?_
    refine fW_iald 25 hg tc_419 ⟨by decide, by rw [show Ln 419 = 7787 from rfl]; decide⟩ dX11_stride_24 rfl ?_
    refine fW_istore_n 26 (ls' := [some (rv G 418), some (iv a1), some (iv (N1 419 7740))]) dX11_stride_25 rfl rfl rfl (by decide) ?_
    refine fW_aload_n 27 dX11_stride_26 rfl rfl ?_
    refine fW_getR 30 (r := 419) 0 hg clX11 (by decide) rfl tc_418 tf_11_0 wd_1174 dX11_stride_27 rfl ?_
    refine fW_sipush 33 dX11_stride_30 rfl (by decide) ?_
    refine fW_iload_n 34 dX11_stride_33 rfl rfl ?_
    obtain ⟨N4, e4, h⟩ := fBd h
    replace e4 := Option.some.inj e4
    refine fW_iast 35 hg tc_419 ⟨by decide, by rw [show Ln 419 = 7787 from rfl]; decide⟩ ga1 dX11_stride_34 rfl ?_
    rw [e4]
    refine fW_rg (fun hR4 => ?_)
    refine fW_iload_n 36 dX11_stride_35 rfl rfl ?_
    exact fW_iret rfl (by decide) (by decide) dX11_stride_36 (rI_i h (hR1 419 7740))
  · replace h := fTt h c3
    refine fW_iconst 16 dX11_stride_15 rfl ?_
    exact fW_iret rfl (by decide) (by decide) dX11_stride_16 (rI_i h (by decide))
def mX11_laysRow : fMt := (yX11_laysRow, cX11_laysRow, 4, none, { frames := 1, cells := 0, slots := 0, locals := 40 })
theorem miX11_laysRow : fMv mX11_laysRow 1 := ⟨⟨fM 1391 (by decide +kernel) rfl, fM 101 (by decide +kernel) rfl, ⟨by decide +kernel, by decide +kernel⟩, by decide +kernel⟩, fM 1390 (by decide +kernel) rfl, fM 50 (by decide +kernel) rfl⟩
def L_X11_laysRow_2  (k : fMem → Option (fMem)) : Nat → Int → Int → fMem → Option (fMem)
  | 0, _, _, _ => none
  | n + 1, v1, v2, M => (if 0 ≤ 7600 + v1 ∧ 7600 + v1 < 7787 then (if (M 419 (7600 + v1)) ≤ v2 then k  M else ((f_X11_keyAt v1 v2 M).bind fun (r3 : Int) => (if 0 ≤ r3 ∧ r3 < 200 then (if (M 423 r3) = ((-1)) then ((some (mset M 423 r3 v1)).bind fun (N8 : fMem) => ((f_X11_valueAt v1 v2 N8).bind fun (r9 : Int) => ((some (mset N8 422 r3 r9)).bind fun (N10 : fMem) => (if -2147483648 ≤ (N10 424 r3) + 1 ∧ (N10 424 r3) + 1 < 2147483648 then ((some (mset N10 424 r3 ((N10 424 r3) + 1))).bind fun (N12 : fMem) => L_X11_laysRow_2  k n v1 (v2 + 1) N12) else none)))) else (if -2147483648 ≤ (M 424 r3) + 1 ∧ (M 424 r3) + 1 < 2147483648 then ((some (mset M 424 r3 ((M 424 r3) + 1))).bind fun (N7 : fMem) => L_X11_laysRow_2  k n v1 (v2 + 1) N7) else none)) else none))) else none)
set_option maxRecDepth 100000 in
set_option maxHeartbeats 4000000 in
theorem l_X11_laysRow_2 {G : fG} (hg : gbt G = true)  {q : fMem} {k : fMem → Option (fMem)} (hk : ∀ (M : fMem), k M = some q → fW G mX11_laysRow (fEm G mX11_laysRow (rV q) fNo) 0 0 68 [some (rv G 418), none, none, none] [] M) : ∀ (n : Nat) (v1 : Int) (v2 : Int) (M : fMem), rg v1 → rg v2 → L_X11_laysRow_2 k n v1 v2 M = some q → fW G mX11_laysRow (fEm G mX11_laysRow (rV q) fNo) 0 0 2 [some (rv G 418), some (iv v1), some (iv v2), none] [] M := by
  intro n
  induction n with
  | zero =>
    intro v1 v2 M gv1 gv2 h
    rw [L_X11_laysRow_2] at h
    exact absurd h (by simp)
  | succ n ih =>
    intro v1 v2 M gv1 gv2 h
    rw [L_X11_laysRow_2] at h
    refine fW_rg (fun hR => ?_)
    refine fW_iload_n 3 dX11_laysRow_2 rfl rfl ?_
    refine fW_aload_n 4 dX11_laysRow_3 rfl rfl ?_
    refine fW_getR 7 (r := 419) 0 hg clX11 (by decide) rfl tc_418 tf_11_0 wd_1174 dX11_laysRow_4 rfl ?_
    refine fW_sipush 10 dX11_laysRow_7 rfl (by decide) ?_
    refine fW_iload_n 11 dX11_laysRow_10 rfl rfl ?_
    refine fW_iadd 12 dX11_laysRow_11 rfl ?_
    obtain ⟨c1, h⟩ := fS h
    refine fW_iald 13 hg tc_419 ⟨c1.1, by rw [show Ln 419 = 7787 from rfl]; exact c1.2⟩ dX11_laysRow_12 rfl ?_
    refine fW_icmp_ge 16 68 gv2 (hR 419 (7600 + v1)) dX11_laysRow_13 rfl rfl (fun c2 => ?_) (fun c2 => ?_)
    · replace h := fTt h c2
      exact fW_sb (hk M h) ⟨rfl, trivial⟩
    · replace h := fFf h c2
      refine fW_aload_n 17 dX11_laysRow_16 rfl rfl ?_
      refine fW_iload_n 18 dX11_laysRow_17 rfl rfl ?_
      refine fW_iload_n 19 dX11_laysRow_18 rfl rfl ?_
      obtain ⟨r3, e3, h⟩ := fBd h
      refine fW_cP (fI_V (as := [iv v1, iv v2]) (rest := []) miX11_keyAt hg clX11 rfl tc_418 wd_1300 (fRoom_of rfl) rfl (Nat.le_of_ble_eq_true rfl) dX11_laysRow_19) (s_X11_keyAt hg gv1 gv2 e3) rfl rfl rfl (fun g3 => ?_)
      refine fW_istore_n 23 (ls' := [some (rv G 418), some (iv v1), some (iv v2), some (iv r3)]) dX11_laysRow_22 rfl rfl rfl (by decide) ?_
      refine fW_aload_n 24 dX11_laysRow_23 rfl rfl ?_
      refine fW_getR 27 (r := 423) 6 hg clX11 (by decide) rfl tc_418 tf_11_6 wd_1180 dX11_laysRow_24 rfl ?_
      refine fW_iload_n 28 dX11_laysRow_27 rfl rfl ?_
      obtain ⟨c4, h⟩ := fS h
      refine fW_iald 29 hg tc_423 ⟨c4.1, by rw [show Ln 423 = 200 from rfl]; exact c4.2⟩ dX11_laysRow_28 rfl ?_
      refine fW_iconst 30 dX11_laysRow_29 rfl ?_
      refine fW_icmp_ne 33 52 (hR 423 r3) (by decide) dX11_laysRow_30 rfl rfl (fun c5 => ?_) (fun c5 => ?_)
      · replace h := fFf h c5
        refine fW_aload_n 53 dX11_laysRow_52 rfl rfl ?_
        refine fW_getR 56 (r := 424) 7 hg clX11 (by decide) rfl tc_418 tf_11_7 wd_1181 dX11_laysRow_53 rfl ?_
        refine fW_iload_n 57 dX11_laysRow_56 rfl rfl ?_
        refine fW_dup2 58 dX11_laysRow_57 rfl rfl rfl ?_
        refine fW_iald 59 hg tc_424 ⟨c4.1, by rw [show Ln 424 = 200 from rfl]; exact c4.2⟩ dX11_laysRow_58 rfl ?_
        refine fW_iconst 60 dX11_laysRow_59 rfl ?_
        refine fW_iadd 61 dX11_laysRow_60 rfl ?_
        obtain ⟨c6, h⟩ := fS h
        obtain ⟨N7, e7, h⟩ := fBd h
        replace e7 := Option.some.inj e7
        refine fW_iast 62 hg tc_424 ⟨c4.1, by rw [show Ln 424 = 200 from rfl]; exact c4.2⟩ c6 dX11_laysRow_61 rfl ?_
        rw [e7]
        refine fW_rg (fun hR7 => ?_)
        refine fW_iinc 65 (ls' := [some (rv G 418), some (iv v1), some (iv (v2 + 1)), some (iv r3)]) dX11_laysRow_62 rfl rfl rfl (by decide) ?_
        refine fW_goto 2 dX11_laysRow_65 rfl ?_
        exact fW_sb (ih v1 (v2 + 1) N7 gv1 (rg_succ' gv2 (hR 419 (7600 + v1)) c2) h) ⟨rfl, rfl, rfl, trivial⟩
      · replace h := fTt h c5
        refine fW_aload_n 34 dX11_laysRow_33 rfl rfl ?_
        refine fW_getR 37 (r := 423) 6 hg clX11 (by decide) rfl tc_418 tf_11_6 wd_1180 dX11_laysRow_34 rfl ?_
        refine fW_iload_n 38 dX11_laysRow_37 rfl rfl ?_
        refine fW_iload_n 39 dX11_laysRow_38 rfl rfl ?_
        obtain ⟨N8, e8, h⟩ := fBd h
        replace e8 := Option.some.inj e8
        refine fW_iast 40 hg tc_423 ⟨c4.1, by rw [show Ln 423 = 200 from rfl]; exact c4.2⟩ gv1 dX11_laysRow_39 rfl ?_
        rw [e8]
        refine fW_rg (fun hR8 => ?_)
        refine fW_aload_n 41 dX11_laysRow_40 rfl rfl ?_
        refine fW_getR 44 (r := 422) 5 hg clX11 (by decide) rfl tc_418 tf_11_5 wd_1179 dX11_laysRow_41 rfl ?_
        refine fW_iload_n 45 dX11_laysRow_44 rfl rfl ?_
        refine fW_aload_n 46 dX11_laysRow_45 rfl rfl ?_
        refine fW_iload_n 47 dX11_laysRow_46 rfl rfl ?_
        refine fW_iload_n 48 dX11_laysRow_47 rfl rfl ?_
        obtain ⟨r9, e9, h⟩ := fBd h
        refine fW_cP (fI_V (as := [iv v1, iv v2]) (rest := [iv r3, rv G 422]) miX11_valueAt hg clX11 rfl tc_418 wd_1308 (fRoom_of rfl) rfl (Nat.le_of_ble_eq_true rfl) dX11_laysRow_48) (s_X11_valueAt hg gv1 gv2 e9) rfl rfl rfl (fun g9 => ?_)
        obtain ⟨N10, e10, h⟩ := fBd h
        replace e10 := Option.some.inj e10
        refine fW_iast 52 hg tc_422 ⟨c4.1, by rw [show Ln 422 = 200 from rfl]; exact c4.2⟩ g9 dX11_laysRow_51 rfl ?_
        rw [e10]
        refine fW_rg (fun hR10 => ?_)
        refine fW_aload_n 53 dX11_laysRow_52 rfl rfl ?_
        refine fW_getR 56 (r := 424) 7 hg clX11 (by decide) rfl tc_418 tf_11_7 wd_1181 dX11_laysRow_53 rfl ?_
        refine fW_iload_n 57 dX11_laysRow_56 rfl rfl ?_
        refine fW_dup2 58 dX11_laysRow_57 rfl rfl rfl ?_
        refine fW_iald 59 hg tc_424 ⟨c4.1, by rw [show Ln 424 = 200 from rfl]; exact c4.2⟩ dX11_laysRow_58 rfl ?_
        refine fW_iconst 60 dX11_laysRow_59 rfl ?_
        refine fW_iadd 61 dX11_laysRow_60 rfl ?_
        obtain ⟨c11, h⟩ := fS h
        obtain ⟨N12, e12, h⟩ := fBd h
        replace e12 := Option.some.inj e12
        refine fW_iast 62 hg tc_424 ⟨c4.1, by rw [show Ln 424 = 200 from rfl]; exact c4.2⟩ c11 dX11_laysRow_61 rfl ?_
        rw [e12]
        refine fW_rg (fun hR12 => ?_)
        refine fW_iinc 65 (ls' := [some (rv G 418), some (iv v1), some (iv (v2 + 1)), some (iv r3)]) dX11_laysRow_62 rfl rfl rfl (by decide) ?_
        refine fW_goto 2 dX11_laysRow_65 rfl ?_
        exact fW_sb (ih v1 (v2 + 1) N12 gv1 (rg_succ' gv2 (hR 419 (7600 + v1)) c2) h) ⟨rfl, rfl, rfl, trivial⟩
def f_X11_laysRow (a1 : Int) (M : fMem) : Option (fMem) := L_X11_laysRow_2 (fun  (M_13 : fMem) => some M_13) 20000 a1 0 M
set_option maxRecDepth 100000 in
set_option maxHeartbeats 4000000 in
theorem s_X11_laysRow {G : fG} (hg : gbt G = true) {a1 : Int} (ga1 : rg a1) {M : fMem} {q : fMem} (h : f_X11_laysRow a1 M = some q) : fSp G mX11_laysRow [rv G 418, iv a1] M (rV q) fNo := by
  refine fSp_of (by decide +kernel) (by decide +kernel) (fC1 rfl (fC1 rfl fC0)) (Nat.le_of_ble_eq_true rfl) ?_
  show fW G mX11_laysRow (fEm G mX11_laysRow (rV q) fNo) 0 0 0 [some (rv G 418), some (iv a1), none, none] [] M
  rw [f_X11_laysRow] at h
  refine fW_rg (fun hR => ?_)
  refine fW_iconst 1 dX11_laysRow_0 rfl ?_
  refine fW_istore_n 2 (ls' := [some (rv G 418), some (iv a1), some (iv 0), none]) dX11_laysRow_1 rfl rfl rfl (by decide) ?_
  refine fW_sb (l_X11_laysRow_2 hg ?_ 20000 a1 0 M ga1 (by decide) h) ⟨rfl, rfl, rfl, trivial⟩
  intro M_13 h
  refine fW_rg (fun hR_13 => ?_)
  exact fW_vret rfl (by decide) (by decide) dX11_laysRow_68 (rV_i h)
def mX11_laysKeys : fMt := (yX11_laysKeys, cX11_laysKeys, 3, none, { frames := 3, cells := 0, slots := 0, locals := 120 })
theorem miX11_laysKeys : fMv mX11_laysKeys 0 := ⟨⟨fM 1387 (by decide +kernel) rfl, fM 101 (by decide +kernel) rfl, ⟨by decide +kernel, by decide +kernel⟩, by decide +kernel⟩, fM 1386 (by decide +kernel) rfl, fM 49 (by decide +kernel) rfl⟩
def L_X11_laysKeys_2  (k : fMem → Option (fMem)) : Nat → Int → fMem → Option (fMem)
  | 0, _, _ => none
  | n + 1, v1, M => (if 200 ≤ v1 then k  M else (if 0 ≤ v1 ∧ v1 < 200 then ((some (mset M 422 v1 ((-1)))).bind fun (N3 : fMem) => ((some (mset N3 423 v1 ((-1)))).bind fun (N4 : fMem) => ((some (mset N4 424 v1 0)).bind fun (N5 : fMem) => L_X11_laysKeys_2  k n (v1 + 1) N5))) else none))
set_option maxRecDepth 100000 in
set_option maxHeartbeats 4000000 in
theorem l_X11_laysKeys_2 {G : fG} (hg : gbt G = true)  {q : fMem} {k : fMem → Option (fMem)} (hk : ∀ (M : fMem), k M = some q → fW G mX11_laysKeys (fEm G mX11_laysKeys (rV q) fNo) 0 0 36 [some (rv G 418), none, none] [] M) : ∀ (n : Nat) (v1 : Int) (M : fMem), rg v1 → L_X11_laysKeys_2 k n v1 M = some q → fW G mX11_laysKeys (fEm G mX11_laysKeys (rV q) fNo) 0 0 2 [some (rv G 418), some (iv v1), none] [] M := by
  intro n
  induction n with
  | zero =>
    intro v1 M gv1 h
    rw [L_X11_laysKeys_2] at h
    exact absurd h (by simp)
  | succ n ih =>
    intro v1 M gv1 h
    rw [L_X11_laysKeys_2] at h
    refine fW_rg (fun hR => ?_)
    refine fW_iload_n 3 dX11_laysKeys_2 rfl rfl ?_
    refine fW_sipush 6 dX11_laysKeys_3 rfl (by decide) ?_
    refine fW_icmp_ge 9 36 gv1 (by decide) dX11_laysKeys_6 rfl rfl (fun c1 => ?_) (fun c1 => ?_)
    · replace h := fTt h c1
      exact fW_sb (hk M h) ⟨rfl, trivial⟩
    · replace h := fFf h c1
      refine fW_aload_n 10 dX11_laysKeys_9 rfl rfl ?_
      refine fW_getR 13 (r := 422) 5 hg clX11 (by decide) rfl tc_418 tf_11_5 wd_1179 dX11_laysKeys_10 rfl ?_
      refine fW_iload_n 14 dX11_laysKeys_13 rfl rfl ?_
      refine fW_iconst 15 dX11_laysKeys_14 rfl ?_
      obtain ⟨c2, h⟩ := fS h
      obtain ⟨N3, e3, h⟩ := fBd h
      replace e3 := Option.some.inj e3
      refine fW_iast 16 hg tc_422 ⟨c2.1, by rw [show Ln 422 = 200 from rfl]; exact c2.2⟩ (by decide) dX11_laysKeys_15 rfl ?_
      rw [e3]
      refine fW_rg (fun hR3 => ?_)
      refine fW_aload_n 17 dX11_laysKeys_16 rfl rfl ?_
      refine fW_getR 20 (r := 423) 6 hg clX11 (by decide) rfl tc_418 tf_11_6 wd_1180 dX11_laysKeys_17 rfl ?_
      refine fW_iload_n 21 dX11_laysKeys_20 rfl rfl ?_
      refine fW_iconst 22 dX11_laysKeys_21 rfl ?_
      obtain ⟨N4, e4, h⟩ := fBd h
      replace e4 := Option.some.inj e4
      refine fW_iast 23 hg tc_423 ⟨c2.1, by rw [show Ln 423 = 200 from rfl]; exact c2.2⟩ (by decide) dX11_laysKeys_22 rfl ?_
      rw [e4]
      refine fW_rg (fun hR4 => ?_)
      refine fW_aload_n 24 dX11_laysKeys_23 rfl rfl ?_
      refine fW_getR 27 (r := 424) 7 hg clX11 (by decide) rfl tc_418 tf_11_7 wd_1181 dX11_laysKeys_24 rfl ?_
      refine fW_iload_n 28 dX11_laysKeys_27 rfl rfl ?_
      refine fW_iconst 29 dX11_laysKeys_28 rfl ?_
      obtain ⟨N5, e5, h⟩ := fBd h
      replace e5 := Option.some.inj e5
      refine fW_iast 30 hg tc_424 ⟨c2.1, by rw [show Ln 424 = 200 from rfl]; exact c2.2⟩ (by decide) dX11_laysKeys_29 rfl ?_
      rw [e5]
      refine fW_rg (fun hR5 => ?_)
      refine fW_iinc 33 (ls' := [some (rv G 418), some (iv (v1 + 1)), none]) dX11_laysKeys_30 rfl rfl rfl (by decide) ?_
      refine fW_goto 2 dX11_laysKeys_33 rfl ?_
      exact fW_sb (ih (v1 + 1) N5 (rg_succ' gv1 (by decide) c1) h) ⟨rfl, rfl, trivial⟩
def L_X11_laysKeys_46  (k : Int → fMem → Option (fMem)) : Nat → Int → Int → fMem → Option (fMem)
  | 0, _, _, _ => none
  | n + 1, v1, v2, M => ((f_X11_shutMany v1 M).bind fun (r8 : Int) => (if r8 ≤ v2 then k v1 M else ((f_X11_byAge v1 v2 M).bind fun (r10 : Int) => ((f_X11_laysRow r10 M).bind fun (r11 : fMem) => L_X11_laysKeys_46  k n v1 (v2 + 1) r11))))
set_option maxRecDepth 100000 in
set_option maxHeartbeats 4000000 in
theorem l_X11_laysKeys_46 {G : fG} (hg : gbt G = true)  {q : fMem} {k : Int → fMem → Option (fMem)} (hk : ∀ (v1 : Int) (M : fMem), rg v1 → k v1 M = some q → fW G mX11_laysKeys (fEm G mX11_laysKeys (rV q) fNo) 0 0 71 [some (rv G 418), some (iv v1), none] [] M) : ∀ (n : Nat) (v1 : Int) (v2 : Int) (M : fMem), rg v1 → rg v2 → L_X11_laysKeys_46 k n v1 v2 M = some q → fW G mX11_laysKeys (fEm G mX11_laysKeys (rV q) fNo) 0 0 46 [some (rv G 418), some (iv v1), some (iv v2)] [] M := by
  intro n
  induction n with
  | zero =>
    intro v1 v2 M gv1 gv2 h
    rw [L_X11_laysKeys_46] at h
    exact absurd h (by simp)
  | succ n ih =>
    intro v1 v2 M gv1 gv2 h
    rw [L_X11_laysKeys_46] at h
    refine fW_rg (fun hR => ?_)
    refine fW_iload_n 47 dX11_laysKeys_46 rfl rfl ?_
    refine fW_aload_n 48 dX11_laysKeys_47 rfl rfl ?_
    refine fW_iload_n 49 dX11_laysKeys_48 rfl rfl ?_
    obtain ⟨r8, e8, h⟩ := fBd h
    refine fW_cP (fI_V (as := [iv v1]) (rest := [iv v2]) miX11_shutMany hg clX11 rfl tc_418 wd_1336 (fRoom_of rfl) rfl (Nat.le_of_ble_eq_true rfl) dX11_laysKeys_49) (s_X11_shutMany hg gv1 e8) rfl rfl rfl (fun g8 => ?_)
    refine fW_icmp_ge 55 71 gv2 g8 dX11_laysKeys_52 rfl rfl (fun c9 => ?_) (fun c9 => ?_)
    · replace h := fTt h c9
      exact fW_sb (hk v1 M gv1 h) ⟨rfl, rfl, trivial⟩
    · replace h := fFf h c9
      refine fW_aload_n 56 dX11_laysKeys_55 rfl rfl ?_
      refine fW_aload_n 57 dX11_laysKeys_56 rfl rfl ?_
      refine fW_iload_n 58 dX11_laysKeys_57 rfl rfl ?_
      refine fW_iload_n 59 dX11_laysKeys_58 rfl rfl ?_
      obtain ⟨r10, e10, h⟩ := fBd h
      refine fW_cP (fI_V (as := [iv v1, iv v2]) (rest := [rv G 418]) miX11_byAge hg clX11 rfl tc_418 wd_1348 (fRoom_of rfl) rfl (Nat.le_of_ble_eq_true rfl) dX11_laysKeys_59) (s_X11_byAge hg gv1 gv2 e10) rfl rfl rfl (fun g10 => ?_)
      obtain ⟨r11, e11, h⟩ := fBd h
      refine fW_cV (fI_V (as := [iv r10]) (rest := []) miX11_laysRow hg clX11 rfl tc_418 wd_1388 (fRoom_of rfl) rfl (Nat.le_of_ble_eq_true rfl) dX11_laysKeys_62) (s_X11_laysRow hg g10 e11) rfl rfl rfl ?_
      refine fW_rg (fun hR12 => ?_)
      refine fW_iinc 68 (ls' := [some (rv G 418), some (iv v1), some (iv (v2 + 1))]) dX11_laysKeys_65 rfl rfl rfl (by decide) ?_
      refine fW_goto 46 dX11_laysKeys_68 rfl ?_
      exact fW_sb (ih v1 (v2 + 1) r11 gv1 (rg_succ' gv2 g8 c9) h) ⟨rfl, rfl, rfl, trivial⟩
def L_X11_laysKeys_38  (k : fMem → Option (fMem)) : Nat → Int → fMem → Option (fMem)
  | 0, _, _ => none
  | n + 1, v1, M => (if 9 ≤ v1 then k  M else L_X11_laysKeys_46 (fun (v1_13 : Int) (M_13 : fMem) => (if -2147483648 ≤ v1_13 + 1 ∧ v1_13 + 1 < 2147483648 then L_X11_laysKeys_38  k n (v1_13 + 1) M_13 else none)) 20000 v1 0 M)
set_option maxRecDepth 100000 in
set_option maxHeartbeats 4000000 in
theorem l_X11_laysKeys_38 {G : fG} (hg : gbt G = true)  {q : fMem} {k : fMem → Option (fMem)} (hk : ∀ (M : fMem), k M = some q → fW G mX11_laysKeys (fEm G mX11_laysKeys (rV q) fNo) 0 0 77 [some (rv G 418), none, none] [] M) : ∀ (n : Nat) (v1 : Int) (M : fMem), rg v1 → L_X11_laysKeys_38 k n v1 M = some q → fW G mX11_laysKeys (fEm G mX11_laysKeys (rV q) fNo) 0 0 38 [some (rv G 418), some (iv v1), none] [] M := by
  intro n
  induction n with
  | zero =>
    intro v1 M gv1 h
    rw [L_X11_laysKeys_38] at h
    exact absurd h (by simp)
  | succ n ih =>
    intro v1 M gv1 h
    rw [L_X11_laysKeys_38] at h
    refine fW_rg (fun hR => ?_)
    refine fW_iload_n 39 dX11_laysKeys_38 rfl rfl ?_
    refine fW_bipush 41 dX11_laysKeys_39 rfl (by decide) ?_
    refine fW_icmp_ge 44 77 gv1 (by decide) dX11_laysKeys_41 rfl rfl (fun c7 => ?_) (fun c7 => ?_)
    · replace h := fTt h c7
      exact fW_sb (hk M h) ⟨rfl, trivial⟩
    · replace h := fFf h c7
      refine fW_iconst 45 dX11_laysKeys_44 rfl ?_
      refine fW_istore_n 46 (ls' := [some (rv G 418), some (iv v1), some (iv 0)]) dX11_laysKeys_45 rfl rfl rfl (by decide) ?_
      refine fW_sb (l_X11_laysKeys_46 hg ?_ 20000 v1 0 M gv1 (by decide) h) ⟨rfl, rfl, rfl, trivial⟩
      intro v1_13 M_13 gv1_13 h
      refine fW_rg (fun hR_13 => ?_)
      refine fW_iinc 74 (ls' := [some (rv G 418), some (iv (v1_13 + 1)), none]) dX11_laysKeys_71 rfl rfl rfl (by decide) ?_
      refine fW_goto 38 dX11_laysKeys_74 rfl ?_
      obtain ⟨c14, h⟩ := fS h
      exact fW_sb (ih (v1_13 + 1) M_13 c14 h) ⟨rfl, rfl, trivial⟩
def f_X11_laysKeys  (M : fMem) : Option (fMem) := L_X11_laysKeys_2 (fun  (M_6 : fMem) => L_X11_laysKeys_38 (fun  (M_15 : fMem) => some M_15) 20000 0 M_6) 20000 0 M
set_option maxRecDepth 100000 in
set_option maxHeartbeats 4000000 in
theorem s_X11_laysKeys {G : fG} (hg : gbt G = true)  {M : fMem} {q : fMem} (h : f_X11_laysKeys M = some q) : fSp G mX11_laysKeys [rv G 418] M (rV q) fNo := by
  refine fSp_of (by decide +kernel) (by decide +kernel) (fC1 rfl fC0) (Nat.le_of_ble_eq_true rfl) ?_
  show fW G mX11_laysKeys (fEm G mX11_laysKeys (rV q) fNo) 0 0 0 [some (rv G 418), none, none] [] M
  rw [f_X11_laysKeys] at h
  refine fW_rg (fun hR => ?_)
  refine fW_iconst 1 dX11_laysKeys_0 rfl ?_
  refine fW_istore_n 2 (ls' := [some (rv G 418), some (iv 0), none]) dX11_laysKeys_1 rfl rfl rfl (by decide) ?_
  refine fW_sb (l_X11_laysKeys_2 hg ?_ 20000 0 M (by decide) h) ⟨rfl, rfl, trivial⟩
  intro M_6 h
  refine fW_rg (fun hR_6 => ?_)
  refine fW_iconst 37 dX11_laysKeys_36 rfl ?_
  refine fW_istore_n 38 (ls' := [some (rv G 418), some (iv 0), none]) dX11_laysKeys_37 rfl rfl rfl (by decide) ?_
  refine fW_sb (l_X11_laysKeys_38 hg ?_ 20000 0 M_6 (by decide) h) ⟨rfl, rfl, trivial⟩
  intro M_15 h
  refine fW_rg (fun hR_15 => ?_)
  exact fW_vret rfl (by decide) (by decide) dX11_laysKeys_77 (rV_i h)
def mX11_thereMany : fMt := (yX11_thereMany, cX11_thereMany, 3, some .int, { frames := 4, cells := 0, slots := 0, locals := 160 })
theorem miX11_thereMany : fMv mX11_thereMany 0 := ⟨⟨fM 1422 (by decide +kernel) rfl, fM 101 (by decide +kernel) rfl, ⟨by decide +kernel, by decide +kernel⟩, by decide +kernel⟩, fM 1421 (by decide +kernel) rfl, fM 52 (by decide +kernel) rfl⟩
def L_X11_thereMany_8  (k : Int → fMem → Option (Int × fMem)) : Nat → Int → Int → fMem → Option (Int × fMem)
  | 0, _, _, _ => none
  | n + 1, v1, v2, M => (if 200 ≤ v2 then k v1 M else (if 0 ≤ v2 ∧ v2 < 200 then (if (M 422 v2) = ((-1)) then (if -2147483648 ≤ v1 + 0 ∧ v1 + 0 < 2147483648 then L_X11_thereMany_8  k n (v1 + 0) (v2 + 1) M else none) else (if -2147483648 ≤ v1 + 1 ∧ v1 + 1 < 2147483648 then L_X11_thereMany_8  k n (v1 + 1) (v2 + 1) M else none)) else none))
set_option maxRecDepth 100000 in
set_option maxHeartbeats 4000000 in
theorem l_X11_thereMany_8 {G : fG} (hg : gbt G = true)  {q : Int × fMem} {k : Int → fMem → Option (Int × fMem)} (hk : ∀ (v1 : Int) (M : fMem), rg v1 → k v1 M = some q → fW G mX11_thereMany (fEm G mX11_thereMany (rP q.2 q.1) fNo) 0 0 39 [some (rv G 418), some (iv v1), none] [] M) : ∀ (n : Nat) (v1 : Int) (v2 : Int) (M : fMem), rg v1 → rg v2 → L_X11_thereMany_8 k n v1 v2 M = some q → fW G mX11_thereMany (fEm G mX11_thereMany (rP q.2 q.1) fNo) 0 0 8 [some (rv G 418), some (iv v1), some (iv v2)] [] M := by
  intro n
  induction n with
  | zero =>
    intro v1 v2 M gv1 gv2 h
    rw [L_X11_thereMany_8] at h
    exact absurd h (by simp)
  | succ n ih =>
    intro v1 v2 M gv1 gv2 h
    rw [L_X11_thereMany_8] at h
    refine fW_rg (fun hR => ?_)
    refine fW_iload_n 9 dX11_thereMany_8 rfl rfl ?_
    refine fW_sipush 12 dX11_thereMany_9 rfl (by decide) ?_
    refine fW_icmp_ge 15 39 gv2 (by decide) dX11_thereMany_12 rfl rfl (fun c3 => ?_) (fun c3 => ?_)
    · replace h := fTt h c3
      exact fW_sb (hk v1 M gv1 h) ⟨rfl, rfl, trivial⟩
    · replace h := fFf h c3
      refine fW_iload_n 16 dX11_thereMany_15 rfl rfl ?_
      refine fW_aload_n 17 dX11_thereMany_16 rfl rfl ?_
      refine fW_getR 20 (r := 422) 5 hg clX11 (by decide) rfl tc_418 tf_11_5 wd_1179 dX11_thereMany_17 rfl ?_
      refine fW_iload_n 21 dX11_thereMany_20 rfl rfl ?_
      obtain ⟨c4, h⟩ := fS h
      refine fW_iald 22 hg tc_422 ⟨c4.1, by rw [show Ln 422 = 200 from rfl]; exact c4.2⟩ dX11_thereMany_21 rfl ?_
      refine fW_iconst 23 dX11_thereMany_22 rfl ?_
      refine fW_icmp_ne 26 30 (hR 422 v2) (by decide) dX11_thereMany_23 rfl rfl (fun c5 => ?_) (fun c5 => ?_)
      · replace h := fFf h c5
        refine fW_iconst 31 dX11_thereMany_30 rfl ?_
        refine fW_iadd 32 dX11_thereMany_31 rfl ?_
        refine fW_istore_n 33 (ls' := [some (rv G 418), some (iv (v1 + 1)), some (iv v2)]) dX11_thereMany_32 rfl rfl rfl (by decide) ?_
        refine fW_iinc 36 (ls' := [some (rv G 418), some (iv (v1 + 1)), some (iv (v2 + 1))]) dX11_thereMany_33 rfl rfl rfl (by decide) ?_
        refine fW_goto 8 dX11_thereMany_36 rfl ?_
        obtain ⟨c6, h⟩ := fS h
        exact fW_sb (ih (v1 + 1) (v2 + 1) M c6 (rg_succ' gv2 (by decide) c3) h) ⟨rfl, rfl, rfl, trivial⟩
      · replace h := fTt h c5
        refine fW_iconst 27 dX11_thereMany_26 rfl ?_
        refine fW_goto 31 dX11_thereMany_27 rfl ?_
        refine fW_iadd 32 dX11_thereMany_31 rfl ?_
        refine fW_istore_n 33 (ls' := [some (rv G 418), some (iv (v1 + 0)), some (iv v2)]) dX11_thereMany_32 rfl rfl rfl (by decide) ?_
        refine fW_iinc 36 (ls' := [some (rv G 418), some (iv (v1 + 0)), some (iv (v2 + 1))]) dX11_thereMany_33 rfl rfl rfl (by decide) ?_
        refine fW_goto 8 dX11_thereMany_36 rfl ?_
        obtain ⟨c7, h⟩ := fS h
        exact fW_sb (ih (v1 + 0) (v2 + 1) M c7 (rg_succ' gv2 (by decide) c3) h) ⟨rfl, rfl, rfl, trivial⟩
def f_X11_thereMany  (M : fMem) : Option (Int × fMem) := ((f_X11_laysKeys M).bind fun (r1 : fMem) => L_X11_thereMany_8 (fun (v1_8 : Int) (M_8 : fMem) => some (v1_8, M_8)) 20000 0 0 r1)
set_option maxRecDepth 100000 in
set_option maxHeartbeats 4000000 in
theorem s_X11_thereMany {G : fG} (hg : gbt G = true)  {M : fMem} {q : Int × fMem} (h : f_X11_thereMany M = some q) : fSp G mX11_thereMany [rv G 418] M (rP q.2 q.1) fNo := by
  refine fSp_of (by decide +kernel) (by decide +kernel) (fC1 rfl fC0) (Nat.le_of_ble_eq_true rfl) ?_
  show fW G mX11_thereMany (fEm G mX11_thereMany (rP q.2 q.1) fNo) 0 0 0 [some (rv G 418), none, none] [] M
  rw [f_X11_thereMany] at h
  refine fW_rg (fun hR => ?_)
  refine fW_aload_n 1 dX11_thereMany_0 rfl rfl ?_
  obtain ⟨r1, e1, h⟩ := fBd h
  refine fW_cV (fI_V (as := []) (rest := []) miX11_laysKeys hg clX11 rfl tc_418 wd_1384 (fRoom_of rfl) rfl (Nat.le_of_ble_eq_true rfl) dX11_thereMany_1) (s_X11_laysKeys hg e1) rfl rfl rfl ?_
  refine fW_rg (fun hR2 => ?_)
  refine fW_iconst 5 dX11_thereMany_4 rfl ?_
  refine fW_istore_n 6 (ls' := [some (rv G 418), some (iv 0), none]) dX11_thereMany_5 rfl rfl rfl (by decide) ?_
  refine fW_iconst 7 dX11_thereMany_6 rfl ?_
  refine fW_istore_n 8 (ls' := [some (rv G 418), some (iv 0), some (iv 0)]) dX11_thereMany_7 rfl rfl rfl (by decide) ?_
  refine fW_sb (l_X11_thereMany_8 hg ?_ 20000 0 0 r1 (by decide) (by decide) h) ⟨rfl, rfl, rfl, trivial⟩
  intro v1_8 M_8 gv1_8 h
  refine fW_rg (fun hR_8 => ?_)
  refine fW_iload_n 40 dX11_thereMany_39 rfl rfl ?_
  exact fW_iret rfl (by decide) (by decide) dX11_thereMany_40 (rI_i h gv1_8)
def mX11_find : fMt := (yX11_find, cX11_find, 2, some .int, { frames := 4, cells := 0, slots := 0, locals := 160 })
theorem miX11_find : fMv mX11_find 1 := ⟨⟨fM 1383 (by decide +kernel) rfl, fM 101 (by decide +kernel) rfl, ⟨by decide +kernel, by decide +kernel⟩, by decide +kernel⟩, fM 1381 (by decide +kernel) rfl, fM 1382 (by decide +kernel) rfl⟩
def f_X11_find (a1 : Int) (M : fMem) : Option (Int × fMem) := ((some (mset M 418 4 0)).bind fun (N1 : fMem) => ((f_X11_isKey a1 N1).bind fun (r2 : Int) => (if r2 = 0 then some ((-1), N1) else ((f_X11_laysKeys N1).bind fun (r4 : fMem) => (if 0 ≤ a1 ∧ a1 < 200 then some (r4 422 a1, r4) else none)))))
set_option maxRecDepth 100000 in
set_option maxHeartbeats 4000000 in
theorem s_X11_find {G : fG} (hg : gbt G = true) {a1 : Int} (ga1 : rg a1) {M : fMem} {q : Int × fMem} (h : f_X11_find a1 M = some q) : fSp G mX11_find [rv G 418, iv a1] M (rP q.2 q.1) fNo := by
  refine fSp_of (by decide +kernel) (by decide +kernel) (fC1 rfl (fC1 rfl fC0)) (Nat.le_of_ble_eq_true rfl) ?_
  show fW G mX11_find (fEm G mX11_find (rP q.2 q.1) fNo) 0 0 0 [some (rv G 418), some (iv a1)] [] M
  rw [f_X11_find] at h
  refine fW_rg (fun hR => ?_)
  refine fW_aload_n 1 dX11_find_0 rfl rfl ?_
  refine fW_iconst 2 dX11_find_1 rfl ?_
  obtain ⟨N1, e1, h⟩ := fBd h
  replace e1 := Option.some.inj e1
  refine fW_putI 5 4 (ji := 4) hg clX11 rfl (by decide) rfl rfl rfl tc_418 (by decide) wd_1178 dX11_find_2 rfl ?_
  rw [e1]
  refine fW_rg (fun hR1 => ?_)
  refine fW_iload_n 6 dX11_find_5 rfl rfl ?_
  obtain ⟨r2, e2, h⟩ := fBd h
  refine fW_cB (fI_S (as := [iv a1]) (rest := []) miX11_isKey rfl wd_1275 (fRoom_of rfl) rfl (Nat.le_of_ble_eq_true rfl) dX11_find_6) (s_X11_isKey ga1 e2) rfl rfl rfl (fun g2 => ?_)
  refine fW_if_ne 12 14 (rg_z g2) dX11_find_9 rfl rfl (fun c3 => ?_) (fun c3 => ?_)
  · replace h := fFf h c3
    refine fW_aload_n 15 dX11_find_14 rfl rfl ?_
    obtain ⟨r4, e4, h⟩ := fBd h
    refine fW_cV (fI_V (as := []) (rest := []) miX11_laysKeys hg clX11 rfl tc_418 wd_1384 (fRoom_of rfl) rfl (Nat.le_of_ble_eq_true rfl) dX11_find_15) (s_X11_laysKeys hg e4) rfl rfl rfl ?_
    refine fW_rg (fun hR5 => ?_)
    refine fW_aload_n 19 dX11_find_18 rfl rfl ?_
    refine fW_getR 22 (r := 422) 5 hg clX11 (by decide) rfl tc_418 tf_11_5 wd_1179 dX11_find_19 rfl ?_
    refine fW_iload_n 23 dX11_find_22 rfl rfl ?_
    obtain ⟨c6, h⟩ := fS h
    refine fW_iald 24 hg tc_422 ⟨c6.1, by rw [show Ln 422 = 200 from rfl]; exact c6.2⟩ dX11_find_23 rfl ?_
    exact fW_iret rfl (by decide) (by decide) dX11_find_24 (rI_i h (hR5 422 a1))
  · replace h := fTt h c3
    refine fW_iconst 13 dX11_find_12 rfl ?_
    exact fW_iret rfl (by decide) (by decide) dX11_find_13 (rI_i h (by decide))
def mX11_next : fMt := (yX11_next, cX11_next, 3, some .int, { frames := 4, cells := 0, slots := 0, locals := 160 })
theorem miX11_next : fMv mX11_next 1 := ⟨⟨fM 1395 (by decide +kernel) rfl, fM 101 (by decide +kernel) rfl, ⟨by decide +kernel, by decide +kernel⟩, by decide +kernel⟩, fM 1393 (by decide +kernel) rfl, fM 1394 (by decide +kernel) rfl⟩
def L_X11_next_31  (k : fMem → Option (Int × fMem)) : Nat → Int → fMem → Option (Int × fMem)
  | 0, _, _ => none
  | n + 1, v2, M => (if 200 ≤ v2 then k  M else (if 0 ≤ v2 ∧ v2 < 200 then (if (M 422 v2) = ((-1)) then L_X11_next_31  k n (v2 + 1) M else some (v2, M)) else none))
set_option maxRecDepth 100000 in
set_option maxHeartbeats 4000000 in
theorem l_X11_next_31 {G : fG} (hg : gbt G = true)  {q : Int × fMem} {k : fMem → Option (Int × fMem)} (hk : ∀ (M : fMem), k M = some q → fW G mX11_next (fEm G mX11_next (rP q.2 q.1) fNo) 0 0 56 [some (rv G 418), none, none] [] M) : ∀ (n : Nat) (v2 : Int) (M : fMem), rg v2 → L_X11_next_31 k n v2 M = some q → fW G mX11_next (fEm G mX11_next (rP q.2 q.1) fNo) 0 0 31 [some (rv G 418), none, some (iv v2)] [] M := by
  intro n
  induction n with
  | zero =>
    intro v2 M gv2 h
    rw [L_X11_next_31] at h
    exact absurd h (by simp)
  | succ n ih =>
    intro v2 M gv2 h
    rw [L_X11_next_31] at h
    refine fW_rg (fun hR => ?_)
    refine fW_iload_n 32 dX11_next_31 rfl rfl ?_
    refine fW_sipush 35 dX11_next_32 rfl (by decide) ?_
    refine fW_icmp_ge 38 56 gv2 (by decide) dX11_next_35 rfl rfl (fun c9 => ?_) (fun c9 => ?_)
    · replace h := fTt h c9
      exact fW_sb (hk M h) ⟨rfl, trivial⟩
    · replace h := fFf h c9
      refine fW_aload_n 39 dX11_next_38 rfl rfl ?_
      refine fW_getR 42 (r := 422) 5 hg clX11 (by decide) rfl tc_418 tf_11_5 wd_1179 dX11_next_39 rfl ?_
      refine fW_iload_n 43 dX11_next_42 rfl rfl ?_
      obtain ⟨c10, h⟩ := fS h
      refine fW_iald 44 hg tc_422 ⟨c10.1, by rw [show Ln 422 = 200 from rfl]; exact c10.2⟩ dX11_next_43 rfl ?_
      refine fW_iconst 45 dX11_next_44 rfl ?_
      refine fW_icmp_eq 48 50 (hR 422 v2) (by decide) dX11_next_45 rfl rfl (fun c11 => ?_) (fun c11 => ?_)
      · replace h := fTt h c11
        refine fW_iinc 53 (ls' := [some (rv G 418), none, some (iv (v2 + 1))]) dX11_next_50 rfl rfl rfl (by decide) ?_
        refine fW_goto 31 dX11_next_53 rfl ?_
        exact fW_sb (ih (v2 + 1) M (rg_succ' gv2 (by decide) c9) h) ⟨rfl, rfl, trivial⟩
      · replace h := fFf h c11
        refine fW_iload_n 49 dX11_next_48 rfl rfl ?_
        exact fW_iret rfl (by decide) (by decide) dX11_next_49 (rI_i h gv2)
def f_X11_next (a1 : Int) (M : fMem) : Option (Int × fMem) := ((some (mset M 418 4 0)).bind fun (N1 : fMem) => ((f_X11_isIn a1 ((-1)) 199 N1).bind fun (r2 : Int) => ((f_X11_right r2 1 N1).bind fun (r3 : Int × fMem) => (if r3.1 = 0 then some (0, r3.2) else ((f_X11_laysKeys r3.2).bind fun (r6 : fMem) => (if -2147483648 ≤ a1 + 1 ∧ a1 + 1 < 2147483648 then L_X11_next_31 (fun  (M_12 : fMem) => some ((-1), M_12)) 20000 (a1 + 1) r6 else none))))))
set_option maxRecDepth 100000 in
set_option maxHeartbeats 4000000 in
theorem s_X11_next {G : fG} (hg : gbt G = true) {a1 : Int} (ga1 : rg a1) {M : fMem} {q : Int × fMem} (h : f_X11_next a1 M = some q) : fSp G mX11_next [rv G 418, iv a1] M (rP q.2 q.1) fNo := by
  refine fSp_of (by decide +kernel) (by decide +kernel) (fC1 rfl (fC1 rfl fC0)) (Nat.le_of_ble_eq_true rfl) ?_
  show fW G mX11_next (fEm G mX11_next (rP q.2 q.1) fNo) 0 0 0 [some (rv G 418), some (iv a1), none] [] M
  rw [f_X11_next] at h
  refine fW_rg (fun hR => ?_)
  refine fW_aload_n 1 dX11_next_0 rfl rfl ?_
  refine fW_iconst 2 dX11_next_1 rfl ?_
  obtain ⟨N1, e1, h⟩ := fBd h
  replace e1 := Option.some.inj e1
  refine fW_putI 5 4 (ji := 4) hg clX11 rfl (by decide) rfl rfl rfl tc_418 (by decide) wd_1178 dX11_next_2 rfl ?_
  rw [e1]
  refine fW_rg (fun hR1 => ?_)
  refine fW_aload_n 6 dX11_next_5 rfl rfl ?_
  refine fW_iload_n 7 dX11_next_6 rfl rfl ?_
  refine fW_iconst 8 dX11_next_7 rfl ?_
  refine fW_sipush 11 dX11_next_8 rfl (by decide) ?_
  obtain ⟨r2, e2, h⟩ := fBd h
  refine fW_cB (fI_S (as := [iv a1, iv ((-1)), iv 199]) (rest := [rv G 418]) miX11_isIn rfl wd_1272 (fRoom_of rfl) rfl (Nat.le_of_ble_eq_true rfl) dX11_next_11) (s_X11_isIn ga1 (by decide) (by decide) e2) rfl rfl rfl (fun g2 => ?_)
  refine fW_iconst 15 dX11_next_14 rfl ?_
  obtain ⟨r3, e3, h⟩ := fBd h
  refine fW_cB (fI_V (as := [iv r2, iv 1]) (rest := []) miX11_right hg clX11 rfl tc_418 wd_1396 (fRoom_of rfl) rfl (Nat.le_of_ble_eq_true rfl) dX11_next_15) (s_X11_right hg g2 (by decide) e3) rfl rfl rfl (fun g3 => ?_)
  refine fW_rg (fun hR4 => ?_)
  refine fW_if_ne 21 23 (rg_z g3) dX11_next_18 rfl rfl (fun c5 => ?_) (fun c5 => ?_)
  · replace h := fFf h c5
    refine fW_aload_n 24 dX11_next_23 rfl rfl ?_
    obtain ⟨r6, e6, h⟩ := fBd h
    refine fW_cV (fI_V (as := []) (rest := []) miX11_laysKeys hg clX11 rfl tc_418 wd_1384 (fRoom_of rfl) rfl (Nat.le_of_ble_eq_true rfl) dX11_next_24) (s_X11_laysKeys hg e6) rfl rfl rfl ?_
    refine fW_rg (fun hR7 => ?_)
    refine fW_iload_n 28 dX11_next_27 rfl rfl ?_
    refine fW_iconst 29 dX11_next_28 rfl ?_
    refine fW_iadd 30 dX11_next_29 rfl ?_
    refine fW_istore_n 31 (ls' := [some (rv G 418), some (iv a1), some (iv (a1 + 1))]) dX11_next_30 rfl rfl rfl (by decide) ?_
    obtain ⟨c8, h⟩ := fS h
    refine fW_sb (l_X11_next_31 hg ?_ 20000 (a1 + 1) r6 c8 h) ⟨rfl, rfl, trivial⟩
    intro M_12 h
    refine fW_rg (fun hR_12 => ?_)
    refine fW_iconst 57 dX11_next_56 rfl ?_
    exact fW_iret rfl (by decide) (by decide) dX11_next_57 (rI_i h (by decide))
  · replace h := fTt h c5
    refine fW_iconst 22 dX11_next_21 rfl ?_
    exact fW_iret rfl (by decide) (by decide) dX11_next_22 (rI_i h (by decide))
def mX11_nth : fMt := (yX11_nth, cX11_nth, 4, some .int, { frames := 4, cells := 0, slots := 0, locals := 160 })
theorem miX11_nth : fMv mX11_nth 1 := ⟨⟨fM 1403 (by decide +kernel) rfl, fM 101 (by decide +kernel) rfl, ⟨by decide +kernel, by decide +kernel⟩, by decide +kernel⟩, fM 1401 (by decide +kernel) rfl, fM 1402 (by decide +kernel) rfl⟩
def L_X11_nth_13  (k : fMem → Option (Int × fMem)) : Nat → Int → Int → Int → fMem → Option (Int × fMem)
  | 0, _, _, _, _ => none
  | n + 1, v1, v2, v3, M => (if 200 ≤ v3 then k  M else (if v1 < 0 then k  M else (if 0 ≤ v3 ∧ v3 < 200 then (if (M 422 v3) = ((-1)) then L_X11_nth_13  k n v1 v2 (v3 + 1) M else (if v2 = 0 then some (v3, M) else (if -2147483648 ≤ v2 + -1 ∧ v2 + -1 < 2147483648 then L_X11_nth_13  k n v1 (v2 + -1) (v3 + 1) M else none))) else none)))
set_option maxRecDepth 100000 in
set_option maxHeartbeats 4000000 in
theorem l_X11_nth_13 {G : fG} (hg : gbt G = true)  {q : Int × fMem} {k : fMem → Option (Int × fMem)} (hk : ∀ (M : fMem), k M = some q → fW G mX11_nth (fEm G mX11_nth (rP q.2 q.1) fNo) 0 0 52 [some (rv G 418), none, none, none] [] M) : ∀ (n : Nat) (v1 : Int) (v2 : Int) (v3 : Int) (M : fMem), rg v1 → rg v2 → rg v3 → L_X11_nth_13 k n v1 v2 v3 M = some q → fW G mX11_nth (fEm G mX11_nth (rP q.2 q.1) fNo) 0 0 13 [some (rv G 418), some (iv v1), some (iv v2), some (iv v3)] [] M := by
  intro n
  induction n with
  | zero =>
    intro v1 v2 v3 M gv1 gv2 gv3 h
    rw [L_X11_nth_13] at h
    exact absurd h (by simp)
  | succ n ih =>
    intro v1 v2 v3 M gv1 gv2 gv3 h
    rw [L_X11_nth_13] at h
    refine fW_rg (fun hR => ?_)
    refine fW_iload_n 14 dX11_nth_13 rfl rfl ?_
    refine fW_sipush 17 dX11_nth_14 rfl (by decide) ?_
    refine fW_icmp_ge 20 52 gv3 (by decide) dX11_nth_17 rfl rfl (fun c4 => ?_) (fun c4 => ?_)
    · replace h := fTt h c4
      exact fW_sb (hk M h) ⟨rfl, trivial⟩
    · replace h := fFf h c4
      refine fW_iload_n 21 dX11_nth_20 rfl rfl ?_
      refine fW_if_lt 24 52 gv1 dX11_nth_21 rfl rfl (fun c5 => ?_) (fun c5 => ?_)
      · replace h := fTt h c5
        exact fW_sb (hk M h) ⟨rfl, trivial⟩
      · replace h := fFf h c5
        refine fW_aload_n 25 dX11_nth_24 rfl rfl ?_
        refine fW_getR 28 (r := 422) 5 hg clX11 (by decide) rfl tc_418 tf_11_5 wd_1179 dX11_nth_25 rfl ?_
        refine fW_iload_n 29 dX11_nth_28 rfl rfl ?_
        obtain ⟨c6, h⟩ := fS h
        refine fW_iald 30 hg tc_422 ⟨c6.1, by rw [show Ln 422 = 200 from rfl]; exact c6.2⟩ dX11_nth_29 rfl ?_
        refine fW_iconst 31 dX11_nth_30 rfl ?_
        refine fW_icmp_ne 34 37 (hR 422 v3) (by decide) dX11_nth_31 rfl rfl (fun c7 => ?_) (fun c7 => ?_)
        · replace h := fFf h c7
          refine fW_iload_n 38 dX11_nth_37 rfl rfl ?_
          refine fW_if_ne 41 43 gv2 dX11_nth_38 rfl rfl (fun c8 => ?_) (fun c8 => ?_)
          · replace h := fFf h c8
            refine fW_iinc 46 (ls' := [some (rv G 418), some (iv v1), some (iv (v2 + -1)), some (iv v3)]) dX11_nth_43 rfl rfl rfl (by decide) ?_
            refine fW_iinc 49 (ls' := [some (rv G 418), some (iv v1), some (iv (v2 + -1)), some (iv (v3 + 1))]) dX11_nth_46 rfl rfl rfl (by decide) ?_
            refine fW_goto 13 dX11_nth_49 rfl ?_
            obtain ⟨c9, h⟩ := fS h
            exact fW_sb (ih v1 (v2 + -1) (v3 + 1) M gv1 c9 (rg_succ' gv3 (by decide) c4) h) ⟨rfl, rfl, rfl, rfl, trivial⟩
          · replace h := fTt h c8
            refine fW_iload_n 42 dX11_nth_41 rfl rfl ?_
            exact fW_iret rfl (by decide) (by decide) dX11_nth_42 (rI_i h gv3)
        · replace h := fTt h c7
          refine fW_goto 46 dX11_nth_34 rfl ?_
          refine fW_iinc 49 (ls' := [some (rv G 418), some (iv v1), some (iv v2), some (iv (v3 + 1))]) dX11_nth_46 rfl rfl rfl (by decide) ?_
          refine fW_goto 13 dX11_nth_49 rfl ?_
          exact fW_sb (ih v1 v2 (v3 + 1) M gv1 gv2 (rg_succ' gv3 (by decide) c4) h) ⟨rfl, rfl, rfl, rfl, trivial⟩
def f_X11_nth (a1 : Int) (M : fMem) : Option (Int × fMem) := ((some (mset M 418 4 0)).bind fun (N1 : fMem) => ((f_X11_laysKeys N1).bind fun (r2 : fMem) => L_X11_nth_13 (fun  (M_10 : fMem) => ((f_X11_right 0 1 M_10).bind fun (r11 : Int × fMem) => some (0, r11.2))) 20000 a1 a1 0 r2))
set_option maxRecDepth 100000 in
set_option maxHeartbeats 4000000 in
theorem s_X11_nth {G : fG} (hg : gbt G = true) {a1 : Int} (ga1 : rg a1) {M : fMem} {q : Int × fMem} (h : f_X11_nth a1 M = some q) : fSp G mX11_nth [rv G 418, iv a1] M (rP q.2 q.1) fNo := by
  refine fSp_of (by decide +kernel) (by decide +kernel) (fC1 rfl (fC1 rfl fC0)) (Nat.le_of_ble_eq_true rfl) ?_
  show fW G mX11_nth (fEm G mX11_nth (rP q.2 q.1) fNo) 0 0 0 [some (rv G 418), some (iv a1), none, none] [] M
  rw [f_X11_nth] at h
  refine fW_rg (fun hR => ?_)
  refine fW_aload_n 1 dX11_nth_0 rfl rfl ?_
  refine fW_iconst 2 dX11_nth_1 rfl ?_
  obtain ⟨N1, e1, h⟩ := fBd h
  replace e1 := Option.some.inj e1
  refine fW_putI 5 4 (ji := 4) hg clX11 rfl (by decide) rfl rfl rfl tc_418 (by decide) wd_1178 dX11_nth_2 rfl ?_
  rw [e1]
  refine fW_rg (fun hR1 => ?_)
  refine fW_aload_n 6 dX11_nth_5 rfl rfl ?_
  obtain ⟨r2, e2, h⟩ := fBd h
  refine fW_cV (fI_V (as := []) (rest := []) miX11_laysKeys hg clX11 rfl tc_418 wd_1384 (fRoom_of rfl) rfl (Nat.le_of_ble_eq_true rfl) dX11_nth_6) (s_X11_laysKeys hg e2) rfl rfl rfl ?_
  refine fW_rg (fun hR3 => ?_)
  refine fW_iload_n 10 dX11_nth_9 rfl rfl ?_
  refine fW_istore_n 11 (ls' := [some (rv G 418), some (iv a1), some (iv a1), none]) dX11_nth_10 rfl rfl rfl (by decide) ?_
  refine fW_iconst 12 dX11_nth_11 rfl ?_
  refine fW_istore_n 13 (ls' := [some (rv G 418), some (iv a1), some (iv a1), some (iv 0)]) dX11_nth_12 rfl rfl rfl (by decide) ?_
  refine fW_sb (l_X11_nth_13 hg ?_ 20000 a1 a1 0 r2 ga1 ga1 (by decide) h) ⟨rfl, rfl, rfl, rfl, trivial⟩
  intro M_10 h
  refine fW_rg (fun hR_10 => ?_)
  refine fW_aload_n 53 dX11_nth_52 rfl rfl ?_
  refine fW_iconst 54 dX11_nth_53 rfl ?_
  refine fW_iconst 55 dX11_nth_54 rfl ?_
  obtain ⟨r11, e11, h⟩ := fBd h
  refine fW_cB (fI_V (as := [iv 0, iv 1]) (rest := []) miX11_right hg clX11 rfl tc_418 wd_1396 (fRoom_of rfl) rfl (Nat.le_of_ble_eq_true rfl) dX11_nth_55) (s_X11_right hg (by decide) (by decide) e11) rfl rfl rfl (fun g11 => ?_)
  refine fW_rg (fun hR12 => ?_)
  refine fW_pop 59 dX11_nth_58 rfl rfl ?_
  refine fW_iconst 60 dX11_nth_59 rfl ?_
  exact fW_iret rfl (by decide) (by decide) dX11_nth_60 (rI_i h (by decide))
end MTH
