section MTH
def mX11_toll : fMt := (yX11_toll, cX11_toll, 2, some .int, { frames := 1, cells := 0, slots := 0, locals := 40 })
theorem miX11_toll : fMv mX11_toll 1 := ⟨⟨fM 1560 (by decide +kernel) rfl, fM 101 (by decide +kernel) rfl, ⟨by decide +kernel, by decide +kernel⟩, by decide +kernel⟩, fM 1558 (by decide +kernel) rfl, fM 1559 (by decide +kernel) rfl⟩
def j_X11_toll_33  (v1 : Int) (x1 : Int) (M : fMem) : Option (Int × fMem) := (if 0 ≤ x1 ∧ x1 ≤ 1 then ((f_X11_right x1 1 M).bind fun (r5 : Int × fMem) => (if r5.1 = 0 then some (0, r5.2) else (if 0 ≤ ((r5.2 419 7741) - 1) - v1 ∧ ((r5.2 419 7741) - 1) - v1 < 2147483648 then (if 0 ≤ 7747 + ((((r5.2 419 7741) - 1) - v1) % 40) ∧ 7747 + ((((r5.2 419 7741) - 1) - v1) % 40) < 7787 then some (r5.2 419 (7747 + ((((r5.2 419 7741) - 1) - v1) % 40)), r5.2) else none) else none))) else none)
set_option maxRecDepth 100000 in
set_option maxHeartbeats 4000000 in
theorem i_X11_toll_33 {G : fG} (hg : gbt G = true)  {v1 : Int} {x1 : Int} (gv1 : rg v1) (gx1 : rg x1) {M : fMem} {q : Int × fMem} (h : j_X11_toll_33 v1 x1 M = some q) : fW G mX11_toll (fEm G mX11_toll (rP q.2 q.1) fNo) 0 0 33 [some (rv G 418), some (iv v1)] [iv x1, rv G 418] M := by
  rw [j_X11_toll_33] at h
  refine fW_rg (fun hR => ?_)
  refine fW_iconst 34 dX11_toll_33 rfl ?_
  obtain ⟨c4, h⟩ := fS h
  obtain ⟨r5, e5, h⟩ := fBd h
  refine fW_cB (fI_V (as := [iv x1, iv 1]) (rest := []) miX11_right hg clX11 rfl tc_418 wd_1396 (fRoom_of rfl) rfl (Nat.le_of_ble_eq_true rfl) dX11_toll_34) (s_X11_right hg c4 (by decide) e5) rfl rfl rfl (fun g5 => ?_)
  refine fW_rg (fun hR6 => ?_)
  refine fW_if_ne 40 42 (rg_z g5) dX11_toll_37 rfl rfl (fun c7 => ?_) (fun c7 => ?_)
  · replace h := fFf h c7
    refine fW_aload_n 43 dX11_toll_42 rfl rfl ?_
    refine fW_getR 46 (r := 419) 0 hg clX11 (by decide) rfl tc_418 tf_11_0 wd_1174 dX11_toll_43 rfl ?_
    refine fW_sipush 49 dX11_toll_46 rfl (by decide) ?_
    refine fW_aload_n 50 dX11_toll_49 rfl rfl ?_
    refine fW_getR 53 (r := 419) 0 hg clX11 (by decide) rfl tc_418 tf_11_0 wd_1174 dX11_toll_50 rfl ?_
    refine fW_sipush 56 dX11_toll_53 rfl (by decide) ?_
    refine fW_iald 57 hg tc_419 ⟨by decide, by rw [show Ln 419 = 7787 from rfl]; decide⟩ dX11_toll_56 rfl ?_
    refine fW_iconst 58 dX11_toll_57 rfl ?_
    refine fW_isub 59 dX11_toll_58 rfl ?_
    refine fW_iload_n 60 dX11_toll_59 rfl rfl ?_
    refine fW_isub 61 dX11_toll_60 rfl ?_
    refine fW_bipush 63 dX11_toll_61 rfl (by decide) ?_
    obtain ⟨c8, h⟩ := fS h
    refine fW_irem 64 c8 (by decide) dX11_toll_63 rfl ?_
    refine fW_iadd 65 dX11_toll_64 rfl ?_
    obtain ⟨c9, h⟩ := fS h
    refine fW_iald 66 hg tc_419 ⟨c9.1, by rw [show Ln 419 = 7787 from rfl]; exact c9.2⟩ dX11_toll_65 rfl ?_
    exact fW_iret rfl (by decide) (by decide) dX11_toll_66 (rI_i h (hR6 419 (7747 + ((((r5.2 419 7741) - 1) - v1) % 40))))
  · replace h := fTt h c7
    refine fW_iconst 41 dX11_toll_40 rfl ?_
    exact fW_iret rfl (by decide) (by decide) dX11_toll_41 (rI_i h (by decide))
def j_X11_toll_32  (v1 : Int) (M : fMem) : Option (Int × fMem) := j_X11_toll_33 v1 0 M
set_option maxRecDepth 100000 in
set_option maxHeartbeats 4000000 in
theorem i_X11_toll_32 {G : fG} (hg : gbt G = true)  {v1 : Int} (gv1 : rg v1) {M : fMem} {q : Int × fMem} (h : j_X11_toll_32 v1 M = some q) : fW G mX11_toll (fEm G mX11_toll (rP q.2 q.1) fNo) 0 0 32 [some (rv G 418), some (iv v1)] [rv G 418] M := by
  rw [j_X11_toll_32] at h
  refine fW_rg (fun hR => ?_)
  refine fW_iconst 33 dX11_toll_32 rfl ?_
  exact fW_sb (i_X11_toll_33 hg gv1 (by decide) h) ⟨rfl, rfl, trivial⟩
def f_X11_toll (a1 : Int) (M : fMem) : Option (Int × fMem) := ((some (mset M 418 4 0)).bind fun (N1 : fMem) => ((f_X11_isIn a1 0 39 N1).bind fun (r2 : Int) => (if r2 = 0 then j_X11_toll_32 a1 N1 else (if (N1 419 7741) ≤ a1 then j_X11_toll_32 a1 N1 else j_X11_toll_33 a1 1 N1))))
set_option maxRecDepth 100000 in
set_option maxHeartbeats 4000000 in
theorem s_X11_toll {G : fG} (hg : gbt G = true) {a1 : Int} (ga1 : rg a1) {M : fMem} {q : Int × fMem} (h : f_X11_toll a1 M = some q) : fSp G mX11_toll [rv G 418, iv a1] M (rP q.2 q.1) fNo := by
  refine fSp_of (by decide +kernel) (by decide +kernel) (fC1 rfl (fC1 rfl fC0)) (Nat.le_of_ble_eq_true rfl) ?_
  show fW G mX11_toll (fEm G mX11_toll (rP q.2 q.1) fNo) 0 0 0 [some (rv G 418), some (iv a1)] [] M
  rw [f_X11_toll] at h
  refine fW_rg (fun hR => ?_)
  refine fW_aload_n 1 dX11_toll_0 rfl rfl ?_
  refine fW_iconst 2 dX11_toll_1 rfl ?_
  obtain ⟨N1, e1, h⟩ := fBd h
  replace e1 := Option.some.inj e1
  refine fW_putI 5 4 (ji := 4) hg clX11 rfl (by decide) rfl rfl rfl tc_418 (by decide) wd_1178 dX11_toll_2 rfl ?_
  rw [e1]
  refine fW_rg (fun hR1 => ?_)
  refine fW_aload_n 6 dX11_toll_5 rfl rfl ?_
  refine fW_iload_n 7 dX11_toll_6 rfl rfl ?_
  refine fW_iconst 8 dX11_toll_7 rfl ?_
  refine fW_bipush 10 dX11_toll_8 rfl (by decide) ?_
  obtain ⟨r2, e2, h⟩ := fBd h
  refine fW_cB (fI_S (as := [iv a1, iv 0, iv 39]) (rest := [rv G 418]) miX11_isIn rfl wd_1272 (fRoom_of rfl) rfl (Nat.le_of_ble_eq_true rfl) dX11_toll_10) (s_X11_isIn ga1 (by decide) (by decide) e2) rfl rfl rfl (fun g2 => ?_)
  refine fW_if_eq 16 32 (rg_z g2) dX11_toll_13 rfl rfl (fun c3 => ?_) (fun c3 => ?_)
  · replace h := fTt h c3
    exact fW_sb (i_X11_toll_32 hg ga1 h) ⟨rfl, rfl, trivial⟩
  · replace h := fFf h c3
    refine fW_iload_n 17 dX11_toll_16 rfl rfl ?_
    refine fW_aload_n 18 dX11_toll_17 rfl rfl ?_
    refine fW_getR 21 (r := 419) 0 hg clX11 (by decide) rfl tc_418 tf_11_0 wd_1174 dX11_toll_18 rfl ?_
    refine fW_sipush 24 dX11_toll_21 rfl (by decide) ?_
    refine fW_iald 25 hg tc_419 ⟨by decide, by rw [show Ln 419 = 7787 from rfl]; decide⟩ dX11_toll_24 rfl ?_
    refine fW_icmp_ge 28 32 ga1 (hR1 419 7741) dX11_toll_25 rfl rfl (fun c10 => ?_) (fun c10 => ?_)
    · replace h := fTt h c10
      exact fW_sb (i_X11_toll_32 hg ga1 h) ⟨rfl, rfl, trivial⟩
    · replace h := fFf h c10
      refine fW_iconst 29 dX11_toll_28 rfl ?_
      refine fW_goto 33 dX11_toll_29 rfl ?_
      exact fW_sb (i_X11_toll_33 hg ga1 (by decide) h) ⟨rfl, rfl, trivial⟩
def mX11_goesAside : fMt := (yX11_goesAside, cX11_goesAside, 2, none, { frames := 0, cells := 0, slots := 0, locals := 0 })
theorem miX11_goesAside : fMv mX11_goesAside 0 := ⟨⟨fM 1568 (by decide +kernel) rfl, fM 101 (by decide +kernel) rfl, ⟨by decide +kernel, by decide +kernel⟩, by decide +kernel⟩, fM 1567 (by decide +kernel) rfl, fM 76 (by decide +kernel) rfl⟩
def L_X11_goesAside_2  (k : fMem → Option (fMem)) : Nat → Int → fMem → Option (fMem)
  | 0, _, _ => none
  | n + 1, v1, M => (if 7787 ≤ v1 then k  M else (if 0 ≤ v1 ∧ v1 < 7787 then ((some (mset M 420 v1 (M 419 v1))).bind fun (N3 : fMem) => L_X11_goesAside_2  k n (v1 + 1) N3) else none))
set_option maxRecDepth 100000 in
set_option maxHeartbeats 4000000 in
theorem l_X11_goesAside_2 {G : fG} (hg : gbt G = true)  {q : fMem} {k : fMem → Option (fMem)} (hk : ∀ (M : fMem), k M = some q → fW G mX11_goesAside (fEm G mX11_goesAside (rV q) fNo) 0 0 27 [some (rv G 418), none] [] M) : ∀ (n : Nat) (v1 : Int) (M : fMem), rg v1 → L_X11_goesAside_2 k n v1 M = some q → fW G mX11_goesAside (fEm G mX11_goesAside (rV q) fNo) 0 0 2 [some (rv G 418), some (iv v1)] [] M := by
  intro n
  induction n with
  | zero =>
    intro v1 M gv1 h
    rw [L_X11_goesAside_2] at h
    exact absurd h (by simp)
  | succ n ih =>
    intro v1 M gv1 h
    rw [L_X11_goesAside_2] at h
    refine fW_rg (fun hR => ?_)
    refine fW_iload_n 3 dX11_goesAside_2 rfl rfl ?_
    refine fW_sipush 6 dX11_goesAside_3 rfl (by decide) ?_
    refine fW_icmp_ge 9 27 gv1 (by decide) dX11_goesAside_6 rfl rfl (fun c1 => ?_) (fun c1 => ?_)
    · replace h := fTt h c1
      exact fW_sb (hk M h) ⟨rfl, trivial⟩
    · replace h := fFf h c1
      refine fW_aload_n 10 dX11_goesAside_9 rfl rfl ?_
      refine fW_getR 13 (r := 420) 1 hg clX11 (by decide) rfl tc_418 tf_11_1 wd_1175 dX11_goesAside_10 rfl ?_
      refine fW_iload_n 14 dX11_goesAside_13 rfl rfl ?_
      refine fW_aload_n 15 dX11_goesAside_14 rfl rfl ?_
      refine fW_getR 18 (r := 419) 0 hg clX11 (by decide) rfl tc_418 tf_11_0 wd_1174 dX11_goesAside_15 rfl ?_
      refine fW_iload_n 19 dX11_goesAside_18 rfl rfl ?_
      obtain ⟨c2, h⟩ := fS h
      refine fW_iald 20 hg tc_419 ⟨c2.1, by rw [show Ln 419 = 7787 from rfl]; exact c2.2⟩ dX11_goesAside_19 rfl ?_
      obtain ⟨N3, e3, h⟩ := fBd h
      replace e3 := Option.some.inj e3
      refine fW_iast 21 hg tc_420 ⟨c2.1, by rw [show Ln 420 = 7787 from rfl]; exact c2.2⟩ (hR 419 v1) dX11_goesAside_20 rfl ?_
      rw [e3]
      refine fW_rg (fun hR3 => ?_)
      refine fW_iinc 24 (ls' := [some (rv G 418), some (iv (v1 + 1))]) dX11_goesAside_21 rfl rfl rfl (by decide) ?_
      refine fW_goto 2 dX11_goesAside_24 rfl ?_
      exact fW_sb (ih (v1 + 1) N3 (rg_succ' gv1 (by decide) c1) h) ⟨rfl, rfl, trivial⟩
def f_X11_goesAside  (M : fMem) : Option (fMem) := L_X11_goesAside_2 (fun  (M_4 : fMem) => some M_4) 20000 0 M
set_option maxRecDepth 100000 in
set_option maxHeartbeats 4000000 in
theorem s_X11_goesAside {G : fG} (hg : gbt G = true)  {M : fMem} {q : fMem} (h : f_X11_goesAside M = some q) : fSp G mX11_goesAside [rv G 418] M (rV q) fNo := by
  refine fSp_of (by decide +kernel) (by decide +kernel) (fC1 rfl fC0) (Nat.le_of_ble_eq_true rfl) ?_
  show fW G mX11_goesAside (fEm G mX11_goesAside (rV q) fNo) 0 0 0 [some (rv G 418), none] [] M
  rw [f_X11_goesAside] at h
  refine fW_rg (fun hR => ?_)
  refine fW_iconst 1 dX11_goesAside_0 rfl ?_
  refine fW_istore_n 2 (ls' := [some (rv G 418), some (iv 0)]) dX11_goesAside_1 rfl rfl rfl (by decide) ?_
  refine fW_sb (l_X11_goesAside_2 hg ?_ 20000 0 M (by decide) h) ⟨rfl, rfl, trivial⟩
  intro M_4 h
  refine fW_rg (fun hR_4 => ?_)
  exact fW_vret rfl (by decide) (by decide) dX11_goesAside_27 (rV_i h)
def mX11_comesBack : fMt := (yX11_comesBack, cX11_comesBack, 2, none, { frames := 0, cells := 0, slots := 0, locals := 0 })
theorem miX11_comesBack : fMv mX11_comesBack 0 := ⟨⟨fM 1576 (by decide +kernel) rfl, fM 101 (by decide +kernel) rfl, ⟨by decide +kernel, by decide +kernel⟩, by decide +kernel⟩, fM 1575 (by decide +kernel) rfl, fM 78 (by decide +kernel) rfl⟩
def L_X11_comesBack_2  (k : fMem → Option (fMem)) : Nat → Int → fMem → Option (fMem)
  | 0, _, _ => none
  | n + 1, v1, M => (if 7787 ≤ v1 then k  M else (if 0 ≤ v1 ∧ v1 < 7787 then ((some (mset M 419 v1 (M 420 v1))).bind fun (N3 : fMem) => L_X11_comesBack_2  k n (v1 + 1) N3) else none))
set_option maxRecDepth 100000 in
set_option maxHeartbeats 4000000 in
theorem l_X11_comesBack_2 {G : fG} (hg : gbt G = true)  {q : fMem} {k : fMem → Option (fMem)} (hk : ∀ (M : fMem), k M = some q → fW G mX11_comesBack (fEm G mX11_comesBack (rV q) fNo) 0 0 27 [some (rv G 418), none] [] M) : ∀ (n : Nat) (v1 : Int) (M : fMem), rg v1 → L_X11_comesBack_2 k n v1 M = some q → fW G mX11_comesBack (fEm G mX11_comesBack (rV q) fNo) 0 0 2 [some (rv G 418), some (iv v1)] [] M := by
  intro n
  induction n with
  | zero =>
    intro v1 M gv1 h
    rw [L_X11_comesBack_2] at h
    exact absurd h (by simp)
  | succ n ih =>
    intro v1 M gv1 h
    rw [L_X11_comesBack_2] at h
    refine fW_rg (fun hR => ?_)
    refine fW_iload_n 3 dX11_comesBack_2 rfl rfl ?_
    refine fW_sipush 6 dX11_comesBack_3 rfl (by decide) ?_
    refine fW_icmp_ge 9 27 gv1 (by decide) dX11_comesBack_6 rfl rfl (fun c1 => ?_) (fun c1 => ?_)
    · replace h := fTt h c1
      exact fW_sb (hk M h) ⟨rfl, trivial⟩
    · replace h := fFf h c1
      refine fW_aload_n 10 dX11_comesBack_9 rfl rfl ?_
      refine fW_getR 13 (r := 419) 0 hg clX11 (by decide) rfl tc_418 tf_11_0 wd_1174 dX11_comesBack_10 rfl ?_
      refine fW_iload_n 14 dX11_comesBack_13 rfl rfl ?_
      refine fW_aload_n 15 dX11_comesBack_14 rfl rfl ?_
      refine fW_getR 18 (r := 420) 1 hg clX11 (by decide) rfl tc_418 tf_11_1 wd_1175 dX11_comesBack_15 rfl ?_
      refine fW_iload_n 19 dX11_comesBack_18 rfl rfl ?_
      obtain ⟨c2, h⟩ := fS h
      refine fW_iald 20 hg tc_420 ⟨c2.1, by rw [show Ln 420 = 7787 from rfl]; exact c2.2⟩ dX11_comesBack_19 rfl ?_
      obtain ⟨N3, e3, h⟩ := fBd h
      replace e3 := Option.some.inj e3
      refine fW_iast 21 hg tc_419 ⟨c2.1, by rw [show Ln 419 = 7787 from rfl]; exact c2.2⟩ (hR 420 v1) dX11_comesBack_20 rfl ?_
      rw [e3]
      refine fW_rg (fun hR3 => ?_)
      refine fW_iinc 24 (ls' := [some (rv G 418), some (iv (v1 + 1))]) dX11_comesBack_21 rfl rfl rfl (by decide) ?_
      refine fW_goto 2 dX11_comesBack_24 rfl ?_
      exact fW_sb (ih (v1 + 1) N3 (rg_succ' gv1 (by decide) c1) h) ⟨rfl, rfl, trivial⟩
def f_X11_comesBack  (M : fMem) : Option (fMem) := L_X11_comesBack_2 (fun  (M_4 : fMem) => some M_4) 20000 0 M
set_option maxRecDepth 100000 in
set_option maxHeartbeats 4000000 in
theorem s_X11_comesBack {G : fG} (hg : gbt G = true)  {M : fMem} {q : fMem} (h : f_X11_comesBack M = some q) : fSp G mX11_comesBack [rv G 418] M (rV q) fNo := by
  refine fSp_of (by decide +kernel) (by decide +kernel) (fC1 rfl fC0) (Nat.le_of_ble_eq_true rfl) ?_
  show fW G mX11_comesBack (fEm G mX11_comesBack (rV q) fNo) 0 0 0 [some (rv G 418), none] [] M
  rw [f_X11_comesBack] at h
  refine fW_rg (fun hR => ?_)
  refine fW_iconst 1 dX11_comesBack_0 rfl ?_
  refine fW_istore_n 2 (ls' := [some (rv G 418), some (iv 0)]) dX11_comesBack_1 rfl rfl rfl (by decide) ?_
  refine fW_sb (l_X11_comesBack_2 hg ?_ 20000 0 M (by decide) h) ⟨rfl, rfl, trivial⟩
  intro M_4 h
  refine fW_rg (fun hR_4 => ?_)
  exact fW_vret rfl (by decide) (by decide) dX11_comesBack_27 (rV_i h)
def mX11_actsAhead : fMt := (yX11_actsAhead, cX11_actsAhead, 2, some .int, { frames := 9, cells := 0, slots := 0, locals := 360 })
theorem miX11_actsAhead : fMv mX11_actsAhead 1 := ⟨⟨fM 1572 (by decide +kernel) rfl, fM 101 (by decide +kernel) rfl, ⟨by decide +kernel, by decide +kernel⟩, by decide +kernel⟩, fM 1571 (by decide +kernel) rfl, fM 77 (by decide +kernel) rfl⟩
def f_X11_actsAhead (a1 : Int) (M : fMem) : Option (Int × fMem) := (if 0 ≤ (37 * a1) + 11 ∧ (37 * a1) + 11 < 2147483648 then (if -2147483648 ≤ ((37 * a1) + 11) % 200 ∧ ((37 * a1) + 11) % 200 < 2147483648 then ((f_X11_acts (((37 * a1) + 11) % 200) 0 M).bind fun (r3 : Int × fMem) => some (r3.1, r3.2)) else none) else none)
set_option maxRecDepth 100000 in
set_option maxHeartbeats 4000000 in
theorem s_X11_actsAhead {G : fG} (hg : gbt G = true) {a1 : Int} (ga1 : rg a1) {M : fMem} {q : Int × fMem} (h : f_X11_actsAhead a1 M = some q) : fSp G mX11_actsAhead [rv G 418, iv a1] M (rP q.2 q.1) fNo := by
  refine fSp_of (by decide +kernel) (by decide +kernel) (fC1 rfl (fC1 rfl fC0)) (Nat.le_of_ble_eq_true rfl) ?_
  show fW G mX11_actsAhead (fEm G mX11_actsAhead (rP q.2 q.1) fNo) 0 0 0 [some (rv G 418), some (iv a1)] [] M
  rw [f_X11_actsAhead] at h
  refine fW_rg (fun hR => ?_)
  refine fW_aload_n 1 dX11_actsAhead_0 rfl rfl ?_
  refine fW_bipush 3 dX11_actsAhead_1 rfl (by decide) ?_
  refine fW_iload_n 4 dX11_actsAhead_3 rfl rfl ?_
  refine fW_imul 5 dX11_actsAhead_4 rfl ?_
  refine fW_bipush 7 dX11_actsAhead_5 rfl (by decide) ?_
  refine fW_iadd 8 dX11_actsAhead_7 rfl ?_
  refine fW_sipush 11 dX11_actsAhead_8 rfl (by decide) ?_
  obtain ⟨c1, h⟩ := fS h
  refine fW_irem 12 c1 (by decide) dX11_actsAhead_11 rfl ?_
  refine fW_iconst 13 dX11_actsAhead_12 rfl ?_
  obtain ⟨c2, h⟩ := fS h
  obtain ⟨r3, e3, h⟩ := fBd h
  refine fW_cP (fI_V (as := [iv (((37 * a1) + 11) % 200), iv 0]) (rest := []) miX11_acts hg clX11 rfl tc_418 wd_1278 (fRoom_of rfl) rfl (Nat.le_of_ble_eq_true rfl) dX11_actsAhead_13) (s_X11_acts hg c2 (by decide) e3) rfl rfl rfl (fun g3 => ?_)
  refine fW_rg (fun hR4 => ?_)
  exact fW_iret rfl (by decide) (by decide) dX11_actsAhead_16 (rI_i h g3)
def mX11_ahead : fMt := (yX11_ahead, cX11_ahead, 8, some .int, { frames := 10, cells := 0, slots := 0, locals := 400 })
theorem miX11_ahead : fMv mX11_ahead 2 := ⟨⟨fM 1564 (by decide +kernel) rfl, fM 101 (by decide +kernel) rfl, ⟨by decide +kernel, by decide +kernel⟩, by decide +kernel⟩, fM 1562 (by decide +kernel) rfl, fM 1563 (by decide +kernel) rfl⟩
def L_X11_ahead_48  (k : Int → Int → Int → fMem → Option (Int × fMem)) : Nat → Int → Int → Int → Int → Int → fMem → Option (Int × fMem)
  | 0, _, _, _, _, _, _ => none
  | n + 1, v1, v2, v3, v4, v5, M => (if v1 ≤ v5 then k v2 v3 v4 M else ((f_X11_actsAhead v5 M).bind fun (r13 : Int × fMem) => (if r13.1 ≤ v4 then (if -2147483648 ≤ v3 + r13.1 ∧ v3 + r13.1 < 2147483648 then L_X11_ahead_48  k n v1 v2 (v3 + r13.1) v4 (v5 + 1) r13.2 else none) else (if -2147483648 ≤ v3 + r13.1 ∧ v3 + r13.1 < 2147483648 then L_X11_ahead_48  k n v1 v2 (v3 + r13.1) r13.1 (v5 + 1) r13.2 else none))))
set_option maxRecDepth 100000 in
set_option maxHeartbeats 4000000 in
theorem l_X11_ahead_48 {G : fG} (hg : gbt G = true)  {q : Int × fMem} {k : Int → Int → Int → fMem → Option (Int × fMem)} (hk : ∀ (v2 : Int) (v3 : Int) (v4 : Int) (M : fMem), rg v2 → rg v3 → rg v4 → k v2 v3 v4 M = some q → fW G mX11_ahead (fEm G mX11_ahead (rP q.2 q.1) fNo) 0 0 89 [some (rv G 418), none, some (iv v2), some (iv v3), some (iv v4), none, none, none] [] M) : ∀ (n : Nat) (v1 : Int) (v2 : Int) (v3 : Int) (v4 : Int) (v5 : Int) (M : fMem), rg v1 → rg v2 → rg v3 → rg v4 → rg v5 → L_X11_ahead_48 k n v1 v2 v3 v4 v5 M = some q → fW G mX11_ahead (fEm G mX11_ahead (rP q.2 q.1) fNo) 0 0 48 [some (rv G 418), some (iv v1), some (iv v2), some (iv v3), some (iv v4), some (iv v5), none, none] [] M := by
  intro n
  induction n with
  | zero =>
    intro v1 v2 v3 v4 v5 M gv1 gv2 gv3 gv4 gv5 h
    rw [L_X11_ahead_48] at h
    exact absurd h (by simp)
  | succ n ih =>
    intro v1 v2 v3 v4 v5 M gv1 gv2 gv3 gv4 gv5 h
    rw [L_X11_ahead_48] at h
    refine fW_rg (fun hR => ?_)
    refine fW_iload 50 dX11_ahead_48 rfl rfl ?_
    refine fW_iload_n 51 dX11_ahead_50 rfl rfl ?_
    refine fW_icmp_ge 54 89 gv5 gv1 dX11_ahead_51 rfl rfl (fun c12 => ?_) (fun c12 => ?_)
    · replace h := fTt h c12
      exact fW_sb (hk v2 v3 v4 M gv2 gv3 gv4 h) ⟨rfl, rfl, rfl, rfl, trivial⟩
    · replace h := fFf h c12
      refine fW_aload_n 55 dX11_ahead_54 rfl rfl ?_
      refine fW_iload 57 dX11_ahead_55 rfl rfl ?_
      obtain ⟨r13, e13, h⟩ := fBd h
      refine fW_cP (fI_V (as := [iv v5]) (rest := []) miX11_actsAhead hg clX11 rfl tc_418 wd_1569 (fRoom_of rfl) rfl (Nat.le_of_ble_eq_true rfl) dX11_ahead_57) (s_X11_actsAhead hg gv5 e13) rfl rfl rfl (fun g13 => ?_)
      refine fW_rg (fun hR14 => ?_)
      refine fW_istore 62 (ls' := [some (rv G 418), some (iv v1), some (iv v2), some (iv v3), some (iv v4), some (iv v5), some (iv r13.1), none]) dX11_ahead_60 rfl rfl (by decide) ?_
      refine fW_iload_n 63 dX11_ahead_62 rfl rfl ?_
      refine fW_iload 65 dX11_ahead_63 rfl rfl ?_
      refine fW_iadd 66 dX11_ahead_65 rfl ?_
      refine fW_istore_n 67 (ls' := [some (rv G 418), some (iv v1), some (iv v2), some (iv (v3 + r13.1)), some (iv v4), some (iv v5), some (iv r13.1), none]) dX11_ahead_66 rfl rfl rfl (by decide) ?_
      refine fW_iload 69 dX11_ahead_67 rfl rfl ?_
      refine fW_iload 71 dX11_ahead_69 rfl rfl ?_
      refine fW_icmp_le 74 79 g13 gv4 dX11_ahead_71 rfl rfl (fun c15 => ?_) (fun c15 => ?_)
      · replace h := fTt h c15
        refine fW_iload 81 dX11_ahead_79 rfl rfl ?_
        refine fW_istore 83 (ls' := [some (rv G 418), some (iv v1), some (iv v2), some (iv (v3 + r13.1)), some (iv v4), some (iv v5), some (iv r13.1), none]) dX11_ahead_81 rfl rfl (by decide) ?_
        refine fW_iinc 86 (ls' := [some (rv G 418), some (iv v1), some (iv v2), some (iv (v3 + r13.1)), some (iv v4), some (iv (v5 + 1)), some (iv r13.1), none]) dX11_ahead_83 rfl rfl rfl (by decide) ?_
        refine fW_goto 48 dX11_ahead_86 rfl ?_
        obtain ⟨c16, h⟩ := fS h
        exact fW_sb (ih v1 v2 (v3 + r13.1) v4 (v5 + 1) r13.2 gv1 gv2 c16 gv4 (rg_succ' gv5 gv1 c12) h) ⟨rfl, rfl, rfl, rfl, rfl, rfl, trivial⟩
      · replace h := fFf h c15
        refine fW_iload 76 dX11_ahead_74 rfl rfl ?_
        refine fW_goto 81 dX11_ahead_76 rfl ?_
        refine fW_istore 83 (ls' := [some (rv G 418), some (iv v1), some (iv v2), some (iv (v3 + r13.1)), some (iv r13.1), some (iv v5), some (iv r13.1), none]) dX11_ahead_81 rfl rfl (by decide) ?_
        refine fW_iinc 86 (ls' := [some (rv G 418), some (iv v1), some (iv v2), some (iv (v3 + r13.1)), some (iv r13.1), some (iv (v5 + 1)), some (iv r13.1), none]) dX11_ahead_83 rfl rfl rfl (by decide) ?_
        refine fW_goto 48 dX11_ahead_86 rfl ?_
        obtain ⟨c17, h⟩ := fS h
        exact fW_sb (ih v1 v2 (v3 + r13.1) r13.1 (v5 + 1) r13.2 gv1 gv2 c17 g13 (rg_succ' gv5 gv1 c12) h) ⟨rfl, rfl, rfl, rfl, rfl, rfl, trivial⟩
def f_X11_ahead (a1 : Int) (a2 : Int) (M : fMem) : Option (Int × fMem) := ((some (mset M 418 4 0)).bind fun (N1 : fMem) => ((f_X11_isIn a2 0 4 N1).bind fun (r2 : Int) => ((f_X11_right r2 1 N1).bind fun (r3 : Int × fMem) => (if r3.1 = 0 then some (0, r3.2) else ((f_X11_isIn a1 0 64 r3.2).bind fun (r6 : Int) => ((f_X11_right r6 2 r3.2).bind fun (r7 : Int × fMem) => (if r7.1 = 0 then some (0, r7.2) else ((f_X11_goesAside r7.2).bind fun (r10 : fMem) => L_X11_ahead_48 (fun (v2_18 : Int) (v3_18 : Int) (v4_18 : Int) (M_18 : fMem) => ((f_X11_allShut M_18).bind fun (r19 : Int) => ((f_X11_thereMany M_18).bind fun (r20 : Int × fMem) => ((f_X11_comesBack r20.2).bind fun (r22 : fMem) => (if v2_18 = 0 then some (v3_18, r22) else (if v2_18 = 1 then (if -2147483648 ≤ (M_18 419 7743) - (M_18 420 7743) ∧ (M_18 419 7743) - (M_18 420 7743) < 2147483648 then some ((M_18 419 7743) - (M_18 420 7743), r22) else none) else (if v2_18 = 2 then some (v4_18, r22) else (if v2_18 = 3 then some (r19, r22) else some (r20.1, r22))))))))) 20000 a1 a2 0 0 0 r10))))))))
set_option maxRecDepth 100000 in
set_option maxHeartbeats 4000000 in
theorem s_X11_ahead {G : fG} (hg : gbt G = true) {a1 : Int} (ga1 : rg a1) {a2 : Int} (ga2 : rg a2) {M : fMem} {q : Int × fMem} (h : f_X11_ahead a1 a2 M = some q) : fSp G mX11_ahead [rv G 418, iv a1, iv a2] M (rP q.2 q.1) fNo := by
  refine fSp_of (by decide +kernel) (by decide +kernel) (fC1 rfl (fC1 rfl (fC1 rfl fC0))) (Nat.le_of_ble_eq_true rfl) ?_
  show fW G mX11_ahead (fEm G mX11_ahead (rP q.2 q.1) fNo) 0 0 0 [some (rv G 418), some (iv a1), some (iv a2), none, none, none, none, none] [] M
  rw [f_X11_ahead] at h
  refine fW_rg (fun hR => ?_)
  refine fW_aload_n 1 dX11_ahead_0 rfl rfl ?_
  refine fW_iconst 2 dX11_ahead_1 rfl ?_
  obtain ⟨N1, e1, h⟩ := fBd h
  replace e1 := Option.some.inj e1
  refine fW_putI 5 4 (ji := 4) hg clX11 rfl (by decide) rfl rfl rfl tc_418 (by decide) wd_1178 dX11_ahead_2 rfl ?_
  rw [e1]
  refine fW_rg (fun hR1 => ?_)
  refine fW_aload_n 6 dX11_ahead_5 rfl rfl ?_
  refine fW_iload_n 7 dX11_ahead_6 rfl rfl ?_
  refine fW_iconst 8 dX11_ahead_7 rfl ?_
  refine fW_iconst 9 dX11_ahead_8 rfl ?_
  obtain ⟨r2, e2, h⟩ := fBd h
  refine fW_cB (fI_S (as := [iv a2, iv 0, iv 4]) (rest := [rv G 418]) miX11_isIn rfl wd_1272 (fRoom_of rfl) rfl (Nat.le_of_ble_eq_true rfl) dX11_ahead_9) (s_X11_isIn ga2 (by decide) (by decide) e2) rfl rfl rfl (fun g2 => ?_)
  refine fW_iconst 13 dX11_ahead_12 rfl ?_
  obtain ⟨r3, e3, h⟩ := fBd h
  refine fW_cB (fI_V (as := [iv r2, iv 1]) (rest := []) miX11_right hg clX11 rfl tc_418 wd_1396 (fRoom_of rfl) rfl (Nat.le_of_ble_eq_true rfl) dX11_ahead_13) (s_X11_right hg g2 (by decide) e3) rfl rfl rfl (fun g3 => ?_)
  refine fW_rg (fun hR4 => ?_)
  refine fW_if_eq 19 34 (rg_z g3) dX11_ahead_16 rfl rfl (fun c5 => ?_) (fun c5 => ?_)
  · replace h := fTt h c5
    refine fW_iconst 35 dX11_ahead_34 rfl ?_
    exact fW_iret rfl (by decide) (by decide) dX11_ahead_35 (rI_i h (by decide))
  · replace h := fFf h c5
    refine fW_aload_n 20 dX11_ahead_19 rfl rfl ?_
    refine fW_iload_n 21 dX11_ahead_20 rfl rfl ?_
    refine fW_iconst 22 dX11_ahead_21 rfl ?_
    refine fW_bipush 24 dX11_ahead_22 rfl (by decide) ?_
    obtain ⟨r6, e6, h⟩ := fBd h
    refine fW_cB (fI_S (as := [iv a1, iv 0, iv 64]) (rest := [rv G 418]) miX11_isIn rfl wd_1272 (fRoom_of rfl) rfl (Nat.le_of_ble_eq_true rfl) dX11_ahead_24) (s_X11_isIn ga1 (by decide) (by decide) e6) rfl rfl rfl (fun g6 => ?_)
    refine fW_iconst 28 dX11_ahead_27 rfl ?_
    obtain ⟨r7, e7, h⟩ := fBd h
    refine fW_cB (fI_V (as := [iv r6, iv 2]) (rest := []) miX11_right hg clX11 rfl tc_418 wd_1396 (fRoom_of rfl) rfl (Nat.le_of_ble_eq_true rfl) dX11_ahead_28) (s_X11_right hg g6 (by decide) e7) rfl rfl rfl (fun g7 => ?_)
    refine fW_rg (fun hR8 => ?_)
    refine fW_if_ne 34 36 (rg_z g7) dX11_ahead_31 rfl rfl (fun c9 => ?_) (fun c9 => ?_)
    · replace h := fFf h c9
      refine fW_aload_n 37 dX11_ahead_36 rfl rfl ?_
      obtain ⟨r10, e10, h⟩ := fBd h
      refine fW_cV (fI_V (as := []) (rest := []) miX11_goesAside hg clX11 rfl tc_418 wd_1565 (fRoom_of rfl) rfl (Nat.le_of_ble_eq_true rfl) dX11_ahead_37) (s_X11_goesAside hg e10) rfl rfl rfl ?_
      refine fW_rg (fun hR11 => ?_)
      refine fW_iconst 41 dX11_ahead_40 rfl ?_
      refine fW_istore_n 42 (ls' := [some (rv G 418), some (iv a1), some (iv a2), some (iv 0), none, none, none, none]) dX11_ahead_41 rfl rfl rfl (by decide) ?_
      refine fW_iconst 43 dX11_ahead_42 rfl ?_
      refine fW_istore 45 (ls' := [some (rv G 418), some (iv a1), some (iv a2), some (iv 0), some (iv 0), none, none, none]) dX11_ahead_43 rfl rfl (by decide) ?_
      refine fW_iconst 46 dX11_ahead_45 rfl ?_
      refine fW_istore 48 (ls' := [some (rv G 418), some (iv a1), some (iv a2), some (iv 0), some (iv 0), some (iv 0), none, none]) dX11_ahead_46 rfl rfl (by decide) ?_
      refine fW_sb (l_X11_ahead_48 hg ?_ 20000 a1 a2 0 0 0 r10 ga1 ga2 (by decide) (by decide) (by decide) h) ⟨rfl, rfl, rfl, rfl, rfl, rfl, trivial⟩
      intro v2_18 v3_18 v4_18 M_18 gv2_18 gv3_18 gv4_18 h
      refine fW_rg (fun hR_18 => ?_)
      refine fW_aload_n 90 dX11_ahead_89 rfl rfl ?_
      refine fW_getR 93 (r := 419) 0 hg clX11 (by decide) rfl tc_418 tf_11_0 wd_1174 dX11_ahead_90 rfl ?_
      refine fW_sipush 96 dX11_ahead_93 rfl (by decide) ?_
      refine fW_iald 97 hg tc_419 ⟨by decide, by rw [show Ln 419 = 7787 from rfl]; decide⟩ dX11_ahead_96 rfl ?_
      refine fW_aload_n 98 dX11_ahead_97 rfl rfl ?_
      refine fW_getR 101 (r := 420) 1 hg clX11 (by decide) rfl tc_418 tf_11_1 wd_1175 dX11_ahead_98 rfl ?_
      refine fW_sipush 104 dX11_ahead_101 rfl (by decide) ?_
      refine fW_iald 105 hg tc_420 ⟨by decide, by rw [show Ln 420 = 7787 from rfl]; decide⟩ dX11_ahead_104 rfl ?_
      refine fW_isub 106 dX11_ahead_105 rfl ?_
      refine fW_istore 108 (ls' := [some (rv G 418), none, some (iv v2_18), some (iv v3_18), some (iv v4_18), some (iv ((M_18 419 7743) - (M_18 420 7743))), none, none]) dX11_ahead_106 rfl rfl (by decide) ?_
      refine fW_aload_n 109 dX11_ahead_108 rfl rfl ?_
      obtain ⟨r19, e19, h⟩ := fBd h
      refine fW_cP (fI_V (as := []) (rest := []) miX11_allShut hg clX11 rfl tc_418 wd_1541 (fRoom_of rfl) rfl (Nat.le_of_ble_eq_true rfl) dX11_ahead_109) (s_X11_allShut hg e19) rfl rfl rfl (fun g19 => ?_)
      refine fW_istore 114 (ls' := [some (rv G 418), none, some (iv v2_18), some (iv v3_18), some (iv v4_18), some (iv ((M_18 419 7743) - (M_18 420 7743))), some (iv r19), none]) dX11_ahead_112 rfl rfl (by decide) ?_
      refine fW_aload_n 115 dX11_ahead_114 rfl rfl ?_
      obtain ⟨r20, e20, h⟩ := fBd h
      refine fW_cP (fI_V (as := []) (rest := []) miX11_thereMany hg clX11 rfl tc_418 wd_1419 (fRoom_of rfl) rfl (Nat.le_of_ble_eq_true rfl) dX11_ahead_115) (s_X11_thereMany hg e20) rfl rfl rfl (fun g20 => ?_)
      refine fW_rg (fun hR21 => ?_)
      refine fW_istore 120 (ls' := [some (rv G 418), none, some (iv v2_18), some (iv v3_18), some (iv v4_18), some (iv ((M_18 419 7743) - (M_18 420 7743))), some (iv r19), some (iv r20.1)]) dX11_ahead_118 rfl rfl (by decide) ?_
      refine fW_aload_n 121 dX11_ahead_120 rfl rfl ?_
      obtain ⟨r22, e22, h⟩ := fBd h
      refine fW_cV (fI_V (as := []) (rest := []) miX11_comesBack hg clX11 rfl tc_418 wd_1573 (fRoom_of rfl) rfl (Nat.le_of_ble_eq_true rfl) dX11_ahead_121) (s_X11_comesBack hg e22) rfl rfl rfl ?_
      refine fW_rg (fun hR23 => ?_)
      refine fW_iload_n 125 dX11_ahead_124 rfl rfl ?_
      have gs := gv2_18
      by_cases c24 : v2_18 = 0
      · replace h := fTt h c24
        refine fW_tabIn 156 c24 (by decide) dX11_ahead_125 (by decide) (by decide) rfl rfl ?_
        refine fW_iload_n 157 dX11_ahead_156 rfl rfl ?_
        exact fW_iret rfl (by decide) (by decide) dX11_ahead_157 (rI_i h gv3_18)
      replace h := fFf h c24
      by_cases c25 : v2_18 = 1
      · replace h := fTt h c25
        refine fW_tabIn 158 c25 (by decide) dX11_ahead_125 (by decide) (by decide) rfl rfl ?_
        refine fW_iload 160 dX11_ahead_158 rfl rfl ?_
        obtain ⟨c26, h⟩ := fS h
        exact fW_iret rfl (by decide) (by decide) dX11_ahead_160 (rI_i h c26)
      replace h := fFf h c25
      by_cases c27 : v2_18 = 2
      · replace h := fTt h c27
        refine fW_tabIn 161 c27 (by decide) dX11_ahead_125 (by decide) (by decide) rfl rfl ?_
        refine fW_iload 163 dX11_ahead_161 rfl rfl ?_
        exact fW_iret rfl (by decide) (by decide) dX11_ahead_163 (rI_i h gv4_18)
      replace h := fFf h c27
      by_cases c28 : v2_18 = 3
      · replace h := fTt h c28
        refine fW_tabIn 164 c28 (by decide) dX11_ahead_125 (by decide) (by decide) rfl rfl ?_
        refine fW_iload 166 dX11_ahead_164 rfl rfl ?_
        exact fW_iret rfl (by decide) (by decide) dX11_ahead_166 (rI_i h g19)
      replace h := fFf h c28
      refine fW_tabOut 167 gs dX11_ahead_125 (by omega) rfl ?_
      refine fW_iload 169 dX11_ahead_167 rfl rfl ?_
      exact fW_iret rfl (by decide) (by decide) dX11_ahead_169 (rI_i h g20)
    · replace h := fTt h c9
      refine fW_iconst 35 dX11_ahead_34 rfl ?_
      exact fW_iret rfl (by decide) (by decide) dX11_ahead_35 (rI_i h (by decide))
def mX11_isCalm : fMt := (yX11_isCalm, cX11_isCalm, 5, some .boolean, { frames := 10, cells := 0, slots := 0, locals := 400 })
theorem miX11_isCalm : fMv mX11_isCalm 2 := ⟨⟨fM 1584 (by decide +kernel) rfl, fM 101 (by decide +kernel) rfl, ⟨by decide +kernel, by decide +kernel⟩, by decide +kernel⟩, fM 1583 (by decide +kernel) rfl, fM 79 (by decide +kernel) rfl⟩
def L_X11_isCalm_11  (k : fMem → Option (Int × fMem)) : Nat → Int → Int → fMem → Option (Int × fMem)
  | 0, _, _, _ => none
  | n + 1, v1, v3, M => (if v1 ≤ v3 then k  M else (if (M 419 7743) = (M 420 7743) then ((f_X11_actsAhead v3 M).bind fun (r4 : Int × fMem) => L_X11_isCalm_11  k n v1 (v3 + 1) r4.2) else k  M))
set_option maxRecDepth 100000 in
set_option maxHeartbeats 4000000 in
theorem l_X11_isCalm_11 {G : fG} (hg : gbt G = true)  {q : Int × fMem} {k : fMem → Option (Int × fMem)} (hk : ∀ (M : fMem), k M = some q → fW G mX11_isCalm (fEm G mX11_isCalm (rB q.2 q.1) fNo) 0 0 47 [some (rv G 418), none, none, none, none] [] M) : ∀ (n : Nat) (v1 : Int) (v3 : Int) (M : fMem), rg v1 → rg v3 → L_X11_isCalm_11 k n v1 v3 M = some q → fW G mX11_isCalm (fEm G mX11_isCalm (rB q.2 q.1) fNo) 0 0 11 [some (rv G 418), some (iv v1), none, some (iv v3), none] [] M := by
  intro n
  induction n with
  | zero =>
    intro v1 v3 M gv1 gv3 h
    rw [L_X11_isCalm_11] at h
    exact absurd h (by simp)
  | succ n ih =>
    intro v1 v3 M gv1 gv3 h
    rw [L_X11_isCalm_11] at h
    refine fW_rg (fun hR => ?_)
    refine fW_iload_n 12 dX11_isCalm_11 rfl rfl ?_
    refine fW_iload_n 13 dX11_isCalm_12 rfl rfl ?_
    refine fW_icmp_ge 16 47 gv3 gv1 dX11_isCalm_13 rfl rfl (fun c2 => ?_) (fun c2 => ?_)
    · replace h := fTt h c2
      exact fW_sb (hk M h) ⟨rfl, trivial⟩
    · replace h := fFf h c2
      refine fW_aload_n 17 dX11_isCalm_16 rfl rfl ?_
      refine fW_getR 20 (r := 419) 0 hg clX11 (by decide) rfl tc_418 tf_11_0 wd_1174 dX11_isCalm_17 rfl ?_
      refine fW_sipush 23 dX11_isCalm_20 rfl (by decide) ?_
      refine fW_iald 24 hg tc_419 ⟨by decide, by rw [show Ln 419 = 7787 from rfl]; decide⟩ dX11_isCalm_23 rfl ?_
      refine fW_aload_n 25 dX11_isCalm_24 rfl rfl ?_
      refine fW_getR 28 (r := 420) 1 hg clX11 (by decide) rfl tc_418 tf_11_1 wd_1175 dX11_isCalm_25 rfl ?_
      refine fW_sipush 31 dX11_isCalm_28 rfl (by decide) ?_
      refine fW_iald 32 hg tc_420 ⟨by decide, by rw [show Ln 420 = 7787 from rfl]; decide⟩ dX11_isCalm_31 rfl ?_
      refine fW_icmp_ne 35 47 (hR 419 7743) (hR 420 7743) dX11_isCalm_32 rfl rfl (fun c3 => ?_) (fun c3 => ?_)
      · replace h := fFf h c3
        exact fW_sb (hk M h) ⟨rfl, trivial⟩
      · replace h := fTt h c3
        refine fW_aload_n 36 dX11_isCalm_35 rfl rfl ?_
        refine fW_iload_n 37 dX11_isCalm_36 rfl rfl ?_
        obtain ⟨r4, e4, h⟩ := fBd h
        refine fW_cP (fI_V (as := [iv v3]) (rest := []) miX11_actsAhead hg clX11 rfl tc_418 wd_1569 (fRoom_of rfl) rfl (Nat.le_of_ble_eq_true rfl) dX11_isCalm_37) (s_X11_actsAhead hg gv3 e4) rfl rfl rfl (fun g4 => ?_)
        refine fW_rg (fun hR5 => ?_)
        refine fW_pop 41 dX11_isCalm_40 rfl rfl ?_
        refine fW_iinc 44 (ls' := [some (rv G 418), some (iv v1), none, some (iv (v3 + 1)), none]) dX11_isCalm_41 rfl rfl rfl (by decide) ?_
        refine fW_goto 11 dX11_isCalm_44 rfl ?_
        exact fW_sb (ih v1 (v3 + 1) r4.2 gv1 (rg_succ' gv3 gv1 c2) h) ⟨rfl, rfl, rfl, trivial⟩
def j_X11_isCalm_47   (M : fMem) : Option (Int × fMem) := (if (M 419 7743) = (M 420 7743) then ((f_X11_comesBack M).bind fun (r10 : fMem) => some (1, r10)) else ((f_X11_comesBack M).bind fun (r8 : fMem) => some (0, r8)))
set_option maxRecDepth 100000 in
set_option maxHeartbeats 4000000 in
theorem i_X11_isCalm_47 {G : fG} (hg : gbt G = true)    {M : fMem} {q : Int × fMem} (h : j_X11_isCalm_47  M = some q) : fW G mX11_isCalm (fEm G mX11_isCalm (rB q.2 q.1) fNo) 0 0 47 [some (rv G 418), none, none, none, none] [] M := by
  rw [j_X11_isCalm_47] at h
  refine fW_rg (fun hR => ?_)
  refine fW_aload_n 48 dX11_isCalm_47 rfl rfl ?_
  refine fW_getR 51 (r := 419) 0 hg clX11 (by decide) rfl tc_418 tf_11_0 wd_1174 dX11_isCalm_48 rfl ?_
  refine fW_sipush 54 dX11_isCalm_51 rfl (by decide) ?_
  refine fW_iald 55 hg tc_419 ⟨by decide, by rw [show Ln 419 = 7787 from rfl]; decide⟩ dX11_isCalm_54 rfl ?_
  refine fW_aload_n 56 dX11_isCalm_55 rfl rfl ?_
  refine fW_getR 59 (r := 420) 1 hg clX11 (by decide) rfl tc_418 tf_11_1 wd_1175 dX11_isCalm_56 rfl ?_
  refine fW_sipush 62 dX11_isCalm_59 rfl (by decide) ?_
  refine fW_iald 63 hg tc_420 ⟨by decide, by rw [show Ln 420 = 7787 from rfl]; decide⟩ dX11_isCalm_62 rfl ?_
  refine fW_icmp_ne 66 70 (hR 419 7743) (hR 420 7743) dX11_isCalm_63 rfl rfl (fun c7 => ?_) (fun c7 => ?_)
  · replace h := fFf h c7
    refine fW_iconst 71 dX11_isCalm_70 rfl ?_
    refine fW_istore 73 (ls' := [some (rv G 418), none, none, none, some (iv 0)]) dX11_isCalm_71 rfl rfl (by decide) ?_
    refine fW_aload_n 74 dX11_isCalm_73 rfl rfl ?_
    obtain ⟨r8, e8, h⟩ := fBd h
    refine fW_cV (fI_V (as := []) (rest := []) miX11_comesBack hg clX11 rfl tc_418 wd_1573 (fRoom_of rfl) rfl (Nat.le_of_ble_eq_true rfl) dX11_isCalm_74) (s_X11_comesBack hg e8) rfl rfl rfl ?_
    refine fW_rg (fun hR9 => ?_)
    refine fW_iload 79 dX11_isCalm_77 rfl rfl ?_
    exact fW_zret rfl (by decide) (by decide) (by decide) dX11_isCalm_79 (rBI_i h (by decide))
  · replace h := fTt h c7
    refine fW_iconst 67 dX11_isCalm_66 rfl ?_
    refine fW_goto 71 dX11_isCalm_67 rfl ?_
    refine fW_istore 73 (ls' := [some (rv G 418), none, none, none, some (iv 1)]) dX11_isCalm_71 rfl rfl (by decide) ?_
    refine fW_aload_n 74 dX11_isCalm_73 rfl rfl ?_
    obtain ⟨r10, e10, h⟩ := fBd h
    refine fW_cV (fI_V (as := []) (rest := []) miX11_comesBack hg clX11 rfl tc_418 wd_1573 (fRoom_of rfl) rfl (Nat.le_of_ble_eq_true rfl) dX11_isCalm_74) (s_X11_comesBack hg e10) rfl rfl rfl ?_
    refine fW_rg (fun hR11 => ?_)
    refine fW_iload 79 dX11_isCalm_77 rfl rfl ?_
    exact fW_zret rfl (by decide) (by decide) (by decide) dX11_isCalm_79 (rBI_i h (by decide))
def f_X11_isCalm (a1 : Int) (a2 : Int) (M : fMem) : Option (Int × fMem) := ((some (mset M 419 7739 a2)).bind fun (N1 : fMem) => L_X11_isCalm_11 (fun  (M_6 : fMem) => j_X11_isCalm_47 M_6) 20000 a1 0 N1)
set_option maxRecDepth 100000 in
set_option maxHeartbeats 4000000 in
theorem s_X11_isCalm {G : fG} (hg : gbt G = true) {a1 : Int} (ga1 : rg a1) {a2 : Int} (ga2 : rg a2) {M : fMem} {q : Int × fMem} (h : f_X11_isCalm a1 a2 M = some q) : fSp G mX11_isCalm [rv G 418, iv a1, iv a2] M (rB q.2 q.1) fNo := by
  refine fSp_of (by decide +kernel) (by decide +kernel) (fC1 rfl (fC1 rfl (fC1 rfl fC0))) (Nat.le_of_ble_eq_true rfl) ?_
  show fW G mX11_isCalm (fEm G mX11_isCalm (rB q.2 q.1) fNo) 0 0 0 [some (rv G 418), some (iv a1), some (iv a2), none, none] [] M
  rw [f_X11_isCalm] at h
  refine fW_rg (fun hR => ?_)
  refine fW_aload_n 1 dX11_isCalm_0 rfl rfl ?_
  refine fW_getR 4 (r := 419) 0 hg clX11 (by decide) rfl tc_418 tf_11_0 wd_1174 dX11_isCalm_1 rfl ?_
  refine fW_sipush 7 dX11_isCalm_4 rfl (by decide) ?_
  refine fW_iload_n 8 dX11_isCalm_7 rfl rfl ?_
  obtain ⟨N1, e1, h⟩ := fBd h
  replace e1 := Option.some.inj e1
  refine fW_iast 9 hg tc_419 ⟨by decide, by rw [show Ln 419 = 7787 from rfl]; decide⟩ ga2 dX11_isCalm_8 rfl ?_
  rw [e1]
  refine fW_rg (fun hR1 => ?_)
  refine fW_iconst 10 dX11_isCalm_9 rfl ?_
  refine fW_istore_n 11 (ls' := [some (rv G 418), some (iv a1), some (iv a2), some (iv 0), none]) dX11_isCalm_10 rfl rfl rfl (by decide) ?_
  refine fW_sb (l_X11_isCalm_11 hg ?_ 20000 a1 0 N1 ga1 (by decide) h) ⟨rfl, rfl, rfl, trivial⟩
  intro M_6 h
  refine fW_rg (fun hR_6 => ?_)
  exact fW_sb (i_X11_isCalm_47 hg h) ⟨rfl, trivial⟩
def mX11_calm : fMt := (yX11_calm, cX11_calm, 3, some .int, { frames := 11, cells := 0, slots := 0, locals := 440 })
theorem miX11_calm : fMv mX11_calm 1 := ⟨⟨fM 1580 (by decide +kernel) rfl, fM 101 (by decide +kernel) rfl, ⟨by decide +kernel, by decide +kernel⟩, by decide +kernel⟩, fM 1578 (by decide +kernel) rfl, fM 1579 (by decide +kernel) rfl⟩
def L_X11_calm_28  (k : fMem → Option (Int × fMem)) : Nat → Int → Int → fMem → Option (Int × fMem)
  | 0, _, _, _ => none
  | n + 1, v1, v2, M => (if 40 < v2 then k  M else ((f_X11_isCalm v1 v2 M).bind fun (r9 : Int × fMem) => (if r9.1 = 0 then (if -2147483648 ≤ v2 + 1 ∧ v2 + 1 < 2147483648 then L_X11_calm_28  k n v1 (v2 + 1) r9.2 else none) else some (v2, r9.2))))
set_option maxRecDepth 100000 in
set_option maxHeartbeats 4000000 in
theorem l_X11_calm_28 {G : fG} (hg : gbt G = true)  {q : Int × fMem} {k : fMem → Option (Int × fMem)} (hk : ∀ (M : fMem), k M = some q → fW G mX11_calm (fEm G mX11_calm (rP q.2 q.1) fNo) 0 0 51 [some (rv G 418), none, none] [] M) : ∀ (n : Nat) (v1 : Int) (v2 : Int) (M : fMem), rg v1 → rg v2 → L_X11_calm_28 k n v1 v2 M = some q → fW G mX11_calm (fEm G mX11_calm (rP q.2 q.1) fNo) 0 0 28 [some (rv G 418), some (iv v1), some (iv v2)] [] M := by
  intro n
  induction n with
  | zero =>
    intro v1 v2 M gv1 gv2 h
    rw [L_X11_calm_28] at h
    exact absurd h (by simp)
  | succ n ih =>
    intro v1 v2 M gv1 gv2 h
    rw [L_X11_calm_28] at h
    refine fW_rg (fun hR => ?_)
    refine fW_iload_n 29 dX11_calm_28 rfl rfl ?_
    refine fW_bipush 31 dX11_calm_29 rfl (by decide) ?_
    refine fW_icmp_gt 34 51 gv2 (by decide) dX11_calm_31 rfl rfl (fun c8 => ?_) (fun c8 => ?_)
    · replace h := fTt h c8
      exact fW_sb (hk M h) ⟨rfl, trivial⟩
    · replace h := fFf h c8
      refine fW_aload_n 35 dX11_calm_34 rfl rfl ?_
      refine fW_iload_n 36 dX11_calm_35 rfl rfl ?_
      refine fW_iload_n 37 dX11_calm_36 rfl rfl ?_
      obtain ⟨r9, e9, h⟩ := fBd h
      refine fW_cB (fI_V (as := [iv v1, iv v2]) (rest := []) miX11_isCalm hg clX11 rfl tc_418 wd_1581 (fRoom_of rfl) rfl (Nat.le_of_ble_eq_true rfl) dX11_calm_37) (s_X11_isCalm hg gv1 gv2 e9) rfl rfl rfl (fun g9 => ?_)
      refine fW_rg (fun hR10 => ?_)
      refine fW_if_eq 43 45 (rg_z g9) dX11_calm_40 rfl rfl (fun c11 => ?_) (fun c11 => ?_)
      · replace h := fTt h c11
        refine fW_iinc 48 (ls' := [some (rv G 418), some (iv v1), some (iv (v2 + 1))]) dX11_calm_45 rfl rfl rfl (by decide) ?_
        refine fW_goto 28 dX11_calm_48 rfl ?_
        obtain ⟨c12, h⟩ := fS h
        exact fW_sb (ih v1 (v2 + 1) r9.2 gv1 c12 h) ⟨rfl, rfl, rfl, trivial⟩
      · replace h := fFf h c11
        refine fW_iload_n 44 dX11_calm_43 rfl rfl ?_
        exact fW_iret rfl (by decide) (by decide) dX11_calm_44 (rI_i h gv2)
def f_X11_calm (a1 : Int) (M : fMem) : Option (Int × fMem) := ((some (mset M 418 4 0)).bind fun (N1 : fMem) => ((f_X11_isIn a1 0 64 N1).bind fun (r2 : Int) => ((f_X11_right r2 1 N1).bind fun (r3 : Int × fMem) => (if r3.1 = 0 then some (0, r3.2) else ((f_X11_goesAside r3.2).bind fun (r6 : fMem) => L_X11_calm_28 (fun  (M_13 : fMem) => some ((-1), M_13)) 20000 a1 0 r6)))))
set_option maxRecDepth 100000 in
set_option maxHeartbeats 4000000 in
theorem s_X11_calm {G : fG} (hg : gbt G = true) {a1 : Int} (ga1 : rg a1) {M : fMem} {q : Int × fMem} (h : f_X11_calm a1 M = some q) : fSp G mX11_calm [rv G 418, iv a1] M (rP q.2 q.1) fNo := by
  refine fSp_of (by decide +kernel) (by decide +kernel) (fC1 rfl (fC1 rfl fC0)) (Nat.le_of_ble_eq_true rfl) ?_
  show fW G mX11_calm (fEm G mX11_calm (rP q.2 q.1) fNo) 0 0 0 [some (rv G 418), some (iv a1), none] [] M
  rw [f_X11_calm] at h
  refine fW_rg (fun hR => ?_)
  refine fW_aload_n 1 dX11_calm_0 rfl rfl ?_
  refine fW_iconst 2 dX11_calm_1 rfl ?_
  obtain ⟨N1, e1, h⟩ := fBd h
  replace e1 := Option.some.inj e1
  refine fW_putI 5 4 (ji := 4) hg clX11 rfl (by decide) rfl rfl rfl tc_418 (by decide) wd_1178 dX11_calm_2 rfl ?_
  rw [e1]
  refine fW_rg (fun hR1 => ?_)
  refine fW_aload_n 6 dX11_calm_5 rfl rfl ?_
  refine fW_iload_n 7 dX11_calm_6 rfl rfl ?_
  refine fW_iconst 8 dX11_calm_7 rfl ?_
  refine fW_bipush 10 dX11_calm_8 rfl (by decide) ?_
  obtain ⟨r2, e2, h⟩ := fBd h
  refine fW_cB (fI_S (as := [iv a1, iv 0, iv 64]) (rest := [rv G 418]) miX11_isIn rfl wd_1272 (fRoom_of rfl) rfl (Nat.le_of_ble_eq_true rfl) dX11_calm_10) (s_X11_isIn ga1 (by decide) (by decide) e2) rfl rfl rfl (fun g2 => ?_)
  refine fW_iconst 14 dX11_calm_13 rfl ?_
  obtain ⟨r3, e3, h⟩ := fBd h
  refine fW_cB (fI_V (as := [iv r2, iv 1]) (rest := []) miX11_right hg clX11 rfl tc_418 wd_1396 (fRoom_of rfl) rfl (Nat.le_of_ble_eq_true rfl) dX11_calm_14) (s_X11_right hg g2 (by decide) e3) rfl rfl rfl (fun g3 => ?_)
  refine fW_rg (fun hR4 => ?_)
  refine fW_if_ne 20 22 (rg_z g3) dX11_calm_17 rfl rfl (fun c5 => ?_) (fun c5 => ?_)
  · replace h := fFf h c5
    refine fW_aload_n 23 dX11_calm_22 rfl rfl ?_
    obtain ⟨r6, e6, h⟩ := fBd h
    refine fW_cV (fI_V (as := []) (rest := []) miX11_goesAside hg clX11 rfl tc_418 wd_1565 (fRoom_of rfl) rfl (Nat.le_of_ble_eq_true rfl) dX11_calm_23) (s_X11_goesAside hg e6) rfl rfl rfl ?_
    refine fW_rg (fun hR7 => ?_)
    refine fW_iconst 27 dX11_calm_26 rfl ?_
    refine fW_istore_n 28 (ls' := [some (rv G 418), some (iv a1), some (iv 0)]) dX11_calm_27 rfl rfl rfl (by decide) ?_
    refine fW_sb (l_X11_calm_28 hg ?_ 20000 a1 0 r6 ga1 (by decide) h) ⟨rfl, rfl, rfl, trivial⟩
    intro M_13 h
    refine fW_rg (fun hR_13 => ?_)
    refine fW_iconst 52 dX11_calm_51 rfl ?_
    exact fW_iret rfl (by decide) (by decide) dX11_calm_52 (rI_i h (by decide))
  · replace h := fTt h c5
    refine fW_iconst 21 dX11_calm_20 rfl ?_
    exact fW_iret rfl (by decide) (by decide) dX11_calm_21 (rI_i h (by decide))
end MTH
