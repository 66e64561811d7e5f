section MTH
def mX11_view : fMt := (yX11_view, cX11_view, 3, some .int, { frames := 3, cells := 0, slots := 0, locals := 120 })
theorem miX11_view : fMv mX11_view 1 := ⟨⟨fM 1600 (by decide +kernel) rfl, fM 101 (by decide +kernel) rfl, ⟨by decide +kernel, by decide +kernel⟩, by decide +kernel⟩, fM 1598 (by decide +kernel) rfl, fM 1599 (by decide +kernel) rfl⟩
def L_X11_view_17  (k : Int → fMem → Option (Int × fMem)) : Nat → Int → Int → fMem → Option (Int × fMem)
  | 0, _, _, _ => none
  | n + 1, v1, v2, M => (if 7657 ≤ v2 then k v1 M else ((f_X11_viewAt v1 M).bind fun (r5 : Int) => (if 0 ≤ v2 ∧ v2 < 7787 then (if 0 ≤ r5 + v2 ∧ r5 + v2 < 22971 then ((some (mset M 435 (r5 + v2) (M 419 v2))).bind fun (N8 : fMem) => L_X11_view_17  k n v1 (v2 + 1) N8) else none) else none)))
set_option maxRecDepth 100000 in
set_option maxHeartbeats 4000000 in
theorem l_X11_view_17 {G : fG} (hg : gbt G = true)  {q : Int × fMem} {k : Int → fMem → Option (Int × fMem)} (hk : ∀ (v1 : Int) (M : fMem), rg v1 → k v1 M = some q → fW G mX11_view (fEm G mX11_view (rP q.2 q.1) fNo) 0 0 47 [some (rv G 418), some (iv v1), none] [] M) : ∀ (n : Nat) (v1 : Int) (v2 : Int) (M : fMem), rg v1 → rg v2 → L_X11_view_17 k n v1 v2 M = some q → fW G mX11_view (fEm G mX11_view (rP q.2 q.1) fNo) 0 0 17 [some (rv G 418), some (iv v1), some (iv v2)] [] M := by
  intro n
  induction n with
  | zero =>
    intro v1 v2 M gv1 gv2 h
    rw [L_X11_view_17] at h
    exact absurd h (by simp)
  | succ n ih =>
    intro v1 v2 M gv1 gv2 h
    rw [L_X11_view_17] at h
    refine fW_rg (fun hR => ?_)
    refine fW_iload_n 18 dX11_view_17 rfl rfl ?_
    refine fW_sipush 21 dX11_view_18 rfl (by decide) ?_
    refine fW_icmp_ge 24 47 gv2 (by decide) dX11_view_21 rfl rfl (fun c4 => ?_) (fun c4 => ?_)
    · replace h := fTt h c4
      exact fW_sb (hk v1 M gv1 h) ⟨rfl, rfl, trivial⟩
    · replace h := fFf h c4
      refine fW_aload_n 25 dX11_view_24 rfl rfl ?_
      refine fW_getR 28 (r := 435) 23 hg clX11 (by decide) rfl tc_418 tf_11_23 wd_1197 dX11_view_25 rfl ?_
      refine fW_iload_n 29 dX11_view_28 rfl rfl ?_
      obtain ⟨r5, e5, h⟩ := fBd h
      refine fW_cP (fI_S (as := [iv v1]) (rest := [rv G 435]) miX11_viewAt rfl wd_1605 (fRoom_of rfl) rfl (Nat.le_of_ble_eq_true rfl) dX11_view_29) (s_X11_viewAt gv1 e5) rfl rfl rfl (fun g5 => ?_)
      refine fW_iload_n 33 dX11_view_32 rfl rfl ?_
      refine fW_iadd 34 dX11_view_33 rfl ?_
      refine fW_aload_n 35 dX11_view_34 rfl rfl ?_
      refine fW_getR 38 (r := 419) 0 hg clX11 (by decide) rfl tc_418 tf_11_0 wd_1174 dX11_view_35 rfl ?_
      refine fW_iload_n 39 dX11_view_38 rfl rfl ?_
      obtain ⟨c6, h⟩ := fS h
      refine fW_iald 40 hg tc_419 ⟨c6.1, by rw [show Ln 419 = 7787 from rfl]; exact c6.2⟩ dX11_view_39 rfl ?_
      obtain ⟨c7, h⟩ := fS h
      obtain ⟨N8, e8, h⟩ := fBd h
      replace e8 := Option.some.inj e8
      refine fW_iast 41 hg tc_435 ⟨c7.1, by rw [show Ln 435 = 22971 from rfl]; exact c7.2⟩ (hR 419 v2) dX11_view_40 rfl ?_
      rw [e8]
      refine fW_rg (fun hR8 => ?_)
      refine fW_iinc 44 (ls' := [some (rv G 418), some (iv v1), some (iv (v2 + 1))]) dX11_view_41 rfl rfl rfl (by decide) ?_
      refine fW_goto 17 dX11_view_44 rfl ?_
      exact fW_sb (ih v1 (v2 + 1) N8 gv1 (rg_succ' gv2 (by decide) c4) h) ⟨rfl, rfl, rfl, trivial⟩
def f_X11_view (a1 : Int) (M : fMem) : Option (Int × fMem) := ((some (mset M 418 4 0)).bind fun (N1 : fMem) => ((f_X11_isView a1 N1).bind fun (r2 : Int) => (if r2 = 0 then some ((-1), N1) else L_X11_view_17 (fun (v1_9 : Int) (M_9 : fMem) => (if 0 ≤ v1_9 ∧ v1_9 < 3 then ((some (mset M_9 436 v1_9 1)).bind fun (N11 : fMem) => ((f_X11_keptMany v1_9 N11).bind fun (r12 : Int) => some (r12, N11))) else none)) 20000 a1 0 N1)))
set_option maxRecDepth 100000 in
set_option maxHeartbeats 4000000 in
theorem s_X11_view {G : fG} (hg : gbt G = true) {a1 : Int} (ga1 : rg a1) {M : fMem} {q : Int × fMem} (h : f_X11_view a1 M = some q) : fSp G mX11_view [rv G 418, iv a1] M (rP q.2 q.1) fNo := by
  refine fSp_of (by decide +kernel) (by decide +kernel) (fC1 rfl (fC1 rfl fC0)) (Nat.le_of_ble_eq_true rfl) ?_
  show fW G mX11_view (fEm G mX11_view (rP q.2 q.1) fNo) 0 0 0 [some (rv G 418), some (iv a1), none] [] M
  rw [f_X11_view] at h
  refine fW_rg (fun hR => ?_)
  refine fW_aload_n 1 dX11_view_0 rfl rfl ?_
  refine fW_iconst 2 dX11_view_1 rfl ?_
  obtain ⟨N1, e1, h⟩ := fBd h
  replace e1 := Option.some.inj e1
  refine fW_putI 5 4 (ji := 4) hg clX11 rfl (by decide) rfl rfl rfl tc_418 (by decide) wd_1178 dX11_view_2 rfl ?_
  rw [e1]
  refine fW_rg (fun hR1 => ?_)
  refine fW_aload_n 6 dX11_view_5 rfl rfl ?_
  refine fW_iload_n 7 dX11_view_6 rfl rfl ?_
  obtain ⟨r2, e2, h⟩ := fBd h
  refine fW_cB (fI_V (as := [iv a1]) (rest := []) miX11_isView hg clX11 rfl tc_418 wd_1601 (fRoom_of rfl) rfl (Nat.le_of_ble_eq_true rfl) dX11_view_7) (s_X11_isView ga1 e2) rfl rfl rfl (fun g2 => ?_)
  refine fW_if_ne 13 15 (rg_z g2) dX11_view_10 rfl rfl (fun c3 => ?_) (fun c3 => ?_)
  · replace h := fFf h c3
    refine fW_iconst 16 dX11_view_15 rfl ?_
    refine fW_istore_n 17 (ls' := [some (rv G 418), some (iv a1), some (iv 0)]) dX11_view_16 rfl rfl rfl (by decide) ?_
    refine fW_sb (l_X11_view_17 hg ?_ 20000 a1 0 N1 ga1 (by decide) h) ⟨rfl, rfl, rfl, trivial⟩
    intro v1_9 M_9 gv1_9 h
    refine fW_rg (fun hR_9 => ?_)
    refine fW_aload_n 48 dX11_view_47 rfl rfl ?_
    refine fW_getR 51 (r := 436) 24 hg clX11 (by decide) rfl tc_418 tf_11_24 wd_1198 dX11_view_48 rfl ?_
    refine fW_iload_n 52 dX11_view_51 rfl rfl ?_
    refine fW_iconst 53 dX11_view_52 rfl ?_
    obtain ⟨c10, h⟩ := fS h
    obtain ⟨N11, e11, h⟩ := fBd h
    replace e11 := Option.some.inj e11
    refine fW_zast 54 hg tc_436 ⟨c10.1, by rw [show Ln 436 = 3 from rfl]; exact c10.2⟩ (by decide) dX11_view_53 rfl ?_
    rw [e11]
    refine fW_rg (fun hR11 => ?_)
    refine fW_aload_n 55 dX11_view_54 rfl rfl ?_
    refine fW_iload_n 56 dX11_view_55 rfl rfl ?_
    obtain ⟨r12, e12, h⟩ := fBd h
    refine fW_cP (fI_V (as := [iv v1_9]) (rest := []) miX11_keptMany hg clX11 rfl tc_418 wd_1608 (fRoom_of rfl) rfl (Nat.le_of_ble_eq_true rfl) dX11_view_56) (s_X11_keptMany hg gv1_9 e12) rfl rfl rfl (fun g12 => ?_)
    exact fW_iret rfl (by decide) (by decide) dX11_view_59 (rI_i h g12)
  · replace h := fTt h c3
    refine fW_iconst 14 dX11_view_13 rfl ?_
    exact fW_iret rfl (by decide) (by decide) dX11_view_14 (rI_i h (by decide))
def mX11_leave : fMt := (yX11_leave, cX11_leave, 2, some .int, { frames := 3, cells := 0, slots := 0, locals := 120 })
theorem miX11_leave : fMv mX11_leave 1 := ⟨⟨fM 1619 (by decide +kernel) rfl, fM 101 (by decide +kernel) rfl, ⟨by decide +kernel, by decide +kernel⟩, by decide +kernel⟩, fM 1617 (by decide +kernel) rfl, fM 1618 (by decide +kernel) rfl⟩
def f_X11_leave (a1 : Int) (M : fMem) : Option (Int × fMem) := ((some (mset M 418 4 0)).bind fun (N1 : fMem) => ((f_X11_isTakenView a1 N1).bind fun (r2 : Int) => (if r2 = 0 then some ((-1), N1) else (if 0 ≤ a1 ∧ a1 < 3 then ((some (mset N1 436 a1 0)).bind fun (N5 : fMem) => ((f_X11_keptMany a1 N5).bind fun (r6 : Int) => some (r6, N5))) else none))))
set_option maxRecDepth 100000 in
set_option maxHeartbeats 4000000 in
theorem s_X11_leave {G : fG} (hg : gbt G = true) {a1 : Int} (ga1 : rg a1) {M : fMem} {q : Int × fMem} (h : f_X11_leave a1 M = some q) : fSp G mX11_leave [rv G 418, iv a1] M (rP q.2 q.1) fNo := by
  refine fSp_of (by decide +kernel) (by decide +kernel) (fC1 rfl (fC1 rfl fC0)) (Nat.le_of_ble_eq_true rfl) ?_
  show fW G mX11_leave (fEm G mX11_leave (rP q.2 q.1) fNo) 0 0 0 [some (rv G 418), some (iv a1)] [] M
  rw [f_X11_leave] at h
  refine fW_rg (fun hR => ?_)
  refine fW_aload_n 1 dX11_leave_0 rfl rfl ?_
  refine fW_iconst 2 dX11_leave_1 rfl ?_
  obtain ⟨N1, e1, h⟩ := fBd h
  replace e1 := Option.some.inj e1
  refine fW_putI 5 4 (ji := 4) hg clX11 rfl (by decide) rfl rfl rfl tc_418 (by decide) wd_1178 dX11_leave_2 rfl ?_
  rw [e1]
  refine fW_rg (fun hR1 => ?_)
  refine fW_aload_n 6 dX11_leave_5 rfl rfl ?_
  refine fW_iload_n 7 dX11_leave_6 rfl rfl ?_
  obtain ⟨r2, e2, h⟩ := fBd h
  refine fW_cB (fI_V (as := [iv a1]) (rest := []) miX11_isTakenView hg clX11 rfl tc_418 wd_1620 (fRoom_of rfl) rfl (Nat.le_of_ble_eq_true rfl) dX11_leave_7) (s_X11_isTakenView hg ga1 e2) rfl rfl rfl (fun g2 => ?_)
  refine fW_if_ne 13 15 (rg_z g2) dX11_leave_10 rfl rfl (fun c3 => ?_) (fun c3 => ?_)
  · replace h := fFf h c3
    refine fW_aload_n 16 dX11_leave_15 rfl rfl ?_
    refine fW_getR 19 (r := 436) 24 hg clX11 (by decide) rfl tc_418 tf_11_24 wd_1198 dX11_leave_16 rfl ?_
    refine fW_iload_n 20 dX11_leave_19 rfl rfl ?_
    refine fW_iconst 21 dX11_leave_20 rfl ?_
    obtain ⟨c4, h⟩ := fS h
    obtain ⟨N5, e5, h⟩ := fBd h
    replace e5 := Option.some.inj e5
    refine fW_zast 22 hg tc_436 ⟨c4.1, by rw [show Ln 436 = 3 from rfl]; exact c4.2⟩ (by decide) dX11_leave_21 rfl ?_
    rw [e5]
    refine fW_rg (fun hR5 => ?_)
    refine fW_aload_n 23 dX11_leave_22 rfl rfl ?_
    refine fW_iload_n 24 dX11_leave_23 rfl rfl ?_
    obtain ⟨r6, e6, h⟩ := fBd h
    refine fW_cP (fI_V (as := [iv a1]) (rest := []) miX11_keptMany hg clX11 rfl tc_418 wd_1608 (fRoom_of rfl) rfl (Nat.le_of_ble_eq_true rfl) dX11_leave_24) (s_X11_keptMany hg ga1 e6) rfl rfl rfl (fun g6 => ?_)
    exact fW_iret rfl (by decide) (by decide) dX11_leave_27 (rI_i h g6)
  · replace h := fTt h c3
    refine fW_iconst 14 dX11_leave_13 rfl ?_
    exact fW_iret rfl (by decide) (by decide) dX11_leave_14 (rI_i h (by decide))
def mX11_becomes : fMt := (yX11_becomes, cX11_becomes, 3, none, { frames := 1, cells := 0, slots := 0, locals := 40 })
theorem miX11_becomes : fMv mX11_becomes 1 := ⟨⟨fM 1635 (by decide +kernel) rfl, fM 101 (by decide +kernel) rfl, ⟨by decide +kernel, by decide +kernel⟩, by decide +kernel⟩, fM 1634 (by decide +kernel) rfl, fM 86 (by decide +kernel) rfl⟩
def L_X11_becomes_2  (k : fMem → Option (fMem)) : Nat → Int → Int → fMem → Option (fMem)
  | 0, _, _, _ => none
  | n + 1, v1, v2, M => (if 7657 ≤ v2 then k  M else ((f_X11_viewAt v1 M).bind fun (r2 : Int) => (if 0 ≤ r2 + v2 ∧ r2 + v2 < 22971 then (if 0 ≤ v2 ∧ v2 < 7787 then ((some (mset M 419 v2 (M 435 (r2 + v2)))).bind fun (N5 : fMem) => L_X11_becomes_2  k n v1 (v2 + 1) N5) else none) else none)))
set_option maxRecDepth 100000 in
set_option maxHeartbeats 4000000 in
theorem l_X11_becomes_2 {G : fG} (hg : gbt G = true)  {q : fMem} {k : fMem → Option (fMem)} (hk : ∀ (M : fMem), k M = some q → fW G mX11_becomes (fEm G mX11_becomes (rV q) fNo) 0 0 32 [some (rv G 418), none, none] [] M) : ∀ (n : Nat) (v1 : Int) (v2 : Int) (M : fMem), rg v1 → rg v2 → L_X11_becomes_2 k n v1 v2 M = some q → fW G mX11_becomes (fEm G mX11_becomes (rV q) fNo) 0 0 2 [some (rv G 418), some (iv v1), some (iv v2)] [] M := by
  intro n
  induction n with
  | zero =>
    intro v1 v2 M gv1 gv2 h
    rw [L_X11_becomes_2] at h
    exact absurd h (by simp)
  | succ n ih =>
    intro v1 v2 M gv1 gv2 h
    rw [L_X11_becomes_2] at h
    refine fW_rg (fun hR => ?_)
    refine fW_iload_n 3 dX11_becomes_2 rfl rfl ?_
    refine fW_sipush 6 dX11_becomes_3 rfl (by decide) ?_
    refine fW_icmp_ge 9 32 gv2 (by decide) dX11_becomes_6 rfl rfl (fun c1 => ?_) (fun c1 => ?_)
    · replace h := fTt h c1
      exact fW_sb (hk M h) ⟨rfl, trivial⟩
    · replace h := fFf h c1
      refine fW_aload_n 10 dX11_becomes_9 rfl rfl ?_
      refine fW_getR 13 (r := 419) 0 hg clX11 (by decide) rfl tc_418 tf_11_0 wd_1174 dX11_becomes_10 rfl ?_
      refine fW_iload_n 14 dX11_becomes_13 rfl rfl ?_
      refine fW_aload_n 15 dX11_becomes_14 rfl rfl ?_
      refine fW_getR 18 (r := 435) 23 hg clX11 (by decide) rfl tc_418 tf_11_23 wd_1197 dX11_becomes_15 rfl ?_
      refine fW_iload_n 19 dX11_becomes_18 rfl rfl ?_
      obtain ⟨r2, e2, h⟩ := fBd h
      refine fW_cP (fI_S (as := [iv v1]) (rest := [rv G 435, iv v2, rv G 419]) miX11_viewAt rfl wd_1605 (fRoom_of rfl) rfl (Nat.le_of_ble_eq_true rfl) dX11_becomes_19) (s_X11_viewAt gv1 e2) rfl rfl rfl (fun g2 => ?_)
      refine fW_iload_n 23 dX11_becomes_22 rfl rfl ?_
      refine fW_iadd 24 dX11_becomes_23 rfl ?_
      obtain ⟨c3, h⟩ := fS h
      refine fW_iald 25 hg tc_435 ⟨c3.1, by rw [show Ln 435 = 22971 from rfl]; exact c3.2⟩ dX11_becomes_24 rfl ?_
      obtain ⟨c4, h⟩ := fS h
      obtain ⟨N5, e5, h⟩ := fBd h
      replace e5 := Option.some.inj e5
      refine fW_iast 26 hg tc_419 ⟨c4.1, by rw [show Ln 419 = 7787 from rfl]; exact c4.2⟩ (hR 435 (r2 + v2)) dX11_becomes_25 rfl ?_
      rw [e5]
      refine fW_rg (fun hR5 => ?_)
      refine fW_iinc 29 (ls' := [some (rv G 418), some (iv v1), some (iv (v2 + 1))]) dX11_becomes_26 rfl rfl rfl (by decide) ?_
      refine fW_goto 2 dX11_becomes_29 rfl ?_
      exact fW_sb (ih v1 (v2 + 1) N5 gv1 (rg_succ' gv2 (by decide) c1) h) ⟨rfl, rfl, rfl, trivial⟩
def L_X11_becomes_34  (k : fMem → Option (fMem)) : Nat → Int → fMem → Option (fMem)
  | 0, _, _ => none
  | n + 1, v2, M => (if 19 ≤ v2 then k  M else ((f_X11_isShut v2 M).bind fun (r8 : Int) => (if r8 = 0 then ((f_X11_frees v2 M).bind fun (r10 : fMem) => L_X11_becomes_34  k n (v2 + 1) r10) else L_X11_becomes_34  k n (v2 + 1) M)))
set_option maxRecDepth 100000 in
set_option maxHeartbeats 4000000 in
theorem l_X11_becomes_34 {G : fG} (hg : gbt G = true)  {q : fMem} {k : fMem → Option (fMem)} (hk : ∀ (M : fMem), k M = some q → fW G mX11_becomes (fEm G mX11_becomes (rV q) fNo) 0 0 59 [some (rv G 418), none, none] [] M) : ∀ (n : Nat) (v2 : Int) (M : fMem), rg v2 → L_X11_becomes_34 k n v2 M = some q → fW G mX11_becomes (fEm G mX11_becomes (rV q) fNo) 0 0 34 [some (rv G 418), none, some (iv v2)] [] M := by
  intro n
  induction n with
  | zero =>
    intro v2 M gv2 h
    rw [L_X11_becomes_34] at h
    exact absurd h (by simp)
  | succ n ih =>
    intro v2 M gv2 h
    rw [L_X11_becomes_34] at h
    refine fW_rg (fun hR => ?_)
    refine fW_iload_n 35 dX11_becomes_34 rfl rfl ?_
    refine fW_bipush 37 dX11_becomes_35 rfl (by decide) ?_
    refine fW_icmp_ge 40 59 gv2 (by decide) dX11_becomes_37 rfl rfl (fun c7 => ?_) (fun c7 => ?_)
    · replace h := fTt h c7
      exact fW_sb (hk M h) ⟨rfl, trivial⟩
    · replace h := fFf h c7
      refine fW_aload_n 41 dX11_becomes_40 rfl rfl ?_
      refine fW_iload_n 42 dX11_becomes_41 rfl rfl ?_
      obtain ⟨r8, e8, h⟩ := fBd h
      refine fW_cB (fI_V (as := [iv v2]) (rest := []) miX11_isShut hg clX11 rfl tc_418 wd_1340 (fRoom_of rfl) rfl (Nat.le_of_ble_eq_true rfl) dX11_becomes_42) (s_X11_isShut hg gv2 e8) rfl rfl rfl (fun g8 => ?_)
      refine fW_if_ne 48 53 (rg_z g8) dX11_becomes_45 rfl rfl (fun c9 => ?_) (fun c9 => ?_)
      · replace h := fFf h c9
        refine fW_iinc 56 (ls' := [some (rv G 418), none, some (iv (v2 + 1))]) dX11_becomes_53 rfl rfl rfl (by decide) ?_
        refine fW_goto 34 dX11_becomes_56 rfl ?_
        exact fW_sb (ih (v2 + 1) M (rg_succ' gv2 (by decide) c7) h) ⟨rfl, rfl, trivial⟩
      · replace h := fTt h c9
        refine fW_aload_n 49 dX11_becomes_48 rfl rfl ?_
        refine fW_iload_n 50 dX11_becomes_49 rfl rfl ?_
        obtain ⟨r10, e10, h⟩ := fBd h
        refine fW_cV (fI_V (as := [iv v2]) (rest := []) miX11_frees hg clX11 rfl tc_418 wd_1320 (fRoom_of rfl) rfl (Nat.le_of_ble_eq_true rfl) dX11_becomes_50) (s_X11_frees hg gv2 e10) rfl rfl rfl ?_
        refine fW_rg (fun hR11 => ?_)
        refine fW_iinc 56 (ls' := [some (rv G 418), none, some (iv (v2 + 1))]) dX11_becomes_53 rfl rfl rfl (by decide) ?_
        refine fW_goto 34 dX11_becomes_56 rfl ?_
        exact fW_sb (ih (v2 + 1) r10 (rg_succ' gv2 (by decide) c7) h) ⟨rfl, rfl, trivial⟩
def f_X11_becomes (a1 : Int) (M : fMem) : Option (fMem) := L_X11_becomes_2 (fun  (M_6 : fMem) => L_X11_becomes_34 (fun  (M_12 : fMem) => some M_12) 20000 0 M_6) 20000 a1 0 M
set_option maxRecDepth 100000 in
set_option maxHeartbeats 4000000 in
theorem s_X11_becomes {G : fG} (hg : gbt G = true) {a1 : Int} (ga1 : rg a1) {M : fMem} {q : fMem} (h : f_X11_becomes a1 M = some q) : fSp G mX11_becomes [rv G 418, iv a1] M (rV q) fNo := by
  refine fSp_of (by decide +kernel) (by decide +kernel) (fC1 rfl (fC1 rfl fC0)) (Nat.le_of_ble_eq_true rfl) ?_
  show fW G mX11_becomes (fEm G mX11_becomes (rV q) fNo) 0 0 0 [some (rv G 418), some (iv a1), none] [] M
  rw [f_X11_becomes] at h
  refine fW_rg (fun hR => ?_)
  refine fW_iconst 1 dX11_becomes_0 rfl ?_
  refine fW_istore_n 2 (ls' := [some (rv G 418), some (iv a1), some (iv 0)]) dX11_becomes_1 rfl rfl rfl (by decide) ?_
  refine fW_sb (l_X11_becomes_2 hg ?_ 20000 a1 0 M ga1 (by decide) h) ⟨rfl, rfl, rfl, trivial⟩
  intro M_6 h
  refine fW_rg (fun hR_6 => ?_)
  refine fW_iconst 33 dX11_becomes_32 rfl ?_
  refine fW_istore_n 34 (ls' := [some (rv G 418), none, some (iv 0)]) dX11_becomes_33 rfl rfl rfl (by decide) ?_
  refine fW_sb (l_X11_becomes_34 hg ?_ 20000 0 M_6 (by decide) h) ⟨rfl, rfl, trivial⟩
  intro M_12 h
  refine fW_rg (fun hR_12 => ?_)
  exact fW_vret rfl (by decide) (by decide) dX11_becomes_59 (rV_i h)
def mX11_laysSeen : fMt := (yX11_laysSeen, cX11_laysSeen, 3, none, { frames := 4, cells := 0, slots := 0, locals := 160 })
theorem miX11_laysSeen : fMv mX11_laysSeen 1 := ⟨⟨fM 1631 (by decide +kernel) rfl, fM 101 (by decide +kernel) rfl, ⟨by decide +kernel, by decide +kernel⟩, by decide +kernel⟩, fM 1630 (by decide +kernel) rfl, fM 85 (by decide +kernel) rfl⟩
def L_X11_laysSeen_15  (k : fMem → Option (fMem)) : Nat → Int → fMem → Option (fMem)
  | 0, _, _ => none
  | n + 1, v2, M => (if 200 ≤ v2 then k  M else (if 0 ≤ v2 ∧ v2 < 200 then ((some (mset M 437 v2 (M 422 v2))).bind fun (N9 : fMem) => L_X11_laysSeen_15  k n (v2 + 1) N9) else none))
set_option maxRecDepth 100000 in
set_option maxHeartbeats 4000000 in
theorem l_X11_laysSeen_15 {G : fG} (hg : gbt G = true)  {q : fMem} {k : fMem → Option (fMem)} (hk : ∀ (M : fMem), k M = some q → fW G mX11_laysSeen (fEm G mX11_laysSeen (rV q) fNo) 0 0 40 [some (rv G 418), none, none] [] M) : ∀ (n : Nat) (v2 : Int) (M : fMem), rg v2 → L_X11_laysSeen_15 k n v2 M = some q → fW G mX11_laysSeen (fEm G mX11_laysSeen (rV q) fNo) 0 0 15 [some (rv G 418), none, some (iv v2)] [] M := by
  intro n
  induction n with
  | zero =>
    intro v2 M gv2 h
    rw [L_X11_laysSeen_15] at h
    exact absurd h (by simp)
  | succ n ih =>
    intro v2 M gv2 h
    rw [L_X11_laysSeen_15] at h
    refine fW_rg (fun hR => ?_)
    refine fW_iload_n 16 dX11_laysSeen_15 rfl rfl ?_
    refine fW_sipush 19 dX11_laysSeen_16 rfl (by decide) ?_
    refine fW_icmp_ge 22 40 gv2 (by decide) dX11_laysSeen_19 rfl rfl (fun c7 => ?_) (fun c7 => ?_)
    · replace h := fTt h c7
      exact fW_sb (hk M h) ⟨rfl, trivial⟩
    · replace h := fFf h c7
      refine fW_aload_n 23 dX11_laysSeen_22 rfl rfl ?_
      refine fW_getR 26 (r := 437) 25 hg clX11 (by decide) rfl tc_418 tf_11_25 wd_1199 dX11_laysSeen_23 rfl ?_
      refine fW_iload_n 27 dX11_laysSeen_26 rfl rfl ?_
      refine fW_aload_n 28 dX11_laysSeen_27 rfl rfl ?_
      refine fW_getR 31 (r := 422) 5 hg clX11 (by decide) rfl tc_418 tf_11_5 wd_1179 dX11_laysSeen_28 rfl ?_
      refine fW_iload_n 32 dX11_laysSeen_31 rfl rfl ?_
      obtain ⟨c8, h⟩ := fS h
      refine fW_iald 33 hg tc_422 ⟨c8.1, by rw [show Ln 422 = 200 from rfl]; exact c8.2⟩ dX11_laysSeen_32 rfl ?_
      obtain ⟨N9, e9, h⟩ := fBd h
      replace e9 := Option.some.inj e9
      refine fW_iast 34 hg tc_437 ⟨c8.1, by rw [show Ln 437 = 200 from rfl]; exact c8.2⟩ (hR 422 v2) dX11_laysSeen_33 rfl ?_
      rw [e9]
      refine fW_rg (fun hR9 => ?_)
      refine fW_iinc 37 (ls' := [some (rv G 418), none, some (iv (v2 + 1))]) dX11_laysSeen_34 rfl rfl rfl (by decide) ?_
      refine fW_goto 15 dX11_laysSeen_37 rfl ?_
      exact fW_sb (ih (v2 + 1) N9 (rg_succ' gv2 (by decide) c7) h) ⟨rfl, rfl, trivial⟩
def f_X11_laysSeen (a1 : Int) (M : fMem) : Option (fMem) := ((f_X11_goesAside M).bind fun (r1 : fMem) => ((f_X11_becomes a1 r1).bind fun (r3 : fMem) => ((f_X11_laysKeys r3).bind fun (r5 : fMem) => L_X11_laysSeen_15 (fun  (M_10 : fMem) => ((f_X11_comesBack M_10).bind fun (r11 : fMem) => some r11)) 20000 0 r5)))
set_option maxRecDepth 100000 in
set_option maxHeartbeats 4000000 in
theorem s_X11_laysSeen {G : fG} (hg : gbt G = true) {a1 : Int} (ga1 : rg a1) {M : fMem} {q : fMem} (h : f_X11_laysSeen a1 M = some q) : fSp G mX11_laysSeen [rv G 418, iv a1] M (rV q) fNo := by
  refine fSp_of (by decide +kernel) (by decide +kernel) (fC1 rfl (fC1 rfl fC0)) (Nat.le_of_ble_eq_true rfl) ?_
  show fW G mX11_laysSeen (fEm G mX11_laysSeen (rV q) fNo) 0 0 0 [some (rv G 418), some (iv a1), none] [] M
  rw [f_X11_laysSeen] at h
  refine fW_rg (fun hR => ?_)
  refine fW_aload_n 1 dX11_laysSeen_0 rfl rfl ?_
  obtain ⟨r1, e1, h⟩ := fBd h
  refine fW_cV (fI_V (as := []) (rest := []) miX11_goesAside hg clX11 rfl tc_418 wd_1565 (fRoom_of rfl) rfl (Nat.le_of_ble_eq_true rfl) dX11_laysSeen_1) (s_X11_goesAside hg e1) rfl rfl rfl ?_
  refine fW_rg (fun hR2 => ?_)
  refine fW_aload_n 5 dX11_laysSeen_4 rfl rfl ?_
  refine fW_iload_n 6 dX11_laysSeen_5 rfl rfl ?_
  obtain ⟨r3, e3, h⟩ := fBd h
  refine fW_cV (fI_V (as := [iv a1]) (rest := []) miX11_becomes hg clX11 rfl tc_418 wd_1632 (fRoom_of rfl) rfl (Nat.le_of_ble_eq_true rfl) dX11_laysSeen_6) (s_X11_becomes hg ga1 e3) rfl rfl rfl ?_
  refine fW_rg (fun hR4 => ?_)
  refine fW_aload_n 10 dX11_laysSeen_9 rfl rfl ?_
  obtain ⟨r5, e5, h⟩ := fBd h
  refine fW_cV (fI_V (as := []) (rest := []) miX11_laysKeys hg clX11 rfl tc_418 wd_1384 (fRoom_of rfl) rfl (Nat.le_of_ble_eq_true rfl) dX11_laysSeen_10) (s_X11_laysKeys hg e5) rfl rfl rfl ?_
  refine fW_rg (fun hR6 => ?_)
  refine fW_iconst 14 dX11_laysSeen_13 rfl ?_
  refine fW_istore_n 15 (ls' := [some (rv G 418), some (iv a1), some (iv 0)]) dX11_laysSeen_14 rfl rfl rfl (by decide) ?_
  refine fW_sb (l_X11_laysSeen_15 hg ?_ 20000 0 r5 (by decide) h) ⟨rfl, rfl, trivial⟩
  intro M_10 h
  refine fW_rg (fun hR_10 => ?_)
  refine fW_aload_n 41 dX11_laysSeen_40 rfl rfl ?_
  obtain ⟨r11, e11, h⟩ := fBd h
  refine fW_cV (fI_V (as := []) (rest := []) miX11_comesBack hg clX11 rfl tc_418 wd_1573 (fRoom_of rfl) rfl (Nat.le_of_ble_eq_true rfl) dX11_laysSeen_41) (s_X11_comesBack hg e11) rfl rfl rfl ?_
  refine fW_rg (fun hR12 => ?_)
  exact fW_vret rfl (by decide) (by decide) dX11_laysSeen_44 (rV_i h)
def mX11_seen : fMt := (yX11_seen, cX11_seen, 3, some .int, { frames := 5, cells := 0, slots := 0, locals := 200 })
theorem miX11_seen : fMv mX11_seen 2 := ⟨⟨fM 1627 (by decide +kernel) rfl, fM 101 (by decide +kernel) rfl, ⟨by decide +kernel, by decide +kernel⟩, by decide +kernel⟩, fM 1625 (by decide +kernel) rfl, fM 1626 (by decide +kernel) rfl⟩
def j_X11_seen_26  (v1 : Int) (v2 : Int) (x1 : Int) (M : fMem) : Option (Int × fMem) := (if 0 ≤ x1 ∧ x1 ≤ 1 then ((f_X11_right x1 1 M).bind fun (r5 : Int × fMem) => (if r5.1 = 0 then some (0, r5.2) else ((f_X11_laysSeen v1 r5.2).bind fun (r8 : fMem) => (if 0 ≤ v2 ∧ v2 < 200 then some (r8 437 v2, r8) else none)))) else none)
set_option maxRecDepth 100000 in
set_option maxHeartbeats 4000000 in
theorem i_X11_seen_26 {G : fG} (hg : gbt G = true)  {v1 : Int} {v2 : Int} {x1 : Int} (gv1 : rg v1) (gv2 : rg v2) (gx1 : rg x1) {M : fMem} {q : Int × fMem} (h : j_X11_seen_26 v1 v2 x1 M = some q) : fW G mX11_seen (fEm G mX11_seen (rP q.2 q.1) fNo) 0 0 26 [some (rv G 418), some (iv v1), some (iv v2)] [iv x1, rv G 418] M := by
  rw [j_X11_seen_26] at h
  refine fW_rg (fun hR => ?_)
  refine fW_iconst 27 dX11_seen_26 rfl ?_
  obtain ⟨c4, h⟩ := fS h
  obtain ⟨r5, e5, h⟩ := fBd h
  refine fW_cB (fI_V (as := [iv x1, iv 1]) (rest := []) miX11_right hg clX11 rfl tc_418 wd_1396 (fRoom_of rfl) rfl (Nat.le_of_ble_eq_true rfl) dX11_seen_27) (s_X11_right hg c4 (by decide) e5) rfl rfl rfl (fun g5 => ?_)
  refine fW_rg (fun hR6 => ?_)
  refine fW_if_ne 33 35 (rg_z g5) dX11_seen_30 rfl rfl (fun c7 => ?_) (fun c7 => ?_)
  · replace h := fFf h c7
    refine fW_aload_n 36 dX11_seen_35 rfl rfl ?_
    refine fW_iload_n 37 dX11_seen_36 rfl rfl ?_
    obtain ⟨r8, e8, h⟩ := fBd h
    refine fW_cV (fI_V (as := [iv v1]) (rest := []) miX11_laysSeen hg clX11 rfl tc_418 wd_1628 (fRoom_of rfl) rfl (Nat.le_of_ble_eq_true rfl) dX11_seen_37) (s_X11_laysSeen hg gv1 e8) rfl rfl rfl ?_
    refine fW_rg (fun hR9 => ?_)
    refine fW_aload_n 41 dX11_seen_40 rfl rfl ?_
    refine fW_getR 44 (r := 437) 25 hg clX11 (by decide) rfl tc_418 tf_11_25 wd_1199 dX11_seen_41 rfl ?_
    refine fW_iload_n 45 dX11_seen_44 rfl rfl ?_
    obtain ⟨c10, h⟩ := fS h
    refine fW_iald 46 hg tc_437 ⟨c10.1, by rw [show Ln 437 = 200 from rfl]; exact c10.2⟩ dX11_seen_45 rfl ?_
    exact fW_iret rfl (by decide) (by decide) dX11_seen_46 (rI_i h (hR9 437 v2))
  · replace h := fTt h c7
    refine fW_iconst 34 dX11_seen_33 rfl ?_
    exact fW_iret rfl (by decide) (by decide) dX11_seen_34 (rI_i h (by decide))
def j_X11_seen_25  (v1 : Int) (v2 : Int) (M : fMem) : Option (Int × fMem) := j_X11_seen_26 v1 v2 0 M
set_option maxRecDepth 100000 in
set_option maxHeartbeats 4000000 in
theorem i_X11_seen_25 {G : fG} (hg : gbt G = true)  {v1 : Int} {v2 : Int} (gv1 : rg v1) (gv2 : rg v2) {M : fMem} {q : Int × fMem} (h : j_X11_seen_25 v1 v2 M = some q) : fW G mX11_seen (fEm G mX11_seen (rP q.2 q.1) fNo) 0 0 25 [some (rv G 418), some (iv v1), some (iv v2)] [rv G 418] M := by
  rw [j_X11_seen_25] at h
  refine fW_rg (fun hR => ?_)
  refine fW_iconst 26 dX11_seen_25 rfl ?_
  exact fW_sb (i_X11_seen_26 hg gv1 gv2 (by decide) h) ⟨rfl, rfl, rfl, trivial⟩
def f_X11_seen (a1 : Int) (a2 : Int) (M : fMem) : Option (Int × fMem) := ((some (mset M 418 4 0)).bind fun (N1 : fMem) => ((f_X11_isTakenView a1 N1).bind fun (r2 : Int) => (if r2 = 0 then j_X11_seen_25 a1 a2 N1 else ((f_X11_isKey a2 N1).bind fun (r11 : Int) => (if r11 = 0 then j_X11_seen_25 a1 a2 N1 else j_X11_seen_26 a1 a2 1 N1)))))
set_option maxRecDepth 100000 in
set_option maxHeartbeats 4000000 in
theorem s_X11_seen {G : fG} (hg : gbt G = true) {a1 : Int} (ga1 : rg a1) {a2 : Int} (ga2 : rg a2) {M : fMem} {q : Int × fMem} (h : f_X11_seen a1 a2 M = some q) : fSp G mX11_seen [rv G 418, iv a1, iv a2] M (rP q.2 q.1) fNo := by
  refine fSp_of (by decide +kernel) (by decide +kernel) (fC1 rfl (fC1 rfl (fC1 rfl fC0))) (Nat.le_of_ble_eq_true rfl) ?_
  show fW G mX11_seen (fEm G mX11_seen (rP q.2 q.1) fNo) 0 0 0 [some (rv G 418), some (iv a1), some (iv a2)] [] M
  rw [f_X11_seen] at h
  refine fW_rg (fun hR => ?_)
  refine fW_aload_n 1 dX11_seen_0 rfl rfl ?_
  refine fW_iconst 2 dX11_seen_1 rfl ?_
  obtain ⟨N1, e1, h⟩ := fBd h
  replace e1 := Option.some.inj e1
  refine fW_putI 5 4 (ji := 4) hg clX11 rfl (by decide) rfl rfl rfl tc_418 (by decide) wd_1178 dX11_seen_2 rfl ?_
  rw [e1]
  refine fW_rg (fun hR1 => ?_)
  refine fW_aload_n 6 dX11_seen_5 rfl rfl ?_
  refine fW_aload_n 7 dX11_seen_6 rfl rfl ?_
  refine fW_iload_n 8 dX11_seen_7 rfl rfl ?_
  obtain ⟨r2, e2, h⟩ := fBd h
  refine fW_cB (fI_V (as := [iv a1]) (rest := [rv G 418]) miX11_isTakenView hg clX11 rfl tc_418 wd_1620 (fRoom_of rfl) rfl (Nat.le_of_ble_eq_true rfl) dX11_seen_8) (s_X11_isTakenView hg ga1 e2) rfl rfl rfl (fun g2 => ?_)
  refine fW_if_eq 14 25 (rg_z g2) dX11_seen_11 rfl rfl (fun c3 => ?_) (fun c3 => ?_)
  · replace h := fTt h c3
    exact fW_sb (i_X11_seen_25 hg ga1 ga2 h) ⟨rfl, rfl, rfl, trivial⟩
  · replace h := fFf h c3
    refine fW_iload_n 15 dX11_seen_14 rfl rfl ?_
    obtain ⟨r11, e11, h⟩ := fBd h
    refine fW_cB (fI_S (as := [iv a2]) (rest := [rv G 418]) miX11_isKey rfl wd_1275 (fRoom_of rfl) rfl (Nat.le_of_ble_eq_true rfl) dX11_seen_15) (s_X11_isKey ga2 e11) rfl rfl rfl (fun g11 => ?_)
    refine fW_if_eq 21 25 (rg_z g11) dX11_seen_18 rfl rfl (fun c12 => ?_) (fun c12 => ?_)
    · replace h := fTt h c12
      exact fW_sb (i_X11_seen_25 hg ga1 ga2 h) ⟨rfl, rfl, rfl, trivial⟩
    · replace h := fFf h c12
      refine fW_iconst 22 dX11_seen_21 rfl ?_
      refine fW_goto 26 dX11_seen_22 rfl ?_
      exact fW_sb (i_X11_seen_26 hg ga1 ga2 (by decide) h) ⟨rfl, rfl, rfl, trivial⟩
def mX11_shutYet : fMt := (yX11_shutYet, cX11_shutYet, 4, some .int, { frames := 2, cells := 0, slots := 0, locals := 80 })
theorem miX11_shutYet : fMv mX11_shutYet 1 := ⟨⟨fM 1643 (by decide +kernel) rfl, fM 101 (by decide +kernel) rfl, ⟨by decide +kernel, by decide +kernel⟩, by decide +kernel⟩, fM 1642 (by decide +kernel) rfl, fM 87 (by decide +kernel) rfl⟩
def L_X11_shutYet_4  (M : fMem) (k : Int → Option (Int)) : Nat → Int → Int → Int → Option (Int)
  | 0, _, _, _ => none
  | n + 1, v1, v2, v3 => (if 19 ≤ v3 then k v2 else ((f_X11_isKept v1 v3 M).bind fun (r2 : Int) => (if r2 = 0 then (if -2147483648 ≤ v2 + 0 ∧ v2 + 0 < 2147483648 then L_X11_shutYet_4 M k n v1 (v2 + 0) (v3 + 1) else none) else ((f_X11_isShut v3 M).bind fun (r5 : Int) => (if r5 = 0 then (if -2147483648 ≤ v2 + 0 ∧ v2 + 0 < 2147483648 then L_X11_shutYet_4 M k n v1 (v2 + 0) (v3 + 1) else none) else (if 0 ≤ 7638 + v3 ∧ 7638 + v3 < 7787 then ((f_X11_viewAt v1 M).bind fun (r9 : Int) => (if 0 ≤ (r9 + 7638) + v3 ∧ (r9 + 7638) + v3 < 22971 then (if (M 419 (7638 + v3)) = (M 435 ((r9 + 7638) + v3)) then (if -2147483648 ≤ v2 + 1 ∧ v2 + 1 < 2147483648 then L_X11_shutYet_4 M k n v1 (v2 + 1) (v3 + 1) else none) else (if -2147483648 ≤ v2 + 0 ∧ v2 + 0 < 2147483648 then L_X11_shutYet_4 M k n v1 (v2 + 0) (v3 + 1) else none)) else none)) else none))))))
set_option maxRecDepth 100000 in
set_option maxHeartbeats 4000000 in
theorem l_X11_shutYet_4 {G : fG} (hg : gbt G = true)  {M : fMem} {q : Int} {k : Int → Option (Int)} (hk : ∀ (v2 : Int), rg v2 → k v2 = some q → fW G mX11_shutYet (fEm G mX11_shutYet (rP M q) fNo) 0 0 69 [some (rv G 418), none, some (iv v2), none] [] M) : ∀ (n : Nat) (v1 : Int) (v2 : Int) (v3 : Int), rg v1 → rg v2 → rg v3 → L_X11_shutYet_4 M k n v1 v2 v3 = some q → fW G mX11_shutYet (fEm G mX11_shutYet (rP M q) fNo) 0 0 4 [some (rv G 418), some (iv v1), some (iv v2), some (iv v3)] [] M := by
  intro n
  induction n with
  | zero =>
    intro v1 v2 v3 gv1 gv2 gv3 h
    rw [L_X11_shutYet_4] at h
    exact absurd h (by simp)
  | succ n ih =>
    intro v1 v2 v3 gv1 gv2 gv3 h
    rw [L_X11_shutYet_4] at h
    refine fW_rg (fun hR => ?_)
    refine fW_iload_n 5 dX11_shutYet_4 rfl rfl ?_
    refine fW_bipush 7 dX11_shutYet_5 rfl (by decide) ?_
    refine fW_icmp_ge 10 69 gv3 (by decide) dX11_shutYet_7 rfl rfl (fun c1 => ?_) (fun c1 => ?_)
    · replace h := fTt h c1
      exact fW_sb (hk v2 gv2 h) ⟨rfl, rfl, trivial⟩
    · replace h := fFf h c1
      refine fW_iload_n 11 dX11_shutYet_10 rfl rfl ?_
      refine fW_aload_n 12 dX11_shutYet_11 rfl rfl ?_
      refine fW_iload_n 13 dX11_shutYet_12 rfl rfl ?_
      refine fW_iload_n 14 dX11_shutYet_13 rfl rfl ?_
      obtain ⟨r2, e2, h⟩ := fBd h
      refine fW_cB (fI_V (as := [iv v1, iv v3]) (rest := [iv v2]) miX11_isKept hg clX11 rfl tc_418 wd_1612 (fRoom_of rfl) rfl (Nat.le_of_ble_eq_true rfl) dX11_shutYet_14) (s_X11_isKept hg gv1 gv3 e2) rfl rfl rfl (fun g2 => ?_)
      refine fW_if_eq 20 60 (rg_z g2) dX11_shutYet_17 rfl rfl (fun c3 => ?_) (fun c3 => ?_)
      · replace h := fTt h c3
        refine fW_iconst 61 dX11_shutYet_60 rfl ?_
        refine fW_iadd 62 dX11_shutYet_61 rfl ?_
        refine fW_istore_n 63 (ls' := [some (rv G 418), some (iv v1), some (iv (v2 + 0)), some (iv v3)]) dX11_shutYet_62 rfl rfl rfl (by decide) ?_
        refine fW_iinc 66 (ls' := [some (rv G 418), some (iv v1), some (iv (v2 + 0)), some (iv (v3 + 1))]) dX11_shutYet_63 rfl rfl rfl (by decide) ?_
        refine fW_goto 4 dX11_shutYet_66 rfl ?_
        obtain ⟨c4, h⟩ := fS h
        exact fW_sb (ih v1 (v2 + 0) (v3 + 1) gv1 c4 (rg_succ' gv3 (by decide) c1) h) ⟨rfl, rfl, rfl, rfl, trivial⟩
      · replace h := fFf h c3
        refine fW_aload_n 21 dX11_shutYet_20 rfl rfl ?_
        refine fW_iload_n 22 dX11_shutYet_21 rfl rfl ?_
        obtain ⟨r5, e5, h⟩ := fBd h
        refine fW_cB (fI_V (as := [iv v3]) (rest := [iv v2]) miX11_isShut hg clX11 rfl tc_418 wd_1340 (fRoom_of rfl) rfl (Nat.le_of_ble_eq_true rfl) dX11_shutYet_22) (s_X11_isShut hg gv3 e5) rfl rfl rfl (fun g5 => ?_)
        refine fW_if_eq 28 60 (rg_z g5) dX11_shutYet_25 rfl rfl (fun c6 => ?_) (fun c6 => ?_)
        · replace h := fTt h c6
          refine fW_iconst 61 dX11_shutYet_60 rfl ?_
          refine fW_iadd 62 dX11_shutYet_61 rfl ?_
          refine fW_istore_n 63 (ls' := [some (rv G 418), some (iv v1), some (iv (v2 + 0)), some (iv v3)]) dX11_shutYet_62 rfl rfl rfl (by decide) ?_
          refine fW_iinc 66 (ls' := [some (rv G 418), some (iv v1), some (iv (v2 + 0)), some (iv (v3 + 1))]) dX11_shutYet_63 rfl rfl rfl (by decide) ?_
          refine fW_goto 4 dX11_shutYet_66 rfl ?_
          obtain ⟨c7, h⟩ := fS h
          exact fW_sb (ih v1 (v2 + 0) (v3 + 1) gv1 c7 (rg_succ' gv3 (by decide) c1) h) ⟨rfl, rfl, rfl, rfl, trivial⟩
        · replace h := fFf h c6
          refine fW_aload_n 29 dX11_shutYet_28 rfl rfl ?_
          refine fW_getR 32 (r := 419) 0 hg clX11 (by decide) rfl tc_418 tf_11_0 wd_1174 dX11_shutYet_29 rfl ?_
          refine fW_sipush 35 dX11_shutYet_32 rfl (by decide) ?_
          refine fW_iload_n 36 dX11_shutYet_35 rfl rfl ?_
          refine fW_iadd 37 dX11_shutYet_36 rfl ?_
          obtain ⟨c8, h⟩ := fS h
          refine fW_iald 38 hg tc_419 ⟨c8.1, by rw [show Ln 419 = 7787 from rfl]; exact c8.2⟩ dX11_shutYet_37 rfl ?_
          refine fW_aload_n 39 dX11_shutYet_38 rfl rfl ?_
          refine fW_getR 42 (r := 435) 23 hg clX11 (by decide) rfl tc_418 tf_11_23 wd_1197 dX11_shutYet_39 rfl ?_
          refine fW_iload_n 43 dX11_shutYet_42 rfl rfl ?_
          obtain ⟨r9, e9, h⟩ := fBd h
          refine fW_cP (fI_S (as := [iv v1]) (rest := [rv G 435, iv (M 419 (7638 + v3)), iv v2]) miX11_viewAt rfl wd_1605 (fRoom_of rfl) rfl (Nat.le_of_ble_eq_true rfl) dX11_shutYet_43) (s_X11_viewAt gv1 e9) rfl rfl rfl (fun g9 => ?_)
          refine fW_sipush 49 dX11_shutYet_46 rfl (by decide) ?_
          refine fW_iadd 50 dX11_shutYet_49 rfl ?_
          refine fW_iload_n 51 dX11_shutYet_50 rfl rfl ?_
          refine fW_iadd 52 dX11_shutYet_51 rfl ?_
          obtain ⟨c10, h⟩ := fS h
          refine fW_iald 53 hg tc_435 ⟨c10.1, by rw [show Ln 435 = 22971 from rfl]; exact c10.2⟩ dX11_shutYet_52 rfl ?_
          refine fW_icmp_ne 56 60 (hR 419 (7638 + v3)) (hR 435 ((r9 + 7638) + v3)) dX11_shutYet_53 rfl rfl (fun c11 => ?_) (fun c11 => ?_)
          · replace h := fFf h c11
            refine fW_iconst 61 dX11_shutYet_60 rfl ?_
            refine fW_iadd 62 dX11_shutYet_61 rfl ?_
            refine fW_istore_n 63 (ls' := [some (rv G 418), some (iv v1), some (iv (v2 + 0)), some (iv v3)]) dX11_shutYet_62 rfl rfl rfl (by decide) ?_
            refine fW_iinc 66 (ls' := [some (rv G 418), some (iv v1), some (iv (v2 + 0)), some (iv (v3 + 1))]) dX11_shutYet_63 rfl rfl rfl (by decide) ?_
            refine fW_goto 4 dX11_shutYet_66 rfl ?_
            obtain ⟨c12, h⟩ := fS h
            exact fW_sb (ih v1 (v2 + 0) (v3 + 1) gv1 c12 (rg_succ' gv3 (by decide) c1) h) ⟨rfl, rfl, rfl, rfl, trivial⟩
          · replace h := fTt h c11
            refine fW_iconst 57 dX11_shutYet_56 rfl ?_
            refine fW_goto 61 dX11_shutYet_57 rfl ?_
            refine fW_iadd 62 dX11_shutYet_61 rfl ?_
            refine fW_istore_n 63 (ls' := [some (rv G 418), some (iv v1), some (iv (v2 + 1)), some (iv v3)]) dX11_shutYet_62 rfl rfl rfl (by decide) ?_
            refine fW_iinc 66 (ls' := [some (rv G 418), some (iv v1), some (iv (v2 + 1)), some (iv (v3 + 1))]) dX11_shutYet_63 rfl rfl rfl (by decide) ?_
            refine fW_goto 4 dX11_shutYet_66 rfl ?_
            obtain ⟨c13, h⟩ := fS h
            exact fW_sb (ih v1 (v2 + 1) (v3 + 1) gv1 c13 (rg_succ' gv3 (by decide) c1) h) ⟨rfl, rfl, rfl, rfl, trivial⟩
def f_X11_shutYet (a1 : Int) (M : fMem) : Option (Int) := L_X11_shutYet_4 M (fun (v2_14 : Int) => some v2_14) 20000 a1 0 0
set_option maxRecDepth 100000 in
set_option maxHeartbeats 4000000 in
theorem s_X11_shutYet {G : fG} (hg : gbt G = true) {a1 : Int} (ga1 : rg a1) {M : fMem} {q : Int} (h : f_X11_shutYet a1 M = some q) : fSp G mX11_shutYet [rv G 418, iv a1] M (rP M q) fNo := by
  refine fSp_of (by decide +kernel) (by decide +kernel) (fC1 rfl (fC1 rfl fC0)) (Nat.le_of_ble_eq_true rfl) ?_
  show fW G mX11_shutYet (fEm G mX11_shutYet (rP M q) fNo) 0 0 0 [some (rv G 418), some (iv a1), none, none] [] M
  rw [f_X11_shutYet] at h
  refine fW_rg (fun hR => ?_)
  refine fW_iconst 1 dX11_shutYet_0 rfl ?_
  refine fW_istore_n 2 (ls' := [some (rv G 418), some (iv a1), some (iv 0), none]) dX11_shutYet_1 rfl rfl rfl (by decide) ?_
  refine fW_iconst 3 dX11_shutYet_2 rfl ?_
  refine fW_istore_n 4 (ls' := [some (rv G 418), some (iv a1), some (iv 0), some (iv 0)]) dX11_shutYet_3 rfl rfl rfl (by decide) ?_
  refine fW_sb (l_X11_shutYet_4 hg ?_ 20000 a1 0 0 ga1 (by decide) (by decide) h) ⟨rfl, rfl, rfl, rfl, trivial⟩
  intro v2_14 gv2_14 h
  refine fW_iload_n 70 dX11_shutYet_69 rfl rfl ?_
  exact fW_iret rfl (by decide) (by decide) dX11_shutYet_70 (rP_i h gv2_14)
end MTH
