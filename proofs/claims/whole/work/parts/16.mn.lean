section MTH
def mX11_isCalm : fMt := (yX11_isCalm, cX11_isCalm, 5, some .boolean, { frames := 10, cells := 0, slots := 0, locals := 400 })
theorem miX11_isCalm : fMv mX11_isCalm 2 := ⟨⟨fM 1584 (by decide +kernel) rfl, fM 101 (by decide +kernel) rfl, ⟨by decide +kernel, by decide +kernel⟩, by decide +kernel⟩, fM 1583 (by decide +kernel) rfl, fM 79 (by decide +kernel) rfl⟩
def L_X11_isCalm_11  (k : fMem → Option (Int × fMem)) : Nat → Int → Int → fMem → Option (Int × fMem)
  | 0, _, _, _ => none
  | n + 1, v1, v3, M => (if v1 ≤ v3 then k  M else (if (M 419 7743) = (M 420 7743) then ((f_X11_actsAhead v3 M).bind fun (r4 : Int × fMem) => L_X11_isCalm_11  k n v1 (v3 + 1) r4.2) else k  M))
set_option maxRecDepth 100000 in
set_option maxHeartbeats 4000000 in
theorem l_X11_isCalm_11 {G : fG} (hg : gbt G = true)  {q : Int × fMem} {k : fMem → Option (Int × fMem)} (hk : ∀ (M : fMem), k M = some q → fW G mX11_isCalm (fEm G mX11_isCalm (rB q.2 q.1) fNo) 0 0 47 [some (rv G 418), none, none, none, none] [] M) : ∀ (n : Nat) (v1 : Int) (v3 : Int) (M : fMem), rg v1 → rg v3 → L_X11_isCalm_11 k n v1 v3 M = some q → fW G mX11_isCalm (fEm G mX11_isCalm (rB q.2 q.1) fNo) 0 0 11 [some (rv G 418), some (iv v1), none, some (iv v3), none] [] M := by
  intro n
  induction n with
  | zero =>
    intro v1 v3 M gv1 gv3 h
    rw [L_X11_isCalm_11] at h
    exact absurd h (by simp)
  | succ n ih =>
    intro v1 v3 M gv1 gv3 h
    rw [L_X11_isCalm_11] at h
    refine fW_rg (fun hR => ?_)
    refine fW_iload_n 12 dX11_isCalm_11 rfl rfl ?_
    refine fW_iload_n 13 dX11_isCalm_12 rfl rfl ?_
    refine fW_icmp_ge 16 47 gv3 gv1 dX11_isCalm_13 rfl rfl (fun c2 => ?_) (fun c2 => ?_)
    · replace h := fTt h c2
      exact fW_sb (hk M h) ⟨rfl, trivial⟩
    · replace h := fFf h c2
      refine fW_aload_n 17 dX11_isCalm_16 rfl rfl ?_
      refine fW_getR 20 (r := 419) 0 hg clX11 (by decide) rfl tc_418 tf_11_0 wd_1174 dX11_isCalm_17 rfl ?_
      refine fW_sipush 23 dX11_isCalm_20 rfl (by decide) ?_
      refine fW_iald 24 hg tc_419 ⟨by decide, by rw [show Ln 419 = 7787 from rfl]; decide⟩ dX11_isCalm_23 rfl ?_
      refine fW_aload_n 25 dX11_isCalm_24 rfl rfl ?_
      refine fW_getR 28 (r := 420) 1 hg clX11 (by decide) rfl tc_418 tf_11_1 wd_1175 dX11_isCalm_25 rfl ?_
      refine fW_sipush 31 dX11_isCalm_28 rfl (by decide) ?_
      refine fW_iald 32 hg tc_420 ⟨by decide, by rw [show Ln 420 = 7787 from rfl]; decide⟩ dX11_isCalm_31 rfl ?_
      refine fW_icmp_ne 35 47 (hR 419 7743) (hR 420 7743) dX11_isCalm_32 rfl rfl (fun c3 => ?_) (fun c3 => ?_)
      · replace h := fFf h c3
        exact fW_sb (hk M h) ⟨rfl, trivial⟩
      · replace h := fTt h c3
        refine fW_aload_n 36 dX11_isCalm_35 rfl rfl ?_
        refine fW_iload_n 37 dX11_isCalm_36 rfl rfl ?_
        obtain ⟨r4, e4, h⟩ := fBd h
        refine fW_cP (fI_V (as := [iv v3]) (rest := []) miX11_actsAhead hg clX11 rfl tc_418 wd_1569 (fRoom_of rfl) rfl (Nat.le_of_ble_eq_true rfl) dX11_isCalm_37) (s_X11_actsAhead hg gv3 e4) rfl rfl rfl (fun g4 => ?_)
        refine fW_rg (fun hR5 => ?_)
        refine fW_pop 41 dX11_isCalm_40 rfl rfl ?_
        refine fW_iinc 44 (ls' := [some (rv G 418), some (iv v1), none, some (iv (v3 + 1)), none]) dX11_isCalm_41 rfl rfl rfl (by decide) ?_
        refine fW_goto 11 dX11_isCalm_44 rfl ?_
        exact fW_sb (ih v1 (v3 + 1) r4.2 gv1 (rg_succ' gv3 gv1 c2) h) ⟨rfl, rfl, rfl, trivial⟩
def j_X11_isCalm_47   (M : fMem) : Option (Int × fMem) := (if (M 419 7743) = (M 420 7743) then ((f_X11_comesBack M).bind fun (r10 : fMem) => some (1, r10)) else ((f_X11_comesBack M).bind fun (r8 : fMem) => some (0, r8)))
set_option maxRecDepth 100000 in
set_option maxHeartbeats 4000000 in
theorem i_X11_isCalm_47 {G : fG} (hg : gbt G = true)    {M : fMem} {q : Int × fMem} (h : j_X11_isCalm_47  M = some q) : fW G mX11_isCalm (fEm G mX11_isCalm (rB q.2 q.1) fNo) 0 0 47 [some (rv G 418), none, none, none, none] [] M := by
  rw [j_X11_isCalm_47] at h
  refine fW_rg (fun hR => ?_)
  refine fW_aload_n 48 dX11_isCalm_47 rfl rfl ?_
  refine fW_getR 51 (r := 419) 0 hg clX11 (by decide) rfl tc_418 tf_11_0 wd_1174 dX11_isCalm_48 rfl ?_
  refine fW_sipush 54 dX11_isCalm_51 rfl (by decide) ?_
  refine fW_iald 55 hg tc_419 ⟨by decide, by rw [show Ln 419 = 7787 from rfl]; decide⟩ dX11_isCalm_54 rfl ?_
  refine fW_aload_n 56 dX11_isCalm_55 rfl rfl ?_
  refine fW_getR 59 (r := 420) 1 hg clX11 (by decide) rfl tc_418 tf_11_1 wd_1175 dX11_isCalm_56 rfl ?_
  refine fW_sipush 62 dX11_isCalm_59 rfl (by decide) ?_
  refine fW_iald 63 hg tc_420 ⟨by decide, by rw [show Ln 420 = 7787 from rfl]; decide⟩ dX11_isCalm_62 rfl ?_
  refine fW_icmp_ne 66 70 (hR 419 7743) (hR 420 7743) dX11_isCalm_63 rfl rfl (fun c7 => ?_) (fun c7 => ?_)
  · replace h := fFf h c7
    refine fW_iconst 71 dX11_isCalm_70 rfl ?_
    refine fW_istore 73 (ls' := [some (rv G 418), none, none, none, some (iv 0)]) dX11_isCalm_71 rfl rfl (by decide) ?_
    refine fW_aload_n 74 dX11_isCalm_73 rfl rfl ?_
    obtain ⟨r8, e8, h⟩ := fBd h
    refine fW_cV (fI_V (as := []) (rest := []) miX11_comesBack hg clX11 rfl tc_418 wd_1573 (fRoom_of rfl) rfl (Nat.le_of_ble_eq_true rfl) dX11_isCalm_74) (s_X11_comesBack hg e8) rfl rfl rfl ?_
    refine fW_rg (fun hR9 => ?_)
    refine fW_iload 79 dX11_isCalm_77 rfl rfl ?_
    exact fW_zret rfl (by decide) (by decide) (by decide) dX11_isCalm_79 (rBI_i h (by decide))
  · replace h := fTt h c7
    refine fW_iconst 67 dX11_isCalm_66 rfl ?_
    refine fW_goto 71 dX11_isCalm_67 rfl ?_
    refine fW_istore 73 (ls' := [some (rv G 418), none, none, none, some (iv 1)]) dX11_isCalm_71 rfl rfl (by decide) ?_
    refine fW_aload_n 74 dX11_isCalm_73 rfl rfl ?_
    obtain ⟨r10, e10, h⟩ := fBd h
    refine fW_cV (fI_V (as := []) (rest := []) miX11_comesBack hg clX11 rfl tc_418 wd_1573 (fRoom_of rfl) rfl (Nat.le_of_ble_eq_true rfl) dX11_isCalm_74) (s_X11_comesBack hg e10) rfl rfl rfl ?_
    refine fW_rg (fun hR11 => ?_)
    refine fW_iload 79 dX11_isCalm_77 rfl rfl ?_
    exact fW_zret rfl (by decide) (by decide) (by decide) dX11_isCalm_79 (rBI_i h (by decide))
def f_X11_isCalm (a1 : Int) (a2 : Int) (M : fMem) : Option (Int × fMem) := L_X11_isCalm_11 (fun  (M_6 : fMem) => j_X11_isCalm_47 M_6) 20000 a1 0 (mset M 419 7739 a2)
set_option maxRecDepth 100000 in
set_option maxHeartbeats 4000000 in
theorem s_X11_isCalm {G : fG} (hg : gbt G = true) {a1 : Int} (ga1 : rg a1) {a2 : Int} (ga2 : rg a2) {M : fMem} {q : Int × fMem} (h : f_X11_isCalm a1 a2 M = some q) : fSp G mX11_isCalm [rv G 418, iv a1, iv a2] M (rB q.2 q.1) fNo := by
  refine fSp_of (by decide +kernel) (by decide +kernel) (fC1 rfl (fC1 rfl (fC1 rfl fC0))) (Nat.le_of_ble_eq_true rfl) ?_
  show fW G mX11_isCalm (fEm G mX11_isCalm (rB q.2 q.1) fNo) 0 0 0 [some (rv G 418), some (iv a1), some (iv a2), none, none] [] M
  rw [f_X11_isCalm] at h
  refine fW_rg (fun hR => ?_)
  refine fW_aload_n 1 dX11_isCalm_0 rfl rfl ?_
  refine fW_getR 4 (r := 419) 0 hg clX11 (by decide) rfl tc_418 tf_11_0 wd_1174 dX11_isCalm_1 rfl ?_
  refine fW_sipush 7 dX11_isCalm_4 rfl (by decide) ?_
  refine fW_iload_n 8 dX11_isCalm_7 rfl rfl ?_
  refine fW_iast 9 hg tc_419 ⟨by decide, by rw [show Ln 419 = 7787 from rfl]; decide⟩ ga2 dX11_isCalm_8 rfl ?_
  refine fW_rg (fun hR1 => ?_)
  refine fW_iconst 10 dX11_isCalm_9 rfl ?_
  refine fW_istore_n 11 (ls' := [some (rv G 418), some (iv a1), some (iv a2), some (iv 0), none]) dX11_isCalm_10 rfl rfl rfl (by decide) ?_
  refine fW_sb (l_X11_isCalm_11 hg ?_ 20000 a1 0 (mset M 419 7739 a2) ga1 (by decide) h) ⟨rfl, rfl, rfl, trivial⟩
  intro M_6 h
  refine fW_rg (fun hR_6 => ?_)
  exact fW_sb (i_X11_isCalm_47 hg h) ⟨rfl, trivial⟩
def mX11_calm : fMt := (yX11_calm, cX11_calm, 3, some .int, { frames := 11, cells := 0, slots := 0, locals := 440 })
theorem miX11_calm : fMv mX11_calm 1 := ⟨⟨fM 1580 (by decide +kernel) rfl, fM 101 (by decide +kernel) rfl, ⟨by decide +kernel, by decide +kernel⟩, by decide +kernel⟩, fM 1578 (by decide +kernel) rfl, fM 1579 (by decide +kernel) rfl⟩
def L_X11_calm_28  (k : fMem → Option (Int × fMem)) : Nat → Int → Int → fMem → Option (Int × fMem)
  | 0, _, _, _ => none
  | n + 1, v1, v2, M => (if 40 < v2 then k  M else ((f_X11_isCalm v1 v2 M).bind fun (r9 : Int × fMem) => (if r9.1 = 0 then (if -2147483648 ≤ v2 + 1 ∧ v2 + 1 < 2147483648 then L_X11_calm_28  k n v1 (v2 + 1) r9.2 else none) else some (v2, r9.2))))
set_option maxRecDepth 100000 in
set_option maxHeartbeats 4000000 in
theorem l_X11_calm_28 {G : fG} (hg : gbt G = true)  {q : Int × fMem} {k : fMem → Option (Int × fMem)} (hk : ∀ (M : fMem), k M = some q → fW G mX11_calm (fEm G mX11_calm (rP q.2 q.1) fNo) 0 0 51 [some (rv G 418), none, none] [] M) : ∀ (n : Nat) (v1 : Int) (v2 : Int) (M : fMem), rg v1 → rg v2 → L_X11_calm_28 k n v1 v2 M = some q → fW G mX11_calm (fEm G mX11_calm (rP q.2 q.1) fNo) 0 0 28 [some (rv G 418), some (iv v1), some (iv v2)] [] M := by
  intro n
  induction n with
  | zero =>
    intro v1 v2 M gv1 gv2 h
    rw [L_X11_calm_28] at h
    exact absurd h (by simp)
  | succ n ih =>
    intro v1 v2 M gv1 gv2 h
    rw [L_X11_calm_28] at h
    refine fW_rg (fun hR => ?_)
    refine fW_iload_n 29 dX11_calm_28 rfl rfl ?_
    refine fW_bipush 31 dX11_calm_29 rfl (by decide) ?_
    refine fW_icmp_gt 34 51 gv2 (by decide) dX11_calm_31 rfl rfl (fun c8 => ?_) (fun c8 => ?_)
    · replace h := fTt h c8
      exact fW_sb (hk M h) ⟨rfl, trivial⟩
    · replace h := fFf h c8
      refine fW_aload_n 35 dX11_calm_34 rfl rfl ?_
      refine fW_iload_n 36 dX11_calm_35 rfl rfl ?_
      refine fW_iload_n 37 dX11_calm_36 rfl rfl ?_
      obtain ⟨r9, e9, h⟩ := fBd h
      refine fW_cB (fI_V (as := [iv v1, iv v2]) (rest := []) miX11_isCalm hg clX11 rfl tc_418 wd_1581 (fRoom_of rfl) rfl (Nat.le_of_ble_eq_true rfl) dX11_calm_37) (s_X11_isCalm hg gv1 gv2 e9) rfl rfl rfl (fun g9 => ?_)
      refine fW_rg (fun hR10 => ?_)
      refine fW_if_eq 43 45 (rg_z g9) dX11_calm_40 rfl rfl (fun c11 => ?_) (fun c11 => ?_)
      · replace h := fTt h c11
        refine fW_iinc 48 (ls' := [some (rv G 418), some (iv v1), some (iv (v2 + 1))]) dX11_calm_45 rfl rfl rfl (by decide) ?_
        refine fW_goto 28 dX11_calm_48 rfl ?_
        obtain ⟨c12, h⟩ := fS h
        exact fW_sb (ih v1 (v2 + 1) r9.2 gv1 c12 h) ⟨rfl, rfl, rfl, trivial⟩
      · replace h := fFf h c11
        refine fW_iload_n 44 dX11_calm_43 rfl rfl ?_
        exact fW_iret rfl (by decide) (by decide) dX11_calm_44 (rI_i h gv2)
def f_X11_calm (a1 : Int) (M : fMem) : Option (Int × fMem) := ((f_X11_isIn a1 0 64 (mset M 418 4 0)).bind fun (r2 : Int) => ((f_X11_right r2 1 (mset M 418 4 0)).bind fun (r3 : Int × fMem) => (if r3.1 = 0 then some (0, r3.2) else ((f_X11_goesAside r3.2).bind fun (r6 : fMem) => L_X11_calm_28 (fun  (M_13 : fMem) => some ((-1), M_13)) 20000 a1 0 r6))))
set_option maxRecDepth 100000 in
set_option maxHeartbeats 4000000 in
theorem s_X11_calm {G : fG} (hg : gbt G = true) {a1 : Int} (ga1 : rg a1) {M : fMem} {q : Int × fMem} (h : f_X11_calm a1 M = some q) : fSp G mX11_calm [rv G 418, iv a1] M (rP q.2 q.1) fNo := by
  refine fSp_of (by decide +kernel) (by decide +kernel) (fC1 rfl (fC1 rfl fC0)) (Nat.le_of_ble_eq_true rfl) ?_
  show fW G mX11_calm (fEm G mX11_calm (rP q.2 q.1) fNo) 0 0 0 [some (rv G 418), some (iv a1), none] [] M
  rw [f_X11_calm] at h
  refine fW_rg (fun hR => ?_)
  refine fW_aload_n 1 dX11_calm_0 rfl rfl ?_
  refine fW_iconst 2 dX11_calm_1 rfl ?_
  refine fW_putI 5 4 (ji := 4) hg clX11 rfl (by decide) rfl rfl rfl tc_418 (by decide) wd_1178 dX11_calm_2 rfl ?_
  refine fW_rg (fun hR1 => ?_)
  refine fW_aload_n 6 dX11_calm_5 rfl rfl ?_
  refine fW_iload_n 7 dX11_calm_6 rfl rfl ?_
  refine fW_iconst 8 dX11_calm_7 rfl ?_
  refine fW_bipush 10 dX11_calm_8 rfl (by decide) ?_
  obtain ⟨r2, e2, h⟩ := fBd h
  refine fW_cB (fI_S (as := [iv a1, iv 0, iv 64]) (rest := [rv G 418]) miX11_isIn rfl wd_1272 (fRoom_of rfl) rfl (Nat.le_of_ble_eq_true rfl) dX11_calm_10) (s_X11_isIn ga1 (by decide) (by decide) e2) rfl rfl rfl (fun g2 => ?_)
  refine fW_iconst 14 dX11_calm_13 rfl ?_
  obtain ⟨r3, e3, h⟩ := fBd h
  refine fW_cB (fI_V (as := [iv r2, iv 1]) (rest := []) miX11_right hg clX11 rfl tc_418 wd_1396 (fRoom_of rfl) rfl (Nat.le_of_ble_eq_true rfl) dX11_calm_14) (s_X11_right hg g2 (by decide) e3) rfl rfl rfl (fun g3 => ?_)
  refine fW_rg (fun hR4 => ?_)
  refine fW_if_ne 20 22 (rg_z g3) dX11_calm_17 rfl rfl (fun c5 => ?_) (fun c5 => ?_)
  · replace h := fFf h c5
    refine fW_aload_n 23 dX11_calm_22 rfl rfl ?_
    obtain ⟨r6, e6, h⟩ := fBd h
    refine fW_cV (fI_V (as := []) (rest := []) miX11_goesAside hg clX11 rfl tc_418 wd_1565 (fRoom_of rfl) rfl (Nat.le_of_ble_eq_true rfl) dX11_calm_23) (s_X11_goesAside hg e6) rfl rfl rfl ?_
    refine fW_rg (fun hR7 => ?_)
    refine fW_iconst 27 dX11_calm_26 rfl ?_
    refine fW_istore_n 28 (ls' := [some (rv G 418), some (iv a1), some (iv 0)]) dX11_calm_27 rfl rfl rfl (by decide) ?_
    refine fW_sb (l_X11_calm_28 hg ?_ 20000 a1 0 r6 ga1 (by decide) h) ⟨rfl, rfl, rfl, trivial⟩
    intro M_13 h
    refine fW_rg (fun hR_13 => ?_)
    refine fW_iconst 52 dX11_calm_51 rfl ?_
    exact fW_iret rfl (by decide) (by decide) dX11_calm_52 (rI_i h (by decide))
  · replace h := fTt h c5
    refine fW_iconst 21 dX11_calm_20 rfl ?_
    exact fW_iret rfl (by decide) (by decide) dX11_calm_21 (rI_i h (by decide))
def mX11_due : fMt := (yX11_due, cX11_due, 4, some .int, { frames := 10, cells := 0, slots := 0, locals := 400 })
theorem miX11_due : fMv mX11_due 1 := ⟨⟨fM 1588 (by decide +kernel) rfl, fM 101 (by decide +kernel) rfl, ⟨by decide +kernel, by decide +kernel⟩, by decide +kernel⟩, fM 1586 (by decide +kernel) rfl, fM 1587 (by decide +kernel) rfl⟩
def L_X11_due_27  (k : Int → fMem → Option (Int × fMem)) : Nat → Int → Int → Int → fMem → Option (Int × fMem)
  | 0, _, _, _, _ => none
  | n + 1, v1, v2, v3, M => (if 64 ≤ v3 then k v2 M else (if v2 = ((-1)) then ((f_X11_actsAhead v3 M).bind fun (r10 : Int × fMem) => (if 0 ≤ 7720 + v1 ∧ 7720 + v1 < 7787 then (if 0 ≤ 7720 + v1 ∧ 7720 + v1 < 7787 then (if (r10.2 419 (7720 + v1)) ≤ (r10.2 420 (7720 + v1)) then L_X11_due_27  k n v1 ((-1)) (v3 + 1) r10.2 else L_X11_due_27  k n v1 (v3 + 1) (v3 + 1) r10.2) else none) else none)) else k v2 M))
set_option maxRecDepth 100000 in
set_option maxHeartbeats 4000000 in
theorem l_X11_due_27 {G : fG} (hg : gbt G = true)  {q : Int × fMem} {k : Int → fMem → Option (Int × fMem)} (hk : ∀ (v2 : Int) (M : fMem), rg v2 → k v2 M = some q → fW G mX11_due (fEm G mX11_due (rP q.2 q.1) fNo) 0 0 81 [some (rv G 418), none, some (iv v2), none] [] M) : ∀ (n : Nat) (v1 : Int) (v2 : Int) (v3 : Int) (M : fMem), rg v1 → rg v2 → rg v3 → L_X11_due_27 k n v1 v2 v3 M = some q → fW G mX11_due (fEm G mX11_due (rP q.2 q.1) fNo) 0 0 27 [some (rv G 418), some (iv v1), some (iv v2), some (iv v3)] [] M := by
  intro n
  induction n with
  | zero =>
    intro v1 v2 v3 M gv1 gv2 gv3 h
    rw [L_X11_due_27] at h
    exact absurd h (by simp)
  | succ n ih =>
    intro v1 v2 v3 M gv1 gv2 gv3 h
    rw [L_X11_due_27] at h
    refine fW_rg (fun hR => ?_)
    refine fW_iload_n 28 dX11_due_27 rfl rfl ?_
    refine fW_bipush 30 dX11_due_28 rfl (by decide) ?_
    refine fW_icmp_ge 33 81 gv3 (by decide) dX11_due_30 rfl rfl (fun c8 => ?_) (fun c8 => ?_)
    · replace h := fTt h c8
      exact fW_sb (hk v2 M gv2 h) ⟨rfl, rfl, trivial⟩
    · replace h := fFf h c8
      refine fW_iload_n 34 dX11_due_33 rfl rfl ?_
      refine fW_iconst 35 dX11_due_34 rfl ?_
      refine fW_icmp_ne 38 81 gv2 (by decide) dX11_due_35 rfl rfl (fun c9 => ?_) (fun c9 => ?_)
      · replace h := fFf h c9
        exact fW_sb (hk v2 M gv2 h) ⟨rfl, rfl, trivial⟩
      · replace h := fTt h c9
        refine fW_aload_n 39 dX11_due_38 rfl rfl ?_
        refine fW_iload_n 40 dX11_due_39 rfl rfl ?_
        obtain ⟨r10, e10, h⟩ := fBd h
        refine fW_cP (fI_V (as := [iv v3]) (rest := []) miX11_actsAhead hg clX11 rfl tc_418 wd_1569 (fRoom_of rfl) rfl (Nat.le_of_ble_eq_true rfl) dX11_due_40) (s_X11_actsAhead hg gv3 e10) rfl rfl rfl (fun g10 => ?_)
        refine fW_rg (fun hR11 => ?_)
        refine fW_pop 44 dX11_due_43 rfl rfl ?_
        refine fW_aload_n 45 dX11_due_44 rfl rfl ?_
        refine fW_getR 48 (r := 419) 0 hg clX11 (by decide) rfl tc_418 tf_11_0 wd_1174 dX11_due_45 rfl ?_
        refine fW_sipush 51 dX11_due_48 rfl (by decide) ?_
        refine fW_iload_n 52 dX11_due_51 rfl rfl ?_
        refine fW_iadd 53 dX11_due_52 rfl ?_
        obtain ⟨c12, h⟩ := fS h
        refine fW_iald 54 hg tc_419 ⟨c12.1, by rw [show Ln 419 = 7787 from rfl]; exact c12.2⟩ dX11_due_53 rfl ?_
        refine fW_aload_n 55 dX11_due_54 rfl rfl ?_
        refine fW_getR 58 (r := 420) 1 hg clX11 (by decide) rfl tc_418 tf_11_1 wd_1175 dX11_due_55 rfl ?_
        refine fW_sipush 61 dX11_due_58 rfl (by decide) ?_
        refine fW_iload_n 62 dX11_due_61 rfl rfl ?_
        refine fW_iadd 63 dX11_due_62 rfl ?_
        obtain ⟨c13, h⟩ := fS h
        refine fW_iald 64 hg tc_420 ⟨c13.1, by rw [show Ln 420 = 7787 from rfl]; exact c13.2⟩ dX11_due_63 rfl ?_
        refine fW_icmp_le 67 73 (hR11 419 (7720 + v1)) (hR11 420 (7720 + v1)) dX11_due_64 rfl rfl (fun c14 => ?_) (fun c14 => ?_)
        · replace h := fTt h c14
          refine fW_iconst 74 dX11_due_73 rfl ?_
          refine fW_istore_n 75 (ls' := [some (rv G 418), some (iv v1), some (iv ((-1))), some (iv v3)]) dX11_due_74 rfl rfl rfl (by decide) ?_
          refine fW_iinc 78 (ls' := [some (rv G 418), some (iv v1), some (iv ((-1))), some (iv (v3 + 1))]) dX11_due_75 rfl rfl rfl (by decide) ?_
          refine fW_goto 27 dX11_due_78 rfl ?_
          exact fW_sb (ih v1 ((-1)) (v3 + 1) r10.2 gv1 (by decide) (rg_succ' gv3 (by decide) c8) h) ⟨rfl, rfl, rfl, rfl, trivial⟩
        · replace h := fFf h c14
          refine fW_iload_n 68 dX11_due_67 rfl rfl ?_
          refine fW_iconst 69 dX11_due_68 rfl ?_
          refine fW_iadd 70 dX11_due_69 rfl ?_
          refine fW_goto 74 dX11_due_70 rfl ?_
          refine fW_istore_n 75 (ls' := [some (rv G 418), some (iv v1), some (iv (v3 + 1)), some (iv v3)]) dX11_due_74 rfl rfl rfl (by decide) ?_
          refine fW_iinc 78 (ls' := [some (rv G 418), some (iv v1), some (iv (v3 + 1)), some (iv (v3 + 1))]) dX11_due_75 rfl rfl rfl (by decide) ?_
          refine fW_goto 27 dX11_due_78 rfl ?_
          exact fW_sb (ih v1 (v3 + 1) (v3 + 1) r10.2 gv1 (rg_succ' gv3 (by decide) c8) (rg_succ' gv3 (by decide) c8) h) ⟨rfl, rfl, rfl, rfl, trivial⟩
def f_X11_due (a1 : Int) (M : fMem) : Option (Int × fMem) := ((f_X11_isLevel a1 (mset M 418 4 0)).bind fun (r2 : Int) => ((f_X11_right r2 1 (mset M 418 4 0)).bind fun (r3 : Int × fMem) => (if r3.1 = 0 then some (0, r3.2) else ((f_X11_goesAside r3.2).bind fun (r6 : fMem) => L_X11_due_27 (fun (v2_15 : Int) (M_15 : fMem) => ((f_X11_comesBack M_15).bind fun (r16 : fMem) => some (v2_15, r16))) 20000 a1 ((-1)) 0 r6))))
set_option maxRecDepth 100000 in
set_option maxHeartbeats 4000000 in
theorem s_X11_due {G : fG} (hg : gbt G = true) {a1 : Int} (ga1 : rg a1) {M : fMem} {q : Int × fMem} (h : f_X11_due a1 M = some q) : fSp G mX11_due [rv G 418, iv a1] M (rP q.2 q.1) fNo := by
  refine fSp_of (by decide +kernel) (by decide +kernel) (fC1 rfl (fC1 rfl fC0)) (Nat.le_of_ble_eq_true rfl) ?_
  show fW G mX11_due (fEm G mX11_due (rP q.2 q.1) fNo) 0 0 0 [some (rv G 418), some (iv a1), none, none] [] M
  rw [f_X11_due] at h
  refine fW_rg (fun hR => ?_)
  refine fW_aload_n 1 dX11_due_0 rfl rfl ?_
  refine fW_iconst 2 dX11_due_1 rfl ?_
  refine fW_putI 5 4 (ji := 4) hg clX11 rfl (by decide) rfl rfl rfl tc_418 (by decide) wd_1178 dX11_due_2 rfl ?_
  refine fW_rg (fun hR1 => ?_)
  refine fW_aload_n 6 dX11_due_5 rfl rfl ?_
  refine fW_iload_n 7 dX11_due_6 rfl rfl ?_
  obtain ⟨r2, e2, h⟩ := fBd h
  refine fW_cB (fI_S (as := [iv a1]) (rest := [rv G 418]) miX11_isLevel rfl wd_1494 (fRoom_of rfl) rfl (Nat.le_of_ble_eq_true rfl) dX11_due_7) (s_X11_isLevel ga1 e2) rfl rfl rfl (fun g2 => ?_)
  refine fW_iconst 11 dX11_due_10 rfl ?_
  obtain ⟨r3, e3, h⟩ := fBd h
  refine fW_cB (fI_V (as := [iv r2, iv 1]) (rest := []) miX11_right hg clX11 rfl tc_418 wd_1396 (fRoom_of rfl) rfl (Nat.le_of_ble_eq_true rfl) dX11_due_11) (s_X11_right hg g2 (by decide) e3) rfl rfl rfl (fun g3 => ?_)
  refine fW_rg (fun hR4 => ?_)
  refine fW_if_ne 17 19 (rg_z g3) dX11_due_14 rfl rfl (fun c5 => ?_) (fun c5 => ?_)
  · replace h := fFf h c5
    refine fW_aload_n 20 dX11_due_19 rfl rfl ?_
    obtain ⟨r6, e6, h⟩ := fBd h
    refine fW_cV (fI_V (as := []) (rest := []) miX11_goesAside hg clX11 rfl tc_418 wd_1565 (fRoom_of rfl) rfl (Nat.le_of_ble_eq_true rfl) dX11_due_20) (s_X11_goesAside hg e6) rfl rfl rfl ?_
    refine fW_rg (fun hR7 => ?_)
    refine fW_iconst 24 dX11_due_23 rfl ?_
    refine fW_istore_n 25 (ls' := [some (rv G 418), some (iv a1), some (iv ((-1))), none]) dX11_due_24 rfl rfl rfl (by decide) ?_
    refine fW_iconst 26 dX11_due_25 rfl ?_
    refine fW_istore_n 27 (ls' := [some (rv G 418), some (iv a1), some (iv ((-1))), some (iv 0)]) dX11_due_26 rfl rfl rfl (by decide) ?_
    refine fW_sb (l_X11_due_27 hg ?_ 20000 a1 ((-1)) 0 r6 ga1 (by decide) (by decide) h) ⟨rfl, rfl, rfl, rfl, trivial⟩
    intro v2_15 M_15 gv2_15 h
    refine fW_rg (fun hR_15 => ?_)
    refine fW_aload_n 82 dX11_due_81 rfl rfl ?_
    obtain ⟨r16, e16, h⟩ := fBd h
    refine fW_cV (fI_V (as := []) (rest := []) miX11_comesBack hg clX11 rfl tc_418 wd_1573 (fRoom_of rfl) rfl (Nat.le_of_ble_eq_true rfl) dX11_due_82) (s_X11_comesBack hg e16) rfl rfl rfl ?_
    refine fW_rg (fun hR17 => ?_)
    refine fW_iload_n 86 dX11_due_85 rfl rfl ?_
    exact fW_iret rfl (by decide) (by decide) dX11_due_86 (rI_i h gv2_15)
  · replace h := fTt h c5
    refine fW_iconst 18 dX11_due_17 rfl ?_
    exact fW_iret rfl (by decide) (by decide) dX11_due_18 (rI_i h (by decide))
def mX11_freesAll : fMt := (yX11_freesAll, cX11_freesAll, 2, none, { frames := 1, cells := 0, slots := 0, locals := 40 })
theorem miX11_freesAll : fMv mX11_freesAll 0 := ⟨⟨fM 1596 (by decide +kernel) rfl, fM 101 (by decide +kernel) rfl, ⟨by decide +kernel, by decide +kernel⟩, by decide +kernel⟩, fM 1595 (by decide +kernel) rfl, fM 80 (by decide +kernel) rfl⟩
def L_X11_freesAll_2  (k : fMem → Option (fMem)) : Nat → Int → fMem → Option (fMem)
  | 0, _, _ => none
  | n + 1, v1, M => (if 19 ≤ v1 then k  M else ((f_X11_frees v1 M).bind fun (r2 : fMem) => L_X11_freesAll_2  k n (v1 + 1) r2))
set_option maxRecDepth 100000 in
set_option maxHeartbeats 4000000 in
theorem l_X11_freesAll_2 {G : fG} (hg : gbt G = true)  {q : fMem} {k : fMem → Option (fMem)} (hk : ∀ (M : fMem), k M = some q → fW G mX11_freesAll (fEm G mX11_freesAll (rV q) fNo) 0 0 19 [some (rv G 418), none] [] M) : ∀ (n : Nat) (v1 : Int) (M : fMem), rg v1 → L_X11_freesAll_2 k n v1 M = some q → fW G mX11_freesAll (fEm G mX11_freesAll (rV q) fNo) 0 0 2 [some (rv G 418), some (iv v1)] [] M := by
  intro n
  induction n with
  | zero =>
    intro v1 M gv1 h
    rw [L_X11_freesAll_2] at h
    exact absurd h (by simp)
  | succ n ih =>
    intro v1 M gv1 h
    rw [L_X11_freesAll_2] at h
    refine fW_rg (fun hR => ?_)
    refine fW_iload_n 3 dX11_freesAll_2 rfl rfl ?_
    refine fW_bipush 5 dX11_freesAll_3 rfl (by decide) ?_
    refine fW_icmp_ge 8 19 gv1 (by decide) dX11_freesAll_5 rfl rfl (fun c1 => ?_) (fun c1 => ?_)
    · replace h := fTt h c1
      exact fW_sb (hk M h) ⟨rfl, trivial⟩
    · replace h := fFf h c1
      refine fW_aload_n 9 dX11_freesAll_8 rfl rfl ?_
      refine fW_iload_n 10 dX11_freesAll_9 rfl rfl ?_
      obtain ⟨r2, e2, h⟩ := fBd h
      refine fW_cV (fI_V (as := [iv v1]) (rest := []) miX11_frees hg clX11 rfl tc_418 wd_1320 (fRoom_of rfl) rfl (Nat.le_of_ble_eq_true rfl) dX11_freesAll_10) (s_X11_frees hg gv1 e2) rfl rfl rfl ?_
      refine fW_rg (fun hR3 => ?_)
      refine fW_iinc 16 (ls' := [some (rv G 418), some (iv (v1 + 1))]) dX11_freesAll_13 rfl rfl rfl (by decide) ?_
      refine fW_goto 2 dX11_freesAll_16 rfl ?_
      exact fW_sb (ih (v1 + 1) r2 (rg_succ' gv1 (by decide) c1) h) ⟨rfl, rfl, trivial⟩
def L_X11_freesAll_21  (k : fMem → Option (fMem)) : Nat → Int → fMem → Option (fMem)
  | 0, _, _ => none
  | n + 1, v1, M => (if 9 ≤ v1 then k  M else (if 0 ≤ 7657 + v1 ∧ 7657 + v1 < 7787 then L_X11_freesAll_21  k n (v1 + 1) (mset M 419 (7657 + v1) 0) else none))
set_option maxRecDepth 100000 in
set_option maxHeartbeats 4000000 in
theorem l_X11_freesAll_21 {G : fG} (hg : gbt G = true)  {q : fMem} {k : fMem → Option (fMem)} (hk : ∀ (M : fMem), k M = some q → fW G mX11_freesAll (fEm G mX11_freesAll (rV q) fNo) 0 0 44 [some (rv G 418), none] [] M) : ∀ (n : Nat) (v1 : Int) (M : fMem), rg v1 → L_X11_freesAll_21 k n v1 M = some q → fW G mX11_freesAll (fEm G mX11_freesAll (rV q) fNo) 0 0 21 [some (rv G 418), some (iv v1)] [] M := by
  intro n
  induction n with
  | zero =>
    intro v1 M gv1 h
    rw [L_X11_freesAll_21] at h
    exact absurd h (by simp)
  | succ n ih =>
    intro v1 M gv1 h
    rw [L_X11_freesAll_21] at h
    refine fW_rg (fun hR => ?_)
    refine fW_iload_n 22 dX11_freesAll_21 rfl rfl ?_
    refine fW_bipush 24 dX11_freesAll_22 rfl (by decide) ?_
    refine fW_icmp_ge 27 44 gv1 (by decide) dX11_freesAll_24 rfl rfl (fun c5 => ?_) (fun c5 => ?_)
    · replace h := fTt h c5
      exact fW_sb (hk M h) ⟨rfl, trivial⟩
    · replace h := fFf h c5
      refine fW_aload_n 28 dX11_freesAll_27 rfl rfl ?_
      refine fW_getR 31 (r := 419) 0 hg clX11 (by decide) rfl tc_418 tf_11_0 wd_1174 dX11_freesAll_28 rfl ?_
      refine fW_sipush 34 dX11_freesAll_31 rfl (by decide) ?_
      refine fW_iload_n 35 dX11_freesAll_34 rfl rfl ?_
      refine fW_iadd 36 dX11_freesAll_35 rfl ?_
      refine fW_iconst 37 dX11_freesAll_36 rfl ?_
      obtain ⟨c6, h⟩ := fS h
      refine fW_iast 38 hg tc_419 ⟨c6.1, by rw [show Ln 419 = 7787 from rfl]; exact c6.2⟩ (by decide) dX11_freesAll_37 rfl ?_
      refine fW_rg (fun hR7 => ?_)
      refine fW_iinc 41 (ls' := [some (rv G 418), some (iv (v1 + 1))]) dX11_freesAll_38 rfl rfl rfl (by decide) ?_
      refine fW_goto 21 dX11_freesAll_41 rfl ?_
      exact fW_sb (ih (v1 + 1) (mset M 419 (7657 + v1) 0) (rg_succ' gv1 (by decide) c5) h) ⟨rfl, rfl, trivial⟩
def f_X11_freesAll  (M : fMem) : Option (fMem) := L_X11_freesAll_2 (fun  (M_4 : fMem) => L_X11_freesAll_21 (fun  (M_8 : fMem) => some M_8) 20000 0 M_4) 20000 0 M
set_option maxRecDepth 100000 in
set_option maxHeartbeats 4000000 in
theorem s_X11_freesAll {G : fG} (hg : gbt G = true)  {M : fMem} {q : fMem} (h : f_X11_freesAll M = some q) : fSp G mX11_freesAll [rv G 418] M (rV q) fNo := by
  refine fSp_of (by decide +kernel) (by decide +kernel) (fC1 rfl fC0) (Nat.le_of_ble_eq_true rfl) ?_
  show fW G mX11_freesAll (fEm G mX11_freesAll (rV q) fNo) 0 0 0 [some (rv G 418), none] [] M
  rw [f_X11_freesAll] at h
  refine fW_rg (fun hR => ?_)
  refine fW_iconst 1 dX11_freesAll_0 rfl ?_
  refine fW_istore_n 2 (ls' := [some (rv G 418), some (iv 0)]) dX11_freesAll_1 rfl rfl rfl (by decide) ?_
  refine fW_sb (l_X11_freesAll_2 hg ?_ 20000 0 M (by decide) h) ⟨rfl, rfl, trivial⟩
  intro M_4 h
  refine fW_rg (fun hR_4 => ?_)
  refine fW_iconst 20 dX11_freesAll_19 rfl ?_
  refine fW_istore_n 21 (ls' := [some (rv G 418), some (iv 0)]) dX11_freesAll_20 rfl rfl rfl (by decide) ?_
  refine fW_sb (l_X11_freesAll_21 hg ?_ 20000 0 M_4 (by decide) h) ⟨rfl, rfl, trivial⟩
  intro M_8 h
  refine fW_rg (fun hR_8 => ?_)
  exact fW_vret rfl (by decide) (by decide) dX11_freesAll_44 (rV_i h)
def mX11_pack : fMt := (yX11_pack, cX11_pack, 5, some .int, { frames := 5, cells := 0, slots := 0, locals := 200 })
theorem miX11_pack : fMv mX11_pack 0 := ⟨⟨fM 1592 (by decide +kernel) rfl, fM 101 (by decide +kernel) rfl, ⟨by decide +kernel, by decide +kernel⟩, by decide +kernel⟩, fM 1590 (by decide +kernel) rfl, fM 1591 (by decide +kernel) rfl⟩
def L_X11_pack_22  (k : Int → Int → fMem → Option (Int × fMem)) : Nat → Int → Int → fMem → Option (Int × fMem)
  | 0, _, _, _ => none
  | n + 1, v1, v2, M => (if 0 ≤ v2 ∧ v2 < 32 then (if -2147483648 ≤ (1 : Int) * 2 ^ v2.toNat ∧ (1 : Int) * 2 ^ v2.toNat < 2147483648 then (if v1 ≤ ((1 : Int) * 2 ^ v2.toNat) then k v1 v2 M else (if -2147483648 ≤ v2 + 1 ∧ v2 + 1 < 2147483648 then L_X11_pack_22  k n v1 (v2 + 1) M else none)) else none) else none)
set_option maxRecDepth 100000 in
set_option maxHeartbeats 4000000 in
theorem l_X11_pack_22 {G : fG} (hg : gbt G = true)  {q : Int × fMem} {k : Int → Int → fMem → Option (Int × fMem)} (hk : ∀ (v1 : Int) (v2 : Int) (M : fMem), rg v1 → rg v2 → k v1 v2 M = some q → fW G mX11_pack (fEm G mX11_pack (rP q.2 q.1) fNo) 0 0 35 [some (rv G 418), some (iv v1), some (iv v2), none, none] [] M) : ∀ (n : Nat) (v1 : Int) (v2 : Int) (M : fMem), rg v1 → rg v2 → L_X11_pack_22 k n v1 v2 M = some q → fW G mX11_pack (fEm G mX11_pack (rP q.2 q.1) fNo) 0 0 22 [some (rv G 418), some (iv v1), some (iv v2), none, none] [] M := by
  intro n
  induction n with
  | zero =>
    intro v1 v2 M gv1 gv2 h
    rw [L_X11_pack_22] at h
    exact absurd h (by simp)
  | succ n ih =>
    intro v1 v2 M gv1 gv2 h
    rw [L_X11_pack_22] at h
    refine fW_rg (fun hR => ?_)
    refine fW_iconst 23 dX11_pack_22 rfl ?_
    refine fW_iload_n 24 dX11_pack_23 rfl rfl ?_
    obtain ⟨c7, h⟩ := fS h
    refine fW_ishl 25 c7 dX11_pack_24 rfl ?_
    refine fW_iload_n 26 dX11_pack_25 rfl rfl ?_
    obtain ⟨c8, h⟩ := fS h
    refine fW_icmp_ge 29 35 c8 gv1 dX11_pack_26 rfl rfl (fun c9 => ?_) (fun c9 => ?_)
    · replace h := fTt h c9
      exact fW_sb (hk v1 v2 M gv1 gv2 h) ⟨rfl, rfl, rfl, trivial⟩
    · replace h := fFf h c9
      refine fW_iinc 32 (ls' := [some (rv G 418), some (iv v1), some (iv (v2 + 1)), none, none]) dX11_pack_29 rfl rfl rfl (by decide) ?_
      refine fW_goto 22 dX11_pack_32 rfl ?_
      obtain ⟨c10, h⟩ := fS h
      exact fW_sb (ih v1 (v2 + 1) M gv1 c10 h) ⟨rfl, rfl, rfl, trivial⟩
def L_X11_pack_44  (k : Int → Int → fMem → Option (Int × fMem)) : Nat → Int → Int → Int → fMem → Option (Int × fMem)
  | 0, _, _, _, _ => none
  | n + 1, v1, v3, v4, M => (if 200 ≤ v4 then k v1 v3 M else (if 0 ≤ v4 ∧ v4 < 200 then (if (M 422 v4) = ((-1)) then L_X11_pack_44  k n v1 v3 (v4 + 1) M else (if 0 ≤ 7600 + v3 ∧ 7600 + v3 < 7787 then (if 0 ≤ (200 * v3) + (M 419 (7600 + v3)) ∧ (200 * v3) + (M 419 (7600 + v3)) < 7787 then (if 0 ≤ 7600 + v3 ∧ 7600 + v3 < 7787 then (if 0 ≤ v4 ∧ v4 < 200 then (if 0 ≤ (3800 + (200 * v3)) + ((mset M 419 ((200 * v3) + (M 419 (7600 + v3))) v4) 419 (7600 + v3)) ∧ (3800 + (200 * v3)) + ((mset M 419 ((200 * v3) + (M 419 (7600 + v3))) v4) 419 (7600 + v3)) < 7787 then (if 0 ≤ 7600 + v3 ∧ 7600 + v3 < 7787 then (if 0 ≤ 7600 + v3 ∧ 7600 + v3 < 7787 then (if -2147483648 ≤ ((mset (mset M 419 ((200 * v3) + (M 419 (7600 + v3))) v4) 419 ((3800 + (200 * v3)) + ((mset M 419 ((200 * v3) + (M 419 (7600 + v3))) v4) 419 (7600 + v3))) ((mset M 419 ((200 * v3) + (M 419 (7600 + v3))) v4) 422 v4)) 419 (7600 + v3)) + 1 ∧ ((mset (mset M 419 ((200 * v3) + (M 419 (7600 + v3))) v4) 419 ((3800 + (200 * v3)) + ((mset M 419 ((200 * v3) + (M 419 (7600 + v3))) v4) 419 (7600 + v3))) ((mset M 419 ((200 * v3) + (M 419 (7600 + v3))) v4) 422 v4)) 419 (7600 + v3)) + 1 < 2147483648 then L_X11_pack_44  k n v1 v3 (v4 + 1) (mset (mset (mset M 419 ((200 * v3) + (M 419 (7600 + v3))) v4) 419 ((3800 + (200 * v3)) + ((mset M 419 ((200 * v3) + (M 419 (7600 + v3))) v4) 419 (7600 + v3))) ((mset M 419 ((200 * v3) + (M 419 (7600 + v3))) v4) 422 v4)) 419 (7600 + v3) (((mset (mset M 419 ((200 * v3) + (M 419 (7600 + v3))) v4) 419 ((3800 + (200 * v3)) + ((mset M 419 ((200 * v3) + (M 419 (7600 + v3))) v4) 419 (7600 + v3))) ((mset M 419 ((200 * v3) + (M 419 (7600 + v3))) v4) 422 v4)) 419 (7600 + v3)) + 1)) else none) else none) else none) else none) else none) else none) else none) else none)) else none))
set_option maxRecDepth 100000 in
set_option maxHeartbeats 4000000 in
theorem l_X11_pack_44 {G : fG} (hg : gbt G = true)  {q : Int × fMem} {k : Int → Int → fMem → Option (Int × fMem)} (hk : ∀ (v1 : Int) (v3 : Int) (M : fMem), rg v1 → rg v3 → k v1 v3 M = some q → fW G mX11_pack (fEm G mX11_pack (rP q.2 q.1) fNo) 0 0 138 [some (rv G 418), some (iv v1), none, some (iv v3), none] [] M) : ∀ (n : Nat) (v1 : Int) (v3 : Int) (v4 : Int) (M : fMem), rg v1 → rg v3 → rg v4 → L_X11_pack_44 k n v1 v3 v4 M = some q → fW G mX11_pack (fEm G mX11_pack (rP q.2 q.1) fNo) 0 0 44 [some (rv G 418), some (iv v1), none, some (iv v3), some (iv v4)] [] M := by
  intro n
  induction n with
  | zero =>
    intro v1 v3 v4 M gv1 gv3 gv4 h
    rw [L_X11_pack_44] at h
    exact absurd h (by simp)
  | succ n ih =>
    intro v1 v3 v4 M gv1 gv3 gv4 h
    rw [L_X11_pack_44] at h
    refine fW_rg (fun hR => ?_)
    refine fW_iload 46 dX11_pack_44 rfl rfl ?_
    refine fW_sipush 49 dX11_pack_46 rfl (by decide) ?_
    refine fW_icmp_ge 52 138 gv4 (by decide) dX11_pack_49 rfl rfl (fun c13 => ?_) (fun c13 => ?_)
    · replace h := fTt h c13
      exact fW_sb (hk v1 v3 M gv1 gv3 h) ⟨rfl, rfl, rfl, trivial⟩
    · replace h := fFf h c13
      refine fW_aload_n 53 dX11_pack_52 rfl rfl ?_
      refine fW_getR 56 (r := 422) 5 hg clX11 (by decide) rfl tc_418 tf_11_5 wd_1179 dX11_pack_53 rfl ?_
      refine fW_iload 58 dX11_pack_56 rfl rfl ?_
      obtain ⟨c14, h⟩ := fS h
      refine fW_iald 59 hg tc_422 ⟨c14.1, by rw [show Ln 422 = 200 from rfl]; exact c14.2⟩ dX11_pack_58 rfl ?_
      refine fW_iconst 60 dX11_pack_59 rfl ?_
      refine fW_icmp_eq 63 132 (hR 422 v4) (by decide) dX11_pack_60 rfl rfl (fun c15 => ?_) (fun c15 => ?_)
      · replace h := fTt h c15
        refine fW_iinc 135 (ls' := [some (rv G 418), some (iv v1), none, some (iv v3), some (iv (v4 + 1))]) dX11_pack_132 rfl rfl rfl (by decide) ?_
        refine fW_goto 44 dX11_pack_135 rfl ?_
        exact fW_sb (ih v1 v3 (v4 + 1) M gv1 gv3 (rg_succ' gv4 (by decide) c13) h) ⟨rfl, rfl, rfl, rfl, trivial⟩
      · replace h := fFf h c15
        refine fW_aload_n 64 dX11_pack_63 rfl rfl ?_
        refine fW_getR 67 (r := 419) 0 hg clX11 (by decide) rfl tc_418 tf_11_0 wd_1174 dX11_pack_64 rfl ?_
        refine fW_sipush 70 dX11_pack_67 rfl (by decide) ?_
        refine fW_iload_n 71 dX11_pack_70 rfl rfl ?_
        refine fW_imul 72 dX11_pack_71 rfl ?_
        refine fW_aload_n 73 dX11_pack_72 rfl rfl ?_
        refine fW_getR 76 (r := 419) 0 hg clX11 (by decide) rfl tc_418 tf_11_0 wd_1174 dX11_pack_73 rfl ?_
        refine fW_sipush 79 dX11_pack_76 rfl (by decide) ?_
        refine fW_iload_n 80 dX11_pack_79 rfl rfl ?_
        refine fW_iadd 81 dX11_pack_80 rfl ?_
        obtain ⟨c16, h⟩ := fS h
        refine fW_iald 82 hg tc_419 ⟨c16.1, by rw [show Ln 419 = 7787 from rfl]; exact c16.2⟩ dX11_pack_81 rfl ?_
        refine fW_iadd 83 dX11_pack_82 rfl ?_
        refine fW_iload 85 dX11_pack_83 rfl rfl ?_
        obtain ⟨c17, h⟩ := fS h
        refine fW_iast 86 hg tc_419 ⟨c17.1, by rw [show Ln 419 = 7787 from rfl]; exact c17.2⟩ gv4 dX11_pack_85 rfl ?_
        refine fW_rg (fun hR18 => ?_)
        refine fW_aload_n 87 dX11_pack_86 rfl rfl ?_
        refine fW_getR 90 (r := 419) 0 hg clX11 (by decide) rfl tc_418 tf_11_0 wd_1174 dX11_pack_87 rfl ?_
        refine fW_sipush 93 dX11_pack_90 rfl (by decide) ?_
        refine fW_sipush 96 dX11_pack_93 rfl (by decide) ?_
        refine fW_iload_n 97 dX11_pack_96 rfl rfl ?_
        refine fW_imul 98 dX11_pack_97 rfl ?_
        refine fW_iadd 99 dX11_pack_98 rfl ?_
        refine fW_aload_n 100 dX11_pack_99 rfl rfl ?_
        refine fW_getR 103 (r := 419) 0 hg clX11 (by decide) rfl tc_418 tf_11_0 wd_1174 dX11_pack_100 rfl ?_
        refine fW_sipush 106 dX11_pack_103 rfl (by decide) ?_
        refine fW_iload_n 107 dX11_pack_106 rfl rfl ?_
        refine fW_iadd 108 dX11_pack_107 rfl ?_
        obtain ⟨c19, h⟩ := fS h
        refine fW_iald 109 hg tc_419 ⟨c19.1, by rw [show Ln 419 = 7787 from rfl]; exact c19.2⟩ dX11_pack_108 rfl ?_
        refine fW_iadd 110 dX11_pack_109 rfl ?_
        refine fW_aload_n 111 dX11_pack_110 rfl rfl ?_
        refine fW_getR 114 (r := 422) 5 hg clX11 (by decide) rfl tc_418 tf_11_5 wd_1179 dX11_pack_111 rfl ?_
        refine fW_iload 116 dX11_pack_114 rfl rfl ?_
        obtain ⟨c20, h⟩ := fS h
        refine fW_iald 117 hg tc_422 ⟨c20.1, by rw [show Ln 422 = 200 from rfl]; exact c20.2⟩ dX11_pack_116 rfl ?_
        obtain ⟨c21, h⟩ := fS h
        refine fW_iast 118 hg tc_419 ⟨c21.1, by rw [show Ln 419 = 7787 from rfl]; exact c21.2⟩ (hR18 422 v4) dX11_pack_117 rfl ?_
        refine fW_rg (fun hR22 => ?_)
        refine fW_aload_n 119 dX11_pack_118 rfl rfl ?_
        refine fW_getR 122 (r := 419) 0 hg clX11 (by decide) rfl tc_418 tf_11_0 wd_1174 dX11_pack_119 rfl ?_
        refine fW_sipush 125 dX11_pack_122 rfl (by decide) ?_
        refine fW_iload_n 126 dX11_pack_125 rfl rfl ?_
        refine fW_iadd 127 dX11_pack_126 rfl ?_
        refine fW_dup2 128 dX11_pack_127 rfl rfl rfl ?_
        obtain ⟨c23, h⟩ := fS h
        refine fW_iald 129 hg tc_419 ⟨c23.1, by rw [show Ln 419 = 7787 from rfl]; exact c23.2⟩ dX11_pack_128 rfl ?_
        refine fW_iconst 130 dX11_pack_129 rfl ?_
        refine fW_iadd 131 dX11_pack_130 rfl ?_
        obtain ⟨c24, h⟩ := fS h
        obtain ⟨c25, h⟩ := fS h
        refine fW_iast 132 hg tc_419 ⟨c24.1, by rw [show Ln 419 = 7787 from rfl]; exact c24.2⟩ c25 dX11_pack_131 rfl ?_
        refine fW_rg (fun hR26 => ?_)
        refine fW_iinc 135 (ls' := [some (rv G 418), some (iv v1), none, some (iv v3), some (iv (v4 + 1))]) dX11_pack_132 rfl rfl rfl (by decide) ?_
        refine fW_goto 44 dX11_pack_135 rfl ?_
        exact fW_sb (ih v1 v3 (v4 + 1) (mset (mset (mset M 419 ((200 * v3) + (M 419 (7600 + v3))) v4) 419 ((3800 + (200 * v3)) + ((mset M 419 ((200 * v3) + (M 419 (7600 + v3))) v4) 419 (7600 + v3))) ((mset M 419 ((200 * v3) + (M 419 (7600 + v3))) v4) 422 v4)) 419 (7600 + v3) (((mset (mset M 419 ((200 * v3) + (M 419 (7600 + v3))) v4) 419 ((3800 + (200 * v3)) + ((mset M 419 ((200 * v3) + (M 419 (7600 + v3))) v4) 419 (7600 + v3))) ((mset M 419 ((200 * v3) + (M 419 (7600 + v3))) v4) 422 v4)) 419 (7600 + v3)) + 1)) gv1 gv3 (rg_succ' gv4 (by decide) c13) h) ⟨rfl, rfl, rfl, rfl, trivial⟩
def f_X11_pack  (M : fMem) : Option (Int × fMem) := ((f_X11_thereMany (mset M 418 4 0)).bind fun (r2 : Int × fMem) => ((f_X11_freesAll r2.2).bind fun (r4 : fMem) => (if r2.1 = 0 then some (0, r4) else L_X11_pack_22 (fun (v1_11 : Int) (v2_11 : Int) (M_11 : fMem) => ((f_X11_rowAt v2_11 0 M_11).bind fun (r12 : Int) => L_X11_pack_44 (fun (v1_27 : Int) (v3_27 : Int) (M_27 : fMem) => ((f_X11_shuts v3_27 M_27).bind fun (r28 : fMem) => some (v1_27, r28))) 20000 v1_11 r12 0 M_11)) 20000 r2.1 0 r4)))
set_option maxRecDepth 100000 in
set_option maxHeartbeats 4000000 in
theorem s_X11_pack {G : fG} (hg : gbt G = true)  {M : fMem} {q : Int × fMem} (h : f_X11_pack M = some q) : fSp G mX11_pack [rv G 418] M (rP q.2 q.1) fNo := by
  refine fSp_of (by decide +kernel) (by decide +kernel) (fC1 rfl fC0) (Nat.le_of_ble_eq_true rfl) ?_
  show fW G mX11_pack (fEm G mX11_pack (rP q.2 q.1) fNo) 0 0 0 [some (rv G 418), none, none, none, none] [] M
  rw [f_X11_pack] at h
  refine fW_rg (fun hR => ?_)
  refine fW_aload_n 1 dX11_pack_0 rfl rfl ?_
  refine fW_iconst 2 dX11_pack_1 rfl ?_
  refine fW_putI 5 4 (ji := 4) hg clX11 rfl (by decide) rfl rfl rfl tc_418 (by decide) wd_1178 dX11_pack_2 rfl ?_
  refine fW_rg (fun hR1 => ?_)
  refine fW_aload_n 6 dX11_pack_5 rfl rfl ?_
  obtain ⟨r2, e2, h⟩ := fBd h
  refine fW_cP (fI_V (as := []) (rest := []) miX11_thereMany hg clX11 rfl tc_418 wd_1419 (fRoom_of rfl) rfl (Nat.le_of_ble_eq_true rfl) dX11_pack_6) (s_X11_thereMany hg e2) rfl rfl rfl (fun g2 => ?_)
  refine fW_rg (fun hR3 => ?_)
  refine fW_istore_n 10 (ls' := [some (rv G 418), some (iv r2.1), none, none, none]) dX11_pack_9 rfl rfl rfl (by decide) ?_
  refine fW_aload_n 11 dX11_pack_10 rfl rfl ?_
  obtain ⟨r4, e4, h⟩ := fBd h
  refine fW_cV (fI_V (as := []) (rest := []) miX11_freesAll hg clX11 rfl tc_418 wd_1593 (fRoom_of rfl) rfl (Nat.le_of_ble_eq_true rfl) dX11_pack_11) (s_X11_freesAll hg e4) rfl rfl rfl ?_
  refine fW_rg (fun hR5 => ?_)
  refine fW_iload_n 15 dX11_pack_14 rfl rfl ?_
  refine fW_if_ne 18 20 g2 dX11_pack_15 rfl rfl (fun c6 => ?_) (fun c6 => ?_)
  · replace h := fFf h c6
    refine fW_iconst 21 dX11_pack_20 rfl ?_
    refine fW_istore_n 22 (ls' := [some (rv G 418), some (iv r2.1), some (iv 0), none, none]) dX11_pack_21 rfl rfl rfl (by decide) ?_
    refine fW_sb (l_X11_pack_22 hg ?_ 20000 r2.1 0 r4 g2 (by decide) h) ⟨rfl, rfl, rfl, trivial⟩
    intro v1_11 v2_11 M_11 gv1_11 gv2_11 h
    refine fW_rg (fun hR_11 => ?_)
    refine fW_iload_n 36 dX11_pack_35 rfl rfl ?_
    refine fW_iconst 37 dX11_pack_36 rfl ?_
    obtain ⟨r12, e12, h⟩ := fBd h
    refine fW_cP (fI_S (as := [iv v2_11, iv 0]) (rest := []) miX11_rowAt rfl wd_1289 (fRoom_of rfl) rfl (Nat.le_of_ble_eq_true rfl) dX11_pack_37) (s_X11_rowAt gv2_11 (by decide) e12) rfl rfl rfl (fun g12 => ?_)
    refine fW_istore_n 41 (ls' := [some (rv G 418), some (iv v1_11), some (iv v2_11), some (iv r12), none]) dX11_pack_40 rfl rfl rfl (by decide) ?_
    refine fW_iconst 42 dX11_pack_41 rfl ?_
    refine fW_istore 44 (ls' := [some (rv G 418), some (iv v1_11), some (iv v2_11), some (iv r12), some (iv 0)]) dX11_pack_42 rfl rfl (by decide) ?_
    refine fW_sb (l_X11_pack_44 hg ?_ 20000 v1_11 r12 0 M_11 gv1_11 g12 (by decide) h) ⟨rfl, rfl, rfl, rfl, trivial⟩
    intro v1_27 v3_27 M_27 gv1_27 gv3_27 h
    refine fW_rg (fun hR_27 => ?_)
    refine fW_aload_n 139 dX11_pack_138 rfl rfl ?_
    refine fW_iload_n 140 dX11_pack_139 rfl rfl ?_
    obtain ⟨r28, e28, h⟩ := fBd h
    refine fW_cV (fI_V (as := [iv v3_27]) (rest := []) miX11_shuts hg clX11 rfl tc_418 wd_1324 (fRoom_of rfl) rfl (Nat.le_of_ble_eq_true rfl) dX11_pack_140) (s_X11_shuts hg gv3_27 e28) rfl rfl rfl ?_
    refine fW_rg (fun hR29 => ?_)
    refine fW_iload_n 144 dX11_pack_143 rfl rfl ?_
    exact fW_iret rfl (by decide) (by decide) dX11_pack_144 (rI_i h gv1_27)
  · replace h := fTt h c6
    refine fW_iconst 19 dX11_pack_18 rfl ?_
    exact fW_iret rfl (by decide) (by decide) dX11_pack_19 (rI_i h (by decide))
def mX11_viewAt : fMt := (yX11_viewAt, cX11_viewAt, 1, some .int, { frames := 0, cells := 0, slots := 0, locals := 0 })
theorem miX11_viewAt : fMs mX11_viewAt 1 := ⟨⟨fM 1607 (by decide +kernel) rfl, fM 101 (by decide +kernel) rfl, ⟨by decide +kernel, by decide +kernel⟩, by decide +kernel⟩, fM 1606 (by decide +kernel) rfl⟩
def f_X11_viewAt (a1 : Int) (M : fMem) : Option (Int) := (if -2147483648 ≤ 7657 * a1 ∧ 7657 * a1 < 2147483648 then some (7657 * a1) else none)
set_option maxRecDepth 100000 in
set_option maxHeartbeats 4000000 in
theorem s_X11_viewAt {G : fG}  {a1 : Int} (ga1 : rg a1) {M : fMem} {q : Int} (h : f_X11_viewAt a1 M = some q) : fSp G mX11_viewAt [iv a1] M (rP M q) fNo := by
  refine fSp_of (by decide +kernel) (by decide +kernel) (fC1 rfl fC0) (Nat.le_of_ble_eq_true rfl) ?_
  show fW G mX11_viewAt (fEm G mX11_viewAt (rP M q) fNo) 0 0 0 [some (iv a1)] [] M
  rw [f_X11_viewAt] at h
  refine fW_rg (fun hR => ?_)
  refine fW_sipush 3 dX11_viewAt_0 rfl (by decide) ?_
  refine fW_iload_n 4 dX11_viewAt_3 rfl rfl ?_
  refine fW_imul 5 dX11_viewAt_4 rfl ?_
  obtain ⟨c1, h⟩ := fS h
  exact fW_iret rfl (by decide) (by decide) dX11_viewAt_5 (rP_i h c1)
def mX11_isView : fMt := (yX11_isView, cX11_isView, 2, some .boolean, { frames := 1, cells := 0, slots := 0, locals := 40 })
theorem miX11_isView : fMv mX11_isView 1 := ⟨⟨fM 1604 (by decide +kernel) rfl, fM 101 (by decide +kernel) rfl, ⟨by decide +kernel, by decide +kernel⟩, by decide +kernel⟩, fM 1603 (by decide +kernel) rfl, fM 81 (by decide +kernel) rfl⟩
def f_X11_isView (a1 : Int) (M : fMem) : Option (Int) := ((f_X11_isIn a1 0 2 M).bind fun (r1 : Int) => some r1)
set_option maxRecDepth 100000 in
set_option maxHeartbeats 4000000 in
theorem s_X11_isView {G : fG}  {a1 : Int} (ga1 : rg a1) {M : fMem} {q : Int} (h : f_X11_isView a1 M = some q) : fSp G mX11_isView [rv G 418, iv a1] M (rB M q) fNo := by
  refine fSp_of (by decide +kernel) (by decide +kernel) (fC1 rfl (fC1 rfl fC0)) (Nat.le_of_ble_eq_true rfl) ?_
  show fW G mX11_isView (fEm G mX11_isView (rB M q) fNo) 0 0 0 [some (rv G 418), some (iv a1)] [] M
  rw [f_X11_isView] at h
  refine fW_rg (fun hR => ?_)
  refine fW_iload_n 1 dX11_isView_0 rfl rfl ?_
  refine fW_iconst 2 dX11_isView_1 rfl ?_
  refine fW_iconst 3 dX11_isView_2 rfl ?_
  obtain ⟨r1, e1, h⟩ := fBd h
  refine fW_cB (fI_S (as := [iv a1, iv 0, iv 2]) (rest := []) miX11_isIn rfl wd_1272 (fRoom_of rfl) rfl (Nat.le_of_ble_eq_true rfl) dX11_isView_3) (s_X11_isIn ga1 (by decide) (by decide) e1) rfl rfl rfl (fun g1 => ?_)
  exact fW_zret rfl g1 (by decide) (by decide) dX11_isView_6 (rB_i h g1)
end MTH
