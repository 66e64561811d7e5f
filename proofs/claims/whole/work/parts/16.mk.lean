section MTH
def mX11_signsIn : fMt := (yX11_signsIn, cX11_signsIn, 4, some .int, { frames := 1, cells := 0, slots := 0, locals := 40 })
theorem miX11_signsIn : fMv mX11_signsIn 1 := ⟨⟨fM 1524 (by decide +kernel) rfl, fM 101 (by decide +kernel) rfl, ⟨by decide +kernel, by decide +kernel⟩, by decide +kernel⟩, fM 1523 (by decide +kernel) rfl, fM 70 (by decide +kernel) rfl⟩
def L_X11_signsIn_4  (M : fMem) (k : Int → Option (Int)) : Nat → Int → Int → Int → Option (Int)
  | 0, _, _, _ => none
  | n + 1, v1, v2, v3 => (if 0 ≤ 7600 + v1 ∧ 7600 + v1 < 7787 then (if (M 419 (7600 + v1)) ≤ v3 then k v2 else ((f_X11_valueAt v1 v3 M).bind fun (r3 : Int) => (if r3 = ((-1)) then (if -2147483648 ≤ v2 + 1 ∧ v2 + 1 < 2147483648 then L_X11_signsIn_4 M k n v1 (v2 + 1) (v3 + 1) else none) else (if -2147483648 ≤ v2 + 0 ∧ v2 + 0 < 2147483648 then L_X11_signsIn_4 M k n v1 (v2 + 0) (v3 + 1) else none)))) else none)
set_option maxRecDepth 100000 in
set_option maxHeartbeats 4000000 in
theorem l_X11_signsIn_4 {G : fG} (hg : gbt G = true)  {M : fMem} {q : Int} {k : Int → Option (Int)} (hk : ∀ (v2 : Int), rg v2 → k v2 = some q → fW G mX11_signsIn (fEm G mX11_signsIn (rP M q) fNo) 0 0 42 [some (rv G 418), none, some (iv v2), none] [] M) : ∀ (n : Nat) (v1 : Int) (v2 : Int) (v3 : Int), rg v1 → rg v2 → rg v3 → L_X11_signsIn_4 M k n v1 v2 v3 = some q → fW G mX11_signsIn (fEm G mX11_signsIn (rP M q) fNo) 0 0 4 [some (rv G 418), some (iv v1), some (iv v2), some (iv v3)] [] M := by
  intro n
  induction n with
  | zero =>
    intro v1 v2 v3 gv1 gv2 gv3 h
    rw [L_X11_signsIn_4] at h
    exact absurd h (by simp)
  | succ n ih =>
    intro v1 v2 v3 gv1 gv2 gv3 h
    rw [L_X11_signsIn_4] at h
    refine fW_rg (fun hR => ?_)
    refine fW_iload_n 5 dX11_signsIn_4 rfl rfl ?_
    refine fW_aload_n 6 dX11_signsIn_5 rfl rfl ?_
    refine fW_getR 9 (r := 419) 0 hg clX11 (by decide) rfl tc_418 tf_11_0 wd_1174 dX11_signsIn_6 rfl ?_
    refine fW_sipush 12 dX11_signsIn_9 rfl (by decide) ?_
    refine fW_iload_n 13 dX11_signsIn_12 rfl rfl ?_
    refine fW_iadd 14 dX11_signsIn_13 rfl ?_
    obtain ⟨c1, h⟩ := fS h
    refine fW_iald 15 hg tc_419 ⟨c1.1, by rw [show Ln 419 = 7787 from rfl]; exact c1.2⟩ dX11_signsIn_14 rfl ?_
    refine fW_icmp_ge 18 42 gv3 (hR 419 (7600 + v1)) dX11_signsIn_15 rfl rfl (fun c2 => ?_) (fun c2 => ?_)
    · replace h := fTt h c2
      exact fW_sb (hk v2 gv2 h) ⟨rfl, rfl, trivial⟩
    · replace h := fFf h c2
      refine fW_iload_n 19 dX11_signsIn_18 rfl rfl ?_
      refine fW_aload_n 20 dX11_signsIn_19 rfl rfl ?_
      refine fW_iload_n 21 dX11_signsIn_20 rfl rfl ?_
      refine fW_iload_n 22 dX11_signsIn_21 rfl rfl ?_
      obtain ⟨r3, e3, h⟩ := fBd h
      refine fW_cP (fI_V (as := [iv v1, iv v3]) (rest := [iv v2]) miX11_valueAt hg clX11 rfl tc_418 wd_1308 (fRoom_of rfl) rfl (Nat.le_of_ble_eq_true rfl) dX11_signsIn_22) (s_X11_valueAt hg gv1 gv3 e3) rfl rfl rfl (fun g3 => ?_)
      refine fW_iconst 26 dX11_signsIn_25 rfl ?_
      refine fW_icmp_ne 29 33 g3 (by decide) dX11_signsIn_26 rfl rfl (fun c4 => ?_) (fun c4 => ?_)
      · replace h := fFf h c4
        refine fW_iconst 34 dX11_signsIn_33 rfl ?_
        refine fW_iadd 35 dX11_signsIn_34 rfl ?_
        refine fW_istore_n 36 (ls' := [some (rv G 418), some (iv v1), some (iv (v2 + 0)), some (iv v3)]) dX11_signsIn_35 rfl rfl rfl (by decide) ?_
        refine fW_iinc 39 (ls' := [some (rv G 418), some (iv v1), some (iv (v2 + 0)), some (iv (v3 + 1))]) dX11_signsIn_36 rfl rfl rfl (by decide) ?_
        refine fW_goto 4 dX11_signsIn_39 rfl ?_
        obtain ⟨c5, h⟩ := fS h
        exact fW_sb (ih v1 (v2 + 0) (v3 + 1) gv1 c5 (rg_succ' gv3 (hR 419 (7600 + v1)) c2) h) ⟨rfl, rfl, rfl, rfl, trivial⟩
      · replace h := fTt h c4
        refine fW_iconst 30 dX11_signsIn_29 rfl ?_
        refine fW_goto 34 dX11_signsIn_30 rfl ?_
        refine fW_iadd 35 dX11_signsIn_34 rfl ?_
        refine fW_istore_n 36 (ls' := [some (rv G 418), some (iv v1), some (iv (v2 + 1)), some (iv v3)]) dX11_signsIn_35 rfl rfl rfl (by decide) ?_
        refine fW_iinc 39 (ls' := [some (rv G 418), some (iv v1), some (iv (v2 + 1)), some (iv (v3 + 1))]) dX11_signsIn_36 rfl rfl rfl (by decide) ?_
        refine fW_goto 4 dX11_signsIn_39 rfl ?_
        obtain ⟨c6, h⟩ := fS h
        exact fW_sb (ih v1 (v2 + 1) (v3 + 1) gv1 c6 (rg_succ' gv3 (hR 419 (7600 + v1)) c2) h) ⟨rfl, rfl, rfl, rfl, trivial⟩
def f_X11_signsIn (a1 : Int) (M : fMem) : Option (Int) := L_X11_signsIn_4 M (fun (v2_7 : Int) => some v2_7) 20000 a1 0 0
set_option maxRecDepth 100000 in
set_option maxHeartbeats 4000000 in
theorem s_X11_signsIn {G : fG} (hg : gbt G = true) {a1 : Int} (ga1 : rg a1) {M : fMem} {q : Int} (h : f_X11_signsIn a1 M = some q) : fSp G mX11_signsIn [rv G 418, iv a1] M (rP M q) fNo := by
  refine fSp_of (by decide +kernel) (by decide +kernel) (fC1 rfl (fC1 rfl fC0)) (Nat.le_of_ble_eq_true rfl) ?_
  show fW G mX11_signsIn (fEm G mX11_signsIn (rP M q) fNo) 0 0 0 [some (rv G 418), some (iv a1), none, none] [] M
  rw [f_X11_signsIn] at h
  refine fW_rg (fun hR => ?_)
  refine fW_iconst 1 dX11_signsIn_0 rfl ?_
  refine fW_istore_n 2 (ls' := [some (rv G 418), some (iv a1), some (iv 0), none]) dX11_signsIn_1 rfl rfl rfl (by decide) ?_
  refine fW_iconst 3 dX11_signsIn_2 rfl ?_
  refine fW_istore_n 4 (ls' := [some (rv G 418), some (iv a1), some (iv 0), some (iv 0)]) dX11_signsIn_3 rfl rfl rfl (by decide) ?_
  refine fW_sb (l_X11_signsIn_4 hg ?_ 20000 a1 0 0 ga1 (by decide) (by decide) h) ⟨rfl, rfl, rfl, rfl, trivial⟩
  intro v2_7 gv2_7 h
  refine fW_iload_n 43 dX11_signsIn_42 rfl rfl ?_
  exact fW_iret rfl (by decide) (by decide) dX11_signsIn_43 (rP_i h gv2_7)
def mX11_shutAhead : fMt := (yX11_shutAhead, cX11_shutAhead, 5, some .int, { frames := 2, cells := 0, slots := 0, locals := 80 })
theorem miX11_shutAhead : fMv mX11_shutAhead 2 := ⟨⟨fM 1528 (by decide +kernel) rfl, fM 101 (by decide +kernel) rfl, ⟨by decide +kernel, by decide +kernel⟩, by decide +kernel⟩, fM 1527 (by decide +kernel) rfl, fM 71 (by decide +kernel) rfl⟩
def L_X11_shutAhead_20  (M : fMem) (k : Int → Option (Int)) : Nat → Int → Int → Int → Option (Int)
  | 0, _, _, _ => none
  | n + 1, v1, v3, v4 => (if v1 ≤ v4 then k v3 else ((f_X11_shutMany v4 M).bind fun (r5 : Int) => (if -2147483648 ≤ v3 + r5 ∧ v3 + r5 < 2147483648 then L_X11_shutAhead_20 M k n v1 (v3 + r5) (v4 + 1) else none)))
set_option maxRecDepth 100000 in
set_option maxHeartbeats 4000000 in
theorem l_X11_shutAhead_20 {G : fG} (hg : gbt G = true)  {M : fMem} {q : Int} {k : Int → Option (Int)} (hk : ∀ (v3 : Int), rg v3 → k v3 = some q → fW G mX11_shutAhead (fEm G mX11_shutAhead (rP M q) fNo) 0 0 41 [some (rv G 418), none, none, some (iv v3), none] [] M) : ∀ (n : Nat) (v1 : Int) (v3 : Int) (v4 : Int), rg v1 → rg v3 → rg v4 → L_X11_shutAhead_20 M k n v1 v3 v4 = some q → fW G mX11_shutAhead (fEm G mX11_shutAhead (rP M q) fNo) 0 0 20 [some (rv G 418), some (iv v1), none, some (iv v3), some (iv v4)] [] M := by
  intro n
  induction n with
  | zero =>
    intro v1 v3 v4 gv1 gv3 gv4 h
    rw [L_X11_shutAhead_20] at h
    exact absurd h (by simp)
  | succ n ih =>
    intro v1 v3 v4 gv1 gv3 gv4 h
    rw [L_X11_shutAhead_20] at h
    refine fW_rg (fun hR => ?_)
    refine fW_iload 22 dX11_shutAhead_20 rfl rfl ?_
    refine fW_iload_n 23 dX11_shutAhead_22 rfl rfl ?_
    refine fW_icmp_ge 26 41 gv4 gv1 dX11_shutAhead_23 rfl rfl (fun c4 => ?_) (fun c4 => ?_)
    · replace h := fTt h c4
      exact fW_sb (hk v3 gv3 h) ⟨rfl, rfl, trivial⟩
    · replace h := fFf h c4
      refine fW_iload_n 27 dX11_shutAhead_26 rfl rfl ?_
      refine fW_aload_n 28 dX11_shutAhead_27 rfl rfl ?_
      refine fW_iload 30 dX11_shutAhead_28 rfl rfl ?_
      obtain ⟨r5, e5, h⟩ := fBd h
      refine fW_cP (fI_V (as := [iv v4]) (rest := [iv v3]) miX11_shutMany hg clX11 rfl tc_418 wd_1336 (fRoom_of rfl) rfl (Nat.le_of_ble_eq_true rfl) dX11_shutAhead_30) (s_X11_shutMany hg gv4 e5) rfl rfl rfl (fun g5 => ?_)
      refine fW_iadd 34 dX11_shutAhead_33 rfl ?_
      refine fW_istore_n 35 (ls' := [some (rv G 418), some (iv v1), none, some (iv (v3 + r5)), some (iv v4)]) dX11_shutAhead_34 rfl rfl rfl (by decide) ?_
      refine fW_iinc 38 (ls' := [some (rv G 418), some (iv v1), none, some (iv (v3 + r5)), some (iv (v4 + 1))]) dX11_shutAhead_35 rfl rfl rfl (by decide) ?_
      refine fW_goto 20 dX11_shutAhead_38 rfl ?_
      obtain ⟨c6, h⟩ := fS h
      exact fW_sb (ih v1 (v3 + r5) (v4 + 1) gv1 c6 (rg_succ' gv4 gv1 c4) h) ⟨rfl, rfl, rfl, rfl, trivial⟩
def f_X11_shutAhead (a1 : Int) (a2 : Int) (M : fMem) : Option (Int) := ((f_X11_isShut a2 M).bind fun (r1 : Int) => (if r1 = 0 then some ((-1)) else ((f_X11_youngerMany a1 a2 M).bind fun (r3 : Int) => L_X11_shutAhead_20 M (fun (v3_7 : Int) => some v3_7) 20000 a1 r3 0)))
set_option maxRecDepth 100000 in
set_option maxHeartbeats 4000000 in
theorem s_X11_shutAhead {G : fG} (hg : gbt G = true) {a1 : Int} (ga1 : rg a1) {a2 : Int} (ga2 : rg a2) {M : fMem} {q : Int} (h : f_X11_shutAhead a1 a2 M = some q) : fSp G mX11_shutAhead [rv G 418, iv a1, iv a2] M (rP M q) fNo := by
  refine fSp_of (by decide +kernel) (by decide +kernel) (fC1 rfl (fC1 rfl (fC1 rfl fC0))) (Nat.le_of_ble_eq_true rfl) ?_
  show fW G mX11_shutAhead (fEm G mX11_shutAhead (rP M q) fNo) 0 0 0 [some (rv G 418), some (iv a1), some (iv a2), none, none] [] M
  rw [f_X11_shutAhead] at h
  refine fW_rg (fun hR => ?_)
  refine fW_aload_n 1 dX11_shutAhead_0 rfl rfl ?_
  refine fW_iload_n 2 dX11_shutAhead_1 rfl rfl ?_
  obtain ⟨r1, e1, h⟩ := fBd h
  refine fW_cB (fI_V (as := [iv a2]) (rest := []) miX11_isShut hg clX11 rfl tc_418 wd_1340 (fRoom_of rfl) rfl (Nat.le_of_ble_eq_true rfl) dX11_shutAhead_2) (s_X11_isShut hg ga2 e1) rfl rfl rfl (fun g1 => ?_)
  refine fW_if_ne 8 10 (rg_z g1) dX11_shutAhead_5 rfl rfl (fun c2 => ?_) (fun c2 => ?_)
  · replace h := fFf h c2
    refine fW_aload_n 11 dX11_shutAhead_10 rfl rfl ?_
    refine fW_iload_n 12 dX11_shutAhead_11 rfl rfl ?_
    refine fW_iload_n 13 dX11_shutAhead_12 rfl rfl ?_
    obtain ⟨r3, e3, h⟩ := fBd h
    refine fW_cP (fI_V (as := [iv a1, iv a2]) (rest := []) miX11_youngerMany hg clX11 rfl tc_418 wd_1352 (fRoom_of rfl) rfl (Nat.le_of_ble_eq_true rfl) dX11_shutAhead_13) (s_X11_youngerMany hg ga1 ga2 e3) rfl rfl rfl (fun g3 => ?_)
    refine fW_istore_n 17 (ls' := [some (rv G 418), some (iv a1), some (iv a2), some (iv r3), none]) dX11_shutAhead_16 rfl rfl rfl (by decide) ?_
    refine fW_iconst 18 dX11_shutAhead_17 rfl ?_
    refine fW_istore 20 (ls' := [some (rv G 418), some (iv a1), some (iv a2), some (iv r3), some (iv 0)]) dX11_shutAhead_18 rfl rfl (by decide) ?_
    refine fW_sb (l_X11_shutAhead_20 hg ?_ 20000 a1 r3 0 ga1 g3 (by decide) h) ⟨rfl, rfl, rfl, rfl, trivial⟩
    intro v3_7 gv3_7 h
    refine fW_iload_n 42 dX11_shutAhead_41 rfl rfl ?_
    exact fW_iret rfl (by decide) (by decide) dX11_shutAhead_42 (rP_i h gv3_7)
  · replace h := fTt h c2
    refine fW_iconst 9 dX11_shutAhead_8 rfl ?_
    exact fW_iret rfl (by decide) (by decide) dX11_shutAhead_9 (rP_i h (by decide))
def mX11_row : fMt := (yX11_row, cX11_row, 5, some .int, { frames := 5, cells := 0, slots := 0, locals := 200 })
theorem miX11_row : fMv mX11_row 3 := ⟨⟨fM 1520 (by decide +kernel) rfl, fM 101 (by decide +kernel) rfl, ⟨by decide +kernel, by decide +kernel⟩, by decide +kernel⟩, fM 1518 (by decide +kernel) rfl, fM 1519 (by decide +kernel) rfl⟩
def j_X11_row_28  (v1 : Int) (v2 : Int) (v3 : Int) (x1 : Int) (M : fMem) : Option (Int × fMem) := (if 0 ≤ x1 ∧ x1 ≤ 1 then ((f_X11_right x1 1 M).bind fun (r5 : Int × fMem) => (if r5.1 = 0 then some (0, r5.2) else ((f_X11_rowAt v1 v2 r5.2).bind fun (r8 : Int) => (if v3 = 0 then (if 0 ≤ 7619 + r8 ∧ 7619 + r8 < 7787 then some (r5.2 419 (7619 + r8), r5.2) else none) else (if v3 = 1 then (if 0 ≤ 7600 + r8 ∧ 7600 + r8 < 7787 then some (r5.2 419 (7600 + r8), r5.2) else none) else (if v3 = 2 then ((f_X11_laysEntries 0 r5.2).bind fun (r14 : fMem) => (if 0 ≤ r8 ∧ r8 < 19 then some (r14 429 r8, r14) else none)) else (if v3 = 3 then ((f_X11_laysEntries 0 r5.2).bind fun (r18 : fMem) => ((f_X11_marksIn r8 r18).bind fun (r20 : Int) => some (r20, r18))) else (if v3 = 4 then ((f_X11_signsIn r8 r5.2).bind fun (r22 : Int) => some (r22, r5.2)) else ((f_X11_shutAhead v1 r8 r5.2).bind fun (r23 : Int) => some (r23, r5.2)))))))))) else none)
set_option maxRecDepth 100000 in
set_option maxHeartbeats 4000000 in
theorem i_X11_row_28 {G : fG} (hg : gbt G = true)  {v1 : Int} {v2 : Int} {v3 : Int} {x1 : Int} (gv1 : rg v1) (gv2 : rg v2) (gv3 : rg v3) (gx1 : rg x1) {M : fMem} {q : Int × fMem} (h : j_X11_row_28 v1 v2 v3 x1 M = some q) : fW G mX11_row (fEm G mX11_row (rP q.2 q.1) fNo) 0 0 28 [some (rv G 418), some (iv v1), some (iv v2), some (iv v3), none] [iv x1, rv G 418] M := by
  rw [j_X11_row_28] at h
  refine fW_rg (fun hR => ?_)
  refine fW_iconst 29 dX11_row_28 rfl ?_
  obtain ⟨c4, h⟩ := fS h
  obtain ⟨r5, e5, h⟩ := fBd h
  refine fW_cB (fI_V (as := [iv x1, iv 1]) (rest := []) miX11_right hg clX11 rfl tc_418 wd_1396 (fRoom_of rfl) rfl (Nat.le_of_ble_eq_true rfl) dX11_row_29) (s_X11_right hg c4 (by decide) e5) rfl rfl rfl (fun g5 => ?_)
  refine fW_rg (fun hR6 => ?_)
  refine fW_if_ne 35 37 (rg_z g5) dX11_row_32 rfl rfl (fun c7 => ?_) (fun c7 => ?_)
  · replace h := fFf h c7
    refine fW_iload_n 38 dX11_row_37 rfl rfl ?_
    refine fW_iload_n 39 dX11_row_38 rfl rfl ?_
    obtain ⟨r8, e8, h⟩ := fBd h
    refine fW_cP (fI_S (as := [iv v1, iv v2]) (rest := []) miX11_rowAt rfl wd_1289 (fRoom_of rfl) rfl (Nat.le_of_ble_eq_true rfl) dX11_row_39) (s_X11_rowAt gv1 gv2 e8) rfl rfl rfl (fun g8 => ?_)
    refine fW_istore 44 (ls' := [some (rv G 418), some (iv v1), some (iv v2), some (iv v3), some (iv r8)]) dX11_row_42 rfl rfl (by decide) ?_
    refine fW_iload_n 45 dX11_row_44 rfl rfl ?_
    have gs := gv3
    by_cases c9 : v3 = 0
    · replace h := fTt h c9
      refine fW_tabIn 80 c9 (by decide) dX11_row_45 (by decide) (by decide) rfl rfl ?_
      refine fW_aload_n 81 dX11_row_80 rfl rfl ?_
      refine fW_getR 84 (r := 419) 0 hg clX11 (by decide) rfl tc_418 tf_11_0 wd_1174 dX11_row_81 rfl ?_
      refine fW_sipush 87 dX11_row_84 rfl (by decide) ?_
      refine fW_iload 89 dX11_row_87 rfl rfl ?_
      refine fW_iadd 90 dX11_row_89 rfl ?_
      obtain ⟨c10, h⟩ := fS h
      refine fW_iald 91 hg tc_419 ⟨c10.1, by rw [show Ln 419 = 7787 from rfl]; exact c10.2⟩ dX11_row_90 rfl ?_
      exact fW_iret rfl (by decide) (by decide) dX11_row_91 (rI_i h (hR6 419 (7619 + r8)))
    replace h := fFf h c9
    by_cases c11 : v3 = 1
    · replace h := fTt h c11
      refine fW_tabIn 92 c11 (by decide) dX11_row_45 (by decide) (by decide) rfl rfl ?_
      refine fW_aload_n 93 dX11_row_92 rfl rfl ?_
      refine fW_getR 96 (r := 419) 0 hg clX11 (by decide) rfl tc_418 tf_11_0 wd_1174 dX11_row_93 rfl ?_
      refine fW_sipush 99 dX11_row_96 rfl (by decide) ?_
      refine fW_iload 101 dX11_row_99 rfl rfl ?_
      refine fW_iadd 102 dX11_row_101 rfl ?_
      obtain ⟨c12, h⟩ := fS h
      refine fW_iald 103 hg tc_419 ⟨c12.1, by rw [show Ln 419 = 7787 from rfl]; exact c12.2⟩ dX11_row_102 rfl ?_
      exact fW_iret rfl (by decide) (by decide) dX11_row_103 (rI_i h (hR6 419 (7600 + r8)))
    replace h := fFf h c11
    by_cases c13 : v3 = 2
    · replace h := fTt h c13
      refine fW_tabIn 104 c13 (by decide) dX11_row_45 (by decide) (by decide) rfl rfl ?_
      refine fW_aload_n 105 dX11_row_104 rfl rfl ?_
      refine fW_iconst 106 dX11_row_105 rfl ?_
      obtain ⟨r14, e14, h⟩ := fBd h
      refine fW_cV (fI_V (as := [iv 0]) (rest := []) miX11_laysEntries hg clX11 rfl tc_418 wd_1431 (fRoom_of rfl) rfl (Nat.le_of_ble_eq_true rfl) dX11_row_106) (s_X11_laysEntries hg (by decide) e14) rfl rfl rfl ?_
      refine fW_rg (fun hR15 => ?_)
      refine fW_aload_n 110 dX11_row_109 rfl rfl ?_
      refine fW_getR 113 (r := 429) 12 hg clX11 (by decide) rfl tc_418 tf_11_12 wd_1186 dX11_row_110 rfl ?_
      refine fW_iload 115 dX11_row_113 rfl rfl ?_
      obtain ⟨c16, h⟩ := fS h
      refine fW_iald 116 hg tc_429 ⟨c16.1, by rw [show Ln 429 = 19 from rfl]; exact c16.2⟩ dX11_row_115 rfl ?_
      exact fW_iret rfl (by decide) (by decide) dX11_row_116 (rI_i h (hR15 429 r8))
    replace h := fFf h c13
    by_cases c17 : v3 = 3
    · replace h := fTt h c17
      refine fW_tabIn 117 c17 (by decide) dX11_row_45 (by decide) (by decide) rfl rfl ?_
      refine fW_aload_n 118 dX11_row_117 rfl rfl ?_
      refine fW_iconst 119 dX11_row_118 rfl ?_
      obtain ⟨r18, e18, h⟩ := fBd h
      refine fW_cV (fI_V (as := [iv 0]) (rest := []) miX11_laysEntries hg clX11 rfl tc_418 wd_1431 (fRoom_of rfl) rfl (Nat.le_of_ble_eq_true rfl) dX11_row_119) (s_X11_laysEntries hg (by decide) e18) rfl rfl rfl ?_
      refine fW_rg (fun hR19 => ?_)
      refine fW_aload_n 123 dX11_row_122 rfl rfl ?_
      refine fW_iload 125 dX11_row_123 rfl rfl ?_
      obtain ⟨r20, e20, h⟩ := fBd h
      refine fW_cP (fI_V (as := [iv r8]) (rest := []) miX11_marksIn hg clX11 rfl tc_418 wd_1513 (fRoom_of rfl) rfl (Nat.le_of_ble_eq_true rfl) dX11_row_125) (s_X11_marksIn hg g8 e20) rfl rfl rfl (fun g20 => ?_)
      exact fW_iret rfl (by decide) (by decide) dX11_row_128 (rI_i h g20)
    replace h := fFf h c17
    by_cases c21 : v3 = 4
    · replace h := fTt h c21
      refine fW_tabIn 129 c21 (by decide) dX11_row_45 (by decide) (by decide) rfl rfl ?_
      refine fW_aload_n 130 dX11_row_129 rfl rfl ?_
      refine fW_iload 132 dX11_row_130 rfl rfl ?_
      obtain ⟨r22, e22, h⟩ := fBd h
      refine fW_cP (fI_V (as := [iv r8]) (rest := []) miX11_signsIn hg clX11 rfl tc_418 wd_1521 (fRoom_of rfl) rfl (Nat.le_of_ble_eq_true rfl) dX11_row_132) (s_X11_signsIn hg g8 e22) rfl rfl rfl (fun g22 => ?_)
      exact fW_iret rfl (by decide) (by decide) dX11_row_135 (rI_i h g22)
    replace h := fFf h c21
    refine fW_tabOut 136 gs dX11_row_45 (by omega) rfl ?_
    refine fW_aload_n 137 dX11_row_136 rfl rfl ?_
    refine fW_iload_n 138 dX11_row_137 rfl rfl ?_
    refine fW_iload 140 dX11_row_138 rfl rfl ?_
    obtain ⟨r23, e23, h⟩ := fBd h
    refine fW_cP (fI_V (as := [iv v1, iv r8]) (rest := []) miX11_shutAhead hg clX11 rfl tc_418 wd_1525 (fRoom_of rfl) rfl (Nat.le_of_ble_eq_true rfl) dX11_row_140) (s_X11_shutAhead hg gv1 g8 e23) rfl rfl rfl (fun g23 => ?_)
    exact fW_iret rfl (by decide) (by decide) dX11_row_143 (rI_i h g23)
  · replace h := fTt h c7
    refine fW_iconst 36 dX11_row_35 rfl ?_
    exact fW_iret rfl (by decide) (by decide) dX11_row_36 (rI_i h (by decide))
def j_X11_row_27  (v1 : Int) (v2 : Int) (v3 : Int) (M : fMem) : Option (Int × fMem) := j_X11_row_28 v1 v2 v3 0 M
set_option maxRecDepth 100000 in
set_option maxHeartbeats 4000000 in
theorem i_X11_row_27 {G : fG} (hg : gbt G = true)  {v1 : Int} {v2 : Int} {v3 : Int} (gv1 : rg v1) (gv2 : rg v2) (gv3 : rg v3) {M : fMem} {q : Int × fMem} (h : j_X11_row_27 v1 v2 v3 M = some q) : fW G mX11_row (fEm G mX11_row (rP q.2 q.1) fNo) 0 0 27 [some (rv G 418), some (iv v1), some (iv v2), some (iv v3), none] [rv G 418] M := by
  rw [j_X11_row_27] at h
  refine fW_rg (fun hR => ?_)
  refine fW_iconst 28 dX11_row_27 rfl ?_
  exact fW_sb (i_X11_row_28 hg gv1 gv2 gv3 (by decide) h) ⟨rfl, rfl, rfl, rfl, trivial⟩
def f_X11_row (a1 : Int) (a2 : Int) (a3 : Int) (M : fMem) : Option (Int × fMem) := ((some (mset M 418 4 0)).bind fun (N1 : fMem) => ((f_X11_isRow a1 a2 N1).bind fun (r2 : Int) => (if r2 = 0 then j_X11_row_27 a1 a2 a3 N1 else ((f_X11_isIn a3 0 5 N1).bind fun (r24 : Int) => (if r24 = 0 then j_X11_row_27 a1 a2 a3 N1 else j_X11_row_28 a1 a2 a3 1 N1)))))
set_option maxRecDepth 100000 in
set_option maxHeartbeats 4000000 in
theorem s_X11_row {G : fG} (hg : gbt G = true) {a1 : Int} (ga1 : rg a1) {a2 : Int} (ga2 : rg a2) {a3 : Int} (ga3 : rg a3) {M : fMem} {q : Int × fMem} (h : f_X11_row a1 a2 a3 M = some q) : fSp G mX11_row [rv G 418, iv a1, iv a2, iv a3] M (rP q.2 q.1) fNo := by
  refine fSp_of (by decide +kernel) (by decide +kernel) (fC1 rfl (fC1 rfl (fC1 rfl (fC1 rfl fC0)))) (Nat.le_of_ble_eq_true rfl) ?_
  show fW G mX11_row (fEm G mX11_row (rP q.2 q.1) fNo) 0 0 0 [some (rv G 418), some (iv a1), some (iv a2), some (iv a3), none] [] M
  rw [f_X11_row] at h
  refine fW_rg (fun hR => ?_)
  refine fW_aload_n 1 dX11_row_0 rfl rfl ?_
  refine fW_iconst 2 dX11_row_1 rfl ?_
  obtain ⟨N1, e1, h⟩ := fBd h
  replace e1 := Option.some.inj e1
  refine fW_putI 5 4 (ji := 4) hg clX11 rfl (by decide) rfl rfl rfl tc_418 (by decide) wd_1178 dX11_row_2 rfl ?_
  rw [e1]
  refine fW_rg (fun hR1 => ?_)
  refine fW_aload_n 6 dX11_row_5 rfl rfl ?_
  refine fW_iload_n 7 dX11_row_6 rfl rfl ?_
  refine fW_iload_n 8 dX11_row_7 rfl rfl ?_
  obtain ⟨r2, e2, h⟩ := fBd h
  refine fW_cB (fI_S (as := [iv a1, iv a2]) (rest := [rv G 418]) miX11_isRow rfl wd_1491 (fRoom_of rfl) rfl (Nat.le_of_ble_eq_true rfl) dX11_row_8) (s_X11_isRow ga1 ga2 e2) rfl rfl rfl (fun g2 => ?_)
  refine fW_if_eq 14 27 (rg_z g2) dX11_row_11 rfl rfl (fun c3 => ?_) (fun c3 => ?_)
  · replace h := fTt h c3
    exact fW_sb (i_X11_row_27 hg ga1 ga2 ga3 h) ⟨rfl, rfl, rfl, rfl, trivial⟩
  · replace h := fFf h c3
    refine fW_iload_n 15 dX11_row_14 rfl rfl ?_
    refine fW_iconst 16 dX11_row_15 rfl ?_
    refine fW_iconst 17 dX11_row_16 rfl ?_
    obtain ⟨r24, e24, h⟩ := fBd h
    refine fW_cB (fI_S (as := [iv a3, iv 0, iv 5]) (rest := [rv G 418]) miX11_isIn rfl wd_1272 (fRoom_of rfl) rfl (Nat.le_of_ble_eq_true rfl) dX11_row_17) (s_X11_isIn ga3 (by decide) (by decide) e24) rfl rfl rfl (fun g24 => ?_)
    refine fW_if_eq 23 27 (rg_z g24) dX11_row_20 rfl rfl (fun c25 => ?_) (fun c25 => ?_)
    · replace h := fTt h c25
      exact fW_sb (i_X11_row_27 hg ga1 ga2 ga3 h) ⟨rfl, rfl, rfl, rfl, trivial⟩
    · replace h := fFf h c25
      refine fW_iconst 24 dX11_row_23 rfl ?_
      refine fW_goto 28 dX11_row_24 rfl ?_
      exact fW_sb (i_X11_row_28 hg ga1 ga2 ga3 (by decide) h) ⟨rfl, rfl, rfl, rfl, trivial⟩
def mX11_thing : fMt := (yX11_thing, cX11_thing, 5, some .int, { frames := 3, cells := 0, slots := 0, locals := 120 })
theorem miX11_thing : fMv mX11_thing 4 := ⟨⟨fM 1532 (by decide +kernel) rfl, fM 101 (by decide +kernel) rfl, ⟨by decide +kernel, by decide +kernel⟩, by decide +kernel⟩, fM 1530 (by decide +kernel) rfl, fM 1531 (by decide +kernel) rfl⟩
def j_X11_thing_53  (v1 : Int) (v2 : Int) (v3 : Int) (v4 : Int) (x1 : Int) (M : fMem) : Option (Int × fMem) := (if 0 ≤ x1 ∧ x1 ≤ 1 then ((f_X11_right x1 1 M).bind fun (r5 : Int × fMem) => (if r5.1 = 0 then some (0, r5.2) else (if v4 = 0 then ((f_X11_rowAt v1 v2 r5.2).bind fun (r11 : Int) => ((f_X11_keyAt r11 v3 r5.2).bind fun (r12 : Int) => some (r12, r5.2))) else ((f_X11_rowAt v1 v2 r5.2).bind fun (r9 : Int) => ((f_X11_valueAt r9 v3 r5.2).bind fun (r10 : Int) => some (r10, r5.2)))))) else none)
set_option maxRecDepth 100000 in
set_option maxHeartbeats 4000000 in
theorem i_X11_thing_53 {G : fG} (hg : gbt G = true)  {v1 : Int} {v2 : Int} {v3 : Int} {v4 : Int} {x1 : Int} (gv1 : rg v1) (gv2 : rg v2) (gv3 : rg v3) (gv4 : rg v4) (gx1 : rg x1) {M : fMem} {q : Int × fMem} (h : j_X11_thing_53 v1 v2 v3 v4 x1 M = some q) : fW G mX11_thing (fEm G mX11_thing (rP q.2 q.1) fNo) 0 0 53 [some (rv G 418), some (iv v1), some (iv v2), some (iv v3), some (iv v4)] [iv x1, rv G 418] M := by
  rw [j_X11_thing_53] at h
  refine fW_rg (fun hR => ?_)
  refine fW_iconst 54 dX11_thing_53 rfl ?_
  obtain ⟨c4, h⟩ := fS h
  obtain ⟨r5, e5, h⟩ := fBd h
  refine fW_cB (fI_V (as := [iv x1, iv 1]) (rest := []) miX11_right hg clX11 rfl tc_418 wd_1396 (fRoom_of rfl) rfl (Nat.le_of_ble_eq_true rfl) dX11_thing_54) (s_X11_right hg c4 (by decide) e5) rfl rfl rfl (fun g5 => ?_)
  refine fW_rg (fun hR6 => ?_)
  refine fW_if_ne 60 62 (rg_z g5) dX11_thing_57 rfl rfl (fun c7 => ?_) (fun c7 => ?_)
  · replace h := fFf h c7
    refine fW_iload 64 dX11_thing_62 rfl rfl ?_
    refine fW_if_ne 67 80 gv4 dX11_thing_64 rfl rfl (fun c8 => ?_) (fun c8 => ?_)
    · replace h := fFf h c8
      refine fW_aload_n 81 dX11_thing_80 rfl rfl ?_
      refine fW_iload_n 82 dX11_thing_81 rfl rfl ?_
      refine fW_iload_n 83 dX11_thing_82 rfl rfl ?_
      obtain ⟨r9, e9, h⟩ := fBd h
      refine fW_cP (fI_S (as := [iv v1, iv v2]) (rest := [rv G 418]) miX11_rowAt rfl wd_1289 (fRoom_of rfl) rfl (Nat.le_of_ble_eq_true rfl) dX11_thing_83) (s_X11_rowAt gv1 gv2 e9) rfl rfl rfl (fun g9 => ?_)
      refine fW_iload_n 87 dX11_thing_86 rfl rfl ?_
      obtain ⟨r10, e10, h⟩ := fBd h
      refine fW_cP (fI_V (as := [iv r9, iv v3]) (rest := []) miX11_valueAt hg clX11 rfl tc_418 wd_1308 (fRoom_of rfl) rfl (Nat.le_of_ble_eq_true rfl) dX11_thing_87) (s_X11_valueAt hg g9 gv3 e10) rfl rfl rfl (fun g10 => ?_)
      exact fW_iret rfl (by decide) (by decide) dX11_thing_90 (rI_i h g10)
    · replace h := fTt h c8
      refine fW_aload_n 68 dX11_thing_67 rfl rfl ?_
      refine fW_iload_n 69 dX11_thing_68 rfl rfl ?_
      refine fW_iload_n 70 dX11_thing_69 rfl rfl ?_
      obtain ⟨r11, e11, h⟩ := fBd h
      refine fW_cP (fI_S (as := [iv v1, iv v2]) (rest := [rv G 418]) miX11_rowAt rfl wd_1289 (fRoom_of rfl) rfl (Nat.le_of_ble_eq_true rfl) dX11_thing_70) (s_X11_rowAt gv1 gv2 e11) rfl rfl rfl (fun g11 => ?_)
      refine fW_iload_n 74 dX11_thing_73 rfl rfl ?_
      obtain ⟨r12, e12, h⟩ := fBd h
      refine fW_cP (fI_V (as := [iv r11, iv v3]) (rest := []) miX11_keyAt hg clX11 rfl tc_418 wd_1300 (fRoom_of rfl) rfl (Nat.le_of_ble_eq_true rfl) dX11_thing_74) (s_X11_keyAt hg g11 gv3 e12) rfl rfl rfl (fun g12 => ?_)
      refine fW_goto 90 dX11_thing_77 rfl ?_
      exact fW_iret rfl (by decide) (by decide) dX11_thing_90 (rI_i h g12)
  · replace h := fTt h c7
    refine fW_iconst 61 dX11_thing_60 rfl ?_
    exact fW_iret rfl (by decide) (by decide) dX11_thing_61 (rI_i h (by decide))
def j_X11_thing_52  (v1 : Int) (v2 : Int) (v3 : Int) (v4 : Int) (M : fMem) : Option (Int × fMem) := j_X11_thing_53 v1 v2 v3 v4 0 M
set_option maxRecDepth 100000 in
set_option maxHeartbeats 4000000 in
theorem i_X11_thing_52 {G : fG} (hg : gbt G = true)  {v1 : Int} {v2 : Int} {v3 : Int} {v4 : Int} (gv1 : rg v1) (gv2 : rg v2) (gv3 : rg v3) (gv4 : rg v4) {M : fMem} {q : Int × fMem} (h : j_X11_thing_52 v1 v2 v3 v4 M = some q) : fW G mX11_thing (fEm G mX11_thing (rP q.2 q.1) fNo) 0 0 52 [some (rv G 418), some (iv v1), some (iv v2), some (iv v3), some (iv v4)] [rv G 418] M := by
  rw [j_X11_thing_52] at h
  refine fW_rg (fun hR => ?_)
  refine fW_iconst 53 dX11_thing_52 rfl ?_
  exact fW_sb (i_X11_thing_53 hg gv1 gv2 gv3 gv4 (by decide) h) ⟨rfl, rfl, rfl, rfl, rfl, trivial⟩
def f_X11_thing (a1 : Int) (a2 : Int) (a3 : Int) (a4 : Int) (M : fMem) : Option (Int × fMem) := ((some (mset M 418 4 0)).bind fun (N1 : fMem) => ((f_X11_isRow a1 a2 N1).bind fun (r2 : Int) => (if r2 = 0 then j_X11_thing_52 a1 a2 a3 a4 N1 else ((f_X11_rowAt a1 a2 N1).bind fun (r13 : Int) => (if 0 ≤ 7600 + r13 ∧ 7600 + r13 < 7787 then (if -2147483648 ≤ (N1 419 (7600 + r13)) - 1 ∧ (N1 419 (7600 + r13)) - 1 < 2147483648 then ((f_X11_isIn a3 0 ((N1 419 (7600 + r13)) - 1) N1).bind fun (r16 : Int) => (if r16 = 0 then j_X11_thing_52 a1 a2 a3 a4 N1 else ((f_X11_isIn a4 0 1 N1).bind fun (r18 : Int) => (if r18 = 0 then j_X11_thing_52 a1 a2 a3 a4 N1 else j_X11_thing_53 a1 a2 a3 a4 1 N1)))) else none) else none)))))
set_option maxRecDepth 100000 in
set_option maxHeartbeats 4000000 in
theorem s_X11_thing {G : fG} (hg : gbt G = true) {a1 : Int} (ga1 : rg a1) {a2 : Int} (ga2 : rg a2) {a3 : Int} (ga3 : rg a3) {a4 : Int} (ga4 : rg a4) {M : fMem} {q : Int × fMem} (h : f_X11_thing a1 a2 a3 a4 M = some q) : fSp G mX11_thing [rv G 418, iv a1, iv a2, iv a3, iv a4] M (rP q.2 q.1) fNo := by
  refine fSp_of (by decide +kernel) (by decide +kernel) (fC1 rfl (fC1 rfl (fC1 rfl (fC1 rfl (fC1 rfl fC0))))) (Nat.le_of_ble_eq_true rfl) ?_
  show fW G mX11_thing (fEm G mX11_thing (rP q.2 q.1) fNo) 0 0 0 [some (rv G 418), some (iv a1), some (iv a2), some (iv a3), some (iv a4)] [] M
  rw [f_X11_thing] at h
  refine fW_rg (fun hR => ?_)
  refine fW_aload_n 1 dX11_thing_0 rfl rfl ?_
  refine fW_iconst 2 dX11_thing_1 rfl ?_
  obtain ⟨N1, e1, h⟩ := fBd h
  replace e1 := Option.some.inj e1
  refine fW_putI 5 4 (ji := 4) hg clX11 rfl (by decide) rfl rfl rfl tc_418 (by decide) wd_1178 dX11_thing_2 rfl ?_
  rw [e1]
  refine fW_rg (fun hR1 => ?_)
  refine fW_aload_n 6 dX11_thing_5 rfl rfl ?_
  refine fW_iload_n 7 dX11_thing_6 rfl rfl ?_
  refine fW_iload_n 8 dX11_thing_7 rfl rfl ?_
  obtain ⟨r2, e2, h⟩ := fBd h
  refine fW_cB (fI_S (as := [iv a1, iv a2]) (rest := [rv G 418]) miX11_isRow rfl wd_1491 (fRoom_of rfl) rfl (Nat.le_of_ble_eq_true rfl) dX11_thing_8) (s_X11_isRow ga1 ga2 e2) rfl rfl rfl (fun g2 => ?_)
  refine fW_if_eq 14 52 (rg_z g2) dX11_thing_11 rfl rfl (fun c3 => ?_) (fun c3 => ?_)
  · replace h := fTt h c3
    exact fW_sb (i_X11_thing_52 hg ga1 ga2 ga3 ga4 h) ⟨rfl, rfl, rfl, rfl, rfl, trivial⟩
  · replace h := fFf h c3
    refine fW_iload_n 15 dX11_thing_14 rfl rfl ?_
    refine fW_iconst 16 dX11_thing_15 rfl ?_
    refine fW_aload_n 17 dX11_thing_16 rfl rfl ?_
    refine fW_getR 20 (r := 419) 0 hg clX11 (by decide) rfl tc_418 tf_11_0 wd_1174 dX11_thing_17 rfl ?_
    refine fW_sipush 23 dX11_thing_20 rfl (by decide) ?_
    refine fW_iload_n 24 dX11_thing_23 rfl rfl ?_
    refine fW_iload_n 25 dX11_thing_24 rfl rfl ?_
    obtain ⟨r13, e13, h⟩ := fBd h
    refine fW_cP (fI_S (as := [iv a1, iv a2]) (rest := [iv 7600, rv G 419, iv 0, iv a3, rv G 418]) miX11_rowAt rfl wd_1289 (fRoom_of rfl) rfl (Nat.le_of_ble_eq_true rfl) dX11_thing_25) (s_X11_rowAt ga1 ga2 e13) rfl rfl rfl (fun g13 => ?_)
    refine fW_iadd 29 dX11_thing_28 rfl ?_
    obtain ⟨c14, h⟩ := fS h
    refine fW_iald 30 hg tc_419 ⟨c14.1, by rw [show Ln 419 = 7787 from rfl]; exact c14.2⟩ dX11_thing_29 rfl ?_
    refine fW_iconst 31 dX11_thing_30 rfl ?_
    refine fW_isub 32 dX11_thing_31 rfl ?_
    obtain ⟨c15, h⟩ := fS h
    obtain ⟨r16, e16, h⟩ := fBd h
    refine fW_cB (fI_S (as := [iv a3, iv 0, iv ((N1 419 (7600 + r13)) - 1)]) (rest := [rv G 418]) miX11_isIn rfl wd_1272 (fRoom_of rfl) rfl (Nat.le_of_ble_eq_true rfl) dX11_thing_32) (s_X11_isIn ga3 (by decide) c15 e16) rfl rfl rfl (fun g16 => ?_)
    refine fW_if_eq 38 52 (rg_z g16) dX11_thing_35 rfl rfl (fun c17 => ?_) (fun c17 => ?_)
    · replace h := fTt h c17
      exact fW_sb (i_X11_thing_52 hg ga1 ga2 ga3 ga4 h) ⟨rfl, rfl, rfl, rfl, rfl, trivial⟩
    · replace h := fFf h c17
      refine fW_iload 40 dX11_thing_38 rfl rfl ?_
      refine fW_iconst 41 dX11_thing_40 rfl ?_
      refine fW_iconst 42 dX11_thing_41 rfl ?_
      obtain ⟨r18, e18, h⟩ := fBd h
      refine fW_cB (fI_S (as := [iv a4, iv 0, iv 1]) (rest := [rv G 418]) miX11_isIn rfl wd_1272 (fRoom_of rfl) rfl (Nat.le_of_ble_eq_true rfl) dX11_thing_42) (s_X11_isIn ga4 (by decide) (by decide) e18) rfl rfl rfl (fun g18 => ?_)
      refine fW_if_eq 48 52 (rg_z g18) dX11_thing_45 rfl rfl (fun c19 => ?_) (fun c19 => ?_)
      · replace h := fTt h c19
        exact fW_sb (i_X11_thing_52 hg ga1 ga2 ga3 ga4 h) ⟨rfl, rfl, rfl, rfl, rfl, trivial⟩
      · replace h := fFf h c19
        refine fW_iconst 49 dX11_thing_48 rfl ?_
        refine fW_goto 53 dX11_thing_49 rfl ?_
        exact fW_sb (i_X11_thing_53 hg ga1 ga2 ga3 ga4 (by decide) h) ⟨rfl, rfl, rfl, rfl, rfl, trivial⟩
end MTH
