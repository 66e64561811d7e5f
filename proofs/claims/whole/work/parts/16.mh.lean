section MTH
def mX11_laysEntries : fMt := (yX11_laysEntries, cX11_laysEntries, 3, none, { frames := 4, cells := 0, slots := 0, locals := 160 })
theorem miX11_laysEntries : fMv mX11_laysEntries 1 := ⟨⟨fM 1434 (by decide +kernel) rfl, fM 101 (by decide +kernel) rfl, ⟨by decide +kernel, by decide +kernel⟩, by decide +kernel⟩, fM 1433 (by decide +kernel) rfl, fM 54 (by decide +kernel) rfl⟩
def L_X11_laysEntries_7  (k : Int → fMem → Option (fMem)) : Nat → Int → Int → fMem → Option (fMem)
  | 0, _, _, _ => none
  | n + 1, v1, v2, M => (if 19 ≤ v2 then k v1 M else ((f_X11_laysThings v2 M).bind fun (r3 : fMem) => L_X11_laysEntries_7  k n v1 (v2 + 1) r3))
set_option maxRecDepth 100000 in
set_option maxHeartbeats 4000000 in
theorem l_X11_laysEntries_7 {G : fG} (hg : gbt G = true)  {q : fMem} {k : Int → fMem → Option (fMem)} (hk : ∀ (v1 : Int) (M : fMem), rg v1 → k v1 M = some q → fW G mX11_laysEntries (fEm G mX11_laysEntries (rV q) fNo) 0 0 24 [some (rv G 418), some (iv v1), none] [] M) : ∀ (n : Nat) (v1 : Int) (v2 : Int) (M : fMem), rg v1 → rg v2 → L_X11_laysEntries_7 k n v1 v2 M = some q → fW G mX11_laysEntries (fEm G mX11_laysEntries (rV q) fNo) 0 0 7 [some (rv G 418), some (iv v1), some (iv v2)] [] M := by
  intro n
  induction n with
  | zero =>
    intro v1 v2 M gv1 gv2 h
    rw [L_X11_laysEntries_7] at h
    exact absurd h (by simp)
  | succ n ih =>
    intro v1 v2 M gv1 gv2 h
    rw [L_X11_laysEntries_7] at h
    refine fW_rg (fun hR => ?_)
    refine fW_iload_n 8 dX11_laysEntries_7 rfl rfl ?_
    refine fW_bipush 10 dX11_laysEntries_8 rfl (by decide) ?_
    refine fW_icmp_ge 13 24 gv2 (by decide) dX11_laysEntries_10 rfl rfl (fun c2 => ?_) (fun c2 => ?_)
    · replace h := fTt h c2
      exact fW_sb (hk v1 M gv1 h) ⟨rfl, rfl, trivial⟩
    · replace h := fFf h c2
      refine fW_aload_n 14 dX11_laysEntries_13 rfl rfl ?_
      refine fW_iload_n 15 dX11_laysEntries_14 rfl rfl ?_
      obtain ⟨r3, e3, h⟩ := fBd h
      refine fW_cV (fI_V (as := [iv v2]) (rest := []) miX11_laysThings hg clX11 rfl tc_418 wd_1435 (fRoom_of rfl) rfl (Nat.le_of_ble_eq_true rfl) dX11_laysEntries_15) (s_X11_laysThings hg gv2 e3) rfl rfl rfl ?_
      refine fW_rg (fun hR4 => ?_)
      refine fW_iinc 21 (ls' := [some (rv G 418), some (iv v1), some (iv (v2 + 1))]) dX11_laysEntries_18 rfl rfl rfl (by decide) ?_
      refine fW_goto 7 dX11_laysEntries_21 rfl ?_
      exact fW_sb (ih v1 (v2 + 1) r3 gv1 (rg_succ' gv2 (by decide) c2) h) ⟨rfl, rfl, rfl, trivial⟩
def L_X11_laysEntries_27  (k : fMem → Option (fMem)) : Nat → Int → Int → fMem → Option (fMem)
  | 0, _, _, _ => none
  | n + 1, v1, v2, M => (if v2 < 0 then k  M else (if v1 = 0 then ((f_X11_leadOf v2 M).bind fun (r8 : Int) => (if r8 = ((-1)) then L_X11_laysEntries_27  k n v1 (v2 + -1) M else ((f_X11_leadOf v2 M).bind fun (r10 : Int) => (if -2147483648 ≤ v2 + 1 ∧ v2 + 1 < 2147483648 then ((f_X11_laysMarks r10 (v2 + 1) M).bind fun (r12 : fMem) => L_X11_laysEntries_27  k n v1 (v2 + -1) r12) else none)))) else k  M))
set_option maxRecDepth 100000 in
set_option maxHeartbeats 4000000 in
theorem l_X11_laysEntries_27 {G : fG} (hg : gbt G = true)  {q : fMem} {k : fMem → Option (fMem)} (hk : ∀ (M : fMem), k M = some q → fW G mX11_laysEntries (fEm G mX11_laysEntries (rV q) fNo) 0 0 62 [some (rv G 418), none, none] [] M) : ∀ (n : Nat) (v1 : Int) (v2 : Int) (M : fMem), rg v1 → rg v2 → L_X11_laysEntries_27 k n v1 v2 M = some q → fW G mX11_laysEntries (fEm G mX11_laysEntries (rV q) fNo) 0 0 27 [some (rv G 418), some (iv v1), some (iv v2)] [] M := by
  intro n
  induction n with
  | zero =>
    intro v1 v2 M gv1 gv2 h
    rw [L_X11_laysEntries_27] at h
    exact absurd h (by simp)
  | succ n ih =>
    intro v1 v2 M gv1 gv2 h
    rw [L_X11_laysEntries_27] at h
    refine fW_rg (fun hR => ?_)
    refine fW_iload_n 28 dX11_laysEntries_27 rfl rfl ?_
    refine fW_if_lt 31 62 gv2 dX11_laysEntries_28 rfl rfl (fun c6 => ?_) (fun c6 => ?_)
    · replace h := fTt h c6
      exact fW_sb (hk M h) ⟨rfl, trivial⟩
    · replace h := fFf h c6
      refine fW_iload_n 32 dX11_laysEntries_31 rfl rfl ?_
      refine fW_if_ne 35 62 gv1 dX11_laysEntries_32 rfl rfl (fun c7 => ?_) (fun c7 => ?_)
      · replace h := fFf h c7
        exact fW_sb (hk M h) ⟨rfl, trivial⟩
      · replace h := fTt h c7
        refine fW_aload_n 36 dX11_laysEntries_35 rfl rfl ?_
        refine fW_iload_n 37 dX11_laysEntries_36 rfl rfl ?_
        obtain ⟨r8, e8, h⟩ := fBd h
        refine fW_cP (fI_V (as := [iv v2]) (rest := []) miX11_leadOf hg clX11 rfl tc_418 wd_1447 (fRoom_of rfl) rfl (Nat.le_of_ble_eq_true rfl) dX11_laysEntries_37) (s_X11_leadOf hg gv2 e8) rfl rfl rfl (fun g8 => ?_)
        refine fW_iconst 41 dX11_laysEntries_40 rfl ?_
        refine fW_icmp_eq 44 56 g8 (by decide) dX11_laysEntries_41 rfl rfl (fun c9 => ?_) (fun c9 => ?_)
        · replace h := fTt h c9
          refine fW_iinc 59 (ls' := [some (rv G 418), some (iv v1), some (iv (v2 + -1))]) dX11_laysEntries_56 rfl rfl rfl (by decide) ?_
          refine fW_goto 27 dX11_laysEntries_59 rfl ?_
          exact fW_sb (ih v1 (v2 + -1) M gv1 (rg_pred0' gv2 c6) h) ⟨rfl, rfl, rfl, trivial⟩
        · replace h := fFf h c9
          refine fW_aload_n 45 dX11_laysEntries_44 rfl rfl ?_
          refine fW_aload_n 46 dX11_laysEntries_45 rfl rfl ?_
          refine fW_iload_n 47 dX11_laysEntries_46 rfl rfl ?_
          obtain ⟨r10, e10, h⟩ := fBd h
          refine fW_cP (fI_V (as := [iv v2]) (rest := [rv G 418]) miX11_leadOf hg clX11 rfl tc_418 wd_1447 (fRoom_of rfl) rfl (Nat.le_of_ble_eq_true rfl) dX11_laysEntries_47) (s_X11_leadOf hg gv2 e10) rfl rfl rfl (fun g10 => ?_)
          refine fW_iload_n 51 dX11_laysEntries_50 rfl rfl ?_
          refine fW_iconst 52 dX11_laysEntries_51 rfl ?_
          refine fW_iadd 53 dX11_laysEntries_52 rfl ?_
          obtain ⟨c11, h⟩ := fS h
          obtain ⟨r12, e12, h⟩ := fBd h
          refine fW_cV (fI_V (as := [iv r10, iv (v2 + 1)]) (rest := []) miX11_laysMarks hg clX11 rfl tc_418 wd_1451 (fRoom_of rfl) rfl (Nat.le_of_ble_eq_true rfl) dX11_laysEntries_53) (s_X11_laysMarks hg g10 c11 e12) rfl rfl rfl ?_
          refine fW_rg (fun hR13 => ?_)
          refine fW_iinc 59 (ls' := [some (rv G 418), some (iv v1), some (iv (v2 + -1))]) dX11_laysEntries_56 rfl rfl rfl (by decide) ?_
          refine fW_goto 27 dX11_laysEntries_59 rfl ?_
          exact fW_sb (ih v1 (v2 + -1) r12 gv1 (rg_pred0' gv2 c6) h) ⟨rfl, rfl, rfl, trivial⟩
def f_X11_laysEntries (a1 : Int) (M : fMem) : Option (fMem) := L_X11_laysEntries_7 (fun (v1_5 : Int) (M_5 : fMem) => L_X11_laysEntries_27 (fun  (M_14 : fMem) => some M_14) 20000 v1_5 7 M_5) 20000 a1 0 (mset M 418 13 a1)
set_option maxRecDepth 100000 in
set_option maxHeartbeats 4000000 in
theorem s_X11_laysEntries {G : fG} (hg : gbt G = true) {a1 : Int} (ga1 : 0 ≤ a1 ∧ a1 ≤ 1) {M : fMem} {q : fMem} (h : f_X11_laysEntries a1 M = some q) : fSp G mX11_laysEntries [rv G 418, iv a1] M (rV q) fNo := by
  refine fSp_of (by decide +kernel) (by decide +kernel) (fC1 rfl (fC1 rfl fC0)) (Nat.le_of_ble_eq_true rfl) ?_
  show fW G mX11_laysEntries (fEm G mX11_laysEntries (rV q) fNo) 0 0 0 [some (rv G 418), some (iv a1), none] [] M
  rw [f_X11_laysEntries] at h
  refine fW_rg (fun hR => ?_)
  refine fW_aload_n 1 dX11_laysEntries_0 rfl rfl ?_
  refine fW_iload_n 2 dX11_laysEntries_1 rfl rfl ?_
  refine fW_putZ 5 13 (ji := 13) hg clX11 rfl (by decide) rfl rfl rfl tc_418 ga1 wd_1187 dX11_laysEntries_2 rfl ?_
  refine fW_rg (fun hR1 => ?_)
  refine fW_iconst 6 dX11_laysEntries_5 rfl ?_
  refine fW_istore_n 7 (ls' := [some (rv G 418), some (iv a1), some (iv 0)]) dX11_laysEntries_6 rfl rfl rfl (by decide) ?_
  refine fW_sb (l_X11_laysEntries_7 hg ?_ 20000 a1 0 (mset M 418 13 a1) (rg_z ga1) (by decide) h) ⟨rfl, rfl, rfl, trivial⟩
  intro v1_5 M_5 gv1_5 h
  refine fW_rg (fun hR_5 => ?_)
  refine fW_bipush 26 dX11_laysEntries_24 rfl (by decide) ?_
  refine fW_istore_n 27 (ls' := [some (rv G 418), some (iv v1_5), some (iv 7)]) dX11_laysEntries_26 rfl rfl rfl (by decide) ?_
  refine fW_sb (l_X11_laysEntries_27 hg ?_ 20000 v1_5 7 M_5 gv1_5 (by decide) h) ⟨rfl, rfl, rfl, trivial⟩
  intro M_14 h
  refine fW_rg (fun hR_14 => ?_)
  exact fW_vret rfl (by decide) (by decide) dX11_laysEntries_62 (rV_i h)
def mX11_marksIn : fMt := (yX11_marksIn, cX11_marksIn, 2, some .int, { frames := 1, cells := 0, slots := 0, locals := 40 })
theorem miX11_marksIn : fMv mX11_marksIn 1 := ⟨⟨fM 1516 (by decide +kernel) rfl, fM 101 (by decide +kernel) rfl, ⟨by decide +kernel, by decide +kernel⟩, by decide +kernel⟩, fM 1515 (by decide +kernel) rfl, fM 69 (by decide +kernel) rfl⟩
def f_X11_marksIn (a1 : Int) (M : fMem) : Option (Int) := ((f_X11_isShut a1 M).bind fun (r1 : Int) => (if r1 = 0 then some 0 else (if 0 ≤ a1 ∧ a1 < 19 then (if 0 ≤ 7600 + a1 ∧ 7600 + a1 < 7787 then (if -2147483648 ≤ (M 429 a1) - (M 419 (7600 + a1)) ∧ (M 429 a1) - (M 419 (7600 + a1)) < 2147483648 then some ((M 429 a1) - (M 419 (7600 + a1))) else none) else none) else none)))
set_option maxRecDepth 100000 in
set_option maxHeartbeats 4000000 in
theorem s_X11_marksIn {G : fG} (hg : gbt G = true) {a1 : Int} (ga1 : rg a1) {M : fMem} {q : Int} (h : f_X11_marksIn a1 M = some q) : fSp G mX11_marksIn [rv G 418, iv a1] M (rP M q) fNo := by
  refine fSp_of (by decide +kernel) (by decide +kernel) (fC1 rfl (fC1 rfl fC0)) (Nat.le_of_ble_eq_true rfl) ?_
  show fW G mX11_marksIn (fEm G mX11_marksIn (rP M q) fNo) 0 0 0 [some (rv G 418), some (iv a1)] [] M
  rw [f_X11_marksIn] at h
  refine fW_rg (fun hR => ?_)
  refine fW_aload_n 1 dX11_marksIn_0 rfl rfl ?_
  refine fW_iload_n 2 dX11_marksIn_1 rfl rfl ?_
  obtain ⟨r1, e1, h⟩ := fBd h
  refine fW_cB (fI_V (as := [iv a1]) (rest := []) miX11_isShut hg clX11 rfl tc_418 wd_1340 (fRoom_of rfl) rfl (Nat.le_of_ble_eq_true rfl) dX11_marksIn_2) (s_X11_isShut hg ga1 e1) rfl rfl rfl (fun g1 => ?_)
  refine fW_if_eq 8 28 (rg_z g1) dX11_marksIn_5 rfl rfl (fun c2 => ?_) (fun c2 => ?_)
  · replace h := fTt h c2
    refine fW_iconst 29 dX11_marksIn_28 rfl ?_
    exact fW_iret rfl (by decide) (by decide) dX11_marksIn_29 (rP_i h (by decide))
  · replace h := fFf h c2
    refine fW_aload_n 9 dX11_marksIn_8 rfl rfl ?_
    refine fW_getR 12 (r := 429) 12 hg clX11 (by decide) rfl tc_418 tf_11_12 wd_1186 dX11_marksIn_9 rfl ?_
    refine fW_iload_n 13 dX11_marksIn_12 rfl rfl ?_
    obtain ⟨c3, h⟩ := fS h
    refine fW_iald 14 hg tc_429 ⟨c3.1, by rw [show Ln 429 = 19 from rfl]; exact c3.2⟩ dX11_marksIn_13 rfl ?_
    refine fW_aload_n 15 dX11_marksIn_14 rfl rfl ?_
    refine fW_getR 18 (r := 419) 0 hg clX11 (by decide) rfl tc_418 tf_11_0 wd_1174 dX11_marksIn_15 rfl ?_
    refine fW_sipush 21 dX11_marksIn_18 rfl (by decide) ?_
    refine fW_iload_n 22 dX11_marksIn_21 rfl rfl ?_
    refine fW_iadd 23 dX11_marksIn_22 rfl ?_
    obtain ⟨c4, h⟩ := fS h
    refine fW_iald 24 hg tc_419 ⟨c4.1, by rw [show Ln 419 = 7787 from rfl]; exact c4.2⟩ dX11_marksIn_23 rfl ?_
    refine fW_isub 25 dX11_marksIn_24 rfl ?_
    refine fW_goto 29 dX11_marksIn_25 rfl ?_
    obtain ⟨c5, h⟩ := fS h
    exact fW_iret rfl (by decide) (by decide) dX11_marksIn_29 (rP_i h c5)
def mX11_isMark : fMt := (yX11_isMark, cX11_isMark, 4, some .boolean, { frames := 0, cells := 0, slots := 0, locals := 0 })
theorem miX11_isMark : fMv mX11_isMark 3 := ⟨⟨fM 1470 (by decide +kernel) rfl, fM 101 (by decide +kernel) rfl, ⟨by decide +kernel, by decide +kernel⟩, by decide +kernel⟩, fM 1469 (by decide +kernel) rfl, fM 63 (by decide +kernel) rfl⟩
def f_X11_isMark (a1 : Int) (a2 : Int) (a3 : Int) (M : fMem) : Option (Int) := (if 0 ≤ (700 * a1) + a2 ∧ (700 * a1) + a2 < 13300 then (if (M 426 ((700 * a1) + a2)) ≤ 0 then some 0 else (if 0 ≤ (700 * a1) + a2 ∧ (700 * a1) + a2 < 13300 then (if (M 427 ((700 * a1) + a2)) = a3 then some 1 else some 0) else none)) else none)
set_option maxRecDepth 100000 in
set_option maxHeartbeats 4000000 in
theorem s_X11_isMark {G : fG} (hg : gbt G = true) {a1 : Int} (ga1 : rg a1) {a2 : Int} (ga2 : rg a2) {a3 : Int} (ga3 : rg a3) {M : fMem} {q : Int} (h : f_X11_isMark a1 a2 a3 M = some q) : fSp G mX11_isMark [rv G 418, iv a1, iv a2, iv a3] M (rB M q) fNo := by
  refine fSp_of (by decide +kernel) (by decide +kernel) (fC1 rfl (fC1 rfl (fC1 rfl (fC1 rfl fC0)))) (Nat.le_of_ble_eq_true rfl) ?_
  show fW G mX11_isMark (fEm G mX11_isMark (rB M q) fNo) 0 0 0 [some (rv G 418), some (iv a1), some (iv a2), some (iv a3)] [] M
  rw [f_X11_isMark] at h
  refine fW_rg (fun hR => ?_)
  refine fW_aload_n 1 dX11_isMark_0 rfl rfl ?_
  refine fW_getR 4 (r := 426) 9 hg clX11 (by decide) rfl tc_418 tf_11_9 wd_1183 dX11_isMark_1 rfl ?_
  refine fW_sipush 7 dX11_isMark_4 rfl (by decide) ?_
  refine fW_iload_n 8 dX11_isMark_7 rfl rfl ?_
  refine fW_imul 9 dX11_isMark_8 rfl ?_
  refine fW_iload_n 10 dX11_isMark_9 rfl rfl ?_
  refine fW_iadd 11 dX11_isMark_10 rfl ?_
  obtain ⟨c1, h⟩ := fS h
  refine fW_iald 12 hg tc_426 ⟨c1.1, by rw [show Ln 426 = 13300 from rfl]; exact c1.2⟩ dX11_isMark_11 rfl ?_
  refine fW_if_le 15 35 (hR 426 ((700 * a1) + a2)) dX11_isMark_12 rfl rfl (fun c2 => ?_) (fun c2 => ?_)
  · replace h := fTt h c2
    refine fW_iconst 36 dX11_isMark_35 rfl ?_
    exact fW_zret rfl (by decide) (by decide) (by decide) dX11_isMark_36 (rB_i h (by decide))
  · replace h := fFf h c2
    refine fW_aload_n 16 dX11_isMark_15 rfl rfl ?_
    refine fW_getR 19 (r := 427) 10 hg clX11 (by decide) rfl tc_418 tf_11_10 wd_1184 dX11_isMark_16 rfl ?_
    refine fW_sipush 22 dX11_isMark_19 rfl (by decide) ?_
    refine fW_iload_n 23 dX11_isMark_22 rfl rfl ?_
    refine fW_imul 24 dX11_isMark_23 rfl ?_
    refine fW_iload_n 25 dX11_isMark_24 rfl rfl ?_
    refine fW_iadd 26 dX11_isMark_25 rfl ?_
    obtain ⟨c3, h⟩ := fS h
    refine fW_iald 27 hg tc_427 ⟨c3.1, by rw [show Ln 427 = 13300 from rfl]; exact c3.2⟩ dX11_isMark_26 rfl ?_
    refine fW_iload_n 28 dX11_isMark_27 rfl rfl ?_
    refine fW_icmp_ne 31 35 (hR 427 ((700 * a1) + a2)) ga3 dX11_isMark_28 rfl rfl (fun c4 => ?_) (fun c4 => ?_)
    · replace h := fFf h c4
      refine fW_iconst 36 dX11_isMark_35 rfl ?_
      exact fW_zret rfl (by decide) (by decide) (by decide) dX11_isMark_36 (rB_i h (by decide))
    · replace h := fTt h c4
      refine fW_iconst 32 dX11_isMark_31 rfl ?_
      refine fW_goto 36 dX11_isMark_32 rfl ?_
      exact fW_zret rfl (by decide) (by decide) (by decide) dX11_isMark_36 (rB_i h (by decide))
def mX11_bounds : fMt := (yX11_bounds, cX11_bounds, 5, none, { frames := 1, cells := 0, slots := 0, locals := 40 })
theorem miX11_bounds : fMv mX11_bounds 3 := ⟨⟨fM 1466 (by decide +kernel) rfl, fM 101 (by decide +kernel) rfl, ⟨by decide +kernel, by decide +kernel⟩, by decide +kernel⟩, fM 1465 (by decide +kernel) rfl, fM 62 (by decide +kernel) rfl⟩
def L_X11_bounds_31  (k : Int → Int → Int → fMem → Option (fMem)) : Nat → Int → Int → Int → Int → fMem → Option (fMem)
  | 0, _, _, _, _, _ => none
  | n + 1, v1, v2, v3, v4, M => (if v3 ≤ v4 then k v1 v2 v3 M else ((f_X11_isMark v2 v4 v1 M).bind fun (r7 : Int) => (if r7 = 0 then L_X11_bounds_31  k n v1 v2 v3 (v4 + 1) M else (if 0 ≤ (700 * v2) + v4 ∧ (700 * v2) + v4 < 13300 then (if -2147483648 ≤ (M 428 ((700 * v2) + v4)) + 1 ∧ (M 428 ((700 * v2) + v4)) + 1 < 2147483648 then L_X11_bounds_31  k n v1 v2 v3 (v4 + 1) (mset M 418 14 ((M 428 ((700 * v2) + v4)) + 1)) else none) else none))))
set_option maxRecDepth 100000 in
set_option maxHeartbeats 4000000 in
theorem l_X11_bounds_31 {G : fG} (hg : gbt G = true)  {q : fMem} {k : Int → Int → Int → fMem → Option (fMem)} (hk : ∀ (v1 : Int) (v2 : Int) (v3 : Int) (M : fMem), rg v1 → rg v2 → rg v3 → k v1 v2 v3 M = some q → fW G mX11_bounds (fEm G mX11_bounds (rV q) fNo) 0 0 73 [some (rv G 418), some (iv v1), some (iv v2), some (iv v3), none] [] M) : ∀ (n : Nat) (v1 : Int) (v2 : Int) (v3 : Int) (v4 : Int) (M : fMem), rg v1 → rg v2 → rg v3 → rg v4 → L_X11_bounds_31 k n v1 v2 v3 v4 M = some q → fW G mX11_bounds (fEm G mX11_bounds (rV q) fNo) 0 0 31 [some (rv G 418), some (iv v1), some (iv v2), some (iv v3), some (iv v4)] [] M := by
  intro n
  induction n with
  | zero =>
    intro v1 v2 v3 v4 M gv1 gv2 gv3 gv4 h
    rw [L_X11_bounds_31] at h
    exact absurd h (by simp)
  | succ n ih =>
    intro v1 v2 v3 v4 M gv1 gv2 gv3 gv4 h
    rw [L_X11_bounds_31] at h
    refine fW_rg (fun hR => ?_)
    refine fW_iload 33 dX11_bounds_31 rfl rfl ?_
    refine fW_iload_n 34 dX11_bounds_33 rfl rfl ?_
    refine fW_icmp_ge 37 73 gv4 gv3 dX11_bounds_34 rfl rfl (fun c6 => ?_) (fun c6 => ?_)
    · replace h := fTt h c6
      exact fW_sb (hk v1 v2 v3 M gv1 gv2 gv3 h) ⟨rfl, rfl, rfl, rfl, trivial⟩
    · replace h := fFf h c6
      refine fW_aload_n 38 dX11_bounds_37 rfl rfl ?_
      refine fW_iload_n 39 dX11_bounds_38 rfl rfl ?_
      refine fW_iload 41 dX11_bounds_39 rfl rfl ?_
      refine fW_iload_n 42 dX11_bounds_41 rfl rfl ?_
      obtain ⟨r7, e7, h⟩ := fBd h
      refine fW_cB (fI_V (as := [iv v2, iv v4, iv v1]) (rest := []) miX11_isMark hg clX11 rfl tc_418 wd_1467 (fRoom_of rfl) rfl (Nat.le_of_ble_eq_true rfl) dX11_bounds_42) (s_X11_isMark hg gv2 gv4 gv1 e7) rfl rfl rfl (fun g7 => ?_)
      refine fW_if_eq 48 67 (rg_z g7) dX11_bounds_45 rfl rfl (fun c8 => ?_) (fun c8 => ?_)
      · replace h := fTt h c8
        refine fW_iinc 70 (ls' := [some (rv G 418), some (iv v1), some (iv v2), some (iv v3), some (iv (v4 + 1))]) dX11_bounds_67 rfl rfl rfl (by decide) ?_
        refine fW_goto 31 dX11_bounds_70 rfl ?_
        exact fW_sb (ih v1 v2 v3 (v4 + 1) M gv1 gv2 gv3 (rg_succ' gv4 gv3 c6) h) ⟨rfl, rfl, rfl, rfl, rfl, trivial⟩
      · replace h := fFf h c8
        refine fW_aload_n 49 dX11_bounds_48 rfl rfl ?_
        refine fW_aload_n 50 dX11_bounds_49 rfl rfl ?_
        refine fW_getR 53 (r := 428) 11 hg clX11 (by decide) rfl tc_418 tf_11_11 wd_1185 dX11_bounds_50 rfl ?_
        refine fW_sipush 56 dX11_bounds_53 rfl (by decide) ?_
        refine fW_iload_n 57 dX11_bounds_56 rfl rfl ?_
        refine fW_imul 58 dX11_bounds_57 rfl ?_
        refine fW_iload 60 dX11_bounds_58 rfl rfl ?_
        refine fW_iadd 61 dX11_bounds_60 rfl ?_
        obtain ⟨c9, h⟩ := fS h
        refine fW_iald 62 hg tc_428 ⟨c9.1, by rw [show Ln 428 = 13300 from rfl]; exact c9.2⟩ dX11_bounds_61 rfl ?_
        refine fW_iconst 63 dX11_bounds_62 rfl ?_
        refine fW_iadd 64 dX11_bounds_63 rfl ?_
        obtain ⟨c10, h⟩ := fS h
        refine fW_putI 67 14 (ji := 14) hg clX11 rfl (by decide) rfl rfl rfl tc_418 c10 wd_1188 dX11_bounds_64 rfl ?_
        refine fW_rg (fun hR11 => ?_)
        refine fW_iinc 70 (ls' := [some (rv G 418), some (iv v1), some (iv v2), some (iv v3), some (iv (v4 + 1))]) dX11_bounds_67 rfl rfl rfl (by decide) ?_
        refine fW_goto 31 dX11_bounds_70 rfl ?_
        exact fW_sb (ih v1 v2 v3 (v4 + 1) (mset M 418 14 ((M 428 ((700 * v2) + v4)) + 1)) gv1 gv2 gv3 (rg_succ' gv4 gv3 c6) h) ⟨rfl, rfl, rfl, rfl, rfl, trivial⟩
def L_X11_bounds_83  (k : fMem → Option (fMem)) : Nat → Int → Int → Int → Int → fMem → Option (fMem)
  | 0, _, _, _, _, _ => none
  | n + 1, v1, v2, v3, v4, M => (if v4 < v3 then k  M else ((f_X11_isMark v2 v4 v1 M).bind fun (r16 : Int) => (if r16 = 0 then (if -2147483648 ≤ v4 + -1 ∧ v4 + -1 < 2147483648 then L_X11_bounds_83  k n v1 v2 v3 (v4 + -1) M else none) else (if 0 ≤ (700 * v2) + v4 ∧ (700 * v2) + v4 < 13300 then (if -2147483648 ≤ v4 + -1 ∧ v4 + -1 < 2147483648 then L_X11_bounds_83  k n v1 v2 v3 (v4 + -1) (mset M 418 15 (M 428 ((700 * v2) + v4))) else none) else none))))
set_option maxRecDepth 100000 in
set_option maxHeartbeats 4000000 in
theorem l_X11_bounds_83 {G : fG} (hg : gbt G = true)  {q : fMem} {k : fMem → Option (fMem)} (hk : ∀ (M : fMem), k M = some q → fW G mX11_bounds (fEm G mX11_bounds (rV q) fNo) 0 0 123 [some (rv G 418), none, none, none, none] [] M) : ∀ (n : Nat) (v1 : Int) (v2 : Int) (v3 : Int) (v4 : Int) (M : fMem), rg v1 → rg v2 → rg v3 → rg v4 → L_X11_bounds_83 k n v1 v2 v3 v4 M = some q → fW G mX11_bounds (fEm G mX11_bounds (rV q) fNo) 0 0 83 [some (rv G 418), some (iv v1), some (iv v2), some (iv v3), some (iv v4)] [] M := by
  intro n
  induction n with
  | zero =>
    intro v1 v2 v3 v4 M gv1 gv2 gv3 gv4 h
    rw [L_X11_bounds_83] at h
    exact absurd h (by simp)
  | succ n ih =>
    intro v1 v2 v3 v4 M gv1 gv2 gv3 gv4 h
    rw [L_X11_bounds_83] at h
    refine fW_rg (fun hR => ?_)
    refine fW_iload 85 dX11_bounds_83 rfl rfl ?_
    refine fW_iload_n 86 dX11_bounds_85 rfl rfl ?_
    refine fW_icmp_lt 89 123 gv4 gv3 dX11_bounds_86 rfl rfl (fun c15 => ?_) (fun c15 => ?_)
    · replace h := fTt h c15
      exact fW_sb (hk M h) ⟨rfl, trivial⟩
    · replace h := fFf h c15
      refine fW_aload_n 90 dX11_bounds_89 rfl rfl ?_
      refine fW_iload_n 91 dX11_bounds_90 rfl rfl ?_
      refine fW_iload 93 dX11_bounds_91 rfl rfl ?_
      refine fW_iload_n 94 dX11_bounds_93 rfl rfl ?_
      obtain ⟨r16, e16, h⟩ := fBd h
      refine fW_cB (fI_V (as := [iv v2, iv v4, iv v1]) (rest := []) miX11_isMark hg clX11 rfl tc_418 wd_1467 (fRoom_of rfl) rfl (Nat.le_of_ble_eq_true rfl) dX11_bounds_94) (s_X11_isMark hg gv2 gv4 gv1 e16) rfl rfl rfl (fun g16 => ?_)
      refine fW_if_eq 100 117 (rg_z g16) dX11_bounds_97 rfl rfl (fun c17 => ?_) (fun c17 => ?_)
      · replace h := fTt h c17
        refine fW_iinc 120 (ls' := [some (rv G 418), some (iv v1), some (iv v2), some (iv v3), some (iv (v4 + -1))]) dX11_bounds_117 rfl rfl rfl (by decide) ?_
        refine fW_goto 83 dX11_bounds_120 rfl ?_
        obtain ⟨c18, h⟩ := fS h
        exact fW_sb (ih v1 v2 v3 (v4 + -1) M gv1 gv2 gv3 c18 h) ⟨rfl, rfl, rfl, rfl, rfl, trivial⟩
      · replace h := fFf h c17
        refine fW_aload_n 101 dX11_bounds_100 rfl rfl ?_
        refine fW_aload_n 102 dX11_bounds_101 rfl rfl ?_
        refine fW_getR 105 (r := 428) 11 hg clX11 (by decide) rfl tc_418 tf_11_11 wd_1185 dX11_bounds_102 rfl ?_
        refine fW_sipush 108 dX11_bounds_105 rfl (by decide) ?_
        refine fW_iload_n 109 dX11_bounds_108 rfl rfl ?_
        refine fW_imul 110 dX11_bounds_109 rfl ?_
        refine fW_iload 112 dX11_bounds_110 rfl rfl ?_
        refine fW_iadd 113 dX11_bounds_112 rfl ?_
        obtain ⟨c19, h⟩ := fS h
        refine fW_iald 114 hg tc_428 ⟨c19.1, by rw [show Ln 428 = 13300 from rfl]; exact c19.2⟩ dX11_bounds_113 rfl ?_
        refine fW_putI 117 15 (ji := 15) hg clX11 rfl (by decide) rfl rfl rfl tc_418 (hR 428 ((700 * v2) + v4)) wd_1189 dX11_bounds_114 rfl ?_
        refine fW_rg (fun hR20 => ?_)
        refine fW_iinc 120 (ls' := [some (rv G 418), some (iv v1), some (iv v2), some (iv v3), some (iv (v4 + -1))]) dX11_bounds_117 rfl rfl rfl (by decide) ?_
        refine fW_goto 83 dX11_bounds_120 rfl ?_
        obtain ⟨c21, h⟩ := fS h
        exact fW_sb (ih v1 v2 v3 (v4 + -1) (mset M 418 15 (M 428 ((700 * v2) + v4))) gv1 gv2 gv3 c21 h) ⟨rfl, rfl, rfl, rfl, rfl, trivial⟩
def f_X11_bounds (a1 : Int) (a2 : Int) (a3 : Int) (M : fMem) : Option (fMem) := (if 0 ≤ a1 ∧ a1 < 19 then (if a2 = ((-1)) then some (mset (mset M 418 14 0) 418 15 ((mset M 418 14 0) 429 a1)) else (if ((mset (mset M 418 14 0) 418 15 ((mset M 418 14 0) 429 a1)) 418 13) = 0 then L_X11_bounds_31 (fun (v1_12 : Int) (v2_12 : Int) (v3_12 : Int) (M_12 : fMem) => (if 0 ≤ v2_12 ∧ v2_12 < 19 then (if -2147483648 ≤ (M_12 429 v2_12) - 1 ∧ (M_12 429 v2_12) - 1 < 2147483648 then L_X11_bounds_83 (fun  (M_22 : fMem) => some M_22) 20000 v1_12 v2_12 v3_12 ((M_12 429 v2_12) - 1) M_12 else none) else none)) 20000 a1 a2 a3 0 (mset (mset M 418 14 0) 418 15 ((mset M 418 14 0) 429 a1)) else some (mset (mset M 418 14 0) 418 15 ((mset M 418 14 0) 429 a1)))) else none)
set_option maxRecDepth 100000 in
set_option maxHeartbeats 4000000 in
theorem s_X11_bounds {G : fG} (hg : gbt G = true) {a1 : Int} (ga1 : rg a1) {a2 : Int} (ga2 : rg a2) {a3 : Int} (ga3 : rg a3) {M : fMem} {q : fMem} (h : f_X11_bounds a1 a2 a3 M = some q) : fSp G mX11_bounds [rv G 418, iv a1, iv a2, iv a3] M (rV q) fNo := by
  refine fSp_of (by decide +kernel) (by decide +kernel) (fC1 rfl (fC1 rfl (fC1 rfl (fC1 rfl fC0)))) (Nat.le_of_ble_eq_true rfl) ?_
  show fW G mX11_bounds (fEm G mX11_bounds (rV q) fNo) 0 0 0 [some (rv G 418), some (iv a1), some (iv a2), some (iv a3), none] [] M
  rw [f_X11_bounds] at h
  refine fW_rg (fun hR => ?_)
  refine fW_aload_n 1 dX11_bounds_0 rfl rfl ?_
  refine fW_iconst 2 dX11_bounds_1 rfl ?_
  refine fW_putI 5 14 (ji := 14) hg clX11 rfl (by decide) rfl rfl rfl tc_418 (by decide) wd_1188 dX11_bounds_2 rfl ?_
  refine fW_rg (fun hR1 => ?_)
  refine fW_aload_n 6 dX11_bounds_5 rfl rfl ?_
  refine fW_aload_n 7 dX11_bounds_6 rfl rfl ?_
  refine fW_getR 10 (r := 429) 12 hg clX11 (by decide) rfl tc_418 tf_11_12 wd_1186 dX11_bounds_7 rfl ?_
  refine fW_iload_n 11 dX11_bounds_10 rfl rfl ?_
  obtain ⟨c2, h⟩ := fS h
  refine fW_iald 12 hg tc_429 ⟨c2.1, by rw [show Ln 429 = 19 from rfl]; exact c2.2⟩ dX11_bounds_11 rfl ?_
  refine fW_putI 15 15 (ji := 15) hg clX11 rfl (by decide) rfl rfl rfl tc_418 (hR1 429 a1) wd_1189 dX11_bounds_12 rfl ?_
  refine fW_rg (fun hR3 => ?_)
  refine fW_iload_n 16 dX11_bounds_15 rfl rfl ?_
  refine fW_iconst 17 dX11_bounds_16 rfl ?_
  refine fW_icmp_eq 20 27 ga2 (by decide) dX11_bounds_17 rfl rfl (fun c4 => ?_) (fun c4 => ?_)
  · replace h := fTt h c4
    exact fW_vret rfl (by decide) (by decide) dX11_bounds_27 (rV_i h)
  · replace h := fFf h c4
    refine fW_aload_n 21 dX11_bounds_20 rfl rfl ?_
    refine fW_getI 24 13 (ji := 13) hg clX11 rfl (by decide) rfl tc_418 wd_1187 dX11_bounds_21 rfl ?_
    refine fW_if_eq 27 28 (hR3 418 13) dX11_bounds_24 rfl rfl (fun c5 => ?_) (fun c5 => ?_)
    · replace h := fTt h c5
      refine fW_iconst 29 dX11_bounds_28 rfl ?_
      refine fW_istore 31 (ls' := [some (rv G 418), some (iv a1), some (iv a2), some (iv a3), some (iv 0)]) dX11_bounds_29 rfl rfl (by decide) ?_
      refine fW_sb (l_X11_bounds_31 hg ?_ 20000 a1 a2 a3 0 (mset (mset M 418 14 0) 418 15 ((mset M 418 14 0) 429 a1)) ga1 ga2 ga3 (by decide) h) ⟨rfl, rfl, rfl, rfl, rfl, trivial⟩
      intro v1_12 v2_12 v3_12 M_12 gv1_12 gv2_12 gv3_12 h
      refine fW_rg (fun hR_12 => ?_)
      refine fW_aload_n 74 dX11_bounds_73 rfl rfl ?_
      refine fW_getR 77 (r := 429) 12 hg clX11 (by decide) rfl tc_418 tf_11_12 wd_1186 dX11_bounds_74 rfl ?_
      refine fW_iload_n 78 dX11_bounds_77 rfl rfl ?_
      obtain ⟨c13, h⟩ := fS h
      refine fW_iald 79 hg tc_429 ⟨c13.1, by rw [show Ln 429 = 19 from rfl]; exact c13.2⟩ dX11_bounds_78 rfl ?_
      refine fW_iconst 80 dX11_bounds_79 rfl ?_
      refine fW_isub 81 dX11_bounds_80 rfl ?_
      refine fW_istore 83 (ls' := [some (rv G 418), some (iv v1_12), some (iv v2_12), some (iv v3_12), some (iv ((M_12 429 v2_12) - 1))]) dX11_bounds_81 rfl rfl (by decide) ?_
      obtain ⟨c14, h⟩ := fS h
      refine fW_sb (l_X11_bounds_83 hg ?_ 20000 v1_12 v2_12 v3_12 ((M_12 429 v2_12) - 1) M_12 gv1_12 gv2_12 gv3_12 c14 h) ⟨rfl, rfl, rfl, rfl, rfl, trivial⟩
      intro M_22 h
      refine fW_rg (fun hR_22 => ?_)
      exact fW_vret rfl (by decide) (by decide) dX11_bounds_123 (rV_i h)
    · replace h := fFf h c5
      exact fW_vret rfl (by decide) (by decide) dX11_bounds_27 (rV_i h)
def mX11_fallsIn : fMt := (yX11_fallsIn, cX11_fallsIn, 6, some .int, { frames := 0, cells := 0, slots := 0, locals := 0 })
theorem miX11_fallsIn : fMv mX11_fallsIn 2 := ⟨⟨fM 1474 (by decide +kernel) rfl, fM 101 (by decide +kernel) rfl, ⟨by decide +kernel, by decide +kernel⟩, by decide +kernel⟩, fM 1473 (by decide +kernel) rfl, fM 64 (by decide +kernel) rfl⟩
def L_X11_fallsIn_11  (k : Int → fMem → Option (Int × fMem)) : Nat → Int → Int → Int → Int → fMem → Option (Int × fMem)
  | 0, _, _, _, _, _ => none
  | n + 1, v1, v2, v3, v4, M => (if v4 ≤ v3 then k v3 M else (if 0 ≤ v3 + v4 ∧ v3 + v4 < 2147483648 then (if -2147483648 ≤ (M 418 16) + 1 ∧ (M 418 16) + 1 < 2147483648 then (if 0 ≤ (700 * v1) + ((v3 + v4) / 2) ∧ (700 * v1) + ((v3 + v4) / 2) < 13300 then (if v2 ≤ ((mset M 418 16 ((M 418 16) + 1)) 425 ((700 * v1) + ((v3 + v4) / 2))) then (if -2147483648 ≤ (v3 + v4) / 2 ∧ (v3 + v4) / 2 < 2147483648 then L_X11_fallsIn_11  k n v1 v2 v3 ((v3 + v4) / 2) (mset M 418 16 ((M 418 16) + 1)) else none) else (if -2147483648 ≤ ((v3 + v4) / 2) + 1 ∧ ((v3 + v4) / 2) + 1 < 2147483648 then L_X11_fallsIn_11  k n v1 v2 (((v3 + v4) / 2) + 1) v4 (mset M 418 16 ((M 418 16) + 1)) else none)) else none) else none) else none))
set_option maxRecDepth 100000 in
set_option maxHeartbeats 4000000 in
theorem l_X11_fallsIn_11 {G : fG} (hg : gbt G = true)  {q : Int × fMem} {k : Int → fMem → Option (Int × fMem)} (hk : ∀ (v3 : Int) (M : fMem), rg v3 → k v3 M = some q → fW G mX11_fallsIn (fEm G mX11_fallsIn (rP q.2 q.1) fNo) 0 0 67 [some (rv G 418), none, none, some (iv v3), none, none] [] M) : ∀ (n : Nat) (v1 : Int) (v2 : Int) (v3 : Int) (v4 : Int) (M : fMem), rg v1 → rg v2 → rg v3 → rg v4 → L_X11_fallsIn_11 k n v1 v2 v3 v4 M = some q → fW G mX11_fallsIn (fEm G mX11_fallsIn (rP q.2 q.1) fNo) 0 0 11 [some (rv G 418), some (iv v1), some (iv v2), some (iv v3), some (iv v4), none] [] M := by
  intro n
  induction n with
  | zero =>
    intro v1 v2 v3 v4 M gv1 gv2 gv3 gv4 h
    rw [L_X11_fallsIn_11] at h
    exact absurd h (by simp)
  | succ n ih =>
    intro v1 v2 v3 v4 M gv1 gv2 gv3 gv4 h
    rw [L_X11_fallsIn_11] at h
    refine fW_rg (fun hR => ?_)
    refine fW_iload_n 12 dX11_fallsIn_11 rfl rfl ?_
    refine fW_iload 14 dX11_fallsIn_12 rfl rfl ?_
    refine fW_icmp_ge 17 67 gv3 gv4 dX11_fallsIn_14 rfl rfl (fun c1 => ?_) (fun c1 => ?_)
    · replace h := fTt h c1
      exact fW_sb (hk v3 M gv3 h) ⟨rfl, rfl, trivial⟩
    · replace h := fFf h c1
      refine fW_iload_n 18 dX11_fallsIn_17 rfl rfl ?_
      refine fW_iload 20 dX11_fallsIn_18 rfl rfl ?_
      refine fW_iadd 21 dX11_fallsIn_20 rfl ?_
      refine fW_iconst 22 dX11_fallsIn_21 rfl ?_
      obtain ⟨c2, h⟩ := fS h
      refine fW_idiv 23 c2 (by decide) dX11_fallsIn_22 rfl ?_
      refine fW_istore 25 (ls' := [some (rv G 418), some (iv v1), some (iv v2), some (iv v3), some (iv v4), some (iv ((v3 + v4) / 2))]) dX11_fallsIn_23 rfl rfl (by decide) ?_
      refine fW_aload_n 26 dX11_fallsIn_25 rfl rfl ?_
      refine fW_dup 27 dX11_fallsIn_26 rfl rfl ?_
      refine fW_getI 30 16 (ji := 16) hg clX11 rfl (by decide) rfl tc_418 wd_1190 dX11_fallsIn_27 rfl ?_
      refine fW_iconst 31 dX11_fallsIn_30 rfl ?_
      refine fW_iadd 32 dX11_fallsIn_31 rfl ?_
      obtain ⟨c3, h⟩ := fS h
      refine fW_putI 35 16 (ji := 16) hg clX11 rfl (by decide) rfl rfl rfl tc_418 c3 wd_1190 dX11_fallsIn_32 rfl ?_
      refine fW_rg (fun hR4 => ?_)
      refine fW_aload_n 36 dX11_fallsIn_35 rfl rfl ?_
      refine fW_getR 39 (r := 425) 8 hg clX11 (by decide) rfl tc_418 tf_11_8 wd_1182 dX11_fallsIn_36 rfl ?_
      refine fW_sipush 42 dX11_fallsIn_39 rfl (by decide) ?_
      refine fW_iload_n 43 dX11_fallsIn_42 rfl rfl ?_
      refine fW_imul 44 dX11_fallsIn_43 rfl ?_
      refine fW_iload 46 dX11_fallsIn_44 rfl rfl ?_
      refine fW_iadd 47 dX11_fallsIn_46 rfl ?_
      obtain ⟨c5, h⟩ := fS h
      refine fW_iald 48 hg tc_425 ⟨c5.1, by rw [show Ln 425 = 13300 from rfl]; exact c5.2⟩ dX11_fallsIn_47 rfl ?_
      refine fW_iload_n 49 dX11_fallsIn_48 rfl rfl ?_
      refine fW_icmp_ge 52 60 (hR4 425 ((700 * v1) + ((v3 + v4) / 2))) gv2 dX11_fallsIn_49 rfl rfl (fun c6 => ?_) (fun c6 => ?_)
      · replace h := fTt h c6
        refine fW_iload 62 dX11_fallsIn_60 rfl rfl ?_
        refine fW_istore 64 (ls' := [some (rv G 418), some (iv v1), some (iv v2), some (iv v3), some (iv ((v3 + v4) / 2)), some (iv ((v3 + v4) / 2))]) dX11_fallsIn_62 rfl rfl (by decide) ?_
        refine fW_goto 11 dX11_fallsIn_64 rfl ?_
        obtain ⟨c7, h⟩ := fS h
        exact fW_sb (ih v1 v2 v3 ((v3 + v4) / 2) (mset M 418 16 ((M 418 16) + 1)) gv1 gv2 gv3 c7 h) ⟨rfl, rfl, rfl, rfl, rfl, trivial⟩
      · replace h := fFf h c6
        refine fW_iload 54 dX11_fallsIn_52 rfl rfl ?_
        refine fW_iconst 55 dX11_fallsIn_54 rfl ?_
        refine fW_iadd 56 dX11_fallsIn_55 rfl ?_
        refine fW_istore_n 57 (ls' := [some (rv G 418), some (iv v1), some (iv v2), some (iv (((v3 + v4) / 2) + 1)), some (iv v4), some (iv ((v3 + v4) / 2))]) dX11_fallsIn_56 rfl rfl rfl (by decide) ?_
        refine fW_goto 64 dX11_fallsIn_57 rfl ?_
        refine fW_goto 11 dX11_fallsIn_64 rfl ?_
        obtain ⟨c8, h⟩ := fS h
        exact fW_sb (ih v1 v2 (((v3 + v4) / 2) + 1) v4 (mset M 418 16 ((M 418 16) + 1)) gv1 gv2 c8 gv4 h) ⟨rfl, rfl, rfl, rfl, rfl, trivial⟩
def f_X11_fallsIn (a1 : Int) (a2 : Int) (M : fMem) : Option (Int × fMem) := L_X11_fallsIn_11 (fun (v3_9 : Int) (M_9 : fMem) => some (v3_9, M_9)) 20000 a1 a2 (M 418 14) (M 418 15) M
set_option maxRecDepth 100000 in
set_option maxHeartbeats 4000000 in
theorem s_X11_fallsIn {G : fG} (hg : gbt G = true) {a1 : Int} (ga1 : rg a1) {a2 : Int} (ga2 : rg a2) {M : fMem} {q : Int × fMem} (h : f_X11_fallsIn a1 a2 M = some q) : fSp G mX11_fallsIn [rv G 418, iv a1, iv a2] M (rP q.2 q.1) fNo := by
  refine fSp_of (by decide +kernel) (by decide +kernel) (fC1 rfl (fC1 rfl (fC1 rfl fC0))) (Nat.le_of_ble_eq_true rfl) ?_
  show fW G mX11_fallsIn (fEm G mX11_fallsIn (rP q.2 q.1) fNo) 0 0 0 [some (rv G 418), some (iv a1), some (iv a2), none, none, none] [] M
  rw [f_X11_fallsIn] at h
  refine fW_rg (fun hR => ?_)
  refine fW_aload_n 1 dX11_fallsIn_0 rfl rfl ?_
  refine fW_getI 4 14 (ji := 14) hg clX11 rfl (by decide) rfl tc_418 wd_1188 dX11_fallsIn_1 rfl ?_
  refine fW_istore_n 5 (ls' := [some (rv G 418), some (iv a1), some (iv a2), some (iv (M 418 14)), none, none]) dX11_fallsIn_4 rfl rfl rfl (by decide) ?_
  refine fW_aload_n 6 dX11_fallsIn_5 rfl rfl ?_
  refine fW_getI 9 15 (ji := 15) hg clX11 rfl (by decide) rfl tc_418 wd_1189 dX11_fallsIn_6 rfl ?_
  refine fW_istore 11 (ls' := [some (rv G 418), some (iv a1), some (iv a2), some (iv (M 418 14)), some (iv (M 418 15)), none]) dX11_fallsIn_9 rfl rfl (by decide) ?_
  refine fW_sb (l_X11_fallsIn_11 hg ?_ 20000 a1 a2 (M 418 14) (M 418 15) M ga1 ga2 (hR 418 14) (hR 418 15) h) ⟨rfl, rfl, rfl, rfl, rfl, trivial⟩
  intro v3_9 M_9 gv3_9 h
  refine fW_rg (fun hR_9 => ?_)
  refine fW_iload_n 68 dX11_fallsIn_67 rfl rfl ?_
  exact fW_iret rfl (by decide) (by decide) dX11_fallsIn_68 (rI_i h gv3_9)
def mX11_isFoundAt : fMt := (yX11_isFoundAt, cX11_isFoundAt, 4, some .boolean, { frames := 0, cells := 0, slots := 0, locals := 0 })
theorem miX11_isFoundAt : fMv mX11_isFoundAt 3 := ⟨⟨fM 1478 (by decide +kernel) rfl, fM 101 (by decide +kernel) rfl, ⟨by decide +kernel, by decide +kernel⟩, by decide +kernel⟩, fM 1477 (by decide +kernel) rfl, fM 65 (by decide +kernel) rfl⟩
def f_X11_isFoundAt (a1 : Int) (a2 : Int) (a3 : Int) (M : fMem) : Option (Int × fMem) := (if 0 ≤ a1 ∧ a1 < 19 then (if a2 < (M 429 a1) then (if -2147483648 ≤ (M 418 16) + 1 ∧ (M 418 16) + 1 < 2147483648 then (if 0 ≤ (700 * a1) + a2 ∧ (700 * a1) + a2 < 13300 then (if ((mset M 418 16 ((M 418 16) + 1)) 425 ((700 * a1) + a2)) = a3 then (if 0 ≤ (700 * a1) + a2 ∧ (700 * a1) + a2 < 13300 then (if ((mset M 418 16 ((M 418 16) + 1)) 426 ((700 * a1) + a2)) = 0 then some (1, (mset M 418 16 ((M 418 16) + 1))) else some (0, (mset M 418 16 ((M 418 16) + 1)))) else none) else some (0, (mset M 418 16 ((M 418 16) + 1)))) else none) else none) else some (0, M)) else none)
set_option maxRecDepth 100000 in
set_option maxHeartbeats 4000000 in
theorem s_X11_isFoundAt {G : fG} (hg : gbt G = true) {a1 : Int} (ga1 : rg a1) {a2 : Int} (ga2 : rg a2) {a3 : Int} (ga3 : rg a3) {M : fMem} {q : Int × fMem} (h : f_X11_isFoundAt a1 a2 a3 M = some q) : fSp G mX11_isFoundAt [rv G 418, iv a1, iv a2, iv a3] M (rB q.2 q.1) fNo := by
  refine fSp_of (by decide +kernel) (by decide +kernel) (fC1 rfl (fC1 rfl (fC1 rfl (fC1 rfl fC0)))) (Nat.le_of_ble_eq_true rfl) ?_
  show fW G mX11_isFoundAt (fEm G mX11_isFoundAt (rB q.2 q.1) fNo) 0 0 0 [some (rv G 418), some (iv a1), some (iv a2), some (iv a3)] [] M
  rw [f_X11_isFoundAt] at h
  refine fW_rg (fun hR => ?_)
  refine fW_iload_n 1 dX11_isFoundAt_0 rfl rfl ?_
  refine fW_aload_n 2 dX11_isFoundAt_1 rfl rfl ?_
  refine fW_getR 5 (r := 429) 12 hg clX11 (by decide) rfl tc_418 tf_11_12 wd_1186 dX11_isFoundAt_2 rfl ?_
  refine fW_iload_n 6 dX11_isFoundAt_5 rfl rfl ?_
  obtain ⟨c1, h⟩ := fS h
  refine fW_iald 7 hg tc_429 ⟨c1.1, by rw [show Ln 429 = 19 from rfl]; exact c1.2⟩ dX11_isFoundAt_6 rfl ?_
  refine fW_icmp_lt 10 12 ga2 (hR 429 a1) dX11_isFoundAt_7 rfl rfl (fun c2 => ?_) (fun c2 => ?_)
  · replace h := fTt h c2
    refine fW_aload_n 13 dX11_isFoundAt_12 rfl rfl ?_
    refine fW_dup 14 dX11_isFoundAt_13 rfl rfl ?_
    refine fW_getI 17 16 (ji := 16) hg clX11 rfl (by decide) rfl tc_418 wd_1190 dX11_isFoundAt_14 rfl ?_
    refine fW_iconst 18 dX11_isFoundAt_17 rfl ?_
    refine fW_iadd 19 dX11_isFoundAt_18 rfl ?_
    obtain ⟨c3, h⟩ := fS h
    refine fW_putI 22 16 (ji := 16) hg clX11 rfl (by decide) rfl rfl rfl tc_418 c3 wd_1190 dX11_isFoundAt_19 rfl ?_
    refine fW_rg (fun hR4 => ?_)
    refine fW_aload_n 23 dX11_isFoundAt_22 rfl rfl ?_
    refine fW_getR 26 (r := 425) 8 hg clX11 (by decide) rfl tc_418 tf_11_8 wd_1182 dX11_isFoundAt_23 rfl ?_
    refine fW_sipush 29 dX11_isFoundAt_26 rfl (by decide) ?_
    refine fW_iload_n 30 dX11_isFoundAt_29 rfl rfl ?_
    refine fW_imul 31 dX11_isFoundAt_30 rfl ?_
    refine fW_iload_n 32 dX11_isFoundAt_31 rfl rfl ?_
    refine fW_iadd 33 dX11_isFoundAt_32 rfl ?_
    obtain ⟨c5, h⟩ := fS h
    refine fW_iald 34 hg tc_425 ⟨c5.1, by rw [show Ln 425 = 13300 from rfl]; exact c5.2⟩ dX11_isFoundAt_33 rfl ?_
    refine fW_iload_n 35 dX11_isFoundAt_34 rfl rfl ?_
    refine fW_icmp_ne 38 57 (hR4 425 ((700 * a1) + a2)) ga3 dX11_isFoundAt_35 rfl rfl (fun c6 => ?_) (fun c6 => ?_)
    · replace h := fFf h c6
      refine fW_iconst 58 dX11_isFoundAt_57 rfl ?_
      exact fW_zret rfl (by decide) (by decide) (by decide) dX11_isFoundAt_58 (rBI_i h (by decide))
    · replace h := fTt h c6
      refine fW_aload_n 39 dX11_isFoundAt_38 rfl rfl ?_
      refine fW_getR 42 (r := 426) 9 hg clX11 (by decide) rfl tc_418 tf_11_9 wd_1183 dX11_isFoundAt_39 rfl ?_
      refine fW_sipush 45 dX11_isFoundAt_42 rfl (by decide) ?_
      refine fW_iload_n 46 dX11_isFoundAt_45 rfl rfl ?_
      refine fW_imul 47 dX11_isFoundAt_46 rfl ?_
      refine fW_iload_n 48 dX11_isFoundAt_47 rfl rfl ?_
      refine fW_iadd 49 dX11_isFoundAt_48 rfl ?_
      obtain ⟨c7, h⟩ := fS h
      refine fW_iald 50 hg tc_426 ⟨c7.1, by rw [show Ln 426 = 13300 from rfl]; exact c7.2⟩ dX11_isFoundAt_49 rfl ?_
      refine fW_if_ne 53 57 (hR4 426 ((700 * a1) + a2)) dX11_isFoundAt_50 rfl rfl (fun c8 => ?_) (fun c8 => ?_)
      · replace h := fFf h c8
        refine fW_iconst 58 dX11_isFoundAt_57 rfl ?_
        exact fW_zret rfl (by decide) (by decide) (by decide) dX11_isFoundAt_58 (rBI_i h (by decide))
      · replace h := fTt h c8
        refine fW_iconst 54 dX11_isFoundAt_53 rfl ?_
        refine fW_goto 58 dX11_isFoundAt_54 rfl ?_
        exact fW_zret rfl (by decide) (by decide) (by decide) dX11_isFoundAt_58 (rBI_i h (by decide))
  · replace h := fFf h c2
    refine fW_iconst 11 dX11_isFoundAt_10 rfl ?_
    exact fW_zret rfl (by decide) (by decide) (by decide) dX11_isFoundAt_11 (rBI_i h (by decide))
end MTH
