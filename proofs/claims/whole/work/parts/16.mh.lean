section MTH
def mX11_marksIn : fMt := (yX11_marksIn, cX11_marksIn, 2, some .int, { frames := 1, cells := 0, slots := 0, locals := 40 })
theorem miX11_marksIn : fMv mX11_marksIn 1 := ⟨⟨fM 1516 (by decide +kernel) rfl, fM 101 (by decide +kernel) rfl, ⟨by decide +kernel, by decide +kernel⟩, by decide +kernel⟩, fM 1515 (by decide +kernel) rfl, fM 69 (by decide +kernel) rfl⟩
def f_X11_marksIn (a1 : Int) (M : fMem) : Option (Int) := ((f_X11_isShut a1 M).bind fun (r1 : Int) => (if r1 = 0 then some 0 else (if 0 ≤ a1 ∧ a1 < 19 then (if 0 ≤ 7600 + a1 ∧ 7600 + a1 < 7787 then (if -2147483648 ≤ (M 429 a1) - (M 419 (7600 + a1)) ∧ (M 429 a1) - (M 419 (7600 + a1)) < 2147483648 then some ((M 429 a1) - (M 419 (7600 + a1))) else none) else none) else none)))
set_option maxRecDepth 100000 in
set_option maxHeartbeats 4000000 in
theorem s_X11_marksIn {G : fG} (hg : gbt G = true) {a1 : Int} (ga1 : rg a1) {M : fMem} {q : Int} (h : f_X11_marksIn a1 M = some q) : fSp G mX11_marksIn [rv G 418, iv a1] M (rP M q) fNo := by
  refine fSp_of (by decide +kernel) (by decide +kernel) (fC1 rfl (fC1 rfl fC0)) (Nat.le_of_ble_eq_true rfl) ?_
  show fW G mX11_marksIn (fEm G mX11_marksIn (rP M q) fNo) 0 0 0 [some (rv G 418), some (iv a1)] [] M
  rw [f_X11_marksIn] at h
  refine fW_rg (fun hR => ?_)
  refine fW_aload_n 1 dX11_marksIn_0 rfl rfl ?_
  refine fW_iload_n 2 dX11_marksIn_1 rfl rfl ?_
  obtain ⟨r1, e1, h⟩ := fBd h
  refine fW_cB (fI_V (as := [iv a1]) (rest := []) miX11_isShut hg clX11 rfl tc_418 wd_1340 (fRoom_of rfl) rfl (Nat.le_of_ble_eq_true rfl) dX11_marksIn_2) (s_X11_isShut hg ga1 e1) rfl rfl rfl (fun g1 => ?_)
  refine fW_if_eq 8 28 (rg_z g1) dX11_marksIn_5 rfl rfl (fun c2 => ?_) (fun c2 => ?_)
  · replace h := fTt h c2
    refine fW_iconst 29 dX11_marksIn_28 rfl ?_
    exact fW_iret rfl (by decide) (by decide) dX11_marksIn_29 (rP_i h (by decide))
  · replace h := fFf h c2
    refine fW_aload_n 9 dX11_marksIn_8 rfl rfl ?_
    refine fW_getR 12 (r := 429) 12 hg clX11 (by decide) rfl tc_418 tf_11_12 wd_1186 dX11_marksIn_9 rfl ?_
    refine fW_iload_n 13 dX11_marksIn_12 rfl rfl ?_
    obtain ⟨c3, h⟩ := fS h
    refine fW_iald 14 hg tc_429 ⟨c3.1, by rw [show Ln 429 = 19 from rfl]; exact c3.2⟩ dX11_marksIn_13 rfl ?_
    refine fW_aload_n 15 dX11_marksIn_14 rfl rfl ?_
    refine fW_getR 18 (r := 419) 0 hg clX11 (by decide) rfl tc_418 tf_11_0 wd_1174 dX11_marksIn_15 rfl ?_
    refine fW_sipush 21 dX11_marksIn_18 rfl (by decide) ?_
    refine fW_iload_n 22 dX11_marksIn_21 rfl rfl ?_
    refine fW_iadd 23 dX11_marksIn_22 rfl ?_
    obtain ⟨c4, h⟩ := fS h
    refine fW_iald 24 hg tc_419 ⟨c4.1, by rw [show Ln 419 = 7787 from rfl]; exact c4.2⟩ dX11_marksIn_23 rfl ?_
    refine fW_isub 25 dX11_marksIn_24 rfl ?_
    refine fW_goto 29 dX11_marksIn_25 rfl ?_
    obtain ⟨c5, h⟩ := fS h
    exact fW_iret rfl (by decide) (by decide) dX11_marksIn_29 (rP_i h c5)
def mX11_isMark : fMt := (yX11_isMark, cX11_isMark, 4, some .boolean, { frames := 0, cells := 0, slots := 0, locals := 0 })
theorem miX11_isMark : fMv mX11_isMark 3 := ⟨⟨fM 1470 (by decide +kernel) rfl, fM 101 (by decide +kernel) rfl, ⟨by decide +kernel, by decide +kernel⟩, by decide +kernel⟩, fM 1469 (by decide +kernel) rfl, fM 63 (by decide +kernel) rfl⟩
def f_X11_isMark (a1 : Int) (a2 : Int) (a3 : Int) (M : fMem) : Option (Int) := (if 0 ≤ (700 * a1) + a2 ∧ (700 * a1) + a2 < 13300 then (if (M 426 ((700 * a1) + a2)) ≤ 0 then some 0 else (if (M 427 ((700 * a1) + a2)) = a3 then some 1 else some 0)) else none)
set_option maxRecDepth 100000 in
set_option maxHeartbeats 4000000 in
theorem s_X11_isMark {G : fG} (hg : gbt G = true) {a1 : Int} (ga1 : rg a1) {a2 : Int} (ga2 : rg a2) {a3 : Int} (ga3 : rg a3) {M : fMem} {q : Int} (h : f_X11_isMark a1 a2 a3 M = some q) : fSp G mX11_isMark [rv G 418, iv a1, iv a2, iv a3] M (rB M q) fNo := by
  refine fSp_of (by decide +kernel) (by decide +kernel) (fC1 rfl (fC1 rfl (fC1 rfl (fC1 rfl fC0)))) (Nat.le_of_ble_eq_true rfl) ?_
  show fW G mX11_isMark (fEm G mX11_isMark (rB M q) fNo) 0 0 0 [some (rv G 418), some (iv a1), some (iv a2), some (iv a3)] [] M
  rw [f_X11_isMark] at h
  refine fW_rg (fun hR => ?_)
  refine fW_aload_n 1 dX11_isMark_0 rfl rfl ?_
  refine fW_getR 4 (r := 426) 9 hg clX11 (by decide) rfl tc_418 tf_11_9 wd_1183 dX11_isMark_1 rfl ?_
  refine fW_sipush 7 dX11_isMark_4 rfl (by decide) ?_
  refine fW_iload_n 8 dX11_isMark_7 rfl rfl ?_
  refine fW_imul 9 dX11_isMark_8 rfl ?_
  refine fW_iload_n 10 dX11_isMark_9 rfl rfl ?_
  refine fW_iadd 11 dX11_isMark_10 rfl ?_
  obtain ⟨c1, h⟩ := fS h
  refine fW_iald 12 hg tc_426 ⟨c1.1, by rw [show Ln 426 = 13300 from rfl]; exact c1.2⟩ dX11_isMark_11 rfl ?_
  refine fW_if_le 15 35 (hR 426 ((700 * a1) + a2)) dX11_isMark_12 rfl rfl (fun c2 => ?_) (fun c2 => ?_)
  · replace h := fTt h c2
    refine fW_iconst 36 dX11_isMark_35 rfl ?_
    exact fW_zret rfl (by decide) (by decide) (by decide) dX11_isMark_36 (rB_i h (by decide))
  · replace h := fFf h c2
    refine fW_aload_n 16 dX11_isMark_15 rfl rfl ?_
    refine fW_getR 19 (r := 427) 10 hg clX11 (by decide) rfl tc_418 tf_11_10 wd_1184 dX11_isMark_16 rfl ?_
    refine fW_sipush 22 dX11_isMark_19 rfl (by decide) ?_
    refine fW_iload_n 23 dX11_isMark_22 rfl rfl ?_
    refine fW_imul 24 dX11_isMark_23 rfl ?_
    refine fW_iload_n 25 dX11_isMark_24 rfl rfl ?_
    refine fW_iadd 26 dX11_isMark_25 rfl ?_
    refine fW_iald 27 hg tc_427 ⟨c1.1, by rw [show Ln 427 = 13300 from rfl]; exact c1.2⟩ dX11_isMark_26 rfl ?_
    refine fW_iload_n 28 dX11_isMark_27 rfl rfl ?_
    refine fW_icmp_ne 31 35 (hR 427 ((700 * a1) + a2)) ga3 dX11_isMark_28 rfl rfl (fun c3 => ?_) (fun c3 => ?_)
    · replace h := fFf h c3
      refine fW_iconst 36 dX11_isMark_35 rfl ?_
      exact fW_zret rfl (by decide) (by decide) (by decide) dX11_isMark_36 (rB_i h (by decide))
    · replace h := fTt h c3
      refine fW_iconst 32 dX11_isMark_31 rfl ?_
      refine fW_goto 36 dX11_isMark_32 rfl ?_
      exact fW_zret rfl (by decide) (by decide) (by decide) dX11_isMark_36 (rB_i h (by decide))
def mX11_bounds : fMt := (yX11_bounds, cX11_bounds, 5, none, { frames := 1, cells := 0, slots := 0, locals := 40 })
theorem miX11_bounds : fMv mX11_bounds 3 := ⟨⟨fM 1466 (by decide +kernel) rfl, fM 101 (by decide +kernel) rfl, ⟨by decide +kernel, by decide +kernel⟩, by decide +kernel⟩, fM 1465 (by decide +kernel) rfl, fM 62 (by decide +kernel) rfl⟩
def L_X11_bounds_31  (k : Int → Int → Int → fMem → Option (fMem)) : Nat → Int → Int → Int → Int → fMem → Option (fMem)
  | 0, _, _, _, _, _ => none
  | n + 1, v1, v2, v3, v4, M => (if v3 ≤ v4 then k v1 v2 v3 M else ((f_X11_isMark v2 v4 v1 M).bind fun (r7 : Int) => (if r7 = 0 then L_X11_bounds_31  k n v1 v2 v3 (v4 + 1) M else (if 0 ≤ (700 * v2) + v4 ∧ (700 * v2) + v4 < 13300 then (if -2147483648 ≤ (M 428 ((700 * v2) + v4)) + 1 ∧ (M 428 ((700 * v2) + v4)) + 1 < 2147483648 then ((some (mset M 418 14 ((M 428 ((700 * v2) + v4)) + 1))).bind fun (N11 : fMem) => L_X11_bounds_31  k n v1 v2 v3 (v4 + 1) N11) else none) else none))))
set_option maxRecDepth 100000 in
set_option maxHeartbeats 4000000 in
theorem l_X11_bounds_31 {G : fG} (hg : gbt G = true)  {q : fMem} {k : Int → Int → Int → fMem → Option (fMem)} (hk : ∀ (v1 : Int) (v2 : Int) (v3 : Int) (M : fMem), rg v1 → rg v2 → rg v3 → k v1 v2 v3 M = some q → fW G mX11_bounds (fEm G mX11_bounds (rV q) fNo) 0 0 73 [some (rv G 418), some (iv v1), some (iv v2), some (iv v3), none] [] M) : ∀ (n : Nat) (v1 : Int) (v2 : Int) (v3 : Int) (v4 : Int) (M : fMem), rg v1 → rg v2 → rg v3 → rg v4 → L_X11_bounds_31 k n v1 v2 v3 v4 M = some q → fW G mX11_bounds (fEm G mX11_bounds (rV q) fNo) 0 0 31 [some (rv G 418), some (iv v1), some (iv v2), some (iv v3), some (iv v4)] [] M := by
  intro n
  induction n with
  | zero =>
    intro v1 v2 v3 v4 M gv1 gv2 gv3 gv4 h
    rw [L_X11_bounds_31] at h
    exact absurd h (by simp)
  | succ n ih =>
    intro v1 v2 v3 v4 M gv1 gv2 gv3 gv4 h
    rw [L_X11_bounds_31] at h
    refine fW_rg (fun hR => ?_)
    refine fW_iload 33 dX11_bounds_31 rfl rfl ?_
    refine fW_iload_n 34 dX11_bounds_33 rfl rfl ?_
    refine fW_icmp_ge 37 73 gv4 gv3 dX11_bounds_34 rfl rfl (fun c6 => ?_) (fun c6 => ?_)
    · replace h := fTt h c6
      exact fW_sb (hk v1 v2 v3 M gv1 gv2 gv3 h) ⟨rfl, rfl, rfl, rfl, trivial⟩
    · replace h := fFf h c6
      refine fW_aload_n 38 dX11_bounds_37 rfl rfl ?_
      refine fW_iload_n 39 dX11_bounds_38 rfl rfl ?_
      refine fW_iload 41 dX11_bounds_39 rfl rfl ?_
      refine fW_iload_n 42 dX11_bounds_41 rfl rfl ?_
      obtain ⟨r7, e7, h⟩ := fBd h
      refine fW_cB (fI_V (as := [iv v2, iv v4, iv v1]) (rest := []) miX11_isMark hg clX11 rfl tc_418 wd_1467 (fRoom_of rfl) rfl (Nat.le_of_ble_eq_true rfl) dX11_bounds_42) (s_X11_isMark hg gv2 gv4 gv1 e7) rfl rfl rfl (fun g7 => ?_)
      refine fW_if_eq 48 67 (rg_z g7) dX11_bounds_45 rfl rfl (fun c8 => ?_) (fun c8 => ?_)
      · replace h := fTt h c8
        refine fW_iinc 70 (ls' := [some (rv G 418), some (iv v1), some (iv v2), some (iv v3), some (iv (v4 + 1))]) dX11_bounds_67 rfl rfl rfl (by decide) ?_
        refine fW_goto 31 dX11_bounds_70 rfl ?_
        exact fW_sb (ih v1 v2 v3 (v4 + 1) M gv1 gv2 gv3 (rg_succ' gv4 gv3 c6) h) ⟨rfl, rfl, rfl, rfl, rfl, trivial⟩
      · replace h := fFf h c8
        refine fW_aload_n 49 dX11_bounds_48 rfl rfl ?_
        refine fW_aload_n 50 dX11_bounds_49 rfl rfl ?_
        refine fW_getR 53 (r := 428) 11 hg clX11 (by decide) rfl tc_418 tf_11_11 wd_1185 dX11_bounds_50 rfl ?_
        refine fW_sipush 56 dX11_bounds_53 rfl (by decide) ?_
        refine fW_iload_n 57 dX11_bounds_56 rfl rfl ?_
        refine fW_imul 58 dX11_bounds_57 rfl ?_
        refine fW_iload 60 dX11_bounds_58 rfl rfl ?_
        refine fW_iadd 61 dX11_bounds_60 rfl ?_
        obtain ⟨c9, h⟩ := fS h
        refine fW_iald 62 hg tc_428 ⟨c9.1, by rw [show Ln 428 = 13300 from rfl]; exact c9.2⟩ dX11_bounds_61 rfl ?_
        refine fW_iconst 63 dX11_bounds_62 rfl ?_
        refine fW_iadd 64 dX11_bounds_63 rfl ?_
        obtain ⟨c10, h⟩ := fS h
        obtain ⟨N11, e11, h⟩ := fBd h
        replace e11 := Option.some.inj e11
        refine fW_putI 67 14 (ji := 14) hg clX11 rfl (by decide) rfl rfl rfl tc_418 c10 wd_1188 dX11_bounds_64 rfl ?_
        rw [e11]
        refine fW_rg (fun hR11 => ?_)
        refine fW_iinc 70 (ls' := [some (rv G 418), some (iv v1), some (iv v2), some (iv v3), some (iv (v4 + 1))]) dX11_bounds_67 rfl rfl rfl (by decide) ?_
        refine fW_goto 31 dX11_bounds_70 rfl ?_
        exact fW_sb (ih v1 v2 v3 (v4 + 1) N11 gv1 gv2 gv3 (rg_succ' gv4 gv3 c6) h) ⟨rfl, rfl, rfl, rfl, rfl, trivial⟩
def L_X11_bounds_83  (k : fMem → Option (fMem)) : Nat → Int → Int → Int → Int → fMem → Option (fMem)
  | 0, _, _, _, _, _ => none
  | n + 1, v1, v2, v3, v4, M => (if v4 < v3 then k  M else ((f_X11_isMark v2 v4 v1 M).bind fun (r16 : Int) => (if r16 = 0 then (if -2147483648 ≤ v4 + -1 ∧ v4 + -1 < 2147483648 then L_X11_bounds_83  k n v1 v2 v3 (v4 + -1) M else none) else (if 0 ≤ (700 * v2) + v4 ∧ (700 * v2) + v4 < 13300 then ((some (mset M 418 15 (M 428 ((700 * v2) + v4)))).bind fun (N20 : fMem) => (if -2147483648 ≤ v4 + -1 ∧ v4 + -1 < 2147483648 then L_X11_bounds_83  k n v1 v2 v3 (v4 + -1) N20 else none)) else none))))
set_option maxRecDepth 100000 in
set_option maxHeartbeats 4000000 in
theorem l_X11_bounds_83 {G : fG} (hg : gbt G = true)  {q : fMem} {k : fMem → Option (fMem)} (hk : ∀ (M : fMem), k M = some q → fW G mX11_bounds (fEm G mX11_bounds (rV q) fNo) 0 0 123 [some (rv G 418), none, none, none, none] [] M) : ∀ (n : Nat) (v1 : Int) (v2 : Int) (v3 : Int) (v4 : Int) (M : fMem), rg v1 → rg v2 → rg v3 → rg v4 → L_X11_bounds_83 k n v1 v2 v3 v4 M = some q → fW G mX11_bounds (fEm G mX11_bounds (rV q) fNo) 0 0 83 [some (rv G 418), some (iv v1), some (iv v2), some (iv v3), some (iv v4)] [] M := by
  intro n
  induction n with
  | zero =>
    intro v1 v2 v3 v4 M gv1 gv2 gv3 gv4 h
    rw [L_X11_bounds_83] at h
    exact absurd h (by simp)
  | succ n ih =>
    intro v1 v2 v3 v4 M gv1 gv2 gv3 gv4 h
    rw [L_X11_bounds_83] at h
    refine fW_rg (fun hR => ?_)
    refine fW_iload 85 dX11_bounds_83 rfl rfl ?_
    refine fW_iload_n 86 dX11_bounds_85 rfl rfl ?_
    refine fW_icmp_lt 89 123 gv4 gv3 dX11_bounds_86 rfl rfl (fun c15 => ?_) (fun c15 => ?_)
    · replace h := fTt h c15
      exact fW_sb (hk M h) ⟨rfl, trivial⟩
    · replace h := fFf h c15
      refine fW_aload_n 90 dX11_bounds_89 rfl rfl ?_
      refine fW_iload_n 91 dX11_bounds_90 rfl rfl ?_
      refine fW_iload 93 dX11_bounds_91 rfl rfl ?_
      refine fW_iload_n 94 dX11_bounds_93 rfl rfl ?_
      obtain ⟨r16, e16, h⟩ := fBd h
      refine fW_cB (fI_V (as := [iv v2, iv v4, iv v1]) (rest := []) miX11_isMark hg clX11 rfl tc_418 wd_1467 (fRoom_of rfl) rfl (Nat.le_of_ble_eq_true rfl) dX11_bounds_94) (s_X11_isMark hg gv2 gv4 gv1 e16) rfl rfl rfl (fun g16 => ?_)
      refine fW_if_eq 100 117 (rg_z g16) dX11_bounds_97 rfl rfl (fun c17 => ?_) (fun c17 => ?_)
      · replace h := fTt h c17
        refine fW_iinc 120 (ls' := [some (rv G 418), some (iv v1), some (iv v2), some (iv v3), some (iv (v4 + -1))]) dX11_bounds_117 rfl rfl rfl (by decide) ?_
        refine fW_goto 83 dX11_bounds_120 rfl ?_
        obtain ⟨c18, h⟩ := fS h
        exact fW_sb (ih v1 v2 v3 (v4 + -1) M gv1 gv2 gv3 c18 h) ⟨rfl, rfl, rfl, rfl, rfl, trivial⟩
      · replace h := fFf h c17
        refine fW_aload_n 101 dX11_bounds_100 rfl rfl ?_
        refine fW_aload_n 102 dX11_bounds_101 rfl rfl ?_
        refine fW_getR 105 (r := 428) 11 hg clX11 (by decide) rfl tc_418 tf_11_11 wd_1185 dX11_bounds_102 rfl ?_
        refine fW_sipush 108 dX11_bounds_105 rfl (by decide) ?_
        refine fW_iload_n 109 dX11_bounds_108 rfl rfl ?_
        refine fW_imul 110 dX11_bounds_109 rfl ?_
        refine fW_iload 112 dX11_bounds_110 rfl rfl ?_
        refine fW_iadd 113 dX11_bounds_112 rfl ?_
        obtain ⟨c19, h⟩ := fS h
        refine fW_iald 114 hg tc_428 ⟨c19.1, by rw [show Ln 428 = 13300 from rfl]; exact c19.2⟩ dX11_bounds_113 rfl ?_
        obtain ⟨N20, e20, h⟩ := fBd h
        replace e20 := Option.some.inj e20
        refine fW_putI 117 15 (ji := 15) hg clX11 rfl (by decide) rfl rfl rfl tc_418 (hR 428 ((700 * v2) + v4)) wd_1189 dX11_bounds_114 rfl ?_
        rw [e20]
        refine fW_rg (fun hR20 => ?_)
        refine fW_iinc 120 (ls' := [some (rv G 418), some (iv v1), some (iv v2), some (iv v3), some (iv (v4 + -1))]) dX11_bounds_117 rfl rfl rfl (by decide) ?_
        refine fW_goto 83 dX11_bounds_120 rfl ?_
        obtain ⟨c21, h⟩ := fS h
        exact fW_sb (ih v1 v2 v3 (v4 + -1) N20 gv1 gv2 gv3 c21 h) ⟨rfl, rfl, rfl, rfl, rfl, trivial⟩
def f_X11_bounds (a1 : Int) (a2 : Int) (a3 : Int) (M : fMem) : Option (fMem) := ((some (mset M 418 14 0)).bind fun (N1 : fMem) => (if 0 ≤ a1 ∧ a1 < 19 then ((some (mset N1 418 15 (N1 429 a1))).bind fun (N3 : fMem) => (if a2 = ((-1)) then some N3 else (if (N3 418 13) = 0 then L_X11_bounds_31 (fun (v1_12 : Int) (v2_12 : Int) (v3_12 : Int) (M_12 : fMem) => (if 0 ≤ v2_12 ∧ v2_12 < 19 then (if -2147483648 ≤ (M_12 429 v2_12) - 1 ∧ (M_12 429 v2_12) - 1 < 2147483648 then L_X11_bounds_83 (fun  (M_22 : fMem) => some M_22) 20000 v1_12 v2_12 v3_12 ((M_12 429 v2_12) - 1) M_12 else none) else none)) 20000 a1 a2 a3 0 N3 else some N3))) else none))
set_option maxRecDepth 100000 in
set_option maxHeartbeats 4000000 in
theorem s_X11_bounds {G : fG} (hg : gbt G = true) {a1 : Int} (ga1 : rg a1) {a2 : Int} (ga2 : rg a2) {a3 : Int} (ga3 : rg a3) {M : fMem} {q : fMem} (h : f_X11_bounds a1 a2 a3 M = some q) : fSp G mX11_bounds [rv G 418, iv a1, iv a2, iv a3] M (rV q) fNo := by
  refine fSp_of (by decide +kernel) (by decide +kernel) (fC1 rfl (fC1 rfl (fC1 rfl (fC1 rfl fC0)))) (Nat.le_of_ble_eq_true rfl) ?_
  show fW G mX11_bounds (fEm G mX11_bounds (rV q) fNo) 0 0 0 [some (rv G 418), some (iv a1), some (iv a2), some (iv a3), none] [] M
  rw [f_X11_bounds] at h
  refine fW_rg (fun hR => ?_)
  refine fW_aload_n 1 dX11_bounds_0 rfl rfl ?_
  refine fW_iconst 2 dX11_bounds_1 rfl ?_
  obtain ⟨N1, e1, h⟩ := fBd h
  replace e1 := Option.some.inj e1
  refine fW_putI 5 14 (ji := 14) hg clX11 rfl (by decide) rfl rfl rfl tc_418 (by decide) wd_1188 dX11_bounds_2 rfl ?_
  rw [e1]
  refine fW_rg (fun hR1 => ?_)
  refine fW_aload_n 6 dX11_bounds_5 rfl rfl ?_
  refine fW_aload_n 7 dX11_bounds_6 rfl rfl ?_
  refine fW_getR 10 (r := 429) 12 hg clX11 (by decide) rfl tc_418 tf_11_12 wd_1186 dX11_bounds_7 rfl ?_
  refine fW_iload_n 11 dX11_bounds_10 rfl rfl ?_
  obtain ⟨c2, h⟩ := fS h
  refine fW_iald 12 hg tc_429 ⟨c2.1, by rw [show Ln 429 = 19 from rfl]; exact c2.2⟩ dX11_bounds_11 rfl ?_
  obtain ⟨N3, e3, h⟩ := fBd h
  replace e3 := Option.some.inj e3
  refine fW_putI 15 15 (ji := 15) hg clX11 rfl (by decide) rfl rfl rfl tc_418 (hR1 429 a1) wd_1189 dX11_bounds_12 rfl ?_
  rw [e3]
  refine fW_rg (fun hR3 => ?_)
  refine fW_iload_n 16 dX11_bounds_15 rfl rfl ?_
  refine fW_iconst 17 dX11_bounds_16 rfl ?_
  refine fW_icmp_eq 20 27 ga2 (by decide) dX11_bounds_17 rfl rfl (fun c4 => ?_) (fun c4 => ?_)
  · replace h := fTt h c4
    exact fW_vret rfl (by decide) (by decide) dX11_bounds_27 (rV_i h)
  · replace h := fFf h c4
    refine fW_aload_n 21 dX11_bounds_20 rfl rfl ?_
    refine fW_getI 24 13 (ji := 13) hg clX11 rfl (by decide) rfl tc_418 wd_1187 dX11_bounds_21 rfl ?_
    refine fW_if_eq 27 28 (hR3 418 13) dX11_bounds_24 rfl rfl (fun c5 => ?_) (fun c5 => ?_)
    · replace h := fTt h c5
      refine fW_iconst 29 dX11_bounds_28 rfl ?_
      refine fW_istore 31 (ls' := [some (rv G 418), some (iv a1), some (iv a2), some (iv a3), some (iv 0)]) dX11_bounds_29 rfl rfl (by decide) ?_
      refine fW_sb (l_X11_bounds_31 hg ?_ 20000 a1 a2 a3 0 N3 ga1 ga2 ga3 (by decide) h) ⟨rfl, rfl, rfl, rfl, rfl, trivial⟩
      intro v1_12 v2_12 v3_12 M_12 gv1_12 gv2_12 gv3_12 h
      refine fW_rg (fun hR_12 => ?_)
      refine fW_aload_n 74 dX11_bounds_73 rfl rfl ?_
      refine fW_getR 77 (r := 429) 12 hg clX11 (by decide) rfl tc_418 tf_11_12 wd_1186 dX11_bounds_74 rfl ?_
      refine fW_iload_n 78 dX11_bounds_77 rfl rfl ?_
      obtain ⟨c13, h⟩ := fS h
      refine fW_iald 79 hg tc_429 ⟨c13.1, by rw [show Ln 429 = 19 from rfl]; exact c13.2⟩ dX11_bounds_78 rfl ?_
      refine fW_iconst 80 dX11_bounds_79 rfl ?_
      refine fW_isub 81 dX11_bounds_80 rfl ?_
      refine fW_istore 83 (ls' := [some (rv G 418), some (iv v1_12), some (iv v2_12), some (iv v3_12), some (iv ((M_12 429 v2_12) - 1))]) dX11_bounds_81 rfl rfl (by decide) ?_
      obtain ⟨c14, h⟩ := fS h
      refine fW_sb (l_X11_bounds_83 hg ?_ 20000 v1_12 v2_12 v3_12 ((M_12 429 v2_12) - 1) M_12 gv1_12 gv2_12 gv3_12 c14 h) ⟨rfl, rfl, rfl, rfl, rfl, trivial⟩
      intro M_22 h
      refine fW_rg (fun hR_22 => ?_)
      exact fW_vret rfl (by decide) (by decide) dX11_bounds_123 (rV_i h)
    · replace h := fFf h c5
      exact fW_vret rfl (by decide) (by decide) dX11_bounds_27 (rV_i h)
def mX11_fallsIn : fMt := (yX11_fallsIn, cX11_fallsIn, 6, some .int, { frames := 0, cells := 0, slots := 0, locals := 0 })
theorem miX11_fallsIn : fMv mX11_fallsIn 2 := ⟨⟨fM 1474 (by decide +kernel) rfl, fM 101 (by decide +kernel) rfl, ⟨by decide +kernel, by decide +kernel⟩, by decide +kernel⟩, fM 1473 (by decide +kernel) rfl, fM 64 (by decide +kernel) rfl⟩
def L_X11_fallsIn_11  (k : Int → fMem → Option (Int × fMem)) : Nat → Int → Int → Int → Int → fMem → Option (Int × fMem)
  | 0, _, _, _, _, _ => none
  | n + 1, v1, v2, v3, v4, M => (if v4 ≤ v3 then k v3 M else (if 0 ≤ v3 + v4 ∧ v3 + v4 < 2147483648 then (if -2147483648 ≤ (M 418 16) + 1 ∧ (M 418 16) + 1 < 2147483648 then ((some (mset M 418 16 ((M 418 16) + 1))).bind fun (N4 : fMem) => (if 0 ≤ (700 * v1) + ((v3 + v4) / 2) ∧ (700 * v1) + ((v3 + v4) / 2) < 13300 then (if v2 ≤ (N4 425 ((700 * v1) + ((v3 + v4) / 2))) then (if -2147483648 ≤ (v3 + v4) / 2 ∧ (v3 + v4) / 2 < 2147483648 then L_X11_fallsIn_11  k n v1 v2 v3 ((v3 + v4) / 2) N4 else none) else (if -2147483648 ≤ ((v3 + v4) / 2) + 1 ∧ ((v3 + v4) / 2) + 1 < 2147483648 then L_X11_fallsIn_11  k n v1 v2 (((v3 + v4) / 2) + 1) v4 N4 else none)) else none)) else none) else none))
set_option maxRecDepth 100000 in
set_option maxHeartbeats 4000000 in
theorem l_X11_fallsIn_11 {G : fG} (hg : gbt G = true)  {q : Int × fMem} {k : Int → fMem → Option (Int × fMem)} (hk : ∀ (v3 : Int) (M : fMem), rg v3 → k v3 M = some q → fW G mX11_fallsIn (fEm G mX11_fallsIn (rP q.2 q.1) fNo) 0 0 67 [some (rv G 418), none, none, some (iv v3), none, none] [] M) : ∀ (n : Nat) (v1 : Int) (v2 : Int) (v3 : Int) (v4 : Int) (M : fMem), rg v1 → rg v2 → rg v3 → rg v4 → L_X11_fallsIn_11 k n v1 v2 v3 v4 M = some q → fW G mX11_fallsIn (fEm G mX11_fallsIn (rP q.2 q.1) fNo) 0 0 11 [some (rv G 418), some (iv v1), some (iv v2), some (iv v3), some (iv v4), none] [] M := by
  intro n
  induction n with
  | zero =>
    intro v1 v2 v3 v4 M gv1 gv2 gv3 gv4 h
    rw [L_X11_fallsIn_11] at h
    exact absurd h (by simp)
  | succ n ih =>
    intro v1 v2 v3 v4 M gv1 gv2 gv3 gv4 h
    rw [L_X11_fallsIn_11] at h
    refine fW_rg (fun hR => ?_)
    refine fW_iload_n 12 dX11_fallsIn_11 rfl rfl ?_
    refine fW_iload 14 dX11_fallsIn_12 rfl rfl ?_
    refine fW_icmp_ge 17 67 gv3 gv4 dX11_fallsIn_14 rfl rfl (fun c1 => ?_) (fun c1 => ?_)
    · replace h := fTt h c1
      exact fW_sb (hk v3 M gv3 h) ⟨rfl, rfl, trivial⟩
    · replace h := fFf h c1
      refine fW_iload_n 18 dX11_fallsIn_17 rfl rfl ?_
      refine fW_iload 20 dX11_fallsIn_18 rfl rfl ?_
      refine fW_iadd 21 dX11_fallsIn_20 rfl ?_
      refine fW_iconst 22 dX11_fallsIn_21 rfl ?_
      obtain ⟨c2, h⟩ := fS h
      refine fW_idiv 23 c2 (by decide) dX11_fallsIn_22 rfl ?_
      refine fW_istore 25 (ls' := [some (rv G 418), some (iv v1), some (iv v2), some (iv v3), some (iv v4), some (iv ((v3 + v4) / 2))]) dX11_fallsIn_23 rfl rfl (by decide) ?_
      refine fW_aload_n 26 dX11_fallsIn_25 rfl rfl ?_
      refine fW_dup 27 dX11_fallsIn_26 rfl rfl ?_
      refine fW_getI 30 16 (ji := 16) hg clX11 rfl (by decide) rfl tc_418 wd_1190 dX11_fallsIn_27 rfl ?_
      refine fW_iconst 31 dX11_fallsIn_30 rfl ?_
      refine fW_iadd 32 dX11_fallsIn_31 rfl ?_
      obtain ⟨c3, h⟩ := fS h
      obtain ⟨N4, e4, h⟩ := fBd h
      replace e4 := Option.some.inj e4
      refine fW_putI 35 16 (ji := 16) hg clX11 rfl (by decide) rfl rfl rfl tc_418 c3 wd_1190 dX11_fallsIn_32 rfl ?_
      rw [e4]
      refine fW_rg (fun hR4 => ?_)
      refine fW_aload_n 36 dX11_fallsIn_35 rfl rfl ?_
      refine fW_getR 39 (r := 425) 8 hg clX11 (by decide) rfl tc_418 tf_11_8 wd_1182 dX11_fallsIn_36 rfl ?_
      refine fW_sipush 42 dX11_fallsIn_39 rfl (by decide) ?_
      refine fW_iload_n 43 dX11_fallsIn_42 rfl rfl ?_
      refine fW_imul 44 dX11_fallsIn_43 rfl ?_
      refine fW_iload 46 dX11_fallsIn_44 rfl rfl ?_
      refine fW_iadd 47 dX11_fallsIn_46 rfl ?_
      obtain ⟨c5, h⟩ := fS h
      refine fW_iald 48 hg tc_425 ⟨c5.1, by rw [show Ln 425 = 13300 from rfl]; exact c5.2⟩ dX11_fallsIn_47 rfl ?_
      refine fW_iload_n 49 dX11_fallsIn_48 rfl rfl ?_
      refine fW_icmp_ge 52 60 (hR4 425 ((700 * v1) + ((v3 + v4) / 2))) gv2 dX11_fallsIn_49 rfl rfl (fun c6 => ?_) (fun c6 => ?_)
      · replace h := fTt h c6
        refine fW_iload 62 dX11_fallsIn_60 rfl rfl ?_
        refine fW_istore 64 (ls' := [some (rv G 418), some (iv v1), some (iv v2), some (iv v3), some (iv ((v3 + v4) / 2)), some (iv ((v3 + v4) / 2))]) dX11_fallsIn_62 rfl rfl (by decide) ?_
        refine fW_goto 11 dX11_fallsIn_64 rfl ?_
        obtain ⟨c7, h⟩ := fS h
        exact fW_sb (ih v1 v2 v3 ((v3 + v4) / 2) N4 gv1 gv2 gv3 c7 h) ⟨rfl, rfl, rfl, rfl, rfl, trivial⟩
      · replace h := fFf h c6
        refine fW_iload 54 dX11_fallsIn_52 rfl rfl ?_
        refine fW_iconst 55 dX11_fallsIn_54 rfl ?_
        refine fW_iadd 56 dX11_fallsIn_55 rfl ?_
        refine fW_istore_n 57 (ls' := [some (rv G 418), some (iv v1), some (iv v2), some (iv (((v3 + v4) / 2) + 1)), some (iv v4), some (iv ((v3 + v4) / 2))]) dX11_fallsIn_56 rfl rfl rfl (by decide) ?_
        refine fW_goto 64 dX11_fallsIn_57 rfl ?_
        refine fW_goto 11 dX11_fallsIn_64 rfl ?_
        obtain ⟨c8, h⟩ := fS h
        exact fW_sb (ih v1 v2 (((v3 + v4) / 2) + 1) v4 N4 gv1 gv2 c8 gv4 h) ⟨rfl, rfl, rfl, rfl, rfl, trivial⟩
def f_X11_fallsIn (a1 : Int) (a2 : Int) (M : fMem) : Option (Int × fMem) := L_X11_fallsIn_11 (fun (v3_9 : Int) (M_9 : fMem) => some (v3_9, M_9)) 20000 a1 a2 (M 418 14) (M 418 15) M
set_option maxRecDepth 100000 in
set_option maxHeartbeats 4000000 in
theorem s_X11_fallsIn {G : fG} (hg : gbt G = true) {a1 : Int} (ga1 : rg a1) {a2 : Int} (ga2 : rg a2) {M : fMem} {q : Int × fMem} (h : f_X11_fallsIn a1 a2 M = some q) : fSp G mX11_fallsIn [rv G 418, iv a1, iv a2] M (rP q.2 q.1) fNo := by
  refine fSp_of (by decide +kernel) (by decide +kernel) (fC1 rfl (fC1 rfl (fC1 rfl fC0))) (Nat.le_of_ble_eq_true rfl) ?_
  show fW G mX11_fallsIn (fEm G mX11_fallsIn (rP q.2 q.1) fNo) 0 0 0 [some (rv G 418), some (iv a1), some (iv a2), none, none, none] [] M
  rw [f_X11_fallsIn] at h
  refine fW_rg (fun hR => ?_)
  refine fW_aload_n 1 dX11_fallsIn_0 rfl rfl ?_
  refine fW_getI 4 14 (ji := 14) hg clX11 rfl (by decide) rfl tc_418 wd_1188 dX11_fallsIn_1 rfl ?_
  refine fW_istore_n 5 (ls' := [some (rv G 418), some (iv a1), some (iv a2), some (iv (M 418 14)), none, none]) dX11_fallsIn_4 rfl rfl rfl (by decide) ?_
  refine fW_aload_n 6 dX11_fallsIn_5 rfl rfl ?_
  refine fW_getI 9 15 (ji := 15) hg clX11 rfl (by decide) rfl tc_418 wd_1189 dX11_fallsIn_6 rfl ?_
  refine fW_istore 11 (ls' := [some (rv G 418), some (iv a1), some (iv a2), some (iv (M 418 14)), some (iv (M 418 15)), none]) dX11_fallsIn_9 rfl rfl (by decide) ?_
  refine fW_sb (l_X11_fallsIn_11 hg ?_ 20000 a1 a2 (M 418 14) (M 418 15) M ga1 ga2 (hR 418 14) (hR 418 15) h) ⟨rfl, rfl, rfl, rfl, rfl, trivial⟩
  intro v3_9 M_9 gv3_9 h
  refine fW_rg (fun hR_9 => ?_)
  refine fW_iload_n 68 dX11_fallsIn_67 rfl rfl ?_
  exact fW_iret rfl (by decide) (by decide) dX11_fallsIn_68 (rI_i h gv3_9)
def mX11_isFoundAt : fMt := (yX11_isFoundAt, cX11_isFoundAt, 4, some .boolean, { frames := 0, cells := 0, slots := 0, locals := 0 })
theorem miX11_isFoundAt : fMv mX11_isFoundAt 3 := ⟨⟨fM 1478 (by decide +kernel) rfl, fM 101 (by decide +kernel) rfl, ⟨by decide +kernel, by decide +kernel⟩, by decide +kernel⟩, fM 1477 (by decide +kernel) rfl, fM 65 (by decide +kernel) rfl⟩
def f_X11_isFoundAt (a1 : Int) (a2 : Int) (a3 : Int) (M : fMem) : Option (Int × fMem) := (if 0 ≤ a1 ∧ a1 < 19 then (if a2 < (M 429 a1) then (if -2147483648 ≤ (M 418 16) + 1 ∧ (M 418 16) + 1 < 2147483648 then ((some (mset M 418 16 ((M 418 16) + 1))).bind fun (N4 : fMem) => (if 0 ≤ (700 * a1) + a2 ∧ (700 * a1) + a2 < 13300 then (if (N4 425 ((700 * a1) + a2)) = a3 then (if (N4 426 ((700 * a1) + a2)) = 0 then some (1, N4) else some (0, N4)) else some (0, N4)) else none)) else none) else some (0, M)) else none)
set_option maxRecDepth 100000 in
set_option maxHeartbeats 4000000 in
theorem s_X11_isFoundAt {G : fG} (hg : gbt G = true) {a1 : Int} (ga1 : rg a1) {a2 : Int} (ga2 : rg a2) {a3 : Int} (ga3 : rg a3) {M : fMem} {q : Int × fMem} (h : f_X11_isFoundAt a1 a2 a3 M = some q) : fSp G mX11_isFoundAt [rv G 418, iv a1, iv a2, iv a3] M (rB q.2 q.1) fNo := by
  refine fSp_of (by decide +kernel) (by decide +kernel) (fC1 rfl (fC1 rfl (fC1 rfl (fC1 rfl fC0)))) (Nat.le_of_ble_eq_true rfl) ?_
  show fW G mX11_isFoundAt (fEm G mX11_isFoundAt (rB q.2 q.1) fNo) 0 0 0 [some (rv G 418), some (iv a1), some (iv a2), some (iv a3)] [] M
  rw [f_X11_isFoundAt] at h
  refine fW_rg (fun hR => ?_)
  refine fW_iload_n 1 dX11_isFoundAt_0 rfl rfl ?_
  refine fW_aload_n 2 dX11_isFoundAt_1 rfl rfl ?_
  refine fW_getR 5 (r := 429) 12 hg clX11 (by decide) rfl tc_418 tf_11_12 wd_1186 dX11_isFoundAt_2 rfl ?_
  refine fW_iload_n 6 dX11_isFoundAt_5 rfl rfl ?_
  obtain ⟨c1, h⟩ := fS h
  refine fW_iald 7 hg tc_429 ⟨c1.1, by rw [show Ln 429 = 19 from rfl]; exact c1.2⟩ dX11_isFoundAt_6 rfl ?_
  refine fW_icmp_lt 10 12 ga2 (hR 429 a1) dX11_isFoundAt_7 rfl rfl (fun c2 => ?_) (fun c2 => ?_)
  · replace h := fTt h c2
    refine fW_aload_n 13 dX11_isFoundAt_12 rfl rfl ?_
    refine fW_dup 14 dX11_isFoundAt_13 rfl rfl ?_
    refine fW_getI 17 16 (ji := 16) hg clX11 rfl (by decide) rfl tc_418 wd_1190 dX11_isFoundAt_14 rfl ?_
    refine fW_iconst 18 dX11_isFoundAt_17 rfl ?_
    refine fW_iadd 19 dX11_isFoundAt_18 rfl ?_
    obtain ⟨c3, h⟩ := fS h
    obtain ⟨N4, e4, h⟩ := fBd h
    replace e4 := Option.some.inj e4
    refine fW_putI 22 16 (ji := 16) hg clX11 rfl (by decide) rfl rfl rfl tc_418 c3 wd_1190 dX11_isFoundAt_19 rfl ?_
    rw [e4]
    refine fW_rg (fun hR4 => ?_)
    refine fW_aload_n 23 dX11_isFoundAt_22 rfl rfl ?_
    refine fW_getR 26 (r := 425) 8 hg clX11 (by decide) rfl tc_418 tf_11_8 wd_1182 dX11_isFoundAt_23 rfl ?_
    refine fW_sipush 29 dX11_isFoundAt_26 rfl (by decide) ?_
    refine fW_iload_n 30 dX11_isFoundAt_29 rfl rfl ?_
    refine fW_imul 31 dX11_isFoundAt_30 rfl ?_
    refine fW_iload_n 32 dX11_isFoundAt_31 rfl rfl ?_
    refine fW_iadd 33 dX11_isFoundAt_32 rfl ?_
    obtain ⟨c5, h⟩ := fS h
    refine fW_iald 34 hg tc_425 ⟨c5.1, by rw [show Ln 425 = 13300 from rfl]; exact c5.2⟩ dX11_isFoundAt_33 rfl ?_
    refine fW_iload_n 35 dX11_isFoundAt_34 rfl rfl ?_
    refine fW_icmp_ne 38 57 (hR4 425 ((700 * a1) + a2)) ga3 dX11_isFoundAt_35 rfl rfl (fun c6 => ?_) (fun c6 => ?_)
    · replace h := fFf h c6
      refine fW_iconst 58 dX11_isFoundAt_57 rfl ?_
      exact fW_zret rfl (by decide) (by decide) (by decide) dX11_isFoundAt_58 (rBI_i h (by decide))
    · replace h := fTt h c6
      refine fW_aload_n 39 dX11_isFoundAt_38 rfl rfl ?_
      refine fW_getR 42 (r := 426) 9 hg clX11 (by decide) rfl tc_418 tf_11_9 wd_1183 dX11_isFoundAt_39 rfl ?_
      refine fW_sipush 45 dX11_isFoundAt_42 rfl (by decide) ?_
      refine fW_iload_n 46 dX11_isFoundAt_45 rfl rfl ?_
      refine fW_imul 47 dX11_isFoundAt_46 rfl ?_
      refine fW_iload_n 48 dX11_isFoundAt_47 rfl rfl ?_
      refine fW_iadd 49 dX11_isFoundAt_48 rfl ?_
      refine fW_iald 50 hg tc_426 ⟨c5.1, by rw [show Ln 426 = 13300 from rfl]; exact c5.2⟩ dX11_isFoundAt_49 rfl ?_
      refine fW_if_ne 53 57 (hR4 426 ((700 * a1) + a2)) dX11_isFoundAt_50 rfl rfl (fun c7 => ?_) (fun c7 => ?_)
      · replace h := fFf h c7
        refine fW_iconst 58 dX11_isFoundAt_57 rfl ?_
        exact fW_zret rfl (by decide) (by decide) (by decide) dX11_isFoundAt_58 (rBI_i h (by decide))
      · replace h := fTt h c7
        refine fW_iconst 54 dX11_isFoundAt_53 rfl ?_
        refine fW_goto 58 dX11_isFoundAt_54 rfl ?_
        exact fW_zret rfl (by decide) (by decide) (by decide) dX11_isFoundAt_58 (rBI_i h (by decide))
  · replace h := fFf h c2
    refine fW_iconst 11 dX11_isFoundAt_10 rfl ?_
    exact fW_zret rfl (by decide) (by decide) (by decide) dX11_isFoundAt_11 (rBI_i h (by decide))
def mX11_goesInto : fMt := (yX11_goesInto, cX11_goesInto, 8, some .boolean, { frames := 2, cells := 0, slots := 0, locals := 80 })
theorem miX11_goesInto : fMv mX11_goesInto 4 := ⟨⟨fM 1462 (by decide +kernel) rfl, fM 101 (by decide +kernel) rfl, ⟨by decide +kernel, by decide +kernel⟩, by decide +kernel⟩, fM 1461 (by decide +kernel) rfl, fM 61 (by decide +kernel) rfl⟩
def f_X11_goesInto (a1 : Int) (a2 : Int) (a3 : Int) (a4 : Int) (M : fMem) : Option (Int × fMem) := ((f_X11_bounds a1 a2 a3 M).bind fun (r1 : fMem) => ((f_X11_fallsIn a1 a4 r1).bind fun (r3 : Int × fMem) => ((f_X11_isFoundAt a1 r3.1 a4 r3.2).bind fun (r5 : Int × fMem) => (if 0 ≤ r5.2 418 22 ∧ r5.2 418 22 < 19 then ((some (mset r5.2 430 (r5.2 418 22) a1)).bind fun (N8 : fMem) => (if 0 ≤ N8 418 22 ∧ N8 418 22 < 19 then ((some (mset N8 431 (N8 418 22) (N8 418 14))).bind fun (N10 : fMem) => (if 0 ≤ N10 418 22 ∧ N10 418 22 < 19 then ((some (mset N10 432 (N10 418 22) (N10 418 15))).bind fun (N12 : fMem) => (if 0 ≤ N12 418 22 ∧ N12 418 22 < 19 then ((some (mset N12 433 (N12 418 22) r3.1)).bind fun (N14 : fMem) => (if 0 ≤ N14 418 22 ∧ N14 418 22 < 19 then (if -2147483648 ≤ (N14 418 16) - (M 418 16) ∧ (N14 418 16) - (M 418 16) < 2147483648 then ((some (mset N14 434 (N14 418 22) ((N14 418 16) - (M 418 16)))).bind fun (N17 : fMem) => (if -2147483648 ≤ (N17 418 22) + 1 ∧ (N17 418 22) + 1 < 2147483648 then ((some (mset N17 418 22 ((N17 418 22) + 1))).bind fun (N19 : fMem) => some (r5.1, N19)) else none)) else none) else none)) else none)) else none)) else none)) else none))))
set_option maxRecDepth 100000 in
set_option maxHeartbeats 4000000 in
theorem s_X11_goesInto {G : fG} (hg : gbt G = true) {a1 : Int} (ga1 : rg a1) {a2 : Int} (ga2 : rg a2) {a3 : Int} (ga3 : rg a3) {a4 : Int} (ga4 : rg a4) {M : fMem} {q : Int × fMem} (h : f_X11_goesInto a1 a2 a3 a4 M = some q) : fSp G mX11_goesInto [rv G 418, iv a1, iv a2, iv a3, iv a4] M (rB q.2 q.1) fNo := by
  refine fSp_of (by decide +kernel) (by decide +kernel) (fC1 rfl (fC1 rfl (fC1 rfl (fC1 rfl (fC1 rfl fC0))))) (Nat.le_of_ble_eq_true rfl) ?_
  show fW G mX11_goesInto (fEm G mX11_goesInto (rB q.2 q.1) fNo) 0 0 0 [some (rv G 418), some (iv a1), some (iv a2), some (iv a3), some (iv a4), none, none, none] [] M
  rw [f_X11_goesInto] at h
  refine fW_rg (fun hR => ?_)
  refine fW_aload_n 1 dX11_goesInto_0 rfl rfl ?_
  refine fW_getI 4 16 (ji := 16) hg clX11 rfl (by decide) rfl tc_418 wd_1190 dX11_goesInto_1 rfl ?_
  refine fW_istore 6 (ls' := [some (rv G 418), some (iv a1), some (iv a2), some (iv a3), some (iv a4), some (iv (M 418 16)), none, none]) dX11_goesInto_4 rfl rfl (by decide) ?_
  refine fW_aload_n 7 dX11_goesInto_6 rfl rfl ?_
  refine fW_iload_n 8 dX11_goesInto_7 rfl rfl ?_
  refine fW_iload_n 9 dX11_goesInto_8 rfl rfl ?_
  refine fW_iload_n 10 dX11_goesInto_9 rfl rfl ?_
  obtain ⟨r1, e1, h⟩ := fBd h
  refine fW_cV (fI_V (as := [iv a1, iv a2, iv a3]) (rest := []) miX11_bounds hg clX11 rfl tc_418 wd_1463 (fRoom_of rfl) rfl (Nat.le_of_ble_eq_true rfl) dX11_goesInto_10) (s_X11_bounds hg ga1 ga2 ga3 e1) rfl rfl rfl ?_
  refine fW_rg (fun hR2 => ?_)
  refine fW_aload_n 14 dX11_goesInto_13 rfl rfl ?_
  refine fW_iload_n 15 dX11_goesInto_14 rfl rfl ?_
  refine fW_iload 17 dX11_goesInto_15 rfl rfl ?_
  obtain ⟨r3, e3, h⟩ := fBd h
  refine fW_cP (fI_V (as := [iv a1, iv a4]) (rest := []) miX11_fallsIn hg clX11 rfl tc_418 wd_1471 (fRoom_of rfl) rfl (Nat.le_of_ble_eq_true rfl) dX11_goesInto_17) (s_X11_fallsIn hg ga1 ga4 e3) rfl rfl rfl (fun g3 => ?_)
  refine fW_rg (fun hR4 => ?_)
  refine fW_istore 22 (ls' := [some (rv G 418), some (iv a1), some (iv a2), some (iv a3), some (iv a4), some (iv (M 418 16)), some (iv r3.1), none]) dX11_goesInto_20 rfl rfl (by decide) ?_
  refine fW_aload_n 23 dX11_goesInto_22 rfl rfl ?_
  refine fW_iload_n 24 dX11_goesInto_23 rfl rfl ?_
  refine fW_iload 26 dX11_goesInto_24 rfl rfl ?_
  refine fW_iload 28 dX11_goesInto_26 rfl rfl ?_
  obtain ⟨r5, e5, h⟩ := fBd h
  refine fW_cB (fI_V (as := [iv a1, iv r3.1, iv a4]) (rest := []) miX11_isFoundAt hg clX11 rfl tc_418 wd_1475 (fRoom_of rfl) rfl (Nat.le_of_ble_eq_true rfl) dX11_goesInto_28) (s_X11_isFoundAt hg ga1 g3 ga4 e5) rfl rfl rfl (fun g5 => ?_)
  refine fW_rg (fun hR6 => ?_)
  refine fW_istore 33 (ls' := [some (rv G 418), some (iv a1), some (iv a2), some (iv a3), some (iv a4), some (iv (M 418 16)), some (iv r3.1), some (iv r5.1)]) dX11_goesInto_31 rfl rfl (by decide) ?_
  refine fW_aload_n 34 dX11_goesInto_33 rfl rfl ?_
  refine fW_getR 37 (r := 430) 17 hg clX11 (by decide) rfl tc_418 tf_11_17 wd_1191 dX11_goesInto_34 rfl ?_
  refine fW_aload_n 38 dX11_goesInto_37 rfl rfl ?_
  refine fW_getI 41 22 (ji := 22) hg clX11 rfl (by decide) rfl tc_418 wd_1196 dX11_goesInto_38 rfl ?_
  refine fW_iload_n 42 dX11_goesInto_41 rfl rfl ?_
  obtain ⟨c7, h⟩ := fS h
  obtain ⟨N8, e8, h⟩ := fBd h
  replace e8 := Option.some.inj e8
  refine fW_iast 43 hg tc_430 ⟨c7.1, by rw [show Ln 430 = 19 from rfl]; exact c7.2⟩ ga1 dX11_goesInto_42 rfl ?_
  rw [e8]
  refine fW_rg (fun hR8 => ?_)
  refine fW_aload_n 44 dX11_goesInto_43 rfl rfl ?_
  refine fW_getR 47 (r := 431) 18 hg clX11 (by decide) rfl tc_418 tf_11_18 wd_1192 dX11_goesInto_44 rfl ?_
  refine fW_aload_n 48 dX11_goesInto_47 rfl rfl ?_
  refine fW_getI 51 22 (ji := 22) hg clX11 rfl (by decide) rfl tc_418 wd_1196 dX11_goesInto_48 rfl ?_
  refine fW_aload_n 52 dX11_goesInto_51 rfl rfl ?_
  refine fW_getI 55 14 (ji := 14) hg clX11 rfl (by decide) rfl tc_418 wd_1188 dX11_goesInto_52 rfl ?_
  obtain ⟨c9, h⟩ := fS h
  obtain ⟨N10, e10, h⟩ := fBd h
  replace e10 := Option.some.inj e10
  refine fW_iast 56 hg tc_431 ⟨c9.1, by rw [show Ln 431 = 19 from rfl]; exact c9.2⟩ (hR8 418 14) dX11_goesInto_55 rfl ?_
  rw [e10]
  refine fW_rg (fun hR10 => ?_)
  refine fW_aload_n 57 dX11_goesInto_56 rfl rfl ?_
  refine fW_getR 60 (r := 432) 19 hg clX11 (by decide) rfl tc_418 tf_11_19 wd_1193 dX11_goesInto_57 rfl ?_
  refine fW_aload_n 61 dX11_goesInto_60 rfl rfl ?_
  refine fW_getI 64 22 (ji := 22) hg clX11 rfl (by decide) rfl tc_418 wd_1196 dX11_goesInto_61 rfl ?_
  refine fW_aload_n 65 dX11_goesInto_64 rfl rfl ?_
  refine fW_getI 68 15 (ji := 15) hg clX11 rfl (by decide) rfl tc_418 wd_1189 dX11_goesInto_65 rfl ?_
  obtain ⟨c11, h⟩ := fS h
  obtain ⟨N12, e12, h⟩ := fBd h
  replace e12 := Option.some.inj e12
  refine fW_iast 69 hg tc_432 ⟨c11.1, by rw [show Ln 432 = 19 from rfl]; exact c11.2⟩ (hR10 418 15) dX11_goesInto_68 rfl ?_
  rw [e12]
  refine fW_rg (fun hR12 => ?_)
  refine fW_aload_n 70 dX11_goesInto_69 rfl rfl ?_
  refine fW_getR 73 (r := 433) 20 hg clX11 (by decide) rfl tc_418 tf_11_20 wd_1194 dX11_goesInto_70 rfl ?_
  refine fW_aload_n 74 dX11_goesInto_73 rfl rfl ?_
  refine fW_getI 77 22 (ji := 22) hg clX11 rfl (by decide) rfl tc_418 wd_1196 dX11_goesInto_74 rfl ?_
  refine fW_iload 79 dX11_goesInto_77 rfl rfl ?_
  obtain ⟨c13, h⟩ := fS h
  obtain ⟨N14, e14, h⟩ := fBd h
  replace e14 := Option.some.inj e14
  refine fW_iast 80 hg tc_433 ⟨c13.1, by rw [show Ln 433 = 19 from rfl]; exact c13.2⟩ g3 dX11_goesInto_79 rfl ?_
  rw [e14]
  refine fW_rg (fun hR14 => ?_)
  refine fW_aload_n 81 dX11_goesInto_80 rfl rfl ?_
  refine fW_getR 84 (r := 434) 21 hg clX11 (by decide) rfl tc_418 tf_11_21 wd_1195 dX11_goesInto_81 rfl ?_
  refine fW_aload_n 85 dX11_goesInto_84 rfl rfl ?_
  refine fW_getI 88 22 (ji := 22) hg clX11 rfl (by decide) rfl tc_418 wd_1196 dX11_goesInto_85 rfl ?_
  refine fW_aload_n 89 dX11_goesInto_88 rfl rfl ?_
  refine fW_getI 92 16 (ji := 16) hg clX11 rfl (by decide) rfl tc_418 wd_1190 dX11_goesInto_89 rfl ?_
  refine fW_iload 94 dX11_goesInto_92 rfl rfl ?_
  refine fW_isub 95 dX11_goesInto_94 rfl ?_
  obtain ⟨c15, h⟩ := fS h
  obtain ⟨c16, h⟩ := fS h
  obtain ⟨N17, e17, h⟩ := fBd h
  replace e17 := Option.some.inj e17
  refine fW_iast 96 hg tc_434 ⟨c15.1, by rw [show Ln 434 = 19 from rfl]; exact c15.2⟩ c16 dX11_goesInto_95 rfl ?_
  rw [e17]
  refine fW_rg (fun hR17 => ?_)
  refine fW_aload_n 97 dX11_goesInto_96 rfl rfl ?_
  refine fW_dup 98 dX11_goesInto_97 rfl rfl ?_
  refine fW_getI 101 22 (ji := 22) hg clX11 rfl (by decide) rfl tc_418 wd_1196 dX11_goesInto_98 rfl ?_
  refine fW_iconst 102 dX11_goesInto_101 rfl ?_
  refine fW_iadd 103 dX11_goesInto_102 rfl ?_
  obtain ⟨c18, h⟩ := fS h
  obtain ⟨N19, e19, h⟩ := fBd h
  replace e19 := Option.some.inj e19
  refine fW_putI 106 22 (ji := 22) hg clX11 rfl (by decide) rfl rfl rfl tc_418 c18 wd_1196 dX11_goesInto_103 rfl ?_
  rw [e19]
  refine fW_rg (fun hR19 => ?_)
  refine fW_iload 108 dX11_goesInto_106 rfl rfl ?_
  exact fW_zret rfl g5 (by decide) (by decide) dX11_goesInto_108 (rBI_i h g5)
end MTH
