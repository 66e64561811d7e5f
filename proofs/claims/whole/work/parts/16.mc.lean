section MTH
def mX11_comes : fMt := (yX11_comes, cX11_comes, 6, none, { frames := 1, cells := 0, slots := 0, locals := 40 })
theorem miX11_comes : fMv mX11_comes 3 := ⟨⟨fM 1307 (by decide +kernel) rfl, fM 101 (by decide +kernel) rfl, ⟨by decide +kernel, by decide +kernel⟩, by decide +kernel⟩, fM 1306 (by decide +kernel) rfl, fM 35 (by decide +kernel) rfl⟩
def j_X11_comes_37  (v1 : Int) (v2 : Int) (v3 : Int) (M : fMem) : Option (fMem) := (if 0 ≤ 7675 + v1 ∧ 7675 + v1 < 7787 then (if 0 ≤ 7600 + (M 419 (7675 + v1)) ∧ 7600 + (M 419 (7675 + v1)) < 7787 then ((f_X11_keyAt v2 v3 M).bind fun (r5 : Int) => (if 0 ≤ (200 * (M 419 (7675 + v1))) + (M 419 (7600 + (M 419 (7675 + v1)))) ∧ (200 * (M 419 (7675 + v1))) + (M 419 (7600 + (M 419 (7675 + v1)))) < 7787 then ((some (mset M 419 ((200 * (M 419 (7675 + v1))) + (M 419 (7600 + (M 419 (7675 + v1))))) r5)).bind fun (N7 : fMem) => ((f_X11_valueAt v2 v3 N7).bind fun (r8 : Int) => (if 0 ≤ (3800 + (200 * (M 419 (7675 + v1)))) + (M 419 (7600 + (M 419 (7675 + v1)))) ∧ (3800 + (200 * (M 419 (7675 + v1)))) + (M 419 (7600 + (M 419 (7675 + v1)))) < 7787 then ((some (mset N7 419 ((3800 + (200 * (M 419 (7675 + v1)))) + (M 419 (7600 + (M 419 (7675 + v1))))) r8)).bind fun (N10 : fMem) => (if -2147483648 ≤ (N10 419 (7600 + (M 419 (7675 + v1)))) + 1 ∧ (N10 419 (7600 + (M 419 (7675 + v1)))) + 1 < 2147483648 then ((some (mset N10 419 (7600 + (M 419 (7675 + v1))) ((N10 419 (7600 + (M 419 (7675 + v1)))) + 1))).bind fun (N12 : fMem) => (if 0 ≤ 7729 + v1 ∧ 7729 + v1 < 7787 then (if -2147483648 ≤ (N12 419 (7729 + v1)) + 1 ∧ (N12 419 (7729 + v1)) + 1 < 2147483648 then ((some (mset N12 419 (7729 + v1) ((N12 419 (7729 + v1)) + 1))).bind fun (N15 : fMem) => some N15) else none) else none)) else none)) else none))) else none)) else none) else none)
set_option maxRecDepth 100000 in
set_option maxHeartbeats 4000000 in
theorem i_X11_comes_37 {G : fG} (hg : gbt G = true)  {v1 : Int} {v2 : Int} {v3 : Int} (gv1 : rg v1) (gv2 : rg v2) (gv3 : rg v3) {M : fMem} {q : fMem} (h : j_X11_comes_37 v1 v2 v3 M = some q) : fW G mX11_comes (fEm G mX11_comes (rV q) fNo) 0 0 37 [some (rv G 418), some (iv v1), some (iv v2), some (iv v3), none, none] [] M := by
  rw [j_X11_comes_37] at h
  refine fW_rg (fun hR => ?_)
  refine fW_aload_n 38 dX11_comes_37 rfl rfl ?_
  refine fW_getR 41 (r := 419) 0 hg clX11 (by decide) rfl tc_418 tf_11_0 wd_1174 dX11_comes_38 rfl ?_
  refine fW_sipush 44 dX11_comes_41 rfl (by decide) ?_
  refine fW_iload_n 45 dX11_comes_44 rfl rfl ?_
  refine fW_iadd 46 dX11_comes_45 rfl ?_
  obtain ⟨c3, h⟩ := fS h
  refine fW_iald 47 hg tc_419 ⟨c3.1, by rw [show Ln 419 = 7787 from rfl]; exact c3.2⟩ dX11_comes_46 rfl ?_
  refine fW_istore 49 (ls' := [some (rv G 418), some (iv v1), some (iv v2), some (iv v3), some (iv (M 419 (7675 + v1))), none]) dX11_comes_47 rfl rfl (by decide) ?_
  refine fW_aload_n 50 dX11_comes_49 rfl rfl ?_
  refine fW_getR 53 (r := 419) 0 hg clX11 (by decide) rfl tc_418 tf_11_0 wd_1174 dX11_comes_50 rfl ?_
  refine fW_sipush 56 dX11_comes_53 rfl (by decide) ?_
  refine fW_iload 58 dX11_comes_56 rfl rfl ?_
  refine fW_iadd 59 dX11_comes_58 rfl ?_
  obtain ⟨c4, h⟩ := fS h
  refine fW_iald 60 hg tc_419 ⟨c4.1, by rw [show Ln 419 = 7787 from rfl]; exact c4.2⟩ dX11_comes_59 rfl ?_
  refine fW_istore 62 (ls' := [some (rv G 418), some (iv v1), some (iv v2), some (iv v3), some (iv (M 419 (7675 + v1))), some (iv (M 419 (7600 + (M 419 (7675 + v1)))))]) dX11_comes_60 rfl rfl (by decide) ?_
  refine fW_aload_n 63 dX11_comes_62 rfl rfl ?_
  refine fW_getR 66 (r := 419) 0 hg clX11 (by decide) rfl tc_418 tf_11_0 wd_1174 dX11_comes_63 rfl ?_
  refine fW_sipush 69 dX11_comes_66 rfl (by decide) ?_
  refine fW_iload 71 dX11_comes_69 rfl rfl ?_
  refine fW_imul 72 dX11_comes_71 rfl ?_
  refine fW_iload 74 dX11_comes_72 rfl rfl ?_
  refine fW_iadd 75 dX11_comes_74 rfl ?_
  refine fW_aload_n 76 dX11_comes_75 rfl rfl ?_
  refine fW_iload_n 77 dX11_comes_76 rfl rfl ?_
  refine fW_iload_n 78 dX11_comes_77 rfl rfl ?_
  obtain ⟨r5, e5, h⟩ := fBd h
  refine fW_cP (fI_V (as := [iv v2, iv v3]) (rest := [iv ((200 * (M 419 (7675 + v1))) + (M 419 (7600 + (M 419 (7675 + v1))))), rv G 419]) miX11_keyAt hg clX11 rfl tc_418 wd_1300 (fRoom_of rfl) rfl (Nat.le_of_ble_eq_true rfl) dX11_comes_78) (s_X11_keyAt hg gv2 gv3 e5) rfl rfl rfl (fun g5 => ?_)
  obtain ⟨c6, h⟩ := fS h
  obtain ⟨N7, e7, h⟩ := fBd h
  replace e7 := Option.some.inj e7
  refine fW_iast 82 hg tc_419 ⟨c6.1, by rw [show Ln 419 = 7787 from rfl]; exact c6.2⟩ g5 dX11_comes_81 rfl ?_
  rw [e7]
  refine fW_rg (fun hR7 => ?_)
  refine fW_aload_n 83 dX11_comes_82 rfl rfl ?_
  refine fW_getR 86 (r := 419) 0 hg clX11 (by decide) rfl tc_418 tf_11_0 wd_1174 dX11_comes_83 rfl ?_
  refine fW_sipush 89 dX11_comes_86 rfl (by decide) ?_
  refine fW_sipush 92 dX11_comes_89 rfl (by decide) ?_
  refine fW_iload 94 dX11_comes_92 rfl rfl ?_
  refine fW_imul 95 dX11_comes_94 rfl ?_
  refine fW_iadd 96 dX11_comes_95 rfl ?_
  refine fW_iload 98 dX11_comes_96 rfl rfl ?_
  refine fW_iadd 99 dX11_comes_98 rfl ?_
  refine fW_aload_n 100 dX11_comes_99 rfl rfl ?_
  refine fW_iload_n 101 dX11_comes_100 rfl rfl ?_
  refine fW_iload_n 102 dX11_comes_101 rfl rfl ?_
  obtain ⟨r8, e8, h⟩ := fBd h
  refine fW_cP (fI_V (as := [iv v2, iv v3]) (rest := [iv ((3800 + (200 * (M 419 (7675 + v1)))) + (M 419 (7600 + (M 419 (7675 + v1))))), rv G 419]) miX11_valueAt hg clX11 rfl tc_418 wd_1308 (fRoom_of rfl) rfl (Nat.le_of_ble_eq_true rfl) dX11_comes_102) (s_X11_valueAt hg gv2 gv3 e8) rfl rfl rfl (fun g8 => ?_)
  obtain ⟨c9, h⟩ := fS h
  obtain ⟨N10, e10, h⟩ := fBd h
  replace e10 := Option.some.inj e10
  refine fW_iast 106 hg tc_419 ⟨c9.1, by rw [show Ln 419 = 7787 from rfl]; exact c9.2⟩ g8 dX11_comes_105 rfl ?_
  rw [e10]
  refine fW_rg (fun hR10 => ?_)
  refine fW_aload_n 107 dX11_comes_106 rfl rfl ?_
  refine fW_getR 110 (r := 419) 0 hg clX11 (by decide) rfl tc_418 tf_11_0 wd_1174 dX11_comes_107 rfl ?_
  refine fW_sipush 113 dX11_comes_110 rfl (by decide) ?_
  refine fW_iload 115 dX11_comes_113 rfl rfl ?_
  refine fW_iadd 116 dX11_comes_115 rfl ?_
  refine fW_dup2 117 dX11_comes_116 rfl rfl rfl ?_
  refine fW_iald 118 hg tc_419 ⟨c4.1, by rw [show Ln 419 = 7787 from rfl]; exact c4.2⟩ dX11_comes_117 rfl ?_
  refine fW_iconst 119 dX11_comes_118 rfl ?_
  refine fW_iadd 120 dX11_comes_119 rfl ?_
  obtain ⟨c11, h⟩ := fS h
  obtain ⟨N12, e12, h⟩ := fBd h
  replace e12 := Option.some.inj e12
  refine fW_iast 121 hg tc_419 ⟨c4.1, by rw [show Ln 419 = 7787 from rfl]; exact c4.2⟩ c11 dX11_comes_120 rfl ?_
  rw [e12]
  refine fW_rg (fun hR12 => ?_)
  refine fW_aload_n 122 dX11_comes_121 rfl rfl ?_
  refine fW_getR 125 (r := 419) 0 hg clX11 (by decide) rfl tc_418 tf_11_0 wd_1174 dX11_comes_122 rfl ?_
  refine fW_sipush 128 dX11_comes_125 rfl (by decide) ?_
  refine fW_iload_n 129 dX11_comes_128 rfl rfl ?_
  refine fW_iadd 130 dX11_comes_129 rfl ?_
  refine fW_dup2 131 dX11_comes_130 rfl rfl rfl ?_
  obtain ⟨c13, h⟩ := fS h
  refine fW_iald 132 hg tc_419 ⟨c13.1, by rw [show Ln 419 = 7787 from rfl]; exact c13.2⟩ dX11_comes_131 rfl ?_
  refine fW_iconst 133 dX11_comes_132 rfl ?_
  refine fW_iadd 134 dX11_comes_133 rfl ?_
  obtain ⟨c14, h⟩ := fS h
  obtain ⟨N15, e15, h⟩ := fBd h
  replace e15 := Option.some.inj e15
  refine fW_iast 135 hg tc_419 ⟨c13.1, by rw [show Ln 419 = 7787 from rfl]; exact c13.2⟩ c14 dX11_comes_134 rfl ?_
  rw [e15]
  refine fW_rg (fun hR15 => ?_)
  exact fW_vret rfl (by decide) (by decide) dX11_comes_135 (rV_i h)
def f_X11_comes (a1 : Int) (a2 : Int) (a3 : Int) (M : fMem) : Option (fMem) := (if 0 ≤ 7666 + a1 ∧ 7666 + a1 < 7787 then (if (M 419 (7666 + a1)) = 1 then ((f_X11_valueAt a2 a3 M).bind fun (r16 : Int) => (if r16 = ((-1)) then (if -2147483648 ≤ (M 419 7746) + 1 ∧ (M 419 7746) + 1 < 2147483648 then ((some (mset M 419 7746 ((M 419 7746) + 1))).bind fun (N19 : fMem) => some N19) else none) else j_X11_comes_37 a1 a2 a3 M)) else j_X11_comes_37 a1 a2 a3 M) else none)
set_option maxRecDepth 100000 in
set_option maxHeartbeats 4000000 in
theorem s_X11_comes {G : fG} (hg : gbt G = true) {a1 : Int} (ga1 : rg a1) {a2 : Int} (ga2 : rg a2) {a3 : Int} (ga3 : rg a3) {M : fMem} {q : fMem} (h : f_X11_comes a1 a2 a3 M = some q) : fSp G mX11_comes [rv G 418, iv a1, iv a2, iv a3] M (rV q) fNo := by
  refine fSp_of (by decide +kernel) (by decide +kernel) (fC1 rfl (fC1 rfl (fC1 rfl (fC1 rfl fC0)))) (Nat.le_of_ble_eq_true rfl) ?_
  show fW G mX11_comes (fEm G mX11_comes (rV q) fNo) 0 0 0 [some (rv G 418), some (iv a1), some (iv a2), some (iv a3), none, none] [] M
  rw [f_X11_comes] at h
  refine fW_rg (fun hR => ?_)
  refine fW_aload_n 1 dX11_comes_0 rfl rfl ?_
  refine fW_getR 4 (r := 419) 0 hg clX11 (by decide) rfl tc_418 tf_11_0 wd_1174 dX11_comes_1 rfl ?_
  refine fW_sipush 7 dX11_comes_4 rfl (by decide) ?_
  refine fW_iload_n 8 dX11_comes_7 rfl rfl ?_
  refine fW_iadd 9 dX11_comes_8 rfl ?_
  obtain ⟨c1, h⟩ := fS h
  refine fW_iald 10 hg tc_419 ⟨c1.1, by rw [show Ln 419 = 7787 from rfl]; exact c1.2⟩ dX11_comes_9 rfl ?_
  refine fW_iconst 11 dX11_comes_10 rfl ?_
  refine fW_icmp_ne 14 37 (hR 419 (7666 + a1)) (by decide) dX11_comes_11 rfl rfl (fun c2 => ?_) (fun c2 => ?_)
  · replace h := fFf h c2
    exact fW_sb (i_X11_comes_37 hg ga1 ga2 ga3 h) ⟨rfl, rfl, rfl, rfl, trivial⟩
  · replace h := fTt h c2
    refine fW_aload_n 15 dX11_comes_14 rfl rfl ?_
    refine fW_iload_n 16 dX11_comes_15 rfl rfl ?_
    refine fW_iload_n 17 dX11_comes_16 rfl rfl ?_
    obtain ⟨r16, e16, h⟩ := fBd h
    refine fW_cP (fI_V (as := [iv a2, iv a3]) (rest := []) miX11_valueAt hg clX11 rfl tc_418 wd_1308 (fRoom_of rfl) rfl (Nat.le_of_ble_eq_true rfl) dX11_comes_17) (s_X11_valueAt hg ga2 ga3 e16) rfl rfl rfl (fun g16 => ?_)
    refine fW_iconst 21 dX11_comes_20 rfl ?_
    refine fW_icmp_ne 24 37 g16 (by decide) dX11_comes_21 rfl rfl (fun c17 => ?_) (fun c17 => ?_)
    · replace h := fFf h c17
      exact fW_sb (i_X11_comes_37 hg ga1 ga2 ga3 h) ⟨rfl, rfl, rfl, rfl, trivial⟩
    · replace h := fTt h c17
      refine fW_aload_n 25 dX11_comes_24 rfl rfl ?_
      refine fW_getR 28 (r := 419) 0 hg clX11 (by decide) rfl tc_418 tf_11_0 wd_1174 dX11_comes_25 rfl ?_
      refine fW_sipush 31 dX11_comes_28 rfl (by decide) ?_
      refine fW_dup2 32 dX11_comes_31 rfl rfl rfl ?_
      refine fW_iald 33 hg tc_419 ⟨by decide, by rw [show Ln 419 = 7787 from rfl]; decide⟩ dX11_comes_32 rfl ?_
      refine fW_iconst 34 dX11_comes_33 rfl ?_
      refine fW_iadd 35 dX11_comes_34 rfl ?_
      obtain ⟨c18, h⟩ := fS h
      obtain ⟨N19, e19, h⟩ := fBd h
      replace e19 := Option.some.inj e19
      refine fW_iast 36 hg tc_419 ⟨by decide, by rw [show Ln 419 = 7787 from rfl]; decide⟩ c18 dX11_comes_35 rfl ?_
      rw [e19]
      refine fW_rg (fun hR19 => ?_)
      exact fW_vret rfl (by decide) (by decide) dX11_comes_36 (rV_i h)
def mX11_isThrough : fMt := (yX11_isThrough, cX11_isThrough, 3, none, { frames := 5, cells := 0, slots := 0, locals := 200 })
theorem miX11_isThrough : fMv mX11_isThrough 1 := ⟨⟨fM 1319 (by decide +kernel) rfl, fM 101 (by decide +kernel) rfl, ⟨by decide +kernel, by decide +kernel⟩, by decide +kernel⟩, fM 1318 (by decide +kernel) rfl, fM 38 (by decide +kernel) rfl⟩
def f_X11_isThrough (a1 : Int) (M : fMem) : Option (fMem) := (if 0 ≤ 7675 + a1 ∧ 7675 + a1 < 7787 then (if 0 ≤ 7657 + a1 ∧ 7657 + a1 < 7787 then ((some (mset M 419 (7657 + a1) 0)).bind fun (N3 : fMem) => (if 0 ≤ 7720 + a1 ∧ 7720 + a1 < 7787 then (if -2147483648 ≤ (N3 419 (7720 + a1)) + 1 ∧ (N3 419 (7720 + a1)) + 1 < 2147483648 then ((some (mset N3 419 (7720 + a1) ((N3 419 (7720 + a1)) + 1))).bind fun (N6 : fMem) => (if 0 ≤ 7684 + a1 ∧ 7684 + a1 < 7787 then ((f_X11_frees (N6 419 (7684 + a1)) N6).bind fun (r8 : fMem) => (if 0 ≤ 7693 + a1 ∧ 7693 + a1 < 7787 then ((f_X11_frees (r8 419 (7693 + a1)) r8).bind fun (r11 : fMem) => (if 0 ≤ 7600 + (M 419 (7675 + a1)) ∧ 7600 + (M 419 (7675 + a1)) < 7787 then (if (r11 419 (7600 + (M 419 (7675 + a1)))) = 0 then ((f_X11_frees (M 419 (7675 + a1)) r11).bind fun (r19 : fMem) => ((f_X11_asksAll r19).bind fun (r21 : fMem) => some r21)) else ((f_X11_shuts (M 419 (7675 + a1)) r11).bind fun (r15 : fMem) => ((f_X11_asksAll r15).bind fun (r17 : fMem) => some r17))) else none)) else none)) else none)) else none) else none)) else none) else none)
set_option maxRecDepth 100000 in
set_option maxHeartbeats 4000000 in
theorem s_X11_isThrough {G : fG} (hg : gbt G = true) {a1 : Int} (ga1 : rg a1) {M : fMem} {q : fMem} (h : f_X11_isThrough a1 M = some q) : fSp G mX11_isThrough [rv G 418, iv a1] M (rV q) fNo := by
  refine fSp_of (by decide +kernel) (by decide +kernel) (fC1 rfl (fC1 rfl fC0)) (Nat.le_of_ble_eq_true rfl) ?_
  show fW G mX11_isThrough (fEm G mX11_isThrough (rV q) fNo) 0 0 0 [some (rv G 418), some (iv a1), none] [] M
  rw [f_X11_isThrough] at h
  refine fW_rg (fun hR => ?_)
  refine fW_aload_n 1 dX11_isThrough_0 rfl rfl ?_
  refine fW_getR 4 (r := 419) 0 hg clX11 (by decide) rfl tc_418 tf_11_0 wd_1174 dX11_isThrough_1 rfl ?_
  refine fW_sipush 7 dX11_isThrough_4 rfl (by decide) ?_
  refine fW_iload_n 8 dX11_isThrough_7 rfl rfl ?_
  refine fW_iadd 9 dX11_isThrough_8 rfl ?_
  obtain ⟨c1, h⟩ := fS h
  refine fW_iald 10 hg tc_419 ⟨c1.1, by rw [show Ln 419 = 7787 from rfl]; exact c1.2⟩ dX11_isThrough_9 rfl ?_
  refine fW_istore_n 11 (ls' := [some (rv G 418), some (iv a1), some (iv (M 419 (7675 + a1)))]) dX11_isThrough_10 rfl rfl rfl (by decide) ?_
  refine fW_aload_n 12 dX11_isThrough_11 rfl rfl ?_
  refine fW_getR 15 (r := 419) 0 hg clX11 (by decide) rfl tc_418 tf_11_0 wd_1174 dX11_isThrough_12 rfl ?_
  refine fW_sipush 18 dX11_isThrough_15 rfl (by decide) ?_
  refine fW_iload_n 19 dX11_isThrough_18 rfl rfl ?_
  refine fW_iadd 20 dX11_isThrough_19 rfl ?_
  refine fW_iconst 21 dX11_isThrough_20 rfl ?_
  obtain ⟨c2, h⟩ := fS h
  obtain ⟨N3, e3, h⟩ := fBd h
  replace e3 := Option.some.inj e3
  refine fW_iast 22 hg tc_419 ⟨c2.1, by rw [show Ln 419 = 7787 from rfl]; exact c2.2⟩ (by decide) dX11_isThrough_21 rfl ?_
  rw [e3]
  refine fW_rg (fun hR3 => ?_)
  refine fW_aload_n 23 dX11_isThrough_22 rfl rfl ?_
  refine fW_getR 26 (r := 419) 0 hg clX11 (by decide) rfl tc_418 tf_11_0 wd_1174 dX11_isThrough_23 rfl ?_
  refine fW_sipush 29 dX11_isThrough_26 rfl (by decide) ?_
  refine fW_iload_n 30 dX11_isThrough_29 rfl rfl ?_
  refine fW_iadd 31 dX11_isThrough_30 rfl ?_
  refine fW_dup2 32 dX11_isThrough_31 rfl rfl rfl ?_
  obtain ⟨c4, h⟩ := fS h
  refine fW_iald 33 hg tc_419 ⟨c4.1, by rw [show Ln 419 = 7787 from rfl]; exact c4.2⟩ dX11_isThrough_32 rfl ?_
  refine fW_iconst 34 dX11_isThrough_33 rfl ?_
  refine fW_iadd 35 dX11_isThrough_34 rfl ?_
  obtain ⟨c5, h⟩ := fS h
  obtain ⟨N6, e6, h⟩ := fBd h
  replace e6 := Option.some.inj e6
  refine fW_iast 36 hg tc_419 ⟨c4.1, by rw [show Ln 419 = 7787 from rfl]; exact c4.2⟩ c5 dX11_isThrough_35 rfl ?_
  rw [e6]
  refine fW_rg (fun hR6 => ?_)
  refine fW_aload_n 37 dX11_isThrough_36 rfl rfl ?_
  refine fW_aload_n 38 dX11_isThrough_37 rfl rfl ?_
  refine fW_getR 41 (r := 419) 0 hg clX11 (by decide) rfl tc_418 tf_11_0 wd_1174 dX11_isThrough_38 rfl ?_
  refine fW_sipush 44 dX11_isThrough_41 rfl (by decide) ?_
  refine fW_iload_n 45 dX11_isThrough_44 rfl rfl ?_
  refine fW_iadd 46 dX11_isThrough_45 rfl ?_
  obtain ⟨c7, h⟩ := fS h
  refine fW_iald 47 hg tc_419 ⟨c7.1, by rw [show Ln 419 = 7787 from rfl]; exact c7.2⟩ dX11_isThrough_46 rfl ?_
  obtain ⟨r8, e8, h⟩ := fBd h
  refine fW_cV (fI_V (as := [iv (N6 419 (7684 + a1))]) (rest := []) miX11_frees hg clX11 rfl tc_418 wd_1320 (fRoom_of rfl) rfl (Nat.le_of_ble_eq_true rfl) dX11_isThrough_47) (s_X11_frees hg (hR6 419 (7684 + a1)) e8) rfl rfl rfl ?_
  refine fW_rg (fun hR9 => ?_)
  refine fW_aload_n 51 dX11_isThrough_50 rfl rfl ?_
  refine fW_aload_n 52 dX11_isThrough_51 rfl rfl ?_
  refine fW_getR 55 (r := 419) 0 hg clX11 (by decide) rfl tc_418 tf_11_0 wd_1174 dX11_isThrough_52 rfl ?_
  refine fW_sipush 58 dX11_isThrough_55 rfl (by decide) ?_
  refine fW_iload_n 59 dX11_isThrough_58 rfl rfl ?_
  refine fW_iadd 60 dX11_isThrough_59 rfl ?_
  obtain ⟨c10, h⟩ := fS h
  refine fW_iald 61 hg tc_419 ⟨c10.1, by rw [show Ln 419 = 7787 from rfl]; exact c10.2⟩ dX11_isThrough_60 rfl ?_
  obtain ⟨r11, e11, h⟩ := fBd h
  refine fW_cV (fI_V (as := [iv (r8 419 (7693 + a1))]) (rest := []) miX11_frees hg clX11 rfl tc_418 wd_1320 (fRoom_of rfl) rfl (Nat.le_of_ble_eq_true rfl) dX11_isThrough_61) (s_X11_frees hg (hR9 419 (7693 + a1)) e11) rfl rfl rfl ?_
  refine fW_rg (fun hR12 => ?_)
  refine fW_aload_n 65 dX11_isThrough_64 rfl rfl ?_
  refine fW_getR 68 (r := 419) 0 hg clX11 (by decide) rfl tc_418 tf_11_0 wd_1174 dX11_isThrough_65 rfl ?_
  refine fW_sipush 71 dX11_isThrough_68 rfl (by decide) ?_
  refine fW_iload_n 72 dX11_isThrough_71 rfl rfl ?_
  refine fW_iadd 73 dX11_isThrough_72 rfl ?_
  obtain ⟨c13, h⟩ := fS h
  refine fW_iald 74 hg tc_419 ⟨c13.1, by rw [show Ln 419 = 7787 from rfl]; exact c13.2⟩ dX11_isThrough_73 rfl ?_
  refine fW_if_ne 77 85 (hR12 419 (7600 + (M 419 (7675 + a1)))) dX11_isThrough_74 rfl rfl (fun c14 => ?_) (fun c14 => ?_)
  · replace h := fFf h c14
    refine fW_aload_n 86 dX11_isThrough_85 rfl rfl ?_
    refine fW_iload_n 87 dX11_isThrough_86 rfl rfl ?_
    obtain ⟨r15, e15, h⟩ := fBd h
    refine fW_cV (fI_V (as := [iv (M 419 (7675 + a1))]) (rest := []) miX11_shuts hg clX11 rfl tc_418 wd_1324 (fRoom_of rfl) rfl (Nat.le_of_ble_eq_true rfl) dX11_isThrough_87) (s_X11_shuts hg (hR 419 (7675 + a1)) e15) rfl rfl rfl ?_
    refine fW_rg (fun hR16 => ?_)
    refine fW_aload_n 91 dX11_isThrough_90 rfl rfl ?_
    obtain ⟨r17, e17, h⟩ := fBd h
    refine fW_cV (fI_V (as := []) (rest := []) miX11_asksAll hg clX11 rfl tc_418 wd_1328 (fRoom_of rfl) rfl (Nat.le_of_ble_eq_true rfl) dX11_isThrough_91) (s_X11_asksAll hg e17) rfl rfl rfl ?_
    refine fW_rg (fun hR18 => ?_)
    exact fW_vret rfl (by decide) (by decide) dX11_isThrough_94 (rV_i h)
  · replace h := fTt h c14
    refine fW_aload_n 78 dX11_isThrough_77 rfl rfl ?_
    refine fW_iload_n 79 dX11_isThrough_78 rfl rfl ?_
    obtain ⟨r19, e19, h⟩ := fBd h
    refine fW_cV (fI_V (as := [iv (M 419 (7675 + a1))]) (rest := []) miX11_frees hg clX11 rfl tc_418 wd_1320 (fRoom_of rfl) rfl (Nat.le_of_ble_eq_true rfl) dX11_isThrough_79) (s_X11_frees hg (hR 419 (7675 + a1)) e19) rfl rfl rfl ?_
    refine fW_rg (fun hR20 => ?_)
    refine fW_goto 90 dX11_isThrough_82 rfl ?_
    refine fW_aload_n 91 dX11_isThrough_90 rfl rfl ?_
    obtain ⟨r21, e21, h⟩ := fBd h
    refine fW_cV (fI_V (as := []) (rest := []) miX11_asksAll hg clX11 rfl tc_418 wd_1328 (fRoom_of rfl) rfl (Nat.le_of_ble_eq_true rfl) dX11_isThrough_91) (s_X11_asksAll hg e21) rfl rfl rfl ?_
    refine fW_rg (fun hR22 => ?_)
    exact fW_vret rfl (by decide) (by decide) dX11_isThrough_94 (rV_i h)
def mX11_step : fMt := (yX11_step, cX11_step, 8, some .boolean, { frames := 6, cells := 0, slots := 0, locals := 240 })
theorem miX11_step : fMv mX11_step 0 := ⟨⟨fM 1295 (by decide +kernel) rfl, fM 101 (by decide +kernel) rfl, ⟨by decide +kernel, by decide +kernel⟩, by decide +kernel⟩, fM 1294 (by decide +kernel) rfl, fM 32 (by decide +kernel) rfl⟩
def j_X11_step_205  (v1 : Int) (M : fMem) : Option (Int × fMem) := (if -2147483648 ≤ (M 419 7742) + 1 ∧ (M 419 7742) + 1 < 2147483648 then ((some (mset M 419 7742 ((M 419 7742) + 1))).bind fun (N19 : fMem) => ((f_X11_leftOf v1 N19).bind fun (r20 : Int) => (if r20 = 0 then ((f_X11_isThrough v1 N19).bind fun (r22 : fMem) => some (1, r22)) else some (1, N19)))) else none)
set_option maxRecDepth 100000 in
set_option maxHeartbeats 4000000 in
theorem i_X11_step_205 {G : fG} (hg : gbt G = true)  {v1 : Int} (gv1 : rg v1) {M : fMem} {q : Int × fMem} (h : j_X11_step_205 v1 M = some q) : fW G mX11_step (fEm G mX11_step (rB q.2 q.1) fNo) 0 0 205 [some (rv G 418), some (iv v1), none, none, none, none, none, none] [] M := by
  rw [j_X11_step_205] at h
  refine fW_rg (fun hR => ?_)
  refine fW_aload_n 206 dX11_step_205 rfl rfl ?_
  refine fW_getR 209 (r := 419) 0 hg clX11 (by decide) rfl tc_418 tf_11_0 wd_1174 dX11_step_206 rfl ?_
  refine fW_sipush 212 dX11_step_209 rfl (by decide) ?_
  refine fW_dup2 213 dX11_step_212 rfl rfl rfl ?_
  refine fW_iald 214 hg tc_419 ⟨by decide, by rw [show Ln 419 = 7787 from rfl]; decide⟩ dX11_step_213 rfl ?_
  refine fW_iconst 215 dX11_step_214 rfl ?_
  refine fW_iadd 216 dX11_step_215 rfl ?_
  obtain ⟨c18, h⟩ := fS h
  obtain ⟨N19, e19, h⟩ := fBd h
  replace e19 := Option.some.inj e19
  refine fW_iast 217 hg tc_419 ⟨by decide, by rw [show Ln 419 = 7787 from rfl]; decide⟩ c18 dX11_step_216 rfl ?_
  rw [e19]
  refine fW_rg (fun hR19 => ?_)
  refine fW_aload_n 218 dX11_step_217 rfl rfl ?_
  refine fW_iload_n 219 dX11_step_218 rfl rfl ?_
  obtain ⟨r20, e20, h⟩ := fBd h
  refine fW_cP (fI_V (as := [iv v1]) (rest := []) miX11_leftOf hg clX11 rfl tc_418 wd_1312 (fRoom_of rfl) rfl (Nat.le_of_ble_eq_true rfl) dX11_step_219) (s_X11_leftOf hg gv1 e20) rfl rfl rfl (fun g20 => ?_)
  refine fW_if_ne 225 230 g20 dX11_step_222 rfl rfl (fun c21 => ?_) (fun c21 => ?_)
  · replace h := fFf h c21
    refine fW_iconst 231 dX11_step_230 rfl ?_
    exact fW_zret rfl (by decide) (by decide) (by decide) dX11_step_231 (rBI_i h (by decide))
  · replace h := fTt h c21
    refine fW_aload_n 226 dX11_step_225 rfl rfl ?_
    refine fW_iload_n 227 dX11_step_226 rfl rfl ?_
    obtain ⟨r22, e22, h⟩ := fBd h
    refine fW_cV (fI_V (as := [iv v1]) (rest := []) miX11_isThrough hg clX11 rfl tc_418 wd_1316 (fRoom_of rfl) rfl (Nat.le_of_ble_eq_true rfl) dX11_step_227) (s_X11_isThrough hg gv1 e22) rfl rfl rfl ?_
    refine fW_rg (fun hR23 => ?_)
    refine fW_iconst 231 dX11_step_230 rfl ?_
    exact fW_zret rfl (by decide) (by decide) (by decide) dX11_step_231 (rBI_i h (by decide))
def j_X11_step_172  (v1 : Int) (v6 : Int) (v7 : Int) (M : fMem) : Option (Int × fMem) := (if v6 = v7 then (if 0 ≤ 7711 + v1 ∧ 7711 + v1 < 7787 then (if -2147483648 ≤ (M 419 (7711 + v1)) + 1 ∧ (M 419 (7711 + v1)) + 1 < 2147483648 then ((some (mset M 419 (7711 + v1) ((M 419 (7711 + v1)) + 1))).bind fun (N26 : fMem) => (if -2147483648 ≤ (N26 419 7745) + 1 ∧ (N26 419 7745) + 1 < 2147483648 then ((some (mset N26 419 7745 ((N26 419 7745) + 1))).bind fun (N28 : fMem) => j_X11_step_205 v1 N28) else none)) else none) else none) else j_X11_step_205 v1 M)
set_option maxRecDepth 100000 in
set_option maxHeartbeats 4000000 in
theorem i_X11_step_172 {G : fG} (hg : gbt G = true)  {v1 : Int} {v6 : Int} {v7 : Int} (gv1 : rg v1) (gv6 : rg v6) (gv7 : rg v7) {M : fMem} {q : Int × fMem} (h : j_X11_step_172 v1 v6 v7 M = some q) : fW G mX11_step (fEm G mX11_step (rB q.2 q.1) fNo) 0 0 172 [some (rv G 418), some (iv v1), none, none, none, none, some (iv v6), some (iv v7)] [] M := by
  rw [j_X11_step_172] at h
  refine fW_rg (fun hR => ?_)
  refine fW_iload 174 dX11_step_172 rfl rfl ?_
  refine fW_iload 176 dX11_step_174 rfl rfl ?_
  refine fW_icmp_ne 179 205 gv6 gv7 dX11_step_176 rfl rfl (fun c17 => ?_) (fun c17 => ?_)
  · replace h := fFf h c17
    exact fW_sb (i_X11_step_205 hg gv1 h) ⟨rfl, rfl, trivial⟩
  · replace h := fTt h c17
    refine fW_aload_n 180 dX11_step_179 rfl rfl ?_
    refine fW_getR 183 (r := 419) 0 hg clX11 (by decide) rfl tc_418 tf_11_0 wd_1174 dX11_step_180 rfl ?_
    refine fW_sipush 186 dX11_step_183 rfl (by decide) ?_
    refine fW_iload_n 187 dX11_step_186 rfl rfl ?_
    refine fW_iadd 188 dX11_step_187 rfl ?_
    refine fW_dup2 189 dX11_step_188 rfl rfl rfl ?_
    obtain ⟨c24, h⟩ := fS h
    refine fW_iald 190 hg tc_419 ⟨c24.1, by rw [show Ln 419 = 7787 from rfl]; exact c24.2⟩ dX11_step_189 rfl ?_
    refine fW_iconst 191 dX11_step_190 rfl ?_
    refine fW_iadd 192 dX11_step_191 rfl ?_
    obtain ⟨c25, h⟩ := fS h
    obtain ⟨N26, e26, h⟩ := fBd h
    replace e26 := Option.some.inj e26
    refine fW_iast 193 hg tc_419 ⟨c24.1, by rw [show Ln 419 = 7787 from rfl]; exact c24.2⟩ c25 dX11_step_192 rfl ?_
    rw [e26]
    refine fW_rg (fun hR26 => ?_)
    refine fW_aload_n 194 dX11_step_193 rfl rfl ?_
    refine fW_getR 197 (r := 419) 0 hg clX11 (by decide) rfl tc_418 tf_11_0 wd_1174 dX11_step_194 rfl ?_
    refine fW_sipush 200 dX11_step_197 rfl (by decide) ?_
    refine fW_dup2 201 dX11_step_200 rfl rfl rfl ?_
    refine fW_iald 202 hg tc_419 ⟨by decide, by rw [show Ln 419 = 7787 from rfl]; decide⟩ dX11_step_201 rfl ?_
    refine fW_iconst 203 dX11_step_202 rfl ?_
    refine fW_iadd 204 dX11_step_203 rfl ?_
    obtain ⟨c27, h⟩ := fS h
    obtain ⟨N28, e28, h⟩ := fBd h
    replace e28 := Option.some.inj e28
    refine fW_iast 205 hg tc_419 ⟨by decide, by rw [show Ln 419 = 7787 from rfl]; decide⟩ c27 dX11_step_204 rfl ?_
    rw [e28]
    refine fW_rg (fun hR28 => ?_)
    exact fW_sb (i_X11_step_205 hg gv1 h) ⟨rfl, rfl, trivial⟩
def j_X11_step_116  (v1 : Int) (v2 : Int) (v3 : Int) (v4 : Int) (v5 : Int) (v6 : Int) (x0 : Int) (M : fMem) : Option (Int × fMem) := (if x0 < v6 then ((f_X11_comes v1 v3 v5 M).bind fun (r12 : fMem) => (if 0 ≤ 7711 + v1 ∧ 7711 + v1 < 7787 then (if -2147483648 ≤ (r12 419 (7711 + v1)) + 1 ∧ (r12 419 (7711 + v1)) + 1 < 2147483648 then ((some (mset r12 419 (7711 + v1) ((r12 419 (7711 + v1)) + 1))).bind fun (N16 : fMem) => j_X11_step_172 v1 v6 x0 N16) else none) else none)) else ((f_X11_comes v1 v2 v4 M).bind fun (r29 : fMem) => (if 0 ≤ 7702 + v1 ∧ 7702 + v1 < 7787 then (if -2147483648 ≤ (r29 419 (7702 + v1)) + 1 ∧ (r29 419 (7702 + v1)) + 1 < 2147483648 then ((some (mset r29 419 (7702 + v1) ((r29 419 (7702 + v1)) + 1))).bind fun (N33 : fMem) => j_X11_step_172 v1 v6 x0 N33) else none) else none)))
set_option maxRecDepth 100000 in
set_option maxHeartbeats 4000000 in
theorem i_X11_step_116 {G : fG} (hg : gbt G = true)  {v1 : Int} {v2 : Int} {v3 : Int} {v4 : Int} {v5 : Int} {v6 : Int} {x0 : Int} (gv1 : rg v1) (gv2 : rg v2) (gv3 : rg v3) (gv4 : rg v4) (gv5 : rg v5) (gv6 : rg v6) (gx0 : rg x0) {M : fMem} {q : Int × fMem} (h : j_X11_step_116 v1 v2 v3 v4 v5 v6 x0 M = some q) : fW G mX11_step (fEm G mX11_step (rB q.2 q.1) fNo) 0 0 116 [some (rv G 418), some (iv v1), some (iv v2), some (iv v3), some (iv v4), some (iv v5), some (iv v6), none] [iv x0] M := by
  rw [j_X11_step_116] at h
  refine fW_rg (fun hR => ?_)
  refine fW_istore 118 (ls' := [some (rv G 418), some (iv v1), some (iv v2), some (iv v3), some (iv v4), some (iv v5), some (iv v6), some (iv x0)]) dX11_step_116 rfl rfl (by decide) ?_
  refine fW_iload 120 dX11_step_118 rfl rfl ?_
  refine fW_iload 122 dX11_step_120 rfl rfl ?_
  refine fW_icmp_gt 125 150 gv6 gx0 dX11_step_122 rfl rfl (fun c11 => ?_) (fun c11 => ?_)
  · replace h := fTt h c11
    refine fW_aload_n 151 dX11_step_150 rfl rfl ?_
    refine fW_iload_n 152 dX11_step_151 rfl rfl ?_
    refine fW_iload_n 153 dX11_step_152 rfl rfl ?_
    refine fW_iload 155 dX11_step_153 rfl rfl ?_
    obtain ⟨r12, e12, h⟩ := fBd h
    refine fW_cV (fI_V (as := [iv v1, iv v3, iv v5]) (rest := []) miX11_comes hg clX11 rfl tc_418 wd_1304 (fRoom_of rfl) rfl (Nat.le_of_ble_eq_true rfl) dX11_step_155) (s_X11_comes hg gv1 gv3 gv5 e12) rfl rfl rfl ?_
    refine fW_rg (fun hR13 => ?_)
    refine fW_aload_n 159 dX11_step_158 rfl rfl ?_
    refine fW_getR 162 (r := 419) 0 hg clX11 (by decide) rfl tc_418 tf_11_0 wd_1174 dX11_step_159 rfl ?_
    refine fW_sipush 165 dX11_step_162 rfl (by decide) ?_
    refine fW_iload_n 166 dX11_step_165 rfl rfl ?_
    refine fW_iadd 167 dX11_step_166 rfl ?_
    refine fW_dup2 168 dX11_step_167 rfl rfl rfl ?_
    obtain ⟨c14, h⟩ := fS h
    refine fW_iald 169 hg tc_419 ⟨c14.1, by rw [show Ln 419 = 7787 from rfl]; exact c14.2⟩ dX11_step_168 rfl ?_
    refine fW_iconst 170 dX11_step_169 rfl ?_
    refine fW_iadd 171 dX11_step_170 rfl ?_
    obtain ⟨c15, h⟩ := fS h
    obtain ⟨N16, e16, h⟩ := fBd h
    replace e16 := Option.some.inj e16
    refine fW_iast 172 hg tc_419 ⟨c14.1, by rw [show Ln 419 = 7787 from rfl]; exact c14.2⟩ c15 dX11_step_171 rfl ?_
    rw [e16]
    refine fW_rg (fun hR16 => ?_)
    exact fW_sb (i_X11_step_172 hg gv1 gv6 gx0 h) ⟨rfl, rfl, rfl, rfl, trivial⟩
  · replace h := fFf h c11
    refine fW_aload_n 126 dX11_step_125 rfl rfl ?_
    refine fW_iload_n 127 dX11_step_126 rfl rfl ?_
    refine fW_iload_n 128 dX11_step_127 rfl rfl ?_
    refine fW_iload 130 dX11_step_128 rfl rfl ?_
    obtain ⟨r29, e29, h⟩ := fBd h
    refine fW_cV (fI_V (as := [iv v1, iv v2, iv v4]) (rest := []) miX11_comes hg clX11 rfl tc_418 wd_1304 (fRoom_of rfl) rfl (Nat.le_of_ble_eq_true rfl) dX11_step_130) (s_X11_comes hg gv1 gv2 gv4 e29) rfl rfl rfl ?_
    refine fW_rg (fun hR30 => ?_)
    refine fW_aload_n 134 dX11_step_133 rfl rfl ?_
    refine fW_getR 137 (r := 419) 0 hg clX11 (by decide) rfl tc_418 tf_11_0 wd_1174 dX11_step_134 rfl ?_
    refine fW_sipush 140 dX11_step_137 rfl (by decide) ?_
    refine fW_iload_n 141 dX11_step_140 rfl rfl ?_
    refine fW_iadd 142 dX11_step_141 rfl ?_
    refine fW_dup2 143 dX11_step_142 rfl rfl rfl ?_
    obtain ⟨c31, h⟩ := fS h
    refine fW_iald 144 hg tc_419 ⟨c31.1, by rw [show Ln 419 = 7787 from rfl]; exact c31.2⟩ dX11_step_143 rfl ?_
    refine fW_iconst 145 dX11_step_144 rfl ?_
    refine fW_iadd 146 dX11_step_145 rfl ?_
    obtain ⟨c32, h⟩ := fS h
    obtain ⟨N33, e33, h⟩ := fBd h
    replace e33 := Option.some.inj e33
    refine fW_iast 147 hg tc_419 ⟨c31.1, by rw [show Ln 419 = 7787 from rfl]; exact c31.2⟩ c32 dX11_step_146 rfl ?_
    rw [e33]
    refine fW_rg (fun hR33 => ?_)
    refine fW_goto 172 dX11_step_147 rfl ?_
    exact fW_sb (i_X11_step_172 hg gv1 gv6 gx0 h) ⟨rfl, rfl, rfl, rfl, trivial⟩
def j_X11_step_86  (v1 : Int) (v2 : Int) (v3 : Int) (v4 : Int) (v5 : Int) (x0 : Int) (M : fMem) : Option (Int × fMem) := (if 0 ≤ 7600 + v3 ∧ 7600 + v3 < 7787 then (if (M 419 (7600 + v3)) ≤ v5 then j_X11_step_116 v1 v2 v3 v4 v5 x0 200 M else ((f_X11_keyAt v3 v5 M).bind fun (r34 : Int) => j_X11_step_116 v1 v2 v3 v4 v5 x0 r34 M)) else none)
set_option maxRecDepth 100000 in
set_option maxHeartbeats 4000000 in
theorem i_X11_step_86 {G : fG} (hg : gbt G = true)  {v1 : Int} {v2 : Int} {v3 : Int} {v4 : Int} {v5 : Int} {x0 : Int} (gv1 : rg v1) (gv2 : rg v2) (gv3 : rg v3) (gv4 : rg v4) (gv5 : rg v5) (gx0 : rg x0) {M : fMem} {q : Int × fMem} (h : j_X11_step_86 v1 v2 v3 v4 v5 x0 M = some q) : fW G mX11_step (fEm G mX11_step (rB q.2 q.1) fNo) 0 0 86 [some (rv G 418), some (iv v1), some (iv v2), some (iv v3), some (iv v4), some (iv v5), none, none] [iv x0] M := by
  rw [j_X11_step_86] at h
  refine fW_rg (fun hR => ?_)
  refine fW_istore 88 (ls' := [some (rv G 418), some (iv v1), some (iv v2), some (iv v3), some (iv v4), some (iv v5), some (iv x0), none]) dX11_step_86 rfl rfl (by decide) ?_
  refine fW_iload 90 dX11_step_88 rfl rfl ?_
  refine fW_aload_n 91 dX11_step_90 rfl rfl ?_
  refine fW_getR 94 (r := 419) 0 hg clX11 (by decide) rfl tc_418 tf_11_0 wd_1174 dX11_step_91 rfl ?_
  refine fW_sipush 97 dX11_step_94 rfl (by decide) ?_
  refine fW_iload_n 98 dX11_step_97 rfl rfl ?_
  refine fW_iadd 99 dX11_step_98 rfl ?_
  obtain ⟨c9, h⟩ := fS h
  refine fW_iald 100 hg tc_419 ⟨c9.1, by rw [show Ln 419 = 7787 from rfl]; exact c9.2⟩ dX11_step_99 rfl ?_
  refine fW_icmp_ge 103 113 gv5 (hR 419 (7600 + v3)) dX11_step_100 rfl rfl (fun c10 => ?_) (fun c10 => ?_)
  · replace h := fTt h c10
    refine fW_sipush 116 dX11_step_113 rfl (by decide) ?_
    exact fW_sb (i_X11_step_116 hg gv1 gv2 gv3 gv4 gv5 gx0 (by decide) h) ⟨rfl, rfl, rfl, rfl, rfl, rfl, rfl, trivial⟩
  · replace h := fFf h c10
    refine fW_aload_n 104 dX11_step_103 rfl rfl ?_
    refine fW_iload_n 105 dX11_step_104 rfl rfl ?_
    refine fW_iload 107 dX11_step_105 rfl rfl ?_
    obtain ⟨r34, e34, h⟩ := fBd h
    refine fW_cP (fI_V (as := [iv v3, iv v5]) (rest := []) miX11_keyAt hg clX11 rfl tc_418 wd_1300 (fRoom_of rfl) rfl (Nat.le_of_ble_eq_true rfl) dX11_step_107) (s_X11_keyAt hg gv3 gv5 e34) rfl rfl rfl (fun g34 => ?_)
    refine fW_goto 116 dX11_step_110 rfl ?_
    exact fW_sb (i_X11_step_116 hg gv1 gv2 gv3 gv4 gv5 gx0 g34 h) ⟨rfl, rfl, rfl, rfl, rfl, rfl, rfl, trivial⟩
def f_X11_step  (M : fMem) : Option (Int × fMem) := ((f_X11_lowestMerging M).bind fun (r1 : Int) => (if r1 = ((-1)) then some (0, M) else (if 0 ≤ 7684 + r1 ∧ 7684 + r1 < 7787 then (if 0 ≤ 7693 + r1 ∧ 7693 + r1 < 7787 then (if 0 ≤ 7702 + r1 ∧ 7702 + r1 < 7787 then (if 0 ≤ 7711 + r1 ∧ 7711 + r1 < 7787 then (if 0 ≤ 7600 + (M 419 (7684 + r1)) ∧ 7600 + (M 419 (7684 + r1)) < 7787 then (if (M 419 (7600 + (M 419 (7684 + r1)))) ≤ (M 419 (7702 + r1)) then j_X11_step_86 r1 (M 419 (7684 + r1)) (M 419 (7693 + r1)) (M 419 (7702 + r1)) (M 419 (7711 + r1)) 200 M else ((f_X11_keyAt (M 419 (7684 + r1)) (M 419 (7702 + r1)) M).bind fun (r35 : Int) => j_X11_step_86 r1 (M 419 (7684 + r1)) (M 419 (7693 + r1)) (M 419 (7702 + r1)) (M 419 (7711 + r1)) r35 M)) else none) else none) else none) else none) else none)))
set_option maxRecDepth 100000 in
set_option maxHeartbeats 4000000 in
theorem s_X11_step {G : fG} (hg : gbt G = true)  {M : fMem} {q : Int × fMem} (h : f_X11_step M = some q) : fSp G mX11_step [rv G 418] M (rB q.2 q.1) fNo := by
  refine fSp_of (by decide +kernel) (by decide +kernel) (fC1 rfl fC0) (Nat.le_of_ble_eq_true rfl) ?_
  show fW G mX11_step (fEm G mX11_step (rB q.2 q.1) fNo) 0 0 0 [some (rv G 418), none, none, none, none, none, none, none] [] M
  rw [f_X11_step] at h
  refine fW_rg (fun hR => ?_)
  refine fW_aload_n 1 dX11_step_0 rfl rfl ?_
  obtain ⟨r1, e1, h⟩ := fBd h
  refine fW_cP (fI_V (as := []) (rest := []) miX11_lowestMerging hg clX11 rfl tc_418 wd_1296 (fRoom_of rfl) rfl (Nat.le_of_ble_eq_true rfl) dX11_step_1) (s_X11_lowestMerging hg e1) rfl rfl rfl (fun g1 => ?_)
  refine fW_istore_n 5 (ls' := [some (rv G 418), some (iv r1), none, none, none, none, none, none]) dX11_step_4 rfl rfl rfl (by decide) ?_
  refine fW_iload_n 6 dX11_step_5 rfl rfl ?_
  refine fW_iconst 7 dX11_step_6 rfl ?_
  refine fW_icmp_ne 10 12 g1 (by decide) dX11_step_7 rfl rfl (fun c2 => ?_) (fun c2 => ?_)
  · replace h := fFf h c2
    refine fW_aload_n 13 dX11_step_12 rfl rfl ?_
    refine fW_getR 16 (r := 419) 0 hg clX11 (by decide) rfl tc_418 tf_11_0 wd_1174 dX11_step_13 rfl ?_
    refine fW_sipush 19 dX11_step_16 rfl (by decide) ?_
    refine fW_iload_n 20 dX11_step_19 rfl rfl ?_
    refine fW_iadd 21 dX11_step_20 rfl ?_
    obtain ⟨c3, h⟩ := fS h
    refine fW_iald 22 hg tc_419 ⟨c3.1, by rw [show Ln 419 = 7787 from rfl]; exact c3.2⟩ dX11_step_21 rfl ?_
    refine fW_istore_n 23 (ls' := [some (rv G 418), some (iv r1), some (iv (M 419 (7684 + r1))), none, none, none, none, none]) dX11_step_22 rfl rfl rfl (by decide) ?_
    refine fW_aload_n 24 dX11_step_23 rfl rfl ?_
    refine fW_getR 27 (r := 419) 0 hg clX11 (by decide) rfl tc_418 tf_11_0 wd_1174 dX11_step_24 rfl ?_
    refine fW_sipush 30 dX11_step_27 rfl (by decide) ?_
    refine fW_iload_n 31 dX11_step_30 rfl rfl ?_
    refine fW_iadd 32 dX11_step_31 rfl ?_
    obtain ⟨c4, h⟩ := fS h
    refine fW_iald 33 hg tc_419 ⟨c4.1, by rw [show Ln 419 = 7787 from rfl]; exact c4.2⟩ dX11_step_32 rfl ?_
    refine fW_istore_n 34 (ls' := [some (rv G 418), some (iv r1), some (iv (M 419 (7684 + r1))), some (iv (M 419 (7693 + r1))), none, none, none, none]) dX11_step_33 rfl rfl rfl (by decide) ?_
    refine fW_aload_n 35 dX11_step_34 rfl rfl ?_
    refine fW_getR 38 (r := 419) 0 hg clX11 (by decide) rfl tc_418 tf_11_0 wd_1174 dX11_step_35 rfl ?_
    refine fW_sipush 41 dX11_step_38 rfl (by decide) ?_
    refine fW_iload_n 42 dX11_step_41 rfl rfl ?_
    refine fW_iadd 43 dX11_step_42 rfl ?_
    obtain ⟨c5, h⟩ := fS h
    refine fW_iald 44 hg tc_419 ⟨c5.1, by rw [show Ln 419 = 7787 from rfl]; exact c5.2⟩ dX11_step_43 rfl ?_
    refine fW_istore 46 (ls' := [some (rv G 418), some (iv r1), some (iv (M 419 (7684 + r1))), some (iv (M 419 (7693 + r1))), some (iv (M 419 (7702 + r1))), none, none, none]) dX11_step_44 rfl rfl (by decide) ?_
    refine fW_aload_n 47 dX11_step_46 rfl rfl ?_
    refine fW_getR 50 (r := 419) 0 hg clX11 (by decide) rfl tc_418 tf_11_0 wd_1174 dX11_step_47 rfl ?_
    refine fW_sipush 53 dX11_step_50 rfl (by decide) ?_
    refine fW_iload_n 54 dX11_step_53 rfl rfl ?_
    refine fW_iadd 55 dX11_step_54 rfl ?_
    obtain ⟨c6, h⟩ := fS h
    refine fW_iald 56 hg tc_419 ⟨c6.1, by rw [show Ln 419 = 7787 from rfl]; exact c6.2⟩ dX11_step_55 rfl ?_
    refine fW_istore 58 (ls' := [some (rv G 418), some (iv r1), some (iv (M 419 (7684 + r1))), some (iv (M 419 (7693 + r1))), some (iv (M 419 (7702 + r1))), some (iv (M 419 (7711 + r1))), none, none]) dX11_step_56 rfl rfl (by decide) ?_
    refine fW_iload 60 dX11_step_58 rfl rfl ?_
    refine fW_aload_n 61 dX11_step_60 rfl rfl ?_
    refine fW_getR 64 (r := 419) 0 hg clX11 (by decide) rfl tc_418 tf_11_0 wd_1174 dX11_step_61 rfl ?_
    refine fW_sipush 67 dX11_step_64 rfl (by decide) ?_
    refine fW_iload_n 68 dX11_step_67 rfl rfl ?_
    refine fW_iadd 69 dX11_step_68 rfl ?_
    obtain ⟨c7, h⟩ := fS h
    refine fW_iald 70 hg tc_419 ⟨c7.1, by rw [show Ln 419 = 7787 from rfl]; exact c7.2⟩ dX11_step_69 rfl ?_
    refine fW_icmp_ge 73 83 (hR 419 (7702 + r1)) (hR 419 (7600 + (M 419 (7684 + r1)))) dX11_step_70 rfl rfl (fun c8 => ?_) (fun c8 => ?_)
    · replace h := fTt h c8
      refine fW_sipush 86 dX11_step_83 rfl (by decide) ?_
      exact fW_sb (i_X11_step_86 hg g1 (hR 419 (7684 + r1)) (hR 419 (7693 + r1)) (hR 419 (7702 + r1)) (hR 419 (7711 + r1)) (by decide) h) ⟨rfl, rfl, rfl, rfl, rfl, rfl, trivial⟩
    · replace h := fFf h c8
      refine fW_aload_n 74 dX11_step_73 rfl rfl ?_
      refine fW_iload_n 75 dX11_step_74 rfl rfl ?_
      refine fW_iload 77 dX11_step_75 rfl rfl ?_
      obtain ⟨r35, e35, h⟩ := fBd h
      refine fW_cP (fI_V (as := [iv (M 419 (7684 + r1)), iv (M 419 (7702 + r1))]) (rest := []) miX11_keyAt hg clX11 rfl tc_418 wd_1300 (fRoom_of rfl) rfl (Nat.le_of_ble_eq_true rfl) dX11_step_77) (s_X11_keyAt hg (hR 419 (7684 + r1)) (hR 419 (7702 + r1)) e35) rfl rfl rfl (fun g35 => ?_)
      refine fW_goto 86 dX11_step_80 rfl ?_
      exact fW_sb (i_X11_step_86 hg g1 (hR 419 (7684 + r1)) (hR 419 (7693 + r1)) (hR 419 (7702 + r1)) (hR 419 (7711 + r1)) g35 h) ⟨rfl, rfl, rfl, rfl, rfl, rfl, trivial⟩
  · replace h := fTt h c2
    refine fW_iconst 11 dX11_step_10 rfl ?_
    exact fW_zret rfl (by decide) (by decide) (by decide) dX11_step_11 (rBI_i h (by decide))
def mX11_takes : fMt := (yX11_takes, cX11_takes, 3, some .int, { frames := 7, cells := 0, slots := 0, locals := 280 })
theorem miX11_takes : fMv mX11_takes 1 := ⟨⟨fM 1359 (by decide +kernel) rfl, fM 101 (by decide +kernel) rfl, ⟨by decide +kernel, by decide +kernel⟩, by decide +kernel⟩, fM 1358 (by decide +kernel) rfl, fM 48 (by decide +kernel) rfl⟩
def L_X11_takes_2  (k : Int → fMem → Option (Int × fMem)) : Nat → Int → Int → fMem → Option (Int × fMem)
  | 0, _, _, _ => none
  | n + 1, v1, v2, M => (if v1 ≤ v2 then k v2 M else ((f_X11_step M).bind fun (r2 : Int × fMem) => (if r2.1 = 0 then k v2 r2.2 else L_X11_takes_2  k n v1 (v2 + 1) r2.2)))
set_option maxRecDepth 100000 in
set_option maxHeartbeats 4000000 in
theorem l_X11_takes_2 {G : fG} (hg : gbt G = true)  {q : Int × fMem} {k : Int → fMem → Option (Int × fMem)} (hk : ∀ (v2 : Int) (M : fMem), rg v2 → k v2 M = some q → fW G mX11_takes (fEm G mX11_takes (rP q.2 q.1) fNo) 0 0 20 [some (rv G 418), none, some (iv v2)] [] M) : ∀ (n : Nat) (v1 : Int) (v2 : Int) (M : fMem), rg v1 → rg v2 → L_X11_takes_2 k n v1 v2 M = some q → fW G mX11_takes (fEm G mX11_takes (rP q.2 q.1) fNo) 0 0 2 [some (rv G 418), some (iv v1), some (iv v2)] [] M := by
  intro n
  induction n with
  | zero =>
    intro v1 v2 M gv1 gv2 h
    rw [L_X11_takes_2] at h
    exact absurd h (by simp)
  | succ n ih =>
    intro v1 v2 M gv1 gv2 h
    rw [L_X11_takes_2] at h
    refine fW_rg (fun hR => ?_)
    refine fW_iload_n 3 dX11_takes_2 rfl rfl ?_
    refine fW_iload_n 4 dX11_takes_3 rfl rfl ?_
    refine fW_icmp_ge 7 20 gv2 gv1 dX11_takes_4 rfl rfl (fun c1 => ?_) (fun c1 => ?_)
    · replace h := fTt h c1
      exact fW_sb (hk v2 M gv2 h) ⟨rfl, rfl, trivial⟩
    · replace h := fFf h c1
      refine fW_aload_n 8 dX11_takes_7 rfl rfl ?_
      obtain ⟨r2, e2, h⟩ := fBd h
      refine fW_cB (fI_V (as := []) (rest := []) miX11_step hg clX11 rfl tc_418 wd_1292 (fRoom_of rfl) rfl (Nat.le_of_ble_eq_true rfl) dX11_takes_8) (s_X11_step hg e2) rfl rfl rfl (fun g2 => ?_)
      refine fW_rg (fun hR3 => ?_)
      refine fW_if_eq 14 20 (rg_z g2) dX11_takes_11 rfl rfl (fun c4 => ?_) (fun c4 => ?_)
      · replace h := fTt h c4
        exact fW_sb (hk v2 r2.2 gv2 h) ⟨rfl, rfl, trivial⟩
      · replace h := fFf h c4
        refine fW_iinc 17 (ls' := [some (rv G 418), some (iv v1), some (iv (v2 + 1))]) dX11_takes_14 rfl rfl rfl (by decide) ?_
        refine fW_goto 2 dX11_takes_17 rfl ?_
        exact fW_sb (ih v1 (v2 + 1) r2.2 gv1 (rg_succ' gv2 gv1 c1) h) ⟨rfl, rfl, rfl, trivial⟩
def f_X11_takes (a1 : Int) (M : fMem) : Option (Int × fMem) := L_X11_takes_2 (fun (v2_5 : Int) (M_5 : fMem) => some (v2_5, M_5)) 20000 a1 0 M
set_option maxRecDepth 100000 in
set_option maxHeartbeats 4000000 in
theorem s_X11_takes {G : fG} (hg : gbt G = true) {a1 : Int} (ga1 : rg a1) {M : fMem} {q : Int × fMem} (h : f_X11_takes a1 M = some q) : fSp G mX11_takes [rv G 418, iv a1] M (rP q.2 q.1) fNo := by
  refine fSp_of (by decide +kernel) (by decide +kernel) (fC1 rfl (fC1 rfl fC0)) (Nat.le_of_ble_eq_true rfl) ?_
  show fW G mX11_takes (fEm G mX11_takes (rP q.2 q.1) fNo) 0 0 0 [some (rv G 418), some (iv a1), none] [] M
  rw [f_X11_takes] at h
  refine fW_rg (fun hR => ?_)
  refine fW_iconst 1 dX11_takes_0 rfl ?_
  refine fW_istore_n 2 (ls' := [some (rv G 418), some (iv a1), some (iv 0)]) dX11_takes_1 rfl rfl rfl (by decide) ?_
  refine fW_sb (l_X11_takes_2 hg ?_ 20000 a1 0 M ga1 (by decide) h) ⟨rfl, rfl, rfl, trivial⟩
  intro v2_5 M_5 gv2_5 h
  refine fW_rg (fun hR_5 => ?_)
  refine fW_iload_n 21 dX11_takes_20 rfl rfl ?_
  exact fW_iret rfl (by decide) (by decide) dX11_takes_21 (rI_i h gv2_5)
end MTH
