section MTH
def mX11_level : fMt := (yX11_level, cX11_level, 4, some .int, { frames := 5, cells := 0, slots := 0, locals := 200 })
theorem miX11_level : fMv mX11_level 2 := ⟨⟨fM 1508 (by decide +kernel) rfl, fM 101 (by decide +kernel) rfl, ⟨by decide +kernel, by decide +kernel⟩, by decide +kernel⟩, fM 1506 (by decide +kernel) rfl, fM 1507 (by decide +kernel) rfl⟩
def j_X11_level_28  (v1 : Int) (v2 : Int) (x1 : Int) (M : fMem) : Option (Int × fMem) := (if 0 ≤ x1 ∧ x1 ≤ 1 then ((f_X11_right x1 1 M).bind fun (r5 : Int × fMem) => (if r5.1 = 0 then some (0, r5.2) else ((f_X11_leadOf v1 r5.2).bind fun (r8 : Int) => (if v2 = 0 then ((f_X11_shutMany v1 r5.2).bind fun (r10 : Int) => some (r10, r5.2)) else (if v2 = 1 then (if 0 ≤ 7657 + v1 ∧ 7657 + v1 < 7787 then some (r5.2 419 (7657 + v1), r5.2) else none) else (if v2 = 2 then ((f_X11_thingsIn v1 r5.2).bind fun (r14 : Int) => some (r14, r5.2)) else (if v2 = 3 then (if 0 ≤ 7720 + v1 ∧ 7720 + v1 < 7787 then some (r5.2 419 (7720 + v1), r5.2) else none) else (if v2 = 4 then (if 0 ≤ 7729 + v1 ∧ 7729 + v1 < 7787 then some (r5.2 419 (7729 + v1), r5.2) else none) else (if v2 = 5 then ((f_X11_leftOf v1 r5.2).bind fun (r20 : Int) => some (r20, r5.2)) else (if v2 = 6 then (if 0 ≤ 7657 + v1 ∧ 7657 + v1 < 7787 then (if 0 ≤ 7666 + v1 ∧ 7666 + v1 < 7787 then (if -2147483648 ≤ (r5.2 419 (7657 + v1)) * (r5.2 419 (7666 + v1)) ∧ (r5.2 419 (7657 + v1)) * (r5.2 419 (7666 + v1)) < 2147483648 then some ((r5.2 419 (7657 + v1)) * (r5.2 419 (7666 + v1)), r5.2) else none) else none) else none) else (if v2 = 7 then (if r8 = ((-1)) then some ((-1), r5.2) else (if -2147483648 ≤ r8 - (2 * v1) ∧ r8 - (2 * v1) < 2147483648 then some (r8 - (2 * v1), r5.2) else none)) else ((f_X11_laysEntries 0 r5.2).bind fun (r28 : fMem) => (if r8 = ((-1)) then some (0, r28) else ((f_X11_marksIn r8 r28).bind fun (r31 : Int) => some (r31, r28))))))))))))))) else none)
set_option maxRecDepth 100000 in
set_option maxHeartbeats 4000000 in
theorem i_X11_level_28 {G : fG} (hg : gbt G = true)  {v1 : Int} {v2 : Int} {x1 : Int} (gv1 : rg v1) (gv2 : rg v2) (gx1 : rg x1) {M : fMem} {q : Int × fMem} (h : j_X11_level_28 v1 v2 x1 M = some q) : fW G mX11_level (fEm G mX11_level (rP q.2 q.1) fNo) 0 0 28 [some (rv G 418), some (iv v1), some (iv v2), none] [iv x1, rv G 418] M := by
  rw [j_X11_level_28] at h
  refine fW_rg (fun hR => ?_)
  refine fW_iconst 29 dX11_level_28 rfl ?_
  obtain ⟨c4, h⟩ := fS h
  obtain ⟨r5, e5, h⟩ := fBd h
  refine fW_cB (fI_V (as := [iv x1, iv 1]) (rest := []) miX11_right hg clX11 rfl tc_418 wd_1396 (fRoom_of rfl) rfl (Nat.le_of_ble_eq_true rfl) dX11_level_29) (s_X11_right hg c4 (by decide) e5) rfl rfl rfl (fun g5 => ?_)
  refine fW_rg (fun hR6 => ?_)
  refine fW_if_ne 35 37 (rg_z g5) dX11_level_32 rfl rfl (fun c7 => ?_) (fun c7 => ?_)
  · replace h := fFf h c7
    refine fW_aload_n 38 dX11_level_37 rfl rfl ?_
    refine fW_iload_n 39 dX11_level_38 rfl rfl ?_
    obtain ⟨r8, e8, h⟩ := fBd h
    refine fW_cP (fI_V (as := [iv v1]) (rest := []) miX11_leadOf hg clX11 rfl tc_418 wd_1447 (fRoom_of rfl) rfl (Nat.le_of_ble_eq_true rfl) dX11_level_39) (s_X11_leadOf hg gv1 e8) rfl rfl rfl (fun g8 => ?_)
    refine fW_istore_n 43 (ls' := [some (rv G 418), some (iv v1), some (iv v2), some (iv r8)]) dX11_level_42 rfl rfl rfl (by decide) ?_
    refine fW_iload_n 44 dX11_level_43 rfl rfl ?_
    have gs := gv2
    by_cases c9 : v2 = 0
    · replace h := fTt h c9
      refine fW_tabIn 92 c9 (by decide) dX11_level_44 (by decide) (by decide) rfl rfl ?_
      refine fW_aload_n 93 dX11_level_92 rfl rfl ?_
      refine fW_iload_n 94 dX11_level_93 rfl rfl ?_
      obtain ⟨r10, e10, h⟩ := fBd h
      refine fW_cP (fI_V (as := [iv v1]) (rest := []) miX11_shutMany hg clX11 rfl tc_418 wd_1336 (fRoom_of rfl) rfl (Nat.le_of_ble_eq_true rfl) dX11_level_94) (s_X11_shutMany hg gv1 e10) rfl rfl rfl (fun g10 => ?_)
      exact fW_iret rfl (by decide) (by decide) dX11_level_97 (rI_i h g10)
    replace h := fFf h c9
    by_cases c11 : v2 = 1
    · replace h := fTt h c11
      refine fW_tabIn 98 c11 (by decide) dX11_level_44 (by decide) (by decide) rfl rfl ?_
      refine fW_aload_n 99 dX11_level_98 rfl rfl ?_
      refine fW_getR 102 (r := 419) 0 hg clX11 (by decide) rfl tc_418 tf_11_0 wd_1174 dX11_level_99 rfl ?_
      refine fW_sipush 105 dX11_level_102 rfl (by decide) ?_
      refine fW_iload_n 106 dX11_level_105 rfl rfl ?_
      refine fW_iadd 107 dX11_level_106 rfl ?_
      obtain ⟨c12, h⟩ := fS h
      refine fW_iald 108 hg tc_419 ⟨c12.1, by rw [show Ln 419 = 7787 from rfl]; exact c12.2⟩ dX11_level_107 rfl ?_
      exact fW_iret rfl (by decide) (by decide) dX11_level_108 (rI_i h (hR6 419 (7657 + v1)))
    replace h := fFf h c11
    by_cases c13 : v2 = 2
    · replace h := fTt h c13
      refine fW_tabIn 109 c13 (by decide) dX11_level_44 (by decide) (by decide) rfl rfl ?_
      refine fW_aload_n 110 dX11_level_109 rfl rfl ?_
      refine fW_iload_n 111 dX11_level_110 rfl rfl ?_
      obtain ⟨r14, e14, h⟩ := fBd h
      refine fW_cP (fI_V (as := [iv v1]) (rest := []) miX11_thingsIn hg clX11 rfl tc_418 wd_1509 (fRoom_of rfl) rfl (Nat.le_of_ble_eq_true rfl) dX11_level_111) (s_X11_thingsIn hg gv1 e14) rfl rfl rfl (fun g14 => ?_)
      exact fW_iret rfl (by decide) (by decide) dX11_level_114 (rI_i h g14)
    replace h := fFf h c13
    by_cases c15 : v2 = 3
    · replace h := fTt h c15
      refine fW_tabIn 115 c15 (by decide) dX11_level_44 (by decide) (by decide) rfl rfl ?_
      refine fW_aload_n 116 dX11_level_115 rfl rfl ?_
      refine fW_getR 119 (r := 419) 0 hg clX11 (by decide) rfl tc_418 tf_11_0 wd_1174 dX11_level_116 rfl ?_
      refine fW_sipush 122 dX11_level_119 rfl (by decide) ?_
      refine fW_iload_n 123 dX11_level_122 rfl rfl ?_
      refine fW_iadd 124 dX11_level_123 rfl ?_
      obtain ⟨c16, h⟩ := fS h
      refine fW_iald 125 hg tc_419 ⟨c16.1, by rw [show Ln 419 = 7787 from rfl]; exact c16.2⟩ dX11_level_124 rfl ?_
      exact fW_iret rfl (by decide) (by decide) dX11_level_125 (rI_i h (hR6 419 (7720 + v1)))
    replace h := fFf h c15
    by_cases c17 : v2 = 4
    · replace h := fTt h c17
      refine fW_tabIn 126 c17 (by decide) dX11_level_44 (by decide) (by decide) rfl rfl ?_
      refine fW_aload_n 127 dX11_level_126 rfl rfl ?_
      refine fW_getR 130 (r := 419) 0 hg clX11 (by decide) rfl tc_418 tf_11_0 wd_1174 dX11_level_127 rfl ?_
      refine fW_sipush 133 dX11_level_130 rfl (by decide) ?_
      refine fW_iload_n 134 dX11_level_133 rfl rfl ?_
      refine fW_iadd 135 dX11_level_134 rfl ?_
      obtain ⟨c18, h⟩ := fS h
      refine fW_iald 136 hg tc_419 ⟨c18.1, by rw [show Ln 419 = 7787 from rfl]; exact c18.2⟩ dX11_level_135 rfl ?_
      exact fW_iret rfl (by decide) (by decide) dX11_level_136 (rI_i h (hR6 419 (7729 + v1)))
    replace h := fFf h c17
    by_cases c19 : v2 = 5
    · replace h := fTt h c19
      refine fW_tabIn 137 c19 (by decide) dX11_level_44 (by decide) (by decide) rfl rfl ?_
      refine fW_aload_n 138 dX11_level_137 rfl rfl ?_
      refine fW_iload_n 139 dX11_level_138 rfl rfl ?_
      obtain ⟨r20, e20, h⟩ := fBd h
      refine fW_cP (fI_V (as := [iv v1]) (rest := []) miX11_leftOf hg clX11 rfl tc_418 wd_1312 (fRoom_of rfl) rfl (Nat.le_of_ble_eq_true rfl) dX11_level_139) (s_X11_leftOf hg gv1 e20) rfl rfl rfl (fun g20 => ?_)
      exact fW_iret rfl (by decide) (by decide) dX11_level_142 (rI_i h g20)
    replace h := fFf h c19
    by_cases c21 : v2 = 6
    · replace h := fTt h c21
      refine fW_tabIn 143 c21 (by decide) dX11_level_44 (by decide) (by decide) rfl rfl ?_
      refine fW_aload_n 144 dX11_level_143 rfl rfl ?_
      refine fW_getR 147 (r := 419) 0 hg clX11 (by decide) rfl tc_418 tf_11_0 wd_1174 dX11_level_144 rfl ?_
      refine fW_sipush 150 dX11_level_147 rfl (by decide) ?_
      refine fW_iload_n 151 dX11_level_150 rfl rfl ?_
      refine fW_iadd 152 dX11_level_151 rfl ?_
      obtain ⟨c22, h⟩ := fS h
      refine fW_iald 153 hg tc_419 ⟨c22.1, by rw [show Ln 419 = 7787 from rfl]; exact c22.2⟩ dX11_level_152 rfl ?_
      refine fW_aload_n 154 dX11_level_153 rfl rfl ?_
      refine fW_getR 157 (r := 419) 0 hg clX11 (by decide) rfl tc_418 tf_11_0 wd_1174 dX11_level_154 rfl ?_
      refine fW_sipush 160 dX11_level_157 rfl (by decide) ?_
      refine fW_iload_n 161 dX11_level_160 rfl rfl ?_
      refine fW_iadd 162 dX11_level_161 rfl ?_
      obtain ⟨c23, h⟩ := fS h
      refine fW_iald 163 hg tc_419 ⟨c23.1, by rw [show Ln 419 = 7787 from rfl]; exact c23.2⟩ dX11_level_162 rfl ?_
      refine fW_imul 164 dX11_level_163 rfl ?_
      obtain ⟨c24, h⟩ := fS h
      exact fW_iret rfl (by decide) (by decide) dX11_level_164 (rI_i h c24)
    replace h := fFf h c21
    by_cases c25 : v2 = 7
    · replace h := fTt h c25
      refine fW_tabIn 165 c25 (by decide) dX11_level_44 (by decide) (by decide) rfl rfl ?_
      refine fW_iload_n 166 dX11_level_165 rfl rfl ?_
      refine fW_iconst 167 dX11_level_166 rfl ?_
      refine fW_icmp_ne 170 174 g8 (by decide) dX11_level_167 rfl rfl (fun c26 => ?_) (fun c26 => ?_)
      · replace h := fFf h c26
        refine fW_iload_n 175 dX11_level_174 rfl rfl ?_
        refine fW_iconst 176 dX11_level_175 rfl ?_
        refine fW_iload_n 177 dX11_level_176 rfl rfl ?_
        refine fW_imul 178 dX11_level_177 rfl ?_
        refine fW_isub 179 dX11_level_178 rfl ?_
        obtain ⟨c27, h⟩ := fS h
        exact fW_iret rfl (by decide) (by decide) dX11_level_179 (rI_i h c27)
      · replace h := fTt h c26
        refine fW_iconst 171 dX11_level_170 rfl ?_
        refine fW_goto 179 dX11_level_171 rfl ?_
        exact fW_iret rfl (by decide) (by decide) dX11_level_179 (rI_i h (by decide))
    replace h := fFf h c25
    refine fW_tabOut 180 gs dX11_level_44 (by omega) rfl ?_
    refine fW_aload_n 181 dX11_level_180 rfl rfl ?_
    refine fW_iconst 182 dX11_level_181 rfl ?_
    obtain ⟨r28, e28, h⟩ := fBd h
    refine fW_cV (fI_V (as := [iv 0]) (rest := []) miX11_laysEntries hg clX11 rfl tc_418 wd_1431 (fRoom_of rfl) rfl (Nat.le_of_ble_eq_true rfl) dX11_level_182) (s_X11_laysEntries hg (by decide) e28) rfl rfl rfl ?_
    refine fW_rg (fun hR29 => ?_)
    refine fW_iload_n 186 dX11_level_185 rfl rfl ?_
    refine fW_iconst 187 dX11_level_186 rfl ?_
    refine fW_icmp_ne 190 194 g8 (by decide) dX11_level_187 rfl rfl (fun c30 => ?_) (fun c30 => ?_)
    · replace h := fFf h c30
      refine fW_aload_n 195 dX11_level_194 rfl rfl ?_
      refine fW_iload_n 196 dX11_level_195 rfl rfl ?_
      obtain ⟨r31, e31, h⟩ := fBd h
      refine fW_cP (fI_V (as := [iv r8]) (rest := []) miX11_marksIn hg clX11 rfl tc_418 wd_1513 (fRoom_of rfl) rfl (Nat.le_of_ble_eq_true rfl) dX11_level_196) (s_X11_marksIn hg g8 e31) rfl rfl rfl (fun g31 => ?_)
      exact fW_iret rfl (by decide) (by decide) dX11_level_199 (rI_i h g31)
    · replace h := fTt h c30
      refine fW_iconst 191 dX11_level_190 rfl ?_
      refine fW_goto 199 dX11_level_191 rfl ?_
      exact fW_iret rfl (by decide) (by decide) dX11_level_199 (rI_i h (by decide))
  · replace h := fTt h c7
    refine fW_iconst 36 dX11_level_35 rfl ?_
    exact fW_iret rfl (by decide) (by decide) dX11_level_36 (rI_i h (by decide))
def j_X11_level_27  (v1 : Int) (v2 : Int) (M : fMem) : Option (Int × fMem) := j_X11_level_28 v1 v2 0 M
set_option maxRecDepth 100000 in
set_option maxHeartbeats 4000000 in
theorem i_X11_level_27 {G : fG} (hg : gbt G = true)  {v1 : Int} {v2 : Int} (gv1 : rg v1) (gv2 : rg v2) {M : fMem} {q : Int × fMem} (h : j_X11_level_27 v1 v2 M = some q) : fW G mX11_level (fEm G mX11_level (rP q.2 q.1) fNo) 0 0 27 [some (rv G 418), some (iv v1), some (iv v2), none] [rv G 418] M := by
  rw [j_X11_level_27] at h
  refine fW_rg (fun hR => ?_)
  refine fW_iconst 28 dX11_level_27 rfl ?_
  exact fW_sb (i_X11_level_28 hg gv1 gv2 (by decide) h) ⟨rfl, rfl, rfl, trivial⟩
def f_X11_level (a1 : Int) (a2 : Int) (M : fMem) : Option (Int × fMem) := ((f_X11_isLevel a1 (mset M 418 4 0)).bind fun (r2 : Int) => (if r2 = 0 then j_X11_level_27 a1 a2 (mset M 418 4 0) else ((f_X11_isIn a2 0 8 (mset M 418 4 0)).bind fun (r32 : Int) => (if r32 = 0 then j_X11_level_27 a1 a2 (mset M 418 4 0) else j_X11_level_28 a1 a2 1 (mset M 418 4 0)))))
set_option maxRecDepth 100000 in
set_option maxHeartbeats 4000000 in
theorem s_X11_level {G : fG} (hg : gbt G = true) {a1 : Int} (ga1 : rg a1) {a2 : Int} (ga2 : rg a2) {M : fMem} {q : Int × fMem} (h : f_X11_level a1 a2 M = some q) : fSp G mX11_level [rv G 418, iv a1, iv a2] M (rP q.2 q.1) fNo := by
  refine fSp_of (by decide +kernel) (by decide +kernel) (fC1 rfl (fC1 rfl (fC1 rfl fC0))) (Nat.le_of_ble_eq_true rfl) ?_
  show fW G mX11_level (fEm G mX11_level (rP q.2 q.1) fNo) 0 0 0 [some (rv G 418), some (iv a1), some (iv a2), none] [] M
  rw [f_X11_level] at h
  refine fW_rg (fun hR => ?_)
  refine fW_aload_n 1 dX11_level_0 rfl rfl ?_
  refine fW_iconst 2 dX11_level_1 rfl ?_
  refine fW_putI 5 4 (ji := 4) hg clX11 rfl (by decide) rfl rfl rfl tc_418 (by decide) wd_1178 dX11_level_2 rfl ?_
  refine fW_rg (fun hR1 => ?_)
  refine fW_aload_n 6 dX11_level_5 rfl rfl ?_
  refine fW_iload_n 7 dX11_level_6 rfl rfl ?_
  obtain ⟨r2, e2, h⟩ := fBd h
  refine fW_cB (fI_S (as := [iv a1]) (rest := [rv G 418]) miX11_isLevel rfl wd_1494 (fRoom_of rfl) rfl (Nat.le_of_ble_eq_true rfl) dX11_level_7) (s_X11_isLevel ga1 e2) rfl rfl rfl (fun g2 => ?_)
  refine fW_if_eq 13 27 (rg_z g2) dX11_level_10 rfl rfl (fun c3 => ?_) (fun c3 => ?_)
  · replace h := fTt h c3
    exact fW_sb (i_X11_level_27 hg ga1 ga2 h) ⟨rfl, rfl, rfl, trivial⟩
  · replace h := fFf h c3
    refine fW_iload_n 14 dX11_level_13 rfl rfl ?_
    refine fW_iconst 15 dX11_level_14 rfl ?_
    refine fW_bipush 17 dX11_level_15 rfl (by decide) ?_
    obtain ⟨r32, e32, h⟩ := fBd h
    refine fW_cB (fI_S (as := [iv a2, iv 0, iv 8]) (rest := [rv G 418]) miX11_isIn rfl wd_1272 (fRoom_of rfl) rfl (Nat.le_of_ble_eq_true rfl) dX11_level_17) (s_X11_isIn ga2 (by decide) (by decide) e32) rfl rfl rfl (fun g32 => ?_)
    refine fW_if_eq 23 27 (rg_z g32) dX11_level_20 rfl rfl (fun c33 => ?_) (fun c33 => ?_)
    · replace h := fTt h c33
      exact fW_sb (i_X11_level_27 hg ga1 ga2 h) ⟨rfl, rfl, rfl, trivial⟩
    · replace h := fFf h c33
      refine fW_iconst 24 dX11_level_23 rfl ?_
      refine fW_goto 28 dX11_level_24 rfl ?_
      exact fW_sb (i_X11_level_28 hg ga1 ga2 (by decide) h) ⟨rfl, rfl, rfl, trivial⟩
def mX11_signsIn : fMt := (yX11_signsIn, cX11_signsIn, 4, some .int, { frames := 1, cells := 0, slots := 0, locals := 40 })
theorem miX11_signsIn : fMv mX11_signsIn 1 := ⟨⟨fM 1524 (by decide +kernel) rfl, fM 101 (by decide +kernel) rfl, ⟨by decide +kernel, by decide +kernel⟩, by decide +kernel⟩, fM 1523 (by decide +kernel) rfl, fM 70 (by decide +kernel) rfl⟩
def L_X11_signsIn_4  (M : fMem) (k : Int → Option (Int)) : Nat → Int → Int → Int → Option (Int)
  | 0, _, _, _ => none
  | n + 1, v1, v2, v3 => (if 0 ≤ 7600 + v1 ∧ 7600 + v1 < 7787 then (if (M 419 (7600 + v1)) ≤ v3 then k v2 else ((f_X11_valueAt v1 v3 M).bind fun (r3 : Int) => (if r3 = ((-1)) then (if -2147483648 ≤ v2 + 1 ∧ v2 + 1 < 2147483648 then L_X11_signsIn_4 M k n v1 (v2 + 1) (v3 + 1) else none) else (if -2147483648 ≤ v2 + 0 ∧ v2 + 0 < 2147483648 then L_X11_signsIn_4 M k n v1 (v2 + 0) (v3 + 1) else none)))) else none)
set_option maxRecDepth 100000 in
set_option maxHeartbeats 4000000 in
theorem l_X11_signsIn_4 {G : fG} (hg : gbt G = true)  {M : fMem} {q : Int} {k : Int → Option (Int)} (hk : ∀ (v2 : Int), rg v2 → k v2 = some q → fW G mX11_signsIn (fEm G mX11_signsIn (rP M q) fNo) 0 0 42 [some (rv G 418), none, some (iv v2), none] [] M) : ∀ (n : Nat) (v1 : Int) (v2 : Int) (v3 : Int), rg v1 → rg v2 → rg v3 → L_X11_signsIn_4 M k n v1 v2 v3 = some q → fW G mX11_signsIn (fEm G mX11_signsIn (rP M q) fNo) 0 0 4 [some (rv G 418), some (iv v1), some (iv v2), some (iv v3)] [] M := by
  intro n
  induction n with
  | zero =>
    intro v1 v2 v3 gv1 gv2 gv3 h
    rw [L_X11_signsIn_4] at h
    exact absurd h (by simp)
  | succ n ih =>
    intro v1 v2 v3 gv1 gv2 gv3 h
    rw [L_X11_signsIn_4] at h
    refine fW_rg (fun hR => ?_)
    refine fW_iload_n 5 dX11_signsIn_4 rfl rfl ?_
    refine fW_aload_n 6 dX11_signsIn_5 rfl rfl ?_
    refine fW_getR 9 (r := 419) 0 hg clX11 (by decide) rfl tc_418 tf_11_0 wd_1174 dX11_signsIn_6 rfl ?_
    refine fW_sipush 12 dX11_signsIn_9 rfl (by decide) ?_
    refine fW_iload_n 13 dX11_signsIn_12 rfl rfl ?_
    refine fW_iadd 14 dX11_signsIn_13 rfl ?_
    obtain ⟨c1, h⟩ := fS h
    refine fW_iald 15 hg tc_419 ⟨c1.1, by rw [show Ln 419 = 7787 from rfl]; exact c1.2⟩ dX11_signsIn_14 rfl ?_
    refine fW_icmp_ge 18 42 gv3 (hR 419 (7600 + v1)) dX11_signsIn_15 rfl rfl (fun c2 => ?_) (fun c2 => ?_)
    · replace h := fTt h c2
      exact fW_sb (hk v2 gv2 h) ⟨rfl, rfl, trivial⟩
    · replace h := fFf h c2
      refine fW_iload_n 19 dX11_signsIn_18 rfl rfl ?_
      refine fW_aload_n 20 dX11_signsIn_19 rfl rfl ?_
      refine fW_iload_n 21 dX11_signsIn_20 rfl rfl ?_
      refine fW_iload_n 22 dX11_signsIn_21 rfl rfl ?_
      obtain ⟨r3, e3, h⟩ := fBd h
      refine fW_cP (fI_V (as := [iv v1, iv v3]) (rest := [iv v2]) miX11_valueAt hg clX11 rfl tc_418 wd_1308 (fRoom_of rfl) rfl (Nat.le_of_ble_eq_true rfl) dX11_signsIn_22) (s_X11_valueAt hg gv1 gv3 e3) rfl rfl rfl (fun g3 => ?_)
      refine fW_iconst 26 dX11_signsIn_25 rfl ?_
      refine fW_icmp_ne 29 33 g3 (by decide) dX11_signsIn_26 rfl rfl (fun c4 => ?_) (fun c4 => ?_)
      · replace h := fFf h c4
        refine fW_iconst 34 dX11_signsIn_33 rfl ?_
        refine fW_iadd 35 dX11_signsIn_34 rfl ?_
        refine fW_istore_n 36 (ls' := [some (rv G 418), some (iv v1), some (iv (v2 + 0)), some (iv v3)]) dX11_signsIn_35 rfl rfl rfl (by decide) ?_
        refine fW_iinc 39 (ls' := [some (rv G 418), some (iv v1), some (iv (v2 + 0)), some (iv (v3 + 1))]) dX11_signsIn_36 rfl rfl rfl (by decide) ?_
        refine fW_goto 4 dX11_signsIn_39 rfl ?_
        obtain ⟨c5, h⟩ := fS h
        exact fW_sb (ih v1 (v2 + 0) (v3 + 1) gv1 c5 (rg_succ' gv3 (hR 419 (7600 + v1)) c2) h) ⟨rfl, rfl, rfl, rfl, trivial⟩
      · replace h := fTt h c4
        refine fW_iconst 30 dX11_signsIn_29 rfl ?_
        refine fW_goto 34 dX11_signsIn_30 rfl ?_
        refine fW_iadd 35 dX11_signsIn_34 rfl ?_
        refine fW_istore_n 36 (ls' := [some (rv G 418), some (iv v1), some (iv (v2 + 1)), some (iv v3)]) dX11_signsIn_35 rfl rfl rfl (by decide) ?_
        refine fW_iinc 39 (ls' := [some (rv G 418), some (iv v1), some (iv (v2 + 1)), some (iv (v3 + 1))]) dX11_signsIn_36 rfl rfl rfl (by decide) ?_
        refine fW_goto 4 dX11_signsIn_39 rfl ?_
        obtain ⟨c6, h⟩ := fS h
        exact fW_sb (ih v1 (v2 + 1) (v3 + 1) gv1 c6 (rg_succ' gv3 (hR 419 (7600 + v1)) c2) h) ⟨rfl, rfl, rfl, rfl, trivial⟩
def f_X11_signsIn (a1 : Int) (M : fMem) : Option (Int) := L_X11_signsIn_4 M (fun (v2_7 : Int) => some v2_7) 20000 a1 0 0
set_option maxRecDepth 100000 in
set_option maxHeartbeats 4000000 in
theorem s_X11_signsIn {G : fG} (hg : gbt G = true) {a1 : Int} (ga1 : rg a1) {M : fMem} {q : Int} (h : f_X11_signsIn a1 M = some q) : fSp G mX11_signsIn [rv G 418, iv a1] M (rP M q) fNo := by
  refine fSp_of (by decide +kernel) (by decide +kernel) (fC1 rfl (fC1 rfl fC0)) (Nat.le_of_ble_eq_true rfl) ?_
  show fW G mX11_signsIn (fEm G mX11_signsIn (rP M q) fNo) 0 0 0 [some (rv G 418), some (iv a1), none, none] [] M
  rw [f_X11_signsIn] at h
  refine fW_rg (fun hR => ?_)
  refine fW_iconst 1 dX11_signsIn_0 rfl ?_
  refine fW_istore_n 2 (ls' := [some (rv G 418), some (iv a1), some (iv 0), none]) dX11_signsIn_1 rfl rfl rfl (by decide) ?_
  refine fW_iconst 3 dX11_signsIn_2 rfl ?_
  refine fW_istore_n 4 (ls' := [some (rv G 418), some (iv a1), some (iv 0), some (iv 0)]) dX11_signsIn_3 rfl rfl rfl (by decide) ?_
  refine fW_sb (l_X11_signsIn_4 hg ?_ 20000 a1 0 0 ga1 (by decide) (by decide) h) ⟨rfl, rfl, rfl, rfl, trivial⟩
  intro v2_7 gv2_7 h
  refine fW_iload_n 43 dX11_signsIn_42 rfl rfl ?_
  exact fW_iret rfl (by decide) (by decide) dX11_signsIn_43 (rP_i h gv2_7)
def mX11_shutAhead : fMt := (yX11_shutAhead, cX11_shutAhead, 5, some .int, { frames := 2, cells := 0, slots := 0, locals := 80 })
theorem miX11_shutAhead : fMv mX11_shutAhead 2 := ⟨⟨fM 1528 (by decide +kernel) rfl, fM 101 (by decide +kernel) rfl, ⟨by decide +kernel, by decide +kernel⟩, by decide +kernel⟩, fM 1527 (by decide +kernel) rfl, fM 71 (by decide +kernel) rfl⟩
def L_X11_shutAhead_20  (M : fMem) (k : Int → Option (Int)) : Nat → Int → Int → Int → Option (Int)
  | 0, _, _, _ => none
  | n + 1, v1, v3, v4 => (if v1 ≤ v4 then k v3 else ((f_X11_shutMany v4 M).bind fun (r5 : Int) => (if -2147483648 ≤ v3 + r5 ∧ v3 + r5 < 2147483648 then L_X11_shutAhead_20 M k n v1 (v3 + r5) (v4 + 1) else none)))
set_option maxRecDepth 100000 in
set_option maxHeartbeats 4000000 in
theorem l_X11_shutAhead_20 {G : fG} (hg : gbt G = true)  {M : fMem} {q : Int} {k : Int → Option (Int)} (hk : ∀ (v3 : Int), rg v3 → k v3 = some q → fW G mX11_shutAhead (fEm G mX11_shutAhead (rP M q) fNo) 0 0 41 [some (rv G 418), none, none, some (iv v3), none] [] M) : ∀ (n : Nat) (v1 : Int) (v3 : Int) (v4 : Int), rg v1 → rg v3 → rg v4 → L_X11_shutAhead_20 M k n v1 v3 v4 = some q → fW G mX11_shutAhead (fEm G mX11_shutAhead (rP M q) fNo) 0 0 20 [some (rv G 418), some (iv v1), none, some (iv v3), some (iv v4)] [] M := by
  intro n
  induction n with
  | zero =>
    intro v1 v3 v4 gv1 gv3 gv4 h
    rw [L_X11_shutAhead_20] at h
    exact absurd h (by simp)
  | succ n ih =>
    intro v1 v3 v4 gv1 gv3 gv4 h
    rw [L_X11_shutAhead_20] at h
    refine fW_rg (fun hR => ?_)
    refine fW_iload 22 dX11_shutAhead_20 rfl rfl ?_
    refine fW_iload_n 23 dX11_shutAhead_22 rfl rfl ?_
    refine fW_icmp_ge 26 41 gv4 gv1 dX11_shutAhead_23 rfl rfl (fun c4 => ?_) (fun c4 => ?_)
    · replace h := fTt h c4
      exact fW_sb (hk v3 gv3 h) ⟨rfl, rfl, trivial⟩
    · replace h := fFf h c4
      refine fW_iload_n 27 dX11_shutAhead_26 rfl rfl ?_
      refine fW_aload_n 28 dX11_shutAhead_27 rfl rfl ?_
      refine fW_iload 30 dX11_shutAhead_28 rfl rfl ?_
      obtain ⟨r5, e5, h⟩ := fBd h
      refine fW_cP (fI_V (as := [iv v4]) (rest := [iv v3]) miX11_shutMany hg clX11 rfl tc_418 wd_1336 (fRoom_of rfl) rfl (Nat.le_of_ble_eq_true rfl) dX11_shutAhead_30) (s_X11_shutMany hg gv4 e5) rfl rfl rfl (fun g5 => ?_)
      refine fW_iadd 34 dX11_shutAhead_33 rfl ?_
      refine fW_istore_n 35 (ls' := [some (rv G 418), some (iv v1), none, some (iv (v3 + r5)), some (iv v4)]) dX11_shutAhead_34 rfl rfl rfl (by decide) ?_
      refine fW_iinc 38 (ls' := [some (rv G 418), some (iv v1), none, some (iv (v3 + r5)), some (iv (v4 + 1))]) dX11_shutAhead_35 rfl rfl rfl (by decide) ?_
      refine fW_goto 20 dX11_shutAhead_38 rfl ?_
      obtain ⟨c6, h⟩ := fS h
      exact fW_sb (ih v1 (v3 + r5) (v4 + 1) gv1 c6 (rg_succ' gv4 gv1 c4) h) ⟨rfl, rfl, rfl, rfl, trivial⟩
def f_X11_shutAhead (a1 : Int) (a2 : Int) (M : fMem) : Option (Int) := ((f_X11_isShut a2 M).bind fun (r1 : Int) => (if r1 = 0 then some ((-1)) else ((f_X11_youngerMany a1 a2 M).bind fun (r3 : Int) => L_X11_shutAhead_20 M (fun (v3_7 : Int) => some v3_7) 20000 a1 r3 0)))
set_option maxRecDepth 100000 in
set_option maxHeartbeats 4000000 in
theorem s_X11_shutAhead {G : fG} (hg : gbt G = true) {a1 : Int} (ga1 : rg a1) {a2 : Int} (ga2 : rg a2) {M : fMem} {q : Int} (h : f_X11_shutAhead a1 a2 M = some q) : fSp G mX11_shutAhead [rv G 418, iv a1, iv a2] M (rP M q) fNo := by
  refine fSp_of (by decide +kernel) (by decide +kernel) (fC1 rfl (fC1 rfl (fC1 rfl fC0))) (Nat.le_of_ble_eq_true rfl) ?_
  show fW G mX11_shutAhead (fEm G mX11_shutAhead (rP M q) fNo) 0 0 0 [some (rv G 418), some (iv a1), some (iv a2), none, none] [] M
  rw [f_X11_shutAhead] at h
  refine fW_rg (fun hR => ?_)
  refine fW_aload_n 1 dX11_shutAhead_0 rfl rfl ?_
  refine fW_iload_n 2 dX11_shutAhead_1 rfl rfl ?_
  obtain ⟨r1, e1, h⟩ := fBd h
  refine fW_cB (fI_V (as := [iv a2]) (rest := []) miX11_isShut hg clX11 rfl tc_418 wd_1340 (fRoom_of rfl) rfl (Nat.le_of_ble_eq_true rfl) dX11_shutAhead_2) (s_X11_isShut hg ga2 e1) rfl rfl rfl (fun g1 => ?_)
  refine fW_if_ne 8 10 (rg_z g1) dX11_shutAhead_5 rfl rfl (fun c2 => ?_) (fun c2 => ?_)
  · replace h := fFf h c2
    refine fW_aload_n 11 dX11_shutAhead_10 rfl rfl ?_
    refine fW_iload_n 12 dX11_shutAhead_11 rfl rfl ?_
    refine fW_iload_n 13 dX11_shutAhead_12 rfl rfl ?_
    obtain ⟨r3, e3, h⟩ := fBd h
    refine fW_cP (fI_V (as := [iv a1, iv a2]) (rest := []) miX11_youngerMany hg clX11 rfl tc_418 wd_1352 (fRoom_of rfl) rfl (Nat.le_of_ble_eq_true rfl) dX11_shutAhead_13) (s_X11_youngerMany hg ga1 ga2 e3) rfl rfl rfl (fun g3 => ?_)
    refine fW_istore_n 17 (ls' := [some (rv G 418), some (iv a1), some (iv a2), some (iv r3), none]) dX11_shutAhead_16 rfl rfl rfl (by decide) ?_
    refine fW_iconst 18 dX11_shutAhead_17 rfl ?_
    refine fW_istore 20 (ls' := [some (rv G 418), some (iv a1), some (iv a2), some (iv r3), some (iv 0)]) dX11_shutAhead_18 rfl rfl (by decide) ?_
    refine fW_sb (l_X11_shutAhead_20 hg ?_ 20000 a1 r3 0 ga1 g3 (by decide) h) ⟨rfl, rfl, rfl, rfl, trivial⟩
    intro v3_7 gv3_7 h
    refine fW_iload_n 42 dX11_shutAhead_41 rfl rfl ?_
    exact fW_iret rfl (by decide) (by decide) dX11_shutAhead_42 (rP_i h gv3_7)
  · replace h := fTt h c2
    refine fW_iconst 9 dX11_shutAhead_8 rfl ?_
    exact fW_iret rfl (by decide) (by decide) dX11_shutAhead_9 (rP_i h (by decide))
def mX11_row : fMt := (yX11_row, cX11_row, 5, some .int, { frames := 5, cells := 0, slots := 0, locals := 200 })
theorem miX11_row : fMv mX11_row 3 := ⟨⟨fM 1520 (by decide +kernel) rfl, fM 101 (by decide +kernel) rfl, ⟨by decide +kernel, by decide +kernel⟩, by decide +kernel⟩, fM 1518 (by decide +kernel) rfl, fM 1519 (by decide +kernel) rfl⟩
def j_X11_row_28  (v1 : Int) (v2 : Int) (v3 : Int) (x1 : Int) (M : fMem) : Option (Int × fMem) := (if 0 ≤ x1 ∧ x1 ≤ 1 then ((f_X11_right x1 1 M).bind fun (r5 : Int × fMem) => (if r5.1 = 0 then some (0, r5.2) else ((f_X11_rowAt v1 v2 r5.2).bind fun (r8 : Int) => (if v3 = 0 then (if 0 ≤ 7619 + r8 ∧ 7619 + r8 < 7787 then some (r5.2 419 (7619 + r8), r5.2) else none) else (if v3 = 1 then (if 0 ≤ 7600 + r8 ∧ 7600 + r8 < 7787 then some (r5.2 419 (7600 + r8), r5.2) else none) else (if v3 = 2 then ((f_X11_laysEntries 0 r5.2).bind fun (r14 : fMem) => (if 0 ≤ r8 ∧ r8 < 19 then some (r14 429 r8, r14) else none)) else (if v3 = 3 then ((f_X11_laysEntries 0 r5.2).bind fun (r18 : fMem) => ((f_X11_marksIn r8 r18).bind fun (r20 : Int) => some (r20, r18))) else (if v3 = 4 then ((f_X11_signsIn r8 r5.2).bind fun (r22 : Int) => some (r22, r5.2)) else ((f_X11_shutAhead v1 r8 r5.2).bind fun (r23 : Int) => some (r23, r5.2)))))))))) else none)
set_option maxRecDepth 100000 in
set_option maxHeartbeats 4000000 in
theorem i_X11_row_28 {G : fG} (hg : gbt G = true)  {v1 : Int} {v2 : Int} {v3 : Int} {x1 : Int} (gv1 : rg v1) (gv2 : rg v2) (gv3 : rg v3) (gx1 : rg x1) {M : fMem} {q : Int × fMem} (h : j_X11_row_28 v1 v2 v3 x1 M = some q) : fW G mX11_row (fEm G mX11_row (rP q.2 q.1) fNo) 0 0 28 [some (rv G 418), some (iv v1), some (iv v2), some (iv v3), none] [iv x1, rv G 418] M := by
  rw [j_X11_row_28] at h
  refine fW_rg (fun hR => ?_)
  refine fW_iconst 29 dX11_row_28 rfl ?_
  obtain ⟨c4, h⟩ := fS h
  obtain ⟨r5, e5, h⟩ := fBd h
  refine fW_cB (fI_V (as := [iv x1, iv 1]) (rest := []) miX11_right hg clX11 rfl tc_418 wd_1396 (fRoom_of rfl) rfl (Nat.le_of_ble_eq_true rfl) dX11_row_29) (s_X11_right hg c4 (by decide) e5) rfl rfl rfl (fun g5 => ?_)
  refine fW_rg (fun hR6 => ?_)
  refine fW_if_ne 35 37 (rg_z g5) dX11_row_32 rfl rfl (fun c7 => ?_) (fun c7 => ?_)
  · replace h := fFf h c7
    refine fW_iload_n 38 dX11_row_37 rfl rfl ?_
    refine fW_iload_n 39 dX11_row_38 rfl rfl ?_
    obtain ⟨r8, e8, h⟩ := fBd h
    refine fW_cP (fI_S (as := [iv v1, iv v2]) (rest := []) miX11_rowAt rfl wd_1289 (fRoom_of rfl) rfl (Nat.le_of_ble_eq_true rfl) dX11_row_39) (s_X11_rowAt gv1 gv2 e8) rfl rfl rfl (fun g8 => ?_)
    refine fW_istore 44 (ls' := [some (rv G 418), some (iv v1), some (iv v2), some (iv v3), some (iv r8)]) dX11_row_42 rfl rfl (by decide) ?_
    refine fW_iload_n 45 dX11_row_44 rfl rfl ?_
    have gs := gv3
    by_cases c9 : v3 = 0
    · replace h := fTt h c9
      refine fW_tabIn 80 c9 (by decide) dX11_row_45 (by decide) (by decide) rfl rfl ?_
      refine fW_aload_n 81 dX11_row_80 rfl rfl ?_
      refine fW_getR 84 (r := 419) 0 hg clX11 (by decide) rfl tc_418 tf_11_0 wd_1174 dX11_row_81 rfl ?_
      refine fW_sipush 87 dX11_row_84 rfl (by decide) ?_
      refine fW_iload 89 dX11_row_87 rfl rfl ?_
      refine fW_iadd 90 dX11_row_89 rfl ?_
      obtain ⟨c10, h⟩ := fS h
      refine fW_iald 91 hg tc_419 ⟨c10.1, by rw [show Ln 419 = 7787 from rfl]; exact c10.2⟩ dX11_row_90 rfl ?_
      exact fW_iret rfl (by decide) (by decide) dX11_row_91 (rI_i h (hR6 419 (7619 + r8)))
    replace h := fFf h c9
    by_cases c11 : v3 = 1
    · replace h := fTt h c11
      refine fW_tabIn 92 c11 (by decide) dX11_row_45 (by decide) (by decide) rfl rfl ?_
      refine fW_aload_n 93 dX11_row_92 rfl rfl ?_
      refine fW_getR 96 (r := 419) 0 hg clX11 (by decide) rfl tc_418 tf_11_0 wd_1174 dX11_row_93 rfl ?_
      refine fW_sipush 99 dX11_row_96 rfl (by decide) ?_
      refine fW_iload 101 dX11_row_99 rfl rfl ?_
      refine fW_iadd 102 dX11_row_101 rfl ?_
      obtain ⟨c12, h⟩ := fS h
      refine fW_iald 103 hg tc_419 ⟨c12.1, by rw [show Ln 419 = 7787 from rfl]; exact c12.2⟩ dX11_row_102 rfl ?_
      exact fW_iret rfl (by decide) (by decide) dX11_row_103 (rI_i h (hR6 419 (7600 + r8)))
    replace h := fFf h c11
    by_cases c13 : v3 = 2
    · replace h := fTt h c13
      refine fW_tabIn 104 c13 (by decide) dX11_row_45 (by decide) (by decide) rfl rfl ?_
      refine fW_aload_n 105 dX11_row_104 rfl rfl ?_
      refine fW_iconst 106 dX11_row_105 rfl ?_
      obtain ⟨r14, e14, h⟩ := fBd h
      refine fW_cV (fI_V (as := [iv 0]) (rest := []) miX11_laysEntries hg clX11 rfl tc_418 wd_1431 (fRoom_of rfl) rfl (Nat.le_of_ble_eq_true rfl) dX11_row_106) (s_X11_laysEntries hg (by decide) e14) rfl rfl rfl ?_
      refine fW_rg (fun hR15 => ?_)
      refine fW_aload_n 110 dX11_row_109 rfl rfl ?_
      refine fW_getR 113 (r := 429) 12 hg clX11 (by decide) rfl tc_418 tf_11_12 wd_1186 dX11_row_110 rfl ?_
      refine fW_iload 115 dX11_row_113 rfl rfl ?_
      obtain ⟨c16, h⟩ := fS h
      refine fW_iald 116 hg tc_429 ⟨c16.1, by rw [show Ln 429 = 19 from rfl]; exact c16.2⟩ dX11_row_115 rfl ?_
      exact fW_iret rfl (by decide) (by decide) dX11_row_116 (rI_i h (hR15 429 r8))
    replace h := fFf h c13
    by_cases c17 : v3 = 3
    · replace h := fTt h c17
      refine fW_tabIn 117 c17 (by decide) dX11_row_45 (by decide) (by decide) rfl rfl ?_
      refine fW_aload_n 118 dX11_row_117 rfl rfl ?_
      refine fW_iconst 119 dX11_row_118 rfl ?_
      obtain ⟨r18, e18, h⟩ := fBd h
      refine fW_cV (fI_V (as := [iv 0]) (rest := []) miX11_laysEntries hg clX11 rfl tc_418 wd_1431 (fRoom_of rfl) rfl (Nat.le_of_ble_eq_true rfl) dX11_row_119) (s_X11_laysEntries hg (by decide) e18) rfl rfl rfl ?_
      refine fW_rg (fun hR19 => ?_)
      refine fW_aload_n 123 dX11_row_122 rfl rfl ?_
      refine fW_iload 125 dX11_row_123 rfl rfl ?_
      obtain ⟨r20, e20, h⟩ := fBd h
      refine fW_cP (fI_V (as := [iv r8]) (rest := []) miX11_marksIn hg clX11 rfl tc_418 wd_1513 (fRoom_of rfl) rfl (Nat.le_of_ble_eq_true rfl) dX11_row_125) (s_X11_marksIn hg g8 e20) rfl rfl rfl (fun g20 => ?_)
      exact fW_iret rfl (by decide) (by decide) dX11_row_128 (rI_i h g20)
    replace h := fFf h c17
    by_cases c21 : v3 = 4
    · replace h := fTt h c21
      refine fW_tabIn 129 c21 (by decide) dX11_row_45 (by decide) (by decide) rfl rfl ?_
      refine fW_aload_n 130 dX11_row_129 rfl rfl ?_
      refine fW_iload 132 dX11_row_130 rfl rfl ?_
      obtain ⟨r22, e22, h⟩ := fBd h
      refine fW_cP (fI_V (as := [iv r8]) (rest := []) miX11_signsIn hg clX11 rfl tc_418 wd_1521 (fRoom_of rfl) rfl (Nat.le_of_ble_eq_true rfl) dX11_row_132) (s_X11_signsIn hg g8 e22) rfl rfl rfl (fun g22 => ?_)
      exact fW_iret rfl (by decide) (by decide) dX11_row_135 (rI_i h g22)
    replace h := fFf h c21
    refine fW_tabOut 136 gs dX11_row_45 (by omega) rfl ?_
    refine fW_aload_n 137 dX11_row_136 rfl rfl ?_
    refine fW_iload_n 138 dX11_row_137 rfl rfl ?_
    refine fW_iload 140 dX11_row_138 rfl rfl ?_
    obtain ⟨r23, e23, h⟩ := fBd h
    refine fW_cP (fI_V (as := [iv v1, iv r8]) (rest := []) miX11_shutAhead hg clX11 rfl tc_418 wd_1525 (fRoom_of rfl) rfl (Nat.le_of_ble_eq_true rfl) dX11_row_140) (s_X11_shutAhead hg gv1 g8 e23) rfl rfl rfl (fun g23 => ?_)
    exact fW_iret rfl (by decide) (by decide) dX11_row_143 (rI_i h g23)
  · replace h := fTt h c7
    refine fW_iconst 36 dX11_row_35 rfl ?_
    exact fW_iret rfl (by decide) (by decide) dX11_row_36 (rI_i h (by decide))
def j_X11_row_27  (v1 : Int) (v2 : Int) (v3 : Int) (M : fMem) : Option (Int × fMem) := j_X11_row_28 v1 v2 v3 0 M
set_option maxRecDepth 100000 in
set_option maxHeartbeats 4000000 in
theorem i_X11_row_27 {G : fG} (hg : gbt G = true)  {v1 : Int} {v2 : Int} {v3 : Int} (gv1 : rg v1) (gv2 : rg v2) (gv3 : rg v3) {M : fMem} {q : Int × fMem} (h : j_X11_row_27 v1 v2 v3 M = some q) : fW G mX11_row (fEm G mX11_row (rP q.2 q.1) fNo) 0 0 27 [some (rv G 418), some (iv v1), some (iv v2), some (iv v3), none] [rv G 418] M := by
  rw [j_X11_row_27] at h
  refine fW_rg (fun hR => ?_)
  refine fW_iconst 28 dX11_row_27 rfl ?_
  exact fW_sb (i_X11_row_28 hg gv1 gv2 gv3 (by decide) h) ⟨rfl, rfl, rfl, rfl, trivial⟩
def f_X11_row (a1 : Int) (a2 : Int) (a3 : Int) (M : fMem) : Option (Int × fMem) := ((f_X11_isRow a1 a2 (mset M 418 4 0)).bind fun (r2 : Int) => (if r2 = 0 then j_X11_row_27 a1 a2 a3 (mset M 418 4 0) else ((f_X11_isIn a3 0 5 (mset M 418 4 0)).bind fun (r24 : Int) => (if r24 = 0 then j_X11_row_27 a1 a2 a3 (mset M 418 4 0) else j_X11_row_28 a1 a2 a3 1 (mset M 418 4 0)))))
set_option maxRecDepth 100000 in
set_option maxHeartbeats 4000000 in
theorem s_X11_row {G : fG} (hg : gbt G = true) {a1 : Int} (ga1 : rg a1) {a2 : Int} (ga2 : rg a2) {a3 : Int} (ga3 : rg a3) {M : fMem} {q : Int × fMem} (h : f_X11_row a1 a2 a3 M = some q) : fSp G mX11_row [rv G 418, iv a1, iv a2, iv a3] M (rP q.2 q.1) fNo := by
  refine fSp_of (by decide +kernel) (by decide +kernel) (fC1 rfl (fC1 rfl (fC1 rfl (fC1 rfl fC0)))) (Nat.le_of_ble_eq_true rfl) ?_
  show fW G mX11_row (fEm G mX11_row (rP q.2 q.1) fNo) 0 0 0 [some (rv G 418), some (iv a1), some (iv a2), some (iv a3), none] [] M
  rw [f_X11_row] at h
  refine fW_rg (fun hR => ?_)
  refine fW_aload_n 1 dX11_row_0 rfl rfl ?_
  refine fW_iconst 2 dX11_row_1 rfl ?_
  refine fW_putI 5 4 (ji := 4) hg clX11 rfl (by decide) rfl rfl rfl tc_418 (by decide) wd_1178 dX11_row_2 rfl ?_
  refine fW_rg (fun hR1 => ?_)
  refine fW_aload_n 6 dX11_row_5 rfl rfl ?_
  refine fW_iload_n 7 dX11_row_6 rfl rfl ?_
  refine fW_iload_n 8 dX11_row_7 rfl rfl ?_
  obtain ⟨r2, e2, h⟩ := fBd h
  refine fW_cB (fI_S (as := [iv a1, iv a2]) (rest := [rv G 418]) miX11_isRow rfl wd_1491 (fRoom_of rfl) rfl (Nat.le_of_ble_eq_true rfl) dX11_row_8) (s_X11_isRow ga1 ga2 e2) rfl rfl rfl (fun g2 => ?_)
  refine fW_if_eq 14 27 (rg_z g2) dX11_row_11 rfl rfl (fun c3 => ?_) (fun c3 => ?_)
  · replace h := fTt h c3
    exact fW_sb (i_X11_row_27 hg ga1 ga2 ga3 h) ⟨rfl, rfl, rfl, rfl, trivial⟩
  · replace h := fFf h c3
    refine fW_iload_n 15 dX11_row_14 rfl rfl ?_
    refine fW_iconst 16 dX11_row_15 rfl ?_
    refine fW_iconst 17 dX11_row_16 rfl ?_
    obtain ⟨r24, e24, h⟩ := fBd h
    refine fW_cB (fI_S (as := [iv a3, iv 0, iv 5]) (rest := [rv G 418]) miX11_isIn rfl wd_1272 (fRoom_of rfl) rfl (Nat.le_of_ble_eq_true rfl) dX11_row_17) (s_X11_isIn ga3 (by decide) (by decide) e24) rfl rfl rfl (fun g24 => ?_)
    refine fW_if_eq 23 27 (rg_z g24) dX11_row_20 rfl rfl (fun c25 => ?_) (fun c25 => ?_)
    · replace h := fTt h c25
      exact fW_sb (i_X11_row_27 hg ga1 ga2 ga3 h) ⟨rfl, rfl, rfl, rfl, trivial⟩
    · replace h := fFf h c25
      refine fW_iconst 24 dX11_row_23 rfl ?_
      refine fW_goto 28 dX11_row_24 rfl ?_
      exact fW_sb (i_X11_row_28 hg ga1 ga2 ga3 (by decide) h) ⟨rfl, rfl, rfl, rfl, trivial⟩
end MTH
