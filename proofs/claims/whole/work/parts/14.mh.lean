section MTH
def mX5_narrow : fMt := (yX5_narrow, cX5_narrow, 9, none, { frames := 2, cells := 0, slots := 0, locals := 80 })
theorem miX5_narrow : fMv mX5_narrow 3 := ⟨⟨fM 852 (by decide +kernel) rfl, fM 99 (by decide +kernel) rfl, ⟨by decide +kernel, by decide +kernel⟩, by decide +kernel⟩, fM 851 (by decide +kernel) rfl, fM 20 (by decide +kernel) rfl⟩
def j_X5_narrow_126  (v3 : Int) (v8 : Int) (x1 : Int) (x2 : Int) (M : fMem) : Option (fMem) := (if 0 ≤ x1 ∧ x1 < 19 then ((some (mset M 228 x1 x2)).bind fun (N18 : fMem) => (if v8 = ((-1)) then (if 0 ≤ v3 ∧ v3 < 19 then ((some (mset N18 229 v3 (N18 229 v3))).bind fun (N23 : fMem) => some N23) else none) else (if 0 ≤ v3 ∧ v3 < 19 then ((some (mset N18 229 v3 v8)).bind fun (N21 : fMem) => some N21) else none))) else none)
set_option maxRecDepth 100000 in
set_option maxHeartbeats 4000000 in
theorem i_X5_narrow_126 {G : fG} (hg : gbt G = true)  {v3 : Int} {v8 : Int} {x1 : Int} {x2 : Int} (gv3 : rg v3) (gv8 : rg v8) (gx1 : rg x1) (gx2 : rg x2) {M : fMem} {q : fMem} (h : j_X5_narrow_126 v3 v8 x1 x2 M = some q) : fW G mX5_narrow (fEm G mX5_narrow (rV q) fNo) 0 0 126 [some (rv G 227), none, none, some (iv v3), none, none, none, none, some (iv v8)] [iv x2, iv x1, rv G 228] M := by
  rw [j_X5_narrow_126] at h
  refine fW_rg (fun hR => ?_)
  obtain ⟨c17, h⟩ := fS h
  obtain ⟨N18, e18, h⟩ := fBd h
  replace e18 := Option.some.inj e18
  refine fW_iast 127 hg tc_228 ⟨c17.1, by rw [show Ln 228 = 19 from rfl]; exact c17.2⟩ gx2 dX5_narrow_126 rfl ?_
  rw [e18]
  refine fW_rg (fun hR18 => ?_)
  refine fW_aload_n 128 dX5_narrow_127 rfl rfl ?_
  refine fW_getR 131 (r := 229) 1 hg clX5 (by decide) rfl tc_227 tf_5_1 wd_375 dX5_narrow_128 rfl ?_
  refine fW_iload_n 132 dX5_narrow_131 rfl rfl ?_
  refine fW_iload 134 dX5_narrow_132 rfl rfl ?_
  refine fW_iconst 135 dX5_narrow_134 rfl ?_
  refine fW_icmp_ne 138 147 gv8 (by decide) dX5_narrow_135 rfl rfl (fun c19 => ?_) (fun c19 => ?_)
  · replace h := fFf h c19
    refine fW_iload 149 dX5_narrow_147 rfl rfl ?_
    obtain ⟨c20, h⟩ := fS h
    obtain ⟨N21, e21, h⟩ := fBd h
    replace e21 := Option.some.inj e21
    refine fW_iast 150 hg tc_229 ⟨c20.1, by rw [show Ln 229 = 19 from rfl]; exact c20.2⟩ gv8 dX5_narrow_149 rfl ?_
    rw [e21]
    refine fW_rg (fun hR21 => ?_)
    exact fW_vret rfl (by decide) (by decide) dX5_narrow_150 (rV_i h)
  · replace h := fTt h c19
    refine fW_aload_n 139 dX5_narrow_138 rfl rfl ?_
    refine fW_getR 142 (r := 229) 1 hg clX5 (by decide) rfl tc_227 tf_5_1 wd_375 dX5_narrow_139 rfl ?_
    refine fW_iload_n 143 dX5_narrow_142 rfl rfl ?_
    obtain ⟨c22, h⟩ := fS h
    refine fW_iald 144 hg tc_229 ⟨c22.1, by rw [show Ln 229 = 19 from rfl]; exact c22.2⟩ dX5_narrow_143 rfl ?_
    refine fW_goto 149 dX5_narrow_144 rfl ?_
    obtain ⟨N23, e23, h⟩ := fBd h
    replace e23 := Option.some.inj e23
    refine fW_iast 150 hg tc_229 ⟨c22.1, by rw [show Ln 229 = 19 from rfl]; exact c22.2⟩ (hR18 229 v3) dX5_narrow_149 rfl ?_
    rw [e23]
    refine fW_rg (fun hR23 => ?_)
    exact fW_vret rfl (by decide) (by decide) dX5_narrow_150 (rV_i h)
def j_X5_narrow_46  (v3 : Int) (x0 : Int) (M : fMem) : Option (fMem) := (if x0 = ((-1)) then some M else ((f_X10_numberOf v3 M).bind fun (r9 : Int) => (if 0 ≤ x0 ∧ x0 < 19 then ((f_X1_lastMark (4 * psO x0.toNat + 151) r9 (M 230 x0) M).bind fun (r12 : Int) => ((f_X1_firstMark (4 * psO x0.toNat + 151) r9 (M 230 x0) M).bind fun (r14 : Int) => (if r12 = ((-1)) then (if 0 ≤ v3 ∧ v3 < 19 then j_X5_narrow_126 v3 r14 v3 (M 228 v3) M else none) else (if -2147483648 ≤ r12 + 1 ∧ r12 + 1 < 2147483648 then j_X5_narrow_126 v3 r14 v3 (r12 + 1) M else none)))) else none)))
set_option maxRecDepth 100000 in
set_option maxHeartbeats 4000000 in
theorem i_X5_narrow_46 {G : fG} (hg : gbt G = true)  {v3 : Int} {x0 : Int} (gv3 : rg v3) (gx0 : rg x0) {M : fMem} {q : fMem} (h : j_X5_narrow_46 v3 x0 M = some q) : fW G mX5_narrow (fEm G mX5_narrow (rV q) fNo) 0 0 46 [some (rv G 227), none, some (rv G 149), some (iv v3), none, none, none, none, none] [iv x0] M := by
  rw [j_X5_narrow_46] at h
  refine fW_rg (fun hR => ?_)
  refine fW_istore 48 (ls' := [some (rv G 227), none, some (rv G 149), some (iv v3), none, some (iv x0), none, none, none]) dX5_narrow_46 rfl rfl (by decide) ?_
  refine fW_iload 50 dX5_narrow_48 rfl rfl ?_
  refine fW_iconst 51 dX5_narrow_50 rfl ?_
  refine fW_icmp_eq 54 150 gx0 (by decide) dX5_narrow_51 rfl rfl (fun c8 => ?_) (fun c8 => ?_)
  · replace h := fTt h c8
    exact fW_vret rfl (by decide) (by decide) dX5_narrow_150 (rV_i h)
  · replace h := fFf h c8
    refine fW_iload_n 55 dX5_narrow_54 rfl rfl ?_
    obtain ⟨r9, e9, h⟩ := fBd h
    refine fW_cP (fI_SN (host := "RowStore") (as := [iv v3]) (rest := []) miX10_numberOf (by decide +kernel) (fRoom_of rfl) rfl (Nat.le_of_ble_eq_true rfl) dX5_narrow_55) (s_X10_numberOf hg gv3 e9) rfl rfl rfl (fun g9 => ?_)
    refine fW_istore 60 (ls' := [some (rv G 227), none, some (rv G 149), some (iv v3), none, some (iv x0), some (iv r9), none, none]) dX5_narrow_58 rfl rfl (by decide) ?_
    refine fW_aload_n 61 dX5_narrow_60 rfl rfl ?_
    refine fW_getR 64 (r := 150) 0 hg clX3 (by decide) rfl tc_149 tf_3_0 wd_362 dX5_narrow_61 rfl ?_
    refine fW_iload 66 dX5_narrow_64 rfl rfl ?_
    obtain ⟨c10, h⟩ := fS h
    have t11 := ta_14 (r := 4 * psO x0.toNat + 151) tc_150 c10 (by omega)
    refine fW_aald 67 2 hg tc_150 (by decide) (by decide) t11.1 t11.2.2 rfl dX5_narrow_66 rfl ?_
    refine fW_iload 69 dX5_narrow_67 rfl rfl ?_
    refine fW_aload_n 70 dX5_narrow_69 rfl rfl ?_
    refine fW_getR 73 (r := 230) 2 hg clX5 (by decide) rfl tc_227 tf_5_2 wd_377 dX5_narrow_70 rfl ?_
    refine fW_iload 75 dX5_narrow_73 rfl rfl ?_
    refine fW_iald 76 hg tc_230 ⟨c10.1, by rw [show Ln 230 = 19 from rfl]; exact c10.2⟩ dX5_narrow_75 rfl ?_
    obtain ⟨r12, e12, h⟩ := fBd h
    refine fW_cP (fI_V (as := [iv r9, iv (M 230 x0)]) (rest := []) miX1_lastMark hg clX1 rfl t11.2.1 wd_856 (fRoom_of rfl) rfl (Nat.le_of_ble_eq_true rfl) dX5_narrow_76) (s_X1_lastMark hg t11.2.1 g9 (hR 230 x0) e12) rfl rfl rfl (fun g12 => ?_)
    refine fW_istore 81 (ls' := [some (rv G 227), none, some (rv G 149), some (iv v3), none, some (iv x0), some (iv r9), some (iv r12), none]) dX5_narrow_79 rfl rfl (by decide) ?_
    refine fW_aload_n 82 dX5_narrow_81 rfl rfl ?_
    refine fW_getR 85 (r := 150) 0 hg clX3 (by decide) rfl tc_149 tf_3_0 wd_362 dX5_narrow_82 rfl ?_
    refine fW_iload 87 dX5_narrow_85 rfl rfl ?_
    have t13 := ta_14 (r := 4 * psO x0.toNat + 151) tc_150 c10 (by omega)
    refine fW_aald 88 2 hg tc_150 (by decide) (by decide) t13.1 t13.2.2 rfl dX5_narrow_87 rfl ?_
    refine fW_iload 90 dX5_narrow_88 rfl rfl ?_
    refine fW_aload_n 91 dX5_narrow_90 rfl rfl ?_
    refine fW_getR 94 (r := 230) 2 hg clX5 (by decide) rfl tc_227 tf_5_2 wd_377 dX5_narrow_91 rfl ?_
    refine fW_iload 96 dX5_narrow_94 rfl rfl ?_
    refine fW_iald 97 hg tc_230 ⟨c10.1, by rw [show Ln 230 = 19 from rfl]; exact c10.2⟩ dX5_narrow_96 rfl ?_
    obtain ⟨r14, e14, h⟩ := fBd h
    refine fW_cP (fI_V (as := [iv r9, iv (M 230 x0)]) (rest := []) miX1_firstMark hg clX1 rfl t13.2.1 wd_861 (fRoom_of rfl) rfl (Nat.le_of_ble_eq_true rfl) dX5_narrow_97) (s_X1_firstMark hg t13.2.1 g9 (hR 230 x0) e14) rfl rfl rfl (fun g14 => ?_)
    refine fW_istore 102 (ls' := [some (rv G 227), none, some (rv G 149), some (iv v3), none, some (iv x0), some (iv r9), some (iv r12), some (iv r14)]) dX5_narrow_100 rfl rfl (by decide) ?_
    refine fW_aload_n 103 dX5_narrow_102 rfl rfl ?_
    refine fW_getR 106 (r := 228) 0 hg clX5 (by decide) rfl tc_227 tf_5_0 wd_373 dX5_narrow_103 rfl ?_
    refine fW_iload_n 107 dX5_narrow_106 rfl rfl ?_
    refine fW_iload 109 dX5_narrow_107 rfl rfl ?_
    refine fW_iconst 110 dX5_narrow_109 rfl ?_
    refine fW_icmp_ne 113 122 g12 (by decide) dX5_narrow_110 rfl rfl (fun c15 => ?_) (fun c15 => ?_)
    · replace h := fFf h c15
      refine fW_iload 124 dX5_narrow_122 rfl rfl ?_
      refine fW_iconst 125 dX5_narrow_124 rfl ?_
      refine fW_iadd 126 dX5_narrow_125 rfl ?_
      obtain ⟨c16, h⟩ := fS h
      exact fW_sb (i_X5_narrow_126 hg gv3 g14 gv3 c16 h) ⟨rfl, rfl, rfl, trivial⟩
    · replace h := fTt h c15
      refine fW_aload_n 114 dX5_narrow_113 rfl rfl ?_
      refine fW_getR 117 (r := 228) 0 hg clX5 (by decide) rfl tc_227 tf_5_0 wd_373 dX5_narrow_114 rfl ?_
      refine fW_iload_n 118 dX5_narrow_117 rfl rfl ?_
      obtain ⟨c24, h⟩ := fS h
      refine fW_iald 119 hg tc_228 ⟨c24.1, by rw [show Ln 228 = 19 from rfl]; exact c24.2⟩ dX5_narrow_118 rfl ?_
      refine fW_goto 126 dX5_narrow_119 rfl ?_
      exact fW_sb (i_X5_narrow_126 hg gv3 g14 gv3 (hR 228 v3) h) ⟨rfl, rfl, rfl, trivial⟩
def f_X5_narrow (p1 : Nat) (a3 : Int) (M : fMem) : Option (fMem) := (if 0 ≤ a3 ∧ a3 < 19 then ((some (mset M 228 a3 0)).bind fun (N2 : fMem) => ((some (mset N2 229 a3 (N2 (4 * psO a3.toNat + 151) 3))).bind fun (N4 : fMem) => (if (LO a3) = 0 then j_X5_narrow_46 a3 ((-1)) N4 else (if -2147483648 ≤ (LO a3) - 1 ∧ (LO a3) - 1 < 2147483648 then ((f_X7_leadOf p1 ((LO a3) - 1) N4).bind fun (r7 : Int) => j_X5_narrow_46 a3 r7 N4) else none)))) else none)
set_option maxRecDepth 100000 in
set_option maxHeartbeats 4000000 in
theorem s_X5_narrow {G : fG} (hg : gbt G = true) {p1 : Nat} (hp1 : fTyp p1 7) {a3 : Int} (ga3 : rg a3) {M : fMem} {q : fMem} (h : f_X5_narrow p1 a3 M = some q) : fSp G mX5_narrow [rv G 227, rv G p1, rv G 149, iv a3] M (rV q) fNo := by
  refine fSp_of (by decide +kernel) (by decide +kernel) (fC1 rfl (fC1 rfl (fC1 rfl (fC1 rfl fC0)))) (Nat.le_of_ble_eq_true rfl) ?_
  show fW G mX5_narrow (fEm G mX5_narrow (rV q) fNo) 0 0 0 [some (rv G 227), some (rv G p1), some (rv G 149), some (iv a3), none, none, none, none, none] [] M
  rw [f_X5_narrow] at h
  refine fW_rg (fun hR => ?_)
  refine fW_aload_n 1 dX5_narrow_0 rfl rfl ?_
  refine fW_getR 4 (r := 228) 0 hg clX5 (by decide) rfl tc_227 tf_5_0 wd_373 dX5_narrow_1 rfl ?_
  refine fW_iload_n 5 dX5_narrow_4 rfl rfl ?_
  refine fW_iconst 6 dX5_narrow_5 rfl ?_
  obtain ⟨c1, h⟩ := fS h
  obtain ⟨N2, e2, h⟩ := fBd h
  replace e2 := Option.some.inj e2
  refine fW_iast 7 hg tc_228 ⟨c1.1, by rw [show Ln 228 = 19 from rfl]; exact c1.2⟩ (by decide) dX5_narrow_6 rfl ?_
  rw [e2]
  refine fW_rg (fun hR2 => ?_)
  refine fW_aload_n 8 dX5_narrow_7 rfl rfl ?_
  refine fW_getR 11 (r := 229) 1 hg clX5 (by decide) rfl tc_227 tf_5_1 wd_375 dX5_narrow_8 rfl ?_
  refine fW_iload_n 12 dX5_narrow_11 rfl rfl ?_
  refine fW_aload_n 13 dX5_narrow_12 rfl rfl ?_
  refine fW_getR 16 (r := 150) 0 hg clX3 (by decide) rfl tc_149 tf_3_0 wd_362 dX5_narrow_13 rfl ?_
  refine fW_iload_n 17 dX5_narrow_16 rfl rfl ?_
  have t3 := ta_14 (r := 4 * psO a3.toNat + 151) tc_150 c1 (by omega)
  refine fW_aald 18 2 hg tc_150 (by decide) (by decide) t3.1 t3.2.2 rfl dX5_narrow_17 rfl ?_
  refine fW_getI 21 3 (ji := 3) hg clX1 rfl (by decide) rfl t3.2.1 wd_346 dX5_narrow_18 rfl ?_
  obtain ⟨N4, e4, h⟩ := fBd h
  replace e4 := Option.some.inj e4
  refine fW_iast 22 hg tc_229 ⟨c1.1, by rw [show Ln 229 = 19 from rfl]; exact c1.2⟩ (hR2 (4 * psO a3.toNat + 151) 3) dX5_narrow_21 rfl ?_
  rw [e4]
  refine fW_rg (fun hR4 => ?_)
  refine fW_getsN 25 (host := "RowStore") 2 (by decide) (by decide +kernel) dX5_narrow_22 rfl ?_
  refine fW_iload_n 26 dX5_narrow_25 rfl rfl ?_
  refine fW_sald 27 2 (by decide) c1 dX5_narrow_26 rfl ?_
  rw [show SV 2 a3 = LO a3 from rfl]
  refine fW_istore 29 (ls' := [some (rv G 227), some (rv G p1), some (rv G 149), some (iv a3), some (iv (LO a3)), none, none, none, none]) dX5_narrow_27 rfl rfl (by decide) ?_
  refine fW_iload 31 dX5_narrow_29 rfl rfl ?_
  refine fW_if_ne 34 38 (rg_LO c1) dX5_narrow_31 rfl rfl (fun c5 => ?_) (fun c5 => ?_)
  · replace h := fFf h c5
    refine fW_aload_n 39 dX5_narrow_38 rfl rfl ?_
    refine fW_iload 41 dX5_narrow_39 rfl rfl ?_
    refine fW_iconst 42 dX5_narrow_41 rfl ?_
    refine fW_isub 43 dX5_narrow_42 rfl ?_
    obtain ⟨c6, h⟩ := fS h
    obtain ⟨r7, e7, h⟩ := fBd h
    refine fW_cP (fI_V (as := [iv ((LO a3) - 1)]) (rest := []) miX7_leadOf hg clX7 rfl hp1 wd_854 (fRoom_of rfl) rfl (Nat.le_of_ble_eq_true rfl) dX5_narrow_43) (s_X7_leadOf hg hp1 c6 e7) rfl rfl rfl (fun g7 => ?_)
    exact fW_sb (i_X5_narrow_46 hg ga3 g7 h) ⟨rfl, rfl, rfl, trivial⟩
  · replace h := fTt h c5
    refine fW_iconst 35 dX5_narrow_34 rfl ?_
    refine fW_goto 46 dX5_narrow_35 rfl ?_
    exact fW_sb (i_X5_narrow_46 hg ga3 (by decide) h) ⟨rfl, rfl, rfl, trivial⟩
def mX5_halve : fMt := (yX5_halve, cX5_halve, 10, none, { frames := 1, cells := 0, slots := 0, locals := 40 })
theorem miX5_halve : fMv mX5_halve 4 := ⟨⟨fM 838 (by decide +kernel) rfl, fM 99 (by decide +kernel) rfl, ⟨by decide +kernel, by decide +kernel⟩, by decide +kernel⟩, fM 837 (by decide +kernel) rfl, fM 18 (by decide +kernel) rfl⟩
def L_X5_halve_32  (k : Int → Int → Int → Int → fMem → Option (fMem)) : Nat → Int → Nat → Int → Int → Int → Int → Int → Int → fMem → Option (fMem)
  | 0, _, _, _, _, _, _, _, _, _ => none
  | n + 1, v1, w2, v3, v4, v5, v6, v7, v8, M => (if v8 ≤ 0 then k v1 v3 v5 v7 M else (if v6 ≤ v5 then k v1 v3 v5 v7 M else (if 0 ≤ v5 + v6 ∧ v5 + v6 < 2147483648 then (if 0 ≤ (v5 + v6) / 2 ∧ (v5 + v6) / 2 < Ln w2 then (if v4 ≤ (M w2 ((v5 + v6) / 2)) then (if -2147483648 ≤ (v5 + v6) / 2 ∧ (v5 + v6) / 2 < 2147483648 then (if -2147483648 ≤ v7 + 1 ∧ v7 + 1 < 2147483648 then L_X5_halve_32  k n v1 w2 v3 v4 v5 ((v5 + v6) / 2) (v7 + 1) (v8 + -1) M else none) else none) else (if -2147483648 ≤ ((v5 + v6) / 2) + 1 ∧ ((v5 + v6) / 2) + 1 < 2147483648 then (if -2147483648 ≤ v7 + 1 ∧ v7 + 1 < 2147483648 then L_X5_halve_32  k n v1 w2 v3 v4 (((v5 + v6) / 2) + 1) v6 (v7 + 1) (v8 + -1) M else none) else none)) else none) else none)))
set_option maxRecDepth 100000 in
set_option maxHeartbeats 4000000 in
theorem l_X5_halve_32 {G : fG} (hg : gbt G = true)  {q : fMem} {k : Int → Int → Int → Int → fMem → Option (fMem)} (hk : ∀ (v1 : Int) (v3 : Int) (v5 : Int) (v7 : Int) (M : fMem), rg v1 → rg v3 → rg v5 → rg v7 → k v1 v3 v5 v7 M = some q → fW G mX5_halve (fEm G mX5_halve (rV q) fNo) 0 0 84 [some (rv G 227), some (iv v1), none, some (iv v3), none, some (iv v5), none, some (iv v7), none, none] [] M) : ∀ (n : Nat) (v1 : Int) (w2 : Nat) (v3 : Int) (v4 : Int) (v5 : Int) (v6 : Int) (v7 : Int) (v8 : Int) (M : fMem), rg v1 → fTyp w2 12 → rg v3 → rg v4 → rg v5 → rg v6 → rg v7 → rg v8 → L_X5_halve_32 k n v1 w2 v3 v4 v5 v6 v7 v8 M = some q → fW G mX5_halve (fEm G mX5_halve (rV q) fNo) 0 0 32 [some (rv G 227), some (iv v1), some (rv G w2), some (iv v3), some (iv v4), some (iv v5), some (iv v6), some (iv v7), some (iv v8), none] [] M := by
  intro n
  induction n with
  | zero =>
    intro v1 w2 v3 v4 v5 v6 v7 v8 M gv1 tw2 gv3 gv4 gv5 gv6 gv7 gv8 h
    rw [L_X5_halve_32] at h
    exact absurd h (by simp)
  | succ n ih =>
    intro v1 w2 v3 v4 v5 v6 v7 v8 M gv1 tw2 gv3 gv4 gv5 gv6 gv7 gv8 h
    rw [L_X5_halve_32] at h
    refine fW_rg (fun hR => ?_)
    refine fW_iload 34 dX5_halve_32 rfl rfl ?_
    refine fW_if_le 37 84 gv8 dX5_halve_34 rfl rfl (fun c2 => ?_) (fun c2 => ?_)
    · replace h := fTt h c2
      exact fW_sb (hk v1 v3 v5 v7 M gv1 gv3 gv5 gv7 h) ⟨rfl, rfl, rfl, rfl, rfl, trivial⟩
    · replace h := fFf h c2
      refine fW_iload 39 dX5_halve_37 rfl rfl ?_
      refine fW_iload 41 dX5_halve_39 rfl rfl ?_
      refine fW_icmp_ge 44 84 gv5 gv6 dX5_halve_41 rfl rfl (fun c3 => ?_) (fun c3 => ?_)
      · replace h := fTt h c3
        exact fW_sb (hk v1 v3 v5 v7 M gv1 gv3 gv5 gv7 h) ⟨rfl, rfl, rfl, rfl, rfl, trivial⟩
      · replace h := fFf h c3
        refine fW_iload 46 dX5_halve_44 rfl rfl ?_
        refine fW_iload 48 dX5_halve_46 rfl rfl ?_
        refine fW_iadd 49 dX5_halve_48 rfl ?_
        refine fW_iconst 50 dX5_halve_49 rfl ?_
        obtain ⟨c4, h⟩ := fS h
        refine fW_idiv 51 c4 (by decide) dX5_halve_50 rfl ?_
        refine fW_istore 53 (ls' := [some (rv G 227), some (iv v1), some (rv G w2), some (iv v3), some (iv v4), some (iv v5), some (iv v6), some (iv v7), some (iv v8), some (iv ((v5 + v6) / 2))]) dX5_halve_51 rfl rfl (by decide) ?_
        refine fW_iinc 56 (ls' := [some (rv G 227), some (iv v1), some (rv G w2), some (iv v3), some (iv v4), some (iv v5), some (iv v6), some (iv (v7 + 1)), some (iv v8), some (iv ((v5 + v6) / 2))]) dX5_halve_53 rfl rfl rfl (by decide) ?_
        refine fW_aload_n 57 dX5_halve_56 rfl rfl ?_
        refine fW_iload 59 dX5_halve_57 rfl rfl ?_
        obtain ⟨c5, h⟩ := fS h
        refine fW_iald 60 hg tw2 c5 dX5_halve_59 rfl ?_
        refine fW_iload 62 dX5_halve_60 rfl rfl ?_
        refine fW_icmp_ge 65 74 (hR w2 ((v5 + v6) / 2)) gv4 dX5_halve_62 rfl rfl (fun c6 => ?_) (fun c6 => ?_)
        · replace h := fTt h c6
          refine fW_iload 76 dX5_halve_74 rfl rfl ?_
          refine fW_istore 78 (ls' := [some (rv G 227), some (iv v1), some (rv G w2), some (iv v3), some (iv v4), some (iv v5), some (iv ((v5 + v6) / 2)), some (iv (v7 + 1)), some (iv v8), some (iv ((v5 + v6) / 2))]) dX5_halve_76 rfl rfl (by decide) ?_
          refine fW_iinc 81 (ls' := [some (rv G 227), some (iv v1), some (rv G w2), some (iv v3), some (iv v4), some (iv v5), some (iv ((v5 + v6) / 2)), some (iv (v7 + 1)), some (iv (v8 + -1)), some (iv ((v5 + v6) / 2))]) dX5_halve_78 rfl rfl rfl (by decide) ?_
          refine fW_goto 32 dX5_halve_81 rfl ?_
          obtain ⟨c7, h⟩ := fS h
          obtain ⟨c8, h⟩ := fS h
          exact fW_sb (ih v1 w2 v3 v4 v5 ((v5 + v6) / 2) (v7 + 1) (v8 + -1) M gv1 tw2 gv3 gv4 gv5 c7 c8 (rg_pred' gv8 (by decide) c2) h) ⟨rfl, rfl, rfl, rfl, rfl, rfl, rfl, rfl, rfl, trivial⟩
        · replace h := fFf h c6
          refine fW_iload 67 dX5_halve_65 rfl rfl ?_
          refine fW_iconst 68 dX5_halve_67 rfl ?_
          refine fW_iadd 69 dX5_halve_68 rfl ?_
          refine fW_istore 71 (ls' := [some (rv G 227), some (iv v1), some (rv G w2), some (iv v3), some (iv v4), some (iv (((v5 + v6) / 2) + 1)), some (iv v6), some (iv (v7 + 1)), some (iv v8), some (iv ((v5 + v6) / 2))]) dX5_halve_69 rfl rfl (by decide) ?_
          refine fW_goto 78 dX5_halve_71 rfl ?_
          refine fW_iinc 81 (ls' := [some (rv G 227), some (iv v1), some (rv G w2), some (iv v3), some (iv v4), some (iv (((v5 + v6) / 2) + 1)), some (iv v6), some (iv (v7 + 1)), some (iv (v8 + -1)), some (iv ((v5 + v6) / 2))]) dX5_halve_78 rfl rfl rfl (by decide) ?_
          refine fW_goto 32 dX5_halve_81 rfl ?_
          obtain ⟨c9, h⟩ := fS h
          obtain ⟨c10, h⟩ := fS h
          exact fW_sb (ih v1 w2 v3 v4 (((v5 + v6) / 2) + 1) v6 (v7 + 1) (v8 + -1) M gv1 tw2 gv3 gv4 c9 gv6 c10 (rg_pred' gv8 (by decide) c2) h) ⟨rfl, rfl, rfl, rfl, rfl, rfl, rfl, rfl, rfl, trivial⟩
def j_X5_halve_97  (v1 : Int) (v5 : Int) (x0 : Int) (x1 : Int) (M : fMem) : Option (fMem) := (if 0 ≤ v1 ∧ v1 < 19 then ((some (mset M 230 v1 v5)).bind fun (N14 : fMem) => (if -2147483648 ≤ x0 + x1 ∧ x0 + x1 < 2147483648 then ((some (mset N14 231 v1 (x0 + x1))).bind fun (N16 : fMem) => (if -2147483648 ≤ (N16 227 5) + (x0 + x1) ∧ (N16 227 5) + (x0 + x1) < 2147483648 then ((some (mset N16 227 5 ((N16 227 5) + (x0 + x1)))).bind fun (N18 : fMem) => (if -2147483648 ≤ (N18 227 4) + 1 ∧ (N18 227 4) + 1 < 2147483648 then ((some (mset N18 227 4 ((N18 227 4) + 1))).bind fun (N20 : fMem) => some N20) else none)) else none)) else none)) else none)
set_option maxRecDepth 100000 in
set_option maxHeartbeats 4000000 in
theorem i_X5_halve_97 {G : fG} (hg : gbt G = true)  {v1 : Int} {v5 : Int} {x0 : Int} {x1 : Int} (gv1 : rg v1) (gv5 : rg v5) (gx0 : rg x0) (gx1 : rg x1) {M : fMem} {q : fMem} (h : j_X5_halve_97 v1 v5 x0 x1 M = some q) : fW G mX5_halve (fEm G mX5_halve (rV q) fNo) 0 0 97 [some (rv G 227), some (iv v1), none, none, none, some (iv v5), none, none, none, none] [iv x1, iv x0] M := by
  rw [j_X5_halve_97] at h
  refine fW_rg (fun hR => ?_)
  refine fW_iadd 98 dX5_halve_97 rfl ?_
  refine fW_istore 100 (ls' := [some (rv G 227), some (iv v1), none, none, none, some (iv v5), none, some (iv (x0 + x1)), none, none]) dX5_halve_98 rfl rfl (by decide) ?_
  refine fW_aload_n 101 dX5_halve_100 rfl rfl ?_
  refine fW_getR 104 (r := 230) 2 hg clX5 (by decide) rfl tc_227 tf_5_2 wd_377 dX5_halve_101 rfl ?_
  refine fW_iload_n 105 dX5_halve_104 rfl rfl ?_
  refine fW_iload 107 dX5_halve_105 rfl rfl ?_
  obtain ⟨c13, h⟩ := fS h
  obtain ⟨N14, e14, h⟩ := fBd h
  replace e14 := Option.some.inj e14
  refine fW_iast 108 hg tc_230 ⟨c13.1, by rw [show Ln 230 = 19 from rfl]; exact c13.2⟩ gv5 dX5_halve_107 rfl ?_
  rw [e14]
  refine fW_rg (fun hR14 => ?_)
  refine fW_aload_n 109 dX5_halve_108 rfl rfl ?_
  refine fW_getR 112 (r := 231) 3 hg clX5 (by decide) rfl tc_227 tf_5_3 wd_379 dX5_halve_109 rfl ?_
  refine fW_iload_n 113 dX5_halve_112 rfl rfl ?_
  refine fW_iload 115 dX5_halve_113 rfl rfl ?_
  obtain ⟨c15, h⟩ := fS h
  obtain ⟨N16, e16, h⟩ := fBd h
  replace e16 := Option.some.inj e16
  refine fW_iast 116 hg tc_231 ⟨c13.1, by rw [show Ln 231 = 19 from rfl]; exact c13.2⟩ c15 dX5_halve_115 rfl ?_
  rw [e16]
  refine fW_rg (fun hR16 => ?_)
  refine fW_aload_n 117 dX5_halve_116 rfl rfl ?_
  refine fW_dup 118 dX5_halve_117 rfl rfl ?_
  refine fW_getI 121 5 (ji := 5) hg clX5 rfl (by decide) rfl tc_227 wd_383 dX5_halve_118 rfl ?_
  refine fW_iload 123 dX5_halve_121 rfl rfl ?_
  refine fW_iadd 124 dX5_halve_123 rfl ?_
  obtain ⟨c17, h⟩ := fS h
  obtain ⟨N18, e18, h⟩ := fBd h
  replace e18 := Option.some.inj e18
  refine fW_putI 127 5 (ji := 5) hg clX5 rfl (by decide) rfl rfl rfl tc_227 c17 wd_383 dX5_halve_124 rfl ?_
  rw [e18]
  refine fW_rg (fun hR18 => ?_)
  refine fW_aload_n 128 dX5_halve_127 rfl rfl ?_
  refine fW_dup 129 dX5_halve_128 rfl rfl ?_
  refine fW_getI 132 4 (ji := 4) hg clX5 rfl (by decide) rfl tc_227 wd_381 dX5_halve_129 rfl ?_
  refine fW_iconst 133 dX5_halve_132 rfl ?_
  refine fW_iadd 134 dX5_halve_133 rfl ?_
  obtain ⟨c19, h⟩ := fS h
  obtain ⟨N20, e20, h⟩ := fBd h
  replace e20 := Option.some.inj e20
  refine fW_putI 137 4 (ji := 4) hg clX5 rfl (by decide) rfl rfl rfl tc_227 c19 wd_381 dX5_halve_134 rfl ?_
  rw [e20]
  refine fW_rg (fun hR20 => ?_)
  exact fW_vret rfl (by decide) (by decide) dX5_halve_137 (rV_i h)
def j_X5_halve_84  (v1 : Int) (v3 : Int) (v5 : Int) (v7 : Int) (M : fMem) : Option (fMem) := (if v3 ≤ v5 then j_X5_halve_97 v1 v5 v7 0 M else j_X5_halve_97 v1 v5 v7 1 M)
set_option maxRecDepth 100000 in
set_option maxHeartbeats 4000000 in
theorem i_X5_halve_84 {G : fG} (hg : gbt G = true)  {v1 : Int} {v3 : Int} {v5 : Int} {v7 : Int} (gv1 : rg v1) (gv3 : rg v3) (gv5 : rg v5) (gv7 : rg v7) {M : fMem} {q : fMem} (h : j_X5_halve_84 v1 v3 v5 v7 M = some q) : fW G mX5_halve (fEm G mX5_halve (rV q) fNo) 0 0 84 [some (rv G 227), some (iv v1), none, some (iv v3), none, some (iv v5), none, some (iv v7), none, none] [] M := by
  rw [j_X5_halve_84] at h
  refine fW_rg (fun hR => ?_)
  refine fW_iload 86 dX5_halve_84 rfl rfl ?_
  refine fW_iload 88 dX5_halve_86 rfl rfl ?_
  refine fW_iload_n 89 dX5_halve_88 rfl rfl ?_
  refine fW_icmp_ge 92 96 gv5 gv3 dX5_halve_89 rfl rfl (fun c12 => ?_) (fun c12 => ?_)
  · replace h := fTt h c12
    refine fW_iconst 97 dX5_halve_96 rfl ?_
    exact fW_sb (i_X5_halve_97 hg gv1 gv5 gv7 (by decide) h) ⟨rfl, rfl, rfl, trivial⟩
  · replace h := fFf h c12
    refine fW_iconst 93 dX5_halve_92 rfl ?_
    refine fW_goto 97 dX5_halve_93 rfl ?_
    exact fW_sb (i_X5_halve_97 hg gv1 gv5 gv7 (by decide) h) ⟨rfl, rfl, rfl, trivial⟩
def f_X5_halve (a1 : Int) (p2 : Nat) (a3 : Int) (a4 : Int) (M : fMem) : Option (fMem) := (if 0 ≤ a1 ∧ a1 < 19 then L_X5_halve_32 (fun (v1_11 : Int) (v3_11 : Int) (v5_11 : Int) (v7_11 : Int) (M_11 : fMem) => j_X5_halve_84 v1_11 v3_11 v5_11 v7_11 M_11) 20000 a1 p2 a3 a4 (M 228 a1) (min (M 229 a1) (min a3 (Ln p2))) 0 40 M else none)
set_option maxRecDepth 100000 in
set_option maxHeartbeats 4000000 in
theorem s_X5_halve {G : fG} (hg : gbt G = true) {a1 : Int} (ga1 : rg a1) {p2 : Nat} (hp2 : fTyp p2 12) {a3 : Int} (ga3 : rg a3) {a4 : Int} (ga4 : rg a4) {M : fMem} {q : fMem} (h : f_X5_halve a1 p2 a3 a4 M = some q) : fSp G mX5_halve [rv G 227, iv a1, rv G p2, iv a3, iv a4] M (rV q) fNo := by
  refine fSp_of (by decide +kernel) (by decide +kernel) (fC1 rfl (fC1 rfl (fC1 rfl (fC1 rfl (fC1 rfl fC0))))) (Nat.le_of_ble_eq_true rfl) ?_
  show fW G mX5_halve (fEm G mX5_halve (rV q) fNo) 0 0 0 [some (rv G 227), some (iv a1), some (rv G p2), some (iv a3), some (iv a4), none, none, none, none, none] [] M
  rw [f_X5_halve] at h
  refine fW_rg (fun hR => ?_)
  refine fW_aload_n 1 dX5_halve_0 rfl rfl ?_
  refine fW_getR 4 (r := 228) 0 hg clX5 (by decide) rfl tc_227 tf_5_0 wd_373 dX5_halve_1 rfl ?_
  refine fW_iload_n 5 dX5_halve_4 rfl rfl ?_
  obtain ⟨c1, h⟩ := fS h
  refine fW_iald 6 hg tc_228 ⟨c1.1, by rw [show Ln 228 = 19 from rfl]; exact c1.2⟩ dX5_halve_5 rfl ?_
  refine fW_istore 8 (ls' := [some (rv G 227), some (iv a1), some (rv G p2), some (iv a3), some (iv a4), some (iv (M 228 a1)), none, none, none, none]) dX5_halve_6 rfl rfl (by decide) ?_
  refine fW_aload_n 9 dX5_halve_8 rfl rfl ?_
  refine fW_getR 12 (r := 229) 1 hg clX5 (by decide) rfl tc_227 tf_5_1 wd_375 dX5_halve_9 rfl ?_
  refine fW_iload_n 13 dX5_halve_12 rfl rfl ?_
  refine fW_iald 14 hg tc_229 ⟨c1.1, by rw [show Ln 229 = 19 from rfl]; exact c1.2⟩ dX5_halve_13 rfl ?_
  refine fW_iload_n 15 dX5_halve_14 rfl rfl ?_
  refine fW_aload_n 16 dX5_halve_15 rfl rfl ?_
  refine fW_alen 17 hg hp2 dX5_halve_16 rfl ?_
  refine fW_mmin 20 ga3 (rg_ln p2) wd_839 (by decide) (Nat.le_of_ble_eq_true rfl) (by decide) (by decide) dX5_halve_17 rfl ?_
  refine fW_mmin 23 (hR 229 a1) (rg_min ga3 (rg_ln p2)) wd_839 (by decide) (Nat.le_of_ble_eq_true rfl) (by decide) (by decide) dX5_halve_20 rfl ?_
  refine fW_istore 25 (ls' := [some (rv G 227), some (iv a1), some (rv G p2), some (iv a3), some (iv a4), some (iv (M 228 a1)), some (iv (min (M 229 a1) (min a3 (Ln p2)))), none, none, none]) dX5_halve_23 rfl rfl (by decide) ?_
  refine fW_iconst 26 dX5_halve_25 rfl ?_
  refine fW_istore 28 (ls' := [some (rv G 227), some (iv a1), some (rv G p2), some (iv a3), some (iv a4), some (iv (M 228 a1)), some (iv (min (M 229 a1) (min a3 (Ln p2)))), some (iv 0), none, none]) dX5_halve_26 rfl rfl (by decide) ?_
  refine fW_bipush 30 dX5_halve_28 rfl (by decide) ?_
  refine fW_istore 32 (ls' := [some (rv G 227), some (iv a1), some (rv G p2), some (iv a3), some (iv a4), some (iv (M 228 a1)), some (iv (min (M 229 a1) (min a3 (Ln p2)))), some (iv 0), some (iv 40), none]) dX5_halve_30 rfl rfl (by decide) ?_
  refine fW_sb (l_X5_halve_32 hg ?_ 20000 a1 p2 a3 a4 (M 228 a1) (min (M 229 a1) (min a3 (Ln p2))) 0 40 M ga1 hp2 ga3 ga4 (hR 228 a1) (rg_min (hR 229 a1) (rg_min ga3 (rg_ln p2))) (by decide) (by decide) h) ⟨rfl, rfl, rfl, rfl, rfl, rfl, rfl, rfl, rfl, trivial⟩
  intro v1_11 v3_11 v5_11 v7_11 M_11 gv1_11 gv3_11 gv5_11 gv7_11 h
  refine fW_rg (fun hR_11 => ?_)
  exact fW_sb (i_X5_halve_84 hg gv1_11 gv3_11 gv5_11 gv7_11 h) ⟨rfl, rfl, rfl, rfl, rfl, trivial⟩
def mX5_enter : fMt := (yX5_enter, cX5_enter, 7, some .boolean, { frames := 3, cells := 0, slots := 0, locals := 120 })
theorem miX5_enter : fMv mX5_enter 4 := ⟨⟨fM 848 (by decide +kernel) rfl, fM 99 (by decide +kernel) rfl, ⟨by decide +kernel, by decide +kernel⟩, by decide +kernel⟩, fM 847 (by decide +kernel) rfl, fM 19 (by decide +kernel) rfl⟩
def f_X5_enter (p1 : Nat) (a3 : Int) (a4 : Int) (M : fMem) : Option (Int × fMem) := (if 0 ≤ a3 ∧ a3 < 19 then ((f_X5_narrow p1 a3 M).bind fun (r3 : fMem) => ((f_X5_halve a3 (4 * psO a3.toNat + 152) (r3 (4 * psO a3.toNat + 151) 3) a4 r3).bind fun (r5 : fMem) => ((f_X1_keyAt (4 * psO a3.toNat + 151) (r5 230 a3) r5).bind fun (r7 : Int) => (if r7 = a4 then ((f_X1_placeAt (4 * psO a3.toNat + 151) (r5 230 a3) r5).bind fun (r9 : Int) => (if r9 = ((-1)) then some (1, r5) else some (0, r5))) else some (0, r5))))) else none)
set_option maxRecDepth 100000 in
set_option maxHeartbeats 4000000 in
theorem s_X5_enter {G : fG} (hg : gbt G = true) {p1 : Nat} (hp1 : fTyp p1 7) {a3 : Int} (ga3 : rg a3) {a4 : Int} (ga4 : rg a4) {M : fMem} {q : Int × fMem} (h : f_X5_enter p1 a3 a4 M = some q) : fSp G mX5_enter [rv G 227, rv G p1, rv G 149, iv a3, iv a4] M (rB q.2 q.1) fNo := by
  refine fSp_of (by decide +kernel) (by decide +kernel) (fC1 rfl (fC1 rfl (fC1 rfl (fC1 rfl (fC1 rfl fC0))))) (Nat.le_of_ble_eq_true rfl) ?_
  show fW G mX5_enter (fEm G mX5_enter (rB q.2 q.1) fNo) 0 0 0 [some (rv G 227), some (rv G p1), some (rv G 149), some (iv a3), some (iv a4), none, none] [] M
  rw [f_X5_enter] at h
  refine fW_rg (fun hR => ?_)
  refine fW_aload_n 1 dX5_enter_0 rfl rfl ?_
  refine fW_getR 4 (r := 150) 0 hg clX3 (by decide) rfl tc_149 tf_3_0 wd_362 dX5_enter_1 rfl ?_
  refine fW_iload_n 5 dX5_enter_4 rfl rfl ?_
  obtain ⟨c1, h⟩ := fS h
  have t2 := ta_14 (r := 4 * psO a3.toNat + 151) tc_150 c1 (by omega)
  refine fW_aald 6 2 hg tc_150 (by decide) (by decide) t2.1 t2.2.2 rfl dX5_enter_5 rfl ?_
  refine fW_astore 8 (ls' := [some (rv G 227), some (rv G p1), some (rv G 149), some (iv a3), some (iv a4), some (rv G (4 * psO a3.toNat + 151)), none]) dX5_enter_6 rfl rfl (by decide) ?_
  refine fW_aload_n 9 dX5_enter_8 rfl rfl ?_
  refine fW_aload_n 10 dX5_enter_9 rfl rfl ?_
  refine fW_aload_n 11 dX5_enter_10 rfl rfl ?_
  refine fW_iload_n 12 dX5_enter_11 rfl rfl ?_
  obtain ⟨r3, e3, h⟩ := fBd h
  refine fW_cV (fI_V (as := [rv G p1, rv G 149, iv a3]) (rest := []) miX5_narrow hg clX5 rfl tc_227 wd_849 (fRoom_of rfl) rfl (Nat.le_of_ble_eq_true rfl) dX5_enter_12) (s_X5_narrow hg hp1 ga3 e3) rfl rfl rfl ?_
  refine fW_rg (fun hR4 => ?_)
  refine fW_aload_n 16 dX5_enter_15 rfl rfl ?_
  refine fW_iload_n 17 dX5_enter_16 rfl rfl ?_
  refine fW_aload 19 dX5_enter_17 rfl rfl ?_
  refine fW_getR 22 (r := 4 * psO a3.toNat + 152) 0 hg clX1 (by decide) rfl t2.2.1 (tf_1_0 t2.2.1) wd_341 dX5_enter_19 rfl ?_
  refine fW_aload 24 dX5_enter_22 rfl rfl ?_
  refine fW_getI 27 3 (ji := 3) hg clX1 rfl (by decide) rfl t2.2.1 wd_346 dX5_enter_24 rfl ?_
  refine fW_iload 29 dX5_enter_27 rfl rfl ?_
  obtain ⟨r5, e5, h⟩ := fBd h
  refine fW_cV (fI_V (as := [iv a3, rv G (4 * psO a3.toNat + 152), iv (r3 (4 * psO a3.toNat + 151) 3), iv a4]) (rest := []) miX5_halve hg clX5 rfl tc_227 wd_835 (fRoom_of rfl) rfl (Nat.le_of_ble_eq_true rfl) dX5_enter_29) (s_X5_halve hg ga3 (tt_1_0 t2.2.1) (hR4 (4 * psO a3.toNat + 151) 3) ga4 e5) rfl rfl rfl ?_
  refine fW_rg (fun hR6 => ?_)
  refine fW_aload_n 33 dX5_enter_32 rfl rfl ?_
  refine fW_getR 36 (r := 230) 2 hg clX5 (by decide) rfl tc_227 tf_5_2 wd_377 dX5_enter_33 rfl ?_
  refine fW_iload_n 37 dX5_enter_36 rfl rfl ?_
  refine fW_iald 38 hg tc_230 ⟨c1.1, by rw [show Ln 230 = 19 from rfl]; exact c1.2⟩ dX5_enter_37 rfl ?_
  refine fW_istore 40 (ls' := [some (rv G 227), some (rv G p1), some (rv G 149), some (iv a3), some (iv a4), some (rv G (4 * psO a3.toNat + 151)), some (iv (r5 230 a3))]) dX5_enter_38 rfl rfl (by decide) ?_
  refine fW_aload 42 dX5_enter_40 rfl rfl ?_
  refine fW_iload 44 dX5_enter_42 rfl rfl ?_
  obtain ⟨r7, e7, h⟩ := fBd h
  refine fW_cP (fI_V (as := [iv (r5 230 a3)]) (rest := []) miX1_keyAt hg clX1 rfl t2.2.1 wd_865 (fRoom_of rfl) rfl (Nat.le_of_ble_eq_true rfl) dX5_enter_44) (s_X1_keyAt hg t2.2.1 (hR6 230 a3) e7) rfl rfl rfl (fun g7 => ?_)
  refine fW_iload 49 dX5_enter_47 rfl rfl ?_
  refine fW_icmp_ne 52 67 g7 ga4 dX5_enter_49 rfl rfl (fun c8 => ?_) (fun c8 => ?_)
  · replace h := fFf h c8
    refine fW_iconst 68 dX5_enter_67 rfl ?_
    exact fW_zret rfl (by decide) (by decide) (by decide) dX5_enter_68 (rBI_i h (by decide))
  · replace h := fTt h c8
    refine fW_aload 54 dX5_enter_52 rfl rfl ?_
    refine fW_iload 56 dX5_enter_54 rfl rfl ?_
    obtain ⟨r9, e9, h⟩ := fBd h
    refine fW_cP (fI_V (as := [iv (r5 230 a3)]) (rest := []) miX1_placeAt hg clX1 rfl t2.2.1 wd_866 (fRoom_of rfl) rfl (Nat.le_of_ble_eq_true rfl) dX5_enter_56) (s_X1_placeAt hg t2.2.1 (hR6 230 a3) e9) rfl rfl rfl (fun g9 => ?_)
    refine fW_iconst 60 dX5_enter_59 rfl ?_
    refine fW_icmp_ne 63 67 g9 (by decide) dX5_enter_60 rfl rfl (fun c10 => ?_) (fun c10 => ?_)
    · replace h := fFf h c10
      refine fW_iconst 68 dX5_enter_67 rfl ?_
      exact fW_zret rfl (by decide) (by decide) (by decide) dX5_enter_68 (rBI_i h (by decide))
    · replace h := fTt h c10
      refine fW_iconst 64 dX5_enter_63 rfl ?_
      refine fW_goto 68 dX5_enter_64 rfl ?_
      exact fW_zret rfl (by decide) (by decide) (by decide) dX5_enter_68 (rBI_i h (by decide))
def mX5_follow : fMt := (yX5_follow, cX5_follow, 6, none, { frames := 4, cells := 0, slots := 0, locals := 160 })
theorem miX5_follow : fMv mX5_follow 3 := ⟨⟨fM 844 (by decide +kernel) rfl, fM 99 (by decide +kernel) rfl, ⟨by decide +kernel, by decide +kernel⟩, by decide +kernel⟩, fM 842 (by decide +kernel) rfl, fM 843 (by decide +kernel) rfl⟩
def L_X5_follow_10  (k : fMem → Option (fMem)) : Nat → Nat → Int → Int → Int → fMem → Option (fMem)
  | 0, _, _, _, _, _ => none
  | n + 1, w1, v3, v4, v5, M => (if (M w1 2) ≤ v5 then k  M else (if v4 = 0 then (if 0 ≤ v5 ∧ v5 < 19 then ((f_X5_enter w1 (M (w1 + 2) v5) v3 M).bind fun (r6 : Int × fMem) => L_X5_follow_10  k n w1 v3 r6.1 (v5 + 1) r6.2) else none) else k  M))
set_option maxRecDepth 100000 in
set_option maxHeartbeats 4000000 in
theorem l_X5_follow_10 {G : fG} (hg : gbt G = true)  {q : fMem} {k : fMem → Option (fMem)} (hk : ∀ (M : fMem), k M = some q → fW G mX5_follow (fEm G mX5_follow (rV q) fNo) 0 0 46 [some (rv G 227), none, none, none, none, none] [] M) : ∀ (n : Nat) (w1 : Nat) (v3 : Int) (v4 : Int) (v5 : Int) (M : fMem), fTyp w1 7 → rg v3 → rg v4 → rg v5 → L_X5_follow_10 k n w1 v3 v4 v5 M = some q → fW G mX5_follow (fEm G mX5_follow (rV q) fNo) 0 0 10 [some (rv G 227), some (rv G w1), some (rv G 149), some (iv v3), some (iv v4), some (iv v5)] [] M := by
  intro n
  induction n with
  | zero =>
    intro w1 v3 v4 v5 M tw1 gv3 gv4 gv5 h
    rw [L_X5_follow_10] at h
    exact absurd h (by simp)
  | succ n ih =>
    intro w1 v3 v4 v5 M tw1 gv3 gv4 gv5 h
    rw [L_X5_follow_10] at h
    refine fW_rg (fun hR => ?_)
    refine fW_iload 12 dX5_follow_10 rfl rfl ?_
    refine fW_aload_n 13 dX5_follow_12 rfl rfl ?_
    refine fW_getI 16 2 (ji := 2) hg clX7 rfl (by decide) rfl tw1 wd_191 dX5_follow_13 rfl ?_
    refine fW_icmp_ge 19 46 gv5 (hR w1 2) dX5_follow_16 rfl rfl (fun c3 => ?_) (fun c3 => ?_)
    · replace h := fTt h c3
      exact fW_sb (hk M h) ⟨rfl, trivial⟩
    · replace h := fFf h c3
      refine fW_iload 21 dX5_follow_19 rfl rfl ?_
      refine fW_if_ne 24 46 gv4 dX5_follow_21 rfl rfl (fun c4 => ?_) (fun c4 => ?_)
      · replace h := fFf h c4
        exact fW_sb (hk M h) ⟨rfl, trivial⟩
      · replace h := fTt h c4
        refine fW_aload_n 25 dX5_follow_24 rfl rfl ?_
        refine fW_aload_n 26 dX5_follow_25 rfl rfl ?_
        refine fW_aload_n 27 dX5_follow_26 rfl rfl ?_
        refine fW_aload_n 28 dX5_follow_27 rfl rfl ?_
        refine fW_getR 31 (r := w1 + 2) 1 hg clX7 (by decide) rfl tw1 (tf_7_1 tw1) wd_187 dX5_follow_28 rfl ?_
        refine fW_iload 33 dX5_follow_31 rfl rfl ?_
        obtain ⟨c5, h⟩ := fS h
        refine fW_iald 34 hg (tt_7_1 tw1) ⟨c5.1, by rw [lf_7_1 tw1]; exact c5.2⟩ dX5_follow_33 rfl ?_
        refine fW_iload_n 35 dX5_follow_34 rfl rfl ?_
        obtain ⟨r6, e6, h⟩ := fBd h
        refine fW_cB (fI_V (as := [rv G w1, rv G 149, iv (M (w1 + 2) v5), iv v3]) (rest := []) miX5_enter hg clX5 rfl tc_227 wd_845 (fRoom_of rfl) rfl (Nat.le_of_ble_eq_true rfl) dX5_follow_35) (s_X5_enter hg tw1 (hR (w1 + 2) v5) gv3 e6) rfl rfl rfl (fun g6 => ?_)
        refine fW_rg (fun hR7 => ?_)
        refine fW_istore 40 (ls' := [some (rv G 227), some (rv G w1), some (rv G 149), some (iv v3), some (iv r6.1), some (iv v5)]) dX5_follow_38 rfl rfl (by decide) ?_
        refine fW_iinc 43 (ls' := [some (rv G 227), some (rv G w1), some (rv G 149), some (iv v3), some (iv r6.1), some (iv (v5 + 1))]) dX5_follow_40 rfl rfl rfl (by decide) ?_
        refine fW_goto 10 dX5_follow_43 rfl ?_
        exact fW_sb (ih w1 v3 r6.1 (v5 + 1) r6.2 tw1 gv3 (rg_z g6) (rg_succ' gv5 (hR w1 2) c3) h) ⟨rfl, rfl, rfl, rfl, rfl, rfl, trivial⟩
def f_X5_follow (p1 : Nat) (a3 : Int) (M : fMem) : Option (fMem) := ((f_X5_start M).bind fun (r1 : fMem) => L_X5_follow_10 (fun  (M_8 : fMem) => some M_8) 20000 p1 a3 0 0 r1)
set_option maxRecDepth 100000 in
set_option maxHeartbeats 4000000 in
theorem s_X5_follow {G : fG} (hg : gbt G = true) {p1 : Nat} (hp1 : fTyp p1 7) {a3 : Int} (ga3 : rg a3) {M : fMem} {q : fMem} (h : f_X5_follow p1 a3 M = some q) : fSp G mX5_follow [rv G 227, rv G p1, rv G 149, iv a3] M (rV q) fNo := by
  refine fSp_of (by decide +kernel) (by decide +kernel) (fC1 rfl (fC1 rfl (fC1 rfl (fC1 rfl fC0)))) (Nat.le_of_ble_eq_true rfl) ?_
  show fW G mX5_follow (fEm G mX5_follow (rV q) fNo) 0 0 0 [some (rv G 227), some (rv G p1), some (rv G 149), some (iv a3), none, none] [] M
  rw [f_X5_follow] at h
  refine fW_rg (fun hR => ?_)
  refine fW_aload_n 1 dX5_follow_0 rfl rfl ?_
  obtain ⟨r1, e1, h⟩ := fBd h
  refine fW_cV (fI_V (as := []) (rest := []) miX5_start hg clX5 rfl tc_227 wd_831 (fRoom_of rfl) rfl (Nat.le_of_ble_eq_true rfl) dX5_follow_1) (s_X5_start hg e1) rfl rfl rfl ?_
  refine fW_rg (fun hR2 => ?_)
  refine fW_iconst 5 dX5_follow_4 rfl ?_
  refine fW_istore 7 (ls' := [some (rv G 227), some (rv G p1), some (rv G 149), some (iv a3), some (iv 0), none]) dX5_follow_5 rfl rfl (by decide) ?_
  refine fW_iconst 8 dX5_follow_7 rfl ?_
  refine fW_istore 10 (ls' := [some (rv G 227), some (rv G p1), some (rv G 149), some (iv a3), some (iv 0), some (iv 0)]) dX5_follow_8 rfl rfl (by decide) ?_
  refine fW_sb (l_X5_follow_10 hg ?_ 20000 p1 a3 0 0 r1 hp1 ga3 (by decide) (by decide) h) ⟨rfl, rfl, rfl, rfl, rfl, rfl, trivial⟩
  intro M_8 h
  refine fW_rg (fun hR_8 => ?_)
  exact fW_vret rfl (by decide) (by decide) dX5_follow_46 (rV_i h)
def mX5_followAll : fMt := (yX5_followAll, cX5_followAll, 5, none, { frames := 4, cells := 0, slots := 0, locals := 160 })
theorem miX5_followAll : fMv mX5_followAll 3 := ⟨⟨fM 895 (by decide +kernel) rfl, fM 99 (by decide +kernel) rfl, ⟨by decide +kernel, by decide +kernel⟩, by decide +kernel⟩, fM 893 (by decide +kernel) rfl, fM 894 (by decide +kernel) rfl⟩
def L_X5_followAll_7  (k : fMem → Option (fMem)) : Nat → Nat → Int → Int → fMem → Option (fMem)
  | 0, _, _, _, _ => none
  | n + 1, w1, v3, v4, M => (if (M w1 2) ≤ v4 then k  M else (if 0 ≤ v4 ∧ v4 < 19 then ((f_X5_enter w1 (M (w1 + 2) v4) v3 M).bind fun (r5 : Int × fMem) => L_X5_followAll_7  k n w1 v3 (v4 + 1) r5.2) else none))
set_option maxRecDepth 100000 in
set_option maxHeartbeats 4000000 in
theorem l_X5_followAll_7 {G : fG} (hg : gbt G = true)  {q : fMem} {k : fMem → Option (fMem)} (hk : ∀ (M : fMem), k M = some q → fW G mX5_followAll (fEm G mX5_followAll (rV q) fNo) 0 0 37 [some (rv G 227), none, none, none, none] [] M) : ∀ (n : Nat) (w1 : Nat) (v3 : Int) (v4 : Int) (M : fMem), fTyp w1 7 → rg v3 → rg v4 → L_X5_followAll_7 k n w1 v3 v4 M = some q → fW G mX5_followAll (fEm G mX5_followAll (rV q) fNo) 0 0 7 [some (rv G 227), some (rv G w1), some (rv G 149), some (iv v3), some (iv v4)] [] M := by
  intro n
  induction n with
  | zero =>
    intro w1 v3 v4 M tw1 gv3 gv4 h
    rw [L_X5_followAll_7] at h
    exact absurd h (by simp)
  | succ n ih =>
    intro w1 v3 v4 M tw1 gv3 gv4 h
    rw [L_X5_followAll_7] at h
    refine fW_rg (fun hR => ?_)
    refine fW_iload 9 dX5_followAll_7 rfl rfl ?_
    refine fW_aload_n 10 dX5_followAll_9 rfl rfl ?_
    refine fW_getI 13 2 (ji := 2) hg clX7 rfl (by decide) rfl tw1 wd_191 dX5_followAll_10 rfl ?_
    refine fW_icmp_ge 16 37 gv4 (hR w1 2) dX5_followAll_13 rfl rfl (fun c3 => ?_) (fun c3 => ?_)
    · replace h := fTt h c3
      exact fW_sb (hk M h) ⟨rfl, trivial⟩
    · replace h := fFf h c3
      refine fW_aload_n 17 dX5_followAll_16 rfl rfl ?_
      refine fW_aload_n 18 dX5_followAll_17 rfl rfl ?_
      refine fW_aload_n 19 dX5_followAll_18 rfl rfl ?_
      refine fW_aload_n 20 dX5_followAll_19 rfl rfl ?_
      refine fW_getR 23 (r := w1 + 2) 1 hg clX7 (by decide) rfl tw1 (tf_7_1 tw1) wd_187 dX5_followAll_20 rfl ?_
      refine fW_iload 25 dX5_followAll_23 rfl rfl ?_
      obtain ⟨c4, h⟩ := fS h
      refine fW_iald 26 hg (tt_7_1 tw1) ⟨c4.1, by rw [lf_7_1 tw1]; exact c4.2⟩ dX5_followAll_25 rfl ?_
      refine fW_iload_n 27 dX5_followAll_26 rfl rfl ?_
      obtain ⟨r5, e5, h⟩ := fBd h
      refine fW_cB (fI_V (as := [rv G w1, rv G 149, iv (M (w1 + 2) v4), iv v3]) (rest := []) miX5_enter hg clX5 rfl tc_227 wd_845 (fRoom_of rfl) rfl (Nat.le_of_ble_eq_true rfl) dX5_followAll_27) (s_X5_enter hg tw1 (hR (w1 + 2) v4) gv3 e5) rfl rfl rfl (fun g5 => ?_)
      refine fW_rg (fun hR6 => ?_)
      refine fW_pop 31 dX5_followAll_30 rfl rfl ?_
      refine fW_iinc 34 (ls' := [some (rv G 227), some (rv G w1), some (rv G 149), some (iv v3), some (iv (v4 + 1))]) dX5_followAll_31 rfl rfl rfl (by decide) ?_
      refine fW_goto 7 dX5_followAll_34 rfl ?_
      exact fW_sb (ih w1 v3 (v4 + 1) r5.2 tw1 gv3 (rg_succ' gv4 (hR w1 2) c3) h) ⟨rfl, rfl, rfl, rfl, rfl, trivial⟩
def f_X5_followAll (p1 : Nat) (a3 : Int) (M : fMem) : Option (fMem) := ((f_X5_start M).bind fun (r1 : fMem) => L_X5_followAll_7 (fun  (M_7 : fMem) => some M_7) 20000 p1 a3 0 r1)
set_option maxRecDepth 100000 in
set_option maxHeartbeats 4000000 in
theorem s_X5_followAll {G : fG} (hg : gbt G = true) {p1 : Nat} (hp1 : fTyp p1 7) {a3 : Int} (ga3 : rg a3) {M : fMem} {q : fMem} (h : f_X5_followAll p1 a3 M = some q) : fSp G mX5_followAll [rv G 227, rv G p1, rv G 149, iv a3] M (rV q) fNo := by
  refine fSp_of (by decide +kernel) (by decide +kernel) (fC1 rfl (fC1 rfl (fC1 rfl (fC1 rfl fC0)))) (Nat.le_of_ble_eq_true rfl) ?_
  show fW G mX5_followAll (fEm G mX5_followAll (rV q) fNo) 0 0 0 [some (rv G 227), some (rv G p1), some (rv G 149), some (iv a3), none] [] M
  rw [f_X5_followAll] at h
  refine fW_rg (fun hR => ?_)
  refine fW_aload_n 1 dX5_followAll_0 rfl rfl ?_
  obtain ⟨r1, e1, h⟩ := fBd h
  refine fW_cV (fI_V (as := []) (rest := []) miX5_start hg clX5 rfl tc_227 wd_831 (fRoom_of rfl) rfl (Nat.le_of_ble_eq_true rfl) dX5_followAll_1) (s_X5_start hg e1) rfl rfl rfl ?_
  refine fW_rg (fun hR2 => ?_)
  refine fW_iconst 5 dX5_followAll_4 rfl ?_
  refine fW_istore 7 (ls' := [some (rv G 227), some (rv G p1), some (rv G 149), some (iv a3), some (iv 0)]) dX5_followAll_5 rfl rfl (by decide) ?_
  refine fW_sb (l_X5_followAll_7 hg ?_ 20000 p1 a3 0 r1 hp1 ga3 (by decide) h) ⟨rfl, rfl, rfl, rfl, rfl, trivial⟩
  intro M_7 h
  refine fW_rg (fun hR_7 => ?_)
  exact fW_vret rfl (by decide) (by decide) dX5_followAll_37 (rV_i h)
end MTH
