section MTH
def mX11_acts : fMt := (yX11_acts, cX11_acts, 6, some .int, { frames := 8, cells := 0, slots := 0, locals := 320 })
theorem miX11_acts : fMv mX11_acts 2 := ⟨⟨fM 1281 (by decide +kernel) rfl, fM 101 (by decide +kernel) rfl, ⟨by decide +kernel, by decide +kernel⟩, by decide +kernel⟩, fM 1280 (by decide +kernel) rfl, fM 30 (by decide +kernel) rfl⟩
def L_X11_acts_2  (k : Int → Int → Int → fMem → Option (Int × fMem)) : Nat → Int → Int → Int → fMem → Option (Int × fMem)
  | 0, _, _, _, _ => none
  | n + 1, v1, v2, v3, M => ((f_X11_firstFree 0 M).bind fun (r1 : Int) => (if r1 = ((-1)) then ((f_X11_step M).bind fun (r3 : Int × fMem) => (if r3.1 = 0 then k v1 v2 v3 r3.2 else (if -2147483648 ≤ v3 + 1 ∧ v3 + 1 < 2147483648 then L_X11_acts_2  k n v1 v2 (v3 + 1) r3.2 else none))) else k v1 v2 v3 M))
set_option maxRecDepth 100000 in
set_option maxHeartbeats 4000000 in
theorem l_X11_acts_2 {G : fG} (hg : gbt G = true)  {q : Int × fMem} {k : Int → Int → Int → fMem → Option (Int × fMem)} (hk : ∀ (v1 : Int) (v2 : Int) (v3 : Int) (M : fMem), rg v1 → rg v2 → rg v3 → k v1 v2 v3 M = some q → fW G mX11_acts (fEm G mX11_acts (rP q.2 q.1) fNo) 0 0 24 [some (rv G 418), some (iv v1), some (iv v2), some (iv v3), none, none] [] M) : ∀ (n : Nat) (v1 : Int) (v2 : Int) (v3 : Int) (M : fMem), rg v1 → rg v2 → rg v3 → L_X11_acts_2 k n v1 v2 v3 M = some q → fW G mX11_acts (fEm G mX11_acts (rP q.2 q.1) fNo) 0 0 2 [some (rv G 418), some (iv v1), some (iv v2), some (iv v3), none, none] [] M := by
  intro n
  induction n with
  | zero =>
    intro v1 v2 v3 M gv1 gv2 gv3 h
    rw [L_X11_acts_2] at h
    exact absurd h (by simp)
  | succ n ih =>
    intro v1 v2 v3 M gv1 gv2 gv3 h
    rw [L_X11_acts_2] at h
    refine fW_rg (fun hR => ?_)
    refine fW_aload_n 3 dX11_acts_2 rfl rfl ?_
    refine fW_iconst 4 dX11_acts_3 rfl ?_
    obtain ⟨r1, e1, h⟩ := fBd h
    refine fW_cP (fI_V (as := [iv 0]) (rest := []) miX11_firstFree hg clX11 rfl tc_418 wd_1282 (fRoom_of rfl) rfl (Nat.le_of_ble_eq_true rfl) dX11_acts_4) (s_X11_firstFree hg (by decide) e1) rfl rfl rfl (fun g1 => ?_)
    refine fW_iconst 8 dX11_acts_7 rfl ?_
    refine fW_icmp_ne 11 24 g1 (by decide) dX11_acts_8 rfl rfl (fun c2 => ?_) (fun c2 => ?_)
    · replace h := fFf h c2
      exact fW_sb (hk v1 v2 v3 M gv1 gv2 gv3 h) ⟨rfl, rfl, rfl, rfl, trivial⟩
    · replace h := fTt h c2
      refine fW_aload_n 12 dX11_acts_11 rfl rfl ?_
      obtain ⟨r3, e3, h⟩ := fBd h
      refine fW_cB (fI_V (as := []) (rest := []) miX11_step hg clX11 rfl tc_418 wd_1292 (fRoom_of rfl) rfl (Nat.le_of_ble_eq_true rfl) dX11_acts_12) (s_X11_step hg e3) rfl rfl rfl (fun g3 => ?_)
      refine fW_rg (fun hR4 => ?_)
      refine fW_if_eq 18 24 (rg_z g3) dX11_acts_15 rfl rfl (fun c5 => ?_) (fun c5 => ?_)
      · replace h := fTt h c5
        exact fW_sb (hk v1 v2 v3 r3.2 gv1 gv2 gv3 h) ⟨rfl, rfl, rfl, rfl, trivial⟩
      · replace h := fFf h c5
        refine fW_iinc 21 (ls' := [some (rv G 418), some (iv v1), some (iv v2), some (iv (v3 + 1)), none, none]) dX11_acts_18 rfl rfl rfl (by decide) ?_
        refine fW_goto 2 dX11_acts_21 rfl ?_
        obtain ⟨c6, h⟩ := fS h
        exact fW_sb (ih v1 v2 (v3 + 1) r3.2 gv1 gv2 c6 h) ⟨rfl, rfl, rfl, rfl, trivial⟩
def j_X11_acts_24  (v1 : Int) (v2 : Int) (v3 : Int) (M : fMem) : Option (Int × fMem) := ((f_X11_firstFree 0 M).bind fun (r8 : Int) => (if 0 ≤ 200 * r8 ∧ 200 * r8 < 7787 then ((some (mset M 419 (200 * r8) v1)).bind fun (N10 : fMem) => (if 0 ≤ 3800 + (200 * r8) ∧ 3800 + (200 * r8) < 7787 then ((some (mset N10 419 (3800 + (200 * r8)) v2)).bind fun (N12 : fMem) => (if 0 ≤ 7600 + r8 ∧ 7600 + r8 < 7787 then ((some (mset N12 419 (7600 + r8) 1)).bind fun (N14 : fMem) => ((f_X11_shuts r8 N14).bind fun (r15 : fMem) => ((f_X11_asksAll r15).bind fun (r17 : fMem) => ((f_X11_takes (r17 419 7739) r17).bind fun (r19 : Int × fMem) => (if 0 ≤ r19.2 419 7741 then (if 0 ≤ 7747 + ((r19.2 419 7741) % 40) ∧ 7747 + ((r19.2 419 7741) % 40) < 7787 then (if -2147483648 ≤ v3 + r19.1 ∧ v3 + r19.1 < 2147483648 then ((some (mset r19.2 419 (7747 + ((r19.2 419 7741) % 40)) (v3 + r19.1))).bind fun (N24 : fMem) => (if -2147483648 ≤ (N24 419 7741) + 1 ∧ (N24 419 7741) + 1 < 2147483648 then ((some (mset N24 419 7741 ((N24 419 7741) + 1))).bind fun (N26 : fMem) => (if -2147483648 ≤ (N26 419 7743) + v3 ∧ (N26 419 7743) + v3 < 2147483648 then ((some (mset N26 419 7743 ((N26 419 7743) + v3))).bind fun (N28 : fMem) => (if (v3 + r19.1) ≤ (N28 419 7744) then ((some (mset N28 419 7744 (N28 419 7744))).bind fun (N30 : fMem) => some (v3 + r19.1, N30)) else ((some (mset N28 419 7744 (v3 + r19.1))).bind fun (N31 : fMem) => some (v3 + r19.1, N31)))) else none)) else none)) else none) else none) else none))))) else none)) else none)) else none))
set_option maxRecDepth 100000 in
set_option maxHeartbeats 4000000 in
theorem i_X11_acts_24 {G : fG} (hg : gbt G = true)  {v1 : Int} {v2 : Int} {v3 : Int} (gv1 : rg v1) (gv2 : rg v2) (gv3 : rg v3) {M : fMem} {q : Int × fMem} (h : j_X11_acts_24 v1 v2 v3 M = some q) : fW G mX11_acts (fEm G mX11_acts (rP q.2 q.1) fNo) 0 0 24 [some (rv G 418), some (iv v1), some (iv v2), some (iv v3), none, none] [] M := by
  rw [j_X11_acts_24] at h
  refine fW_rg (fun hR => ?_)
  refine fW_aload_n 25 dX11_acts_24 rfl rfl ?_
  refine fW_iconst 26 dX11_acts_25 rfl ?_
  obtain ⟨r8, e8, h⟩ := fBd h
  refine fW_cP (fI_V (as := [iv 0]) (rest := []) miX11_firstFree hg clX11 rfl tc_418 wd_1282 (fRoom_of rfl) rfl (Nat.le_of_ble_eq_true rfl) dX11_acts_26) (s_X11_firstFree hg (by decide) e8) rfl rfl rfl (fun g8 => ?_)
  refine fW_istore 31 (ls' := [some (rv G 418), some (iv v1), some (iv v2), some (iv v3), some (iv r8), none]) dX11_acts_29 rfl rfl (by decide) ?_
  refine fW_aload_n 32 dX11_acts_31 rfl rfl ?_
  refine fW_getR 35 (r := 419) 0 hg clX11 (by decide) rfl tc_418 tf_11_0 wd_1174 dX11_acts_32 rfl ?_
  refine fW_sipush 38 dX11_acts_35 rfl (by decide) ?_
  refine fW_iload 40 dX11_acts_38 rfl rfl ?_
  refine fW_imul 41 dX11_acts_40 rfl ?_
  refine fW_iload_n 42 dX11_acts_41 rfl rfl ?_
  obtain ⟨c9, h⟩ := fS h
  obtain ⟨N10, e10, h⟩ := fBd h
  replace e10 := Option.some.inj e10
  refine fW_iast 43 hg tc_419 ⟨c9.1, by rw [show Ln 419 = 7787 from rfl]; exact c9.2⟩ gv1 dX11_acts_42 rfl ?_
  rw [e10]
  refine fW_rg (fun hR10 => ?_)
  refine fW_aload_n 44 dX11_acts_43 rfl rfl ?_
  refine fW_getR 47 (r := 419) 0 hg clX11 (by decide) rfl tc_418 tf_11_0 wd_1174 dX11_acts_44 rfl ?_
  refine fW_sipush 50 dX11_acts_47 rfl (by decide) ?_
  refine fW_sipush 53 dX11_acts_50 rfl (by decide) ?_
  refine fW_iload 55 dX11_acts_53 rfl rfl ?_
  refine fW_imul 56 dX11_acts_55 rfl ?_
  refine fW_iadd 57 dX11_acts_56 rfl ?_
  refine fW_iload_n 58 dX11_acts_57 rfl rfl ?_
  obtain ⟨c11, h⟩ := fS h
  obtain ⟨N12, e12, h⟩ := fBd h
  replace e12 := Option.some.inj e12
  refine fW_iast 59 hg tc_419 ⟨c11.1, by rw [show Ln 419 = 7787 from rfl]; exact c11.2⟩ gv2 dX11_acts_58 rfl ?_
  rw [e12]
  refine fW_rg (fun hR12 => ?_)
  refine fW_aload_n 60 dX11_acts_59 rfl rfl ?_
  refine fW_getR 63 (r := 419) 0 hg clX11 (by decide) rfl tc_418 tf_11_0 wd_1174 dX11_acts_60 rfl ?_
  refine fW_sipush 66 dX11_acts_63 rfl (by decide) ?_
  refine fW_iload 68 dX11_acts_66 rfl rfl ?_
  refine fW_iadd 69 dX11_acts_68 rfl ?_
  refine fW_iconst 70 dX11_acts_69 rfl ?_
  obtain ⟨c13, h⟩ := fS h
  obtain ⟨N14, e14, h⟩ := fBd h
  replace e14 := Option.some.inj e14
  refine fW_iast 71 hg tc_419 ⟨c13.1, by rw [show Ln 419 = 7787 from rfl]; exact c13.2⟩ (by decide) dX11_acts_70 rfl ?_
  rw [e14]
  refine fW_rg (fun hR14 => ?_)
  refine fW_aload_n 72 dX11_acts_71 rfl rfl ?_
  refine fW_iload 74 dX11_acts_72 rfl rfl ?_
  obtain ⟨r15, e15, h⟩ := fBd h
  refine fW_cV (fI_V (as := [iv r8]) (rest := []) miX11_shuts hg clX11 rfl tc_418 wd_1324 (fRoom_of rfl) rfl (Nat.le_of_ble_eq_true rfl) dX11_acts_74) (s_X11_shuts hg g8 e15) rfl rfl rfl ?_
  refine fW_rg (fun hR16 => ?_)
  refine fW_aload_n 78 dX11_acts_77 rfl rfl ?_
  obtain ⟨r17, e17, h⟩ := fBd h
  refine fW_cV (fI_V (as := []) (rest := []) miX11_asksAll hg clX11 rfl tc_418 wd_1328 (fRoom_of rfl) rfl (Nat.le_of_ble_eq_true rfl) dX11_acts_78) (s_X11_asksAll hg e17) rfl rfl rfl ?_
  refine fW_rg (fun hR18 => ?_)
  refine fW_iload_n 82 dX11_acts_81 rfl rfl ?_
  refine fW_aload_n 83 dX11_acts_82 rfl rfl ?_
  refine fW_aload_n 84 dX11_acts_83 rfl rfl ?_
  refine fW_getR 87 (r := 419) 0 hg clX11 (by decide) rfl tc_418 tf_11_0 wd_1174 dX11_acts_84 rfl ?_
  refine fW_sipush 90 dX11_acts_87 rfl (by decide) ?_
  refine fW_iald 91 hg tc_419 ⟨by decide, by rw [show Ln 419 = 7787 from rfl]; decide⟩ dX11_acts_90 rfl ?_
  obtain ⟨r19, e19, h⟩ := fBd h
  refine fW_cP (fI_V (as := [iv (r17 419 7739)]) (rest := [iv v3]) miX11_takes hg clX11 rfl tc_418 wd_1356 (fRoom_of rfl) rfl (Nat.le_of_ble_eq_true rfl) dX11_acts_91) (s_X11_takes hg (hR18 419 7739) e19) rfl rfl rfl (fun g19 => ?_)
  refine fW_rg (fun hR20 => ?_)
  refine fW_iadd 95 dX11_acts_94 rfl ?_
  refine fW_istore 97 (ls' := [some (rv G 418), some (iv v1), some (iv v2), some (iv v3), some (iv r8), some (iv (v3 + r19.1))]) dX11_acts_95 rfl rfl (by decide) ?_
  refine fW_aload_n 98 dX11_acts_97 rfl rfl ?_
  refine fW_getR 101 (r := 419) 0 hg clX11 (by decide) rfl tc_418 tf_11_0 wd_1174 dX11_acts_98 rfl ?_
  refine fW_sipush 104 dX11_acts_101 rfl (by decide) ?_
  refine fW_aload_n 105 dX11_acts_104 rfl rfl ?_
  refine fW_getR 108 (r := 419) 0 hg clX11 (by decide) rfl tc_418 tf_11_0 wd_1174 dX11_acts_105 rfl ?_
  refine fW_sipush 111 dX11_acts_108 rfl (by decide) ?_
  refine fW_iald 112 hg tc_419 ⟨by decide, by rw [show Ln 419 = 7787 from rfl]; decide⟩ dX11_acts_111 rfl ?_
  refine fW_bipush 114 dX11_acts_112 rfl (by decide) ?_
  obtain ⟨c21, h⟩ := fS h
  refine fW_irem 115 ⟨c21, (hR20 419 7741).2⟩ (by decide) dX11_acts_114 rfl ?_
  refine fW_iadd 116 dX11_acts_115 rfl ?_
  refine fW_iload 118 dX11_acts_116 rfl rfl ?_
  obtain ⟨c22, h⟩ := fS h
  obtain ⟨c23, h⟩ := fS h
  obtain ⟨N24, e24, h⟩ := fBd h
  replace e24 := Option.some.inj e24
  refine fW_iast 119 hg tc_419 ⟨c22.1, by rw [show Ln 419 = 7787 from rfl]; exact c22.2⟩ c23 dX11_acts_118 rfl ?_
  rw [e24]
  refine fW_rg (fun hR24 => ?_)
  refine fW_aload_n 120 dX11_acts_119 rfl rfl ?_
  refine fW_getR 123 (r := 419) 0 hg clX11 (by decide) rfl tc_418 tf_11_0 wd_1174 dX11_acts_120 rfl ?_
  refine fW_sipush 126 dX11_acts_123 rfl (by decide) ?_
  refine fW_dup2 127 dX11_acts_126 rfl rfl rfl ?_
  refine fW_iald 128 hg tc_419 ⟨by decide, by rw [show Ln 419 = 7787 from rfl]; decide⟩ dX11_acts_127 rfl ?_
  refine fW_iconst 129 dX11_acts_128 rfl ?_
  refine fW_iadd 130 dX11_acts_129 rfl ?_
  obtain ⟨c25, h⟩ := fS h
  obtain ⟨N26, e26, h⟩ := fBd h
  replace e26 := Option.some.inj e26
  refine fW_iast 131 hg tc_419 ⟨by decide, by rw [show Ln 419 = 7787 from rfl]; decide⟩ c25 dX11_acts_130 rfl ?_
  rw [e26]
  refine fW_rg (fun hR26 => ?_)
  refine fW_aload_n 132 dX11_acts_131 rfl rfl ?_
  refine fW_getR 135 (r := 419) 0 hg clX11 (by decide) rfl tc_418 tf_11_0 wd_1174 dX11_acts_132 rfl ?_
  refine fW_sipush 138 dX11_acts_135 rfl (by decide) ?_
  refine fW_dup2 139 dX11_acts_138 rfl rfl rfl ?_
  refine fW_iald 140 hg tc_419 ⟨by decide, by rw [show Ln 419 = 7787 from rfl]; decide⟩ dX11_acts_139 rfl ?_
  refine fW_iload_n 141 dX11_acts_140 rfl rfl ?_
  refine fW_iadd 142 dX11_acts_141 rfl ?_
  obtain ⟨c27, h⟩ := fS h
  obtain ⟨N28, e28, h⟩ := fBd h
  replace e28 := Option.some.inj e28
  refine fW_iast 143 hg tc_419 ⟨by decide, by rw [show Ln 419 = 7787 from rfl]; decide⟩ c27 dX11_acts_142 rfl ?_
  rw [e28]
  refine fW_rg (fun hR28 => ?_)
  refine fW_aload_n 144 dX11_acts_143 rfl rfl ?_
  refine fW_getR 147 (r := 419) 0 hg clX11 (by decide) rfl tc_418 tf_11_0 wd_1174 dX11_acts_144 rfl ?_
  refine fW_sipush 150 dX11_acts_147 rfl (by decide) ?_
  refine fW_iload 152 dX11_acts_150 rfl rfl ?_
  refine fW_aload_n 153 dX11_acts_152 rfl rfl ?_
  refine fW_getR 156 (r := 419) 0 hg clX11 (by decide) rfl tc_418 tf_11_0 wd_1174 dX11_acts_153 rfl ?_
  refine fW_sipush 159 dX11_acts_156 rfl (by decide) ?_
  refine fW_iald 160 hg tc_419 ⟨by decide, by rw [show Ln 419 = 7787 from rfl]; decide⟩ dX11_acts_159 rfl ?_
  refine fW_icmp_le 163 168 c23 (hR28 419 7744) dX11_acts_160 rfl rfl (fun c29 => ?_) (fun c29 => ?_)
  · replace h := fTt h c29
    refine fW_aload_n 169 dX11_acts_168 rfl rfl ?_
    refine fW_getR 172 (r := 419) 0 hg clX11 (by decide) rfl tc_418 tf_11_0 wd_1174 dX11_acts_169 rfl ?_
    refine fW_sipush 175 dX11_acts_172 rfl (by decide) ?_
    refine fW_iald 176 hg tc_419 ⟨by decide, by rw [show Ln 419 = 7787 from rfl]; decide⟩ dX11_acts_175 rfl ?_
    obtain ⟨N30, e30, h⟩ := fBd h
    replace e30 := Option.some.inj e30
    refine fW_iast 177 hg tc_419 ⟨by decide, by rw [show Ln 419 = 7787 from rfl]; decide⟩ (hR28 419 7744) dX11_acts_176 rfl ?_
    rw [e30]
    refine fW_rg (fun hR30 => ?_)
    refine fW_iload 179 dX11_acts_177 rfl rfl ?_
    exact fW_iret rfl (by decide) (by decide) dX11_acts_179 (rI_i h c23)
  · replace h := fFf h c29
    refine fW_iload 165 dX11_acts_163 rfl rfl ?_
    refine fW_goto 176 dX11_acts_165 rfl ?_
    obtain ⟨N31, e31, h⟩ := fBd h
    replace e31 := Option.some.inj e31
    refine fW_iast 177 hg tc_419 ⟨by decide, by rw [show Ln 419 = 7787 from rfl]; decide⟩ c23 dX11_acts_176 rfl ?_
    rw [e31]
    refine fW_rg (fun hR31 => ?_)
    refine fW_iload 179 dX11_acts_177 rfl rfl ?_
    exact fW_iret rfl (by decide) (by decide) dX11_acts_179 (rI_i h c23)
def f_X11_acts (a1 : Int) (a2 : Int) (M : fMem) : Option (Int × fMem) := L_X11_acts_2 (fun (v1_7 : Int) (v2_7 : Int) (v3_7 : Int) (M_7 : fMem) => j_X11_acts_24 v1_7 v2_7 v3_7 M_7) 2000000 a1 a2 0 M
set_option maxRecDepth 100000 in
set_option maxHeartbeats 4000000 in
theorem s_X11_acts {G : fG} (hg : gbt G = true) {a1 : Int} (ga1 : rg a1) {a2 : Int} (ga2 : rg a2) {M : fMem} {q : Int × fMem} (h : f_X11_acts a1 a2 M = some q) : fSp G mX11_acts [rv G 418, iv a1, iv a2] M (rP q.2 q.1) fNo := by
  refine fSp_of (by decide +kernel) (by decide +kernel) (fC1 rfl (fC1 rfl (fC1 rfl fC0))) (Nat.le_of_ble_eq_true rfl) ?_
  show fW G mX11_acts (fEm G mX11_acts (rP q.2 q.1) fNo) 0 0 0 [some (rv G 418), some (iv a1), some (iv a2), none, none, none] [] M
  rw [f_X11_acts] at h
  refine fW_rg (fun hR => ?_)
  refine fW_iconst 1 dX11_acts_0 rfl ?_
  refine fW_istore_n 2 (ls' := [some (rv G 418), some (iv a1), some (iv a2), some (iv 0), none, none]) dX11_acts_1 rfl rfl rfl (by decide) ?_
  refine fW_sb (l_X11_acts_2 hg ?_ 2000000 a1 a2 0 M ga1 ga2 (by decide) h) ⟨rfl, rfl, rfl, rfl, trivial⟩
  intro v1_7 v2_7 v3_7 M_7 gv1_7 gv2_7 gv3_7 h
  refine fW_rg (fun hR_7 => ?_)
  exact fW_sb (i_X11_acts_24 hg gv1_7 gv2_7 gv3_7 h) ⟨rfl, rfl, rfl, rfl, trivial⟩
def mX11_lays : fMt := (yX11_lays, cX11_lays, 3, none, { frames := 0, cells := 0, slots := 0, locals := 0 })
theorem miX11_lays : fMv mX11_lays 1 := ⟨⟨fM 1267 (by decide +kernel) rfl, fM 101 (by decide +kernel) rfl, ⟨by decide +kernel, by decide +kernel⟩, by decide +kernel⟩, fM 1266 (by decide +kernel) rfl, fM 29 (by decide +kernel) rfl⟩
def L_X11_lays_3  (k : fMem → Option (fMem)) : Nat → Int → Int → fMem → Option (fMem)
  | 0, _, _, _ => none
  | n + 1, v1, v2, M => (if v2 < 0 then k  M else (if 0 ≤ v2 ∧ v2 < 32 then (if 0 ≤ M 418 3 ∧ M 418 3 < 200 then (if -2147483648 ≤ (v1 / 2 ^ v2.toNat) % 2 ^ 8 ∧ (v1 / 2 ^ v2.toNat) % 2 ^ 8 < 2147483648 then ((some (mset M 421 (M 418 3) ((v1 / 2 ^ v2.toNat) % 2 ^ 8))).bind fun (N5 : fMem) => (if -2147483648 ≤ (N5 418 3) + 1 ∧ (N5 418 3) + 1 < 2147483648 then ((some (mset N5 418 3 ((N5 418 3) + 1))).bind fun (N7 : fMem) => (if -2147483648 ≤ v2 + (-8) ∧ v2 + (-8) < 2147483648 then L_X11_lays_3  k n v1 (v2 + (-8)) N7 else none)) else none)) else none) else none) else none))
set_option maxRecDepth 100000 in
set_option maxHeartbeats 4000000 in
theorem l_X11_lays_3 {G : fG} (hg : gbt G = true)  {q : fMem} {k : fMem → Option (fMem)} (hk : ∀ (M : fMem), k M = some q → fW G mX11_lays (fEm G mX11_lays (rV q) fNo) 0 0 39 [some (rv G 418), none, none] [] M) : ∀ (n : Nat) (v1 : Int) (v2 : Int) (M : fMem), rg v1 → rg v2 → L_X11_lays_3 k n v1 v2 M = some q → fW G mX11_lays (fEm G mX11_lays (rV q) fNo) 0 0 3 [some (rv G 418), some (iv v1), some (iv v2)] [] M := by
  intro n
  induction n with
  | zero =>
    intro v1 v2 M gv1 gv2 h
    rw [L_X11_lays_3] at h
    exact absurd h (by simp)
  | succ n ih =>
    intro v1 v2 M gv1 gv2 h
    rw [L_X11_lays_3] at h
    refine fW_rg (fun hR => ?_)
    refine fW_iload_n 4 dX11_lays_3 rfl rfl ?_
    refine fW_if_lt 7 39 gv2 dX11_lays_4 rfl rfl (fun c1 => ?_) (fun c1 => ?_)
    · replace h := fTt h c1
      exact fW_sb (hk M h) ⟨rfl, trivial⟩
    · replace h := fFf h c1
      refine fW_aload_n 8 dX11_lays_7 rfl rfl ?_
      refine fW_getR 11 (r := 421) 2 hg clX11 (by decide) rfl tc_418 tf_11_2 wd_1176 dX11_lays_8 rfl ?_
      refine fW_aload_n 12 dX11_lays_11 rfl rfl ?_
      refine fW_getI 15 3 (ji := 3) hg clX11 rfl (by decide) rfl tc_418 wd_1177 dX11_lays_12 rfl ?_
      refine fW_iload_n 16 dX11_lays_15 rfl rfl ?_
      refine fW_iload_n 17 dX11_lays_16 rfl rfl ?_
      obtain ⟨c2, h⟩ := fS h
      refine fW_ishr 18 gv1 c2 dX11_lays_17 rfl ?_
      refine fW_sipush 21 dX11_lays_18 rfl (by decide) ?_
      refine fW_iand 22 8 (by decide) (by decide) dX11_lays_21 rfl ?_
      obtain ⟨c3, h⟩ := fS h
      obtain ⟨c4, h⟩ := fS h
      obtain ⟨N5, e5, h⟩ := fBd h
      replace e5 := Option.some.inj e5
      refine fW_iast 23 hg tc_421 ⟨c3.1, by rw [show Ln 421 = 200 from rfl]; exact c3.2⟩ c4 dX11_lays_22 rfl ?_
      rw [e5]
      refine fW_rg (fun hR5 => ?_)
      refine fW_aload_n 24 dX11_lays_23 rfl rfl ?_
      refine fW_dup 25 dX11_lays_24 rfl rfl ?_
      refine fW_getI 28 3 (ji := 3) hg clX11 rfl (by decide) rfl tc_418 wd_1177 dX11_lays_25 rfl ?_
      refine fW_iconst 29 dX11_lays_28 rfl ?_
      refine fW_iadd 30 dX11_lays_29 rfl ?_
      obtain ⟨c6, h⟩ := fS h
      obtain ⟨N7, e7, h⟩ := fBd h
      replace e7 := Option.some.inj e7
      refine fW_putI 33 3 (ji := 3) hg clX11 rfl (by decide) rfl rfl rfl tc_418 c6 wd_1177 dX11_lays_30 rfl ?_
      rw [e7]
      refine fW_rg (fun hR7 => ?_)
      refine fW_iinc 36 (ls' := [some (rv G 418), some (iv v1), some (iv (v2 + (-8)))]) dX11_lays_33 rfl rfl rfl (by decide) ?_
      refine fW_goto 3 dX11_lays_36 rfl ?_
      obtain ⟨c8, h⟩ := fS h
      exact fW_sb (ih v1 (v2 + (-8)) N7 gv1 c8 h) ⟨rfl, rfl, rfl, trivial⟩
def f_X11_lays (a1 : Int) (M : fMem) : Option (fMem) := L_X11_lays_3 (fun  (M_9 : fMem) => some M_9) 20000 a1 24 M
set_option maxRecDepth 100000 in
set_option maxHeartbeats 4000000 in
theorem s_X11_lays {G : fG} (hg : gbt G = true) {a1 : Int} (ga1 : rg a1) {M : fMem} {q : fMem} (h : f_X11_lays a1 M = some q) : fSp G mX11_lays [rv G 418, iv a1] M (rV q) fNo := by
  refine fSp_of (by decide +kernel) (by decide +kernel) (fC1 rfl (fC1 rfl fC0)) (Nat.le_of_ble_eq_true rfl) ?_
  show fW G mX11_lays (fEm G mX11_lays (rV q) fNo) 0 0 0 [some (rv G 418), some (iv a1), none] [] M
  rw [f_X11_lays] at h
  refine fW_rg (fun hR => ?_)
  refine fW_bipush 2 dX11_lays_0 rfl (by decide) ?_
  refine fW_istore_n 3 (ls' := [some (rv G 418), some (iv a1), some (iv 24)]) dX11_lays_2 rfl rfl rfl (by decide) ?_
  refine fW_sb (l_X11_lays_3 hg ?_ 20000 a1 24 M ga1 (by decide) h) ⟨rfl, rfl, rfl, trivial⟩
  intro M_9 h
  refine fW_rg (fun hR_9 => ?_)
  exact fW_vret rfl (by decide) (by decide) dX11_lays_39 (rV_i h)
def mX11_feed : fMt := (yX11_feed, cX11_feed, 6, some .int, { frames := 1, cells := 0, slots := 0, locals := 40 })
theorem miX11_feed : fMv mX11_feed 5 := ⟨⟨fM 1263 (by decide +kernel) rfl, fM 101 (by decide +kernel) rfl, ⟨by decide +kernel, by decide +kernel⟩, by decide +kernel⟩, fM 1261 (by decide +kernel) rfl, fM 1262 (by decide +kernel) rfl⟩
def f_X11_feed (a1 : Int) (a2 : Int) (a3 : Int) (a4 : Int) (a5 : Int) (M : fMem) : Option (Int × fMem) := ((some (mset M 418 4 0)).bind fun (N1 : fMem) => (if -2147483648 ≤ (N1 418 3) + 20 ∧ (N1 418 3) + 20 < 2147483648 then (if ((N1 418 3) + 20) ≤ 200 then ((f_X11_lays a1 N1).bind fun (r4 : fMem) => ((f_X11_lays a2 r4).bind fun (r6 : fMem) => ((f_X11_lays a3 r6).bind fun (r8 : fMem) => ((f_X11_lays a4 r8).bind fun (r10 : fMem) => ((f_X11_lays a5 r10).bind fun (r12 : fMem) => some (r12 418 3, r12)))))) else some ((-1), N1)) else none))
set_option maxRecDepth 100000 in
set_option maxHeartbeats 4000000 in
theorem s_X11_feed {G : fG} (hg : gbt G = true) {a1 : Int} (ga1 : rg a1) {a2 : Int} (ga2 : rg a2) {a3 : Int} (ga3 : rg a3) {a4 : Int} (ga4 : rg a4) {a5 : Int} (ga5 : rg a5) {M : fMem} {q : Int × fMem} (h : f_X11_feed a1 a2 a3 a4 a5 M = some q) : fSp G mX11_feed [rv G 418, iv a1, iv a2, iv a3, iv a4, iv a5] M (rP q.2 q.1) fNo := by
  refine fSp_of (by decide +kernel) (by decide +kernel) (fC1 rfl (fC1 rfl (fC1 rfl (fC1 rfl (fC1 rfl (fC1 rfl fC0)))))) (Nat.le_of_ble_eq_true rfl) ?_
  show fW G mX11_feed (fEm G mX11_feed (rP q.2 q.1) fNo) 0 0 0 [some (rv G 418), some (iv a1), some (iv a2), some (iv a3), some (iv a4), some (iv a5)] [] M
  rw [f_X11_feed] at h
  refine fW_rg (fun hR => ?_)
  refine fW_aload_n 1 dX11_feed_0 rfl rfl ?_
  refine fW_iconst 2 dX11_feed_1 rfl ?_
  obtain ⟨N1, e1, h⟩ := fBd h
  replace e1 := Option.some.inj e1
  refine fW_putI 5 4 (ji := 4) hg clX11 rfl (by decide) rfl rfl rfl tc_418 (by decide) wd_1178 dX11_feed_2 rfl ?_
  rw [e1]
  refine fW_rg (fun hR1 => ?_)
  refine fW_aload_n 6 dX11_feed_5 rfl rfl ?_
  refine fW_getI 9 3 (ji := 3) hg clX11 rfl (by decide) rfl tc_418 wd_1177 dX11_feed_6 rfl ?_
  refine fW_bipush 11 dX11_feed_9 rfl (by decide) ?_
  refine fW_iadd 12 dX11_feed_11 rfl ?_
  refine fW_sipush 15 dX11_feed_12 rfl (by decide) ?_
  obtain ⟨c2, h⟩ := fS h
  refine fW_icmp_le 18 20 c2 (by decide) dX11_feed_15 rfl rfl (fun c3 => ?_) (fun c3 => ?_)
  · replace h := fTt h c3
    refine fW_aload_n 21 dX11_feed_20 rfl rfl ?_
    refine fW_iload_n 22 dX11_feed_21 rfl rfl ?_
    obtain ⟨r4, e4, h⟩ := fBd h
    refine fW_cV (fI_V (as := [iv a1]) (rest := []) miX11_lays hg clX11 rfl tc_418 wd_1264 (fRoom_of rfl) rfl (Nat.le_of_ble_eq_true rfl) dX11_feed_22) (s_X11_lays hg ga1 e4) rfl rfl rfl ?_
    refine fW_rg (fun hR5 => ?_)
    refine fW_aload_n 26 dX11_feed_25 rfl rfl ?_
    refine fW_iload_n 27 dX11_feed_26 rfl rfl ?_
    obtain ⟨r6, e6, h⟩ := fBd h
    refine fW_cV (fI_V (as := [iv a2]) (rest := []) miX11_lays hg clX11 rfl tc_418 wd_1264 (fRoom_of rfl) rfl (Nat.le_of_ble_eq_true rfl) dX11_feed_27) (s_X11_lays hg ga2 e6) rfl rfl rfl ?_
    refine fW_rg (fun hR7 => ?_)
    refine fW_aload_n 31 dX11_feed_30 rfl rfl ?_
    refine fW_iload_n 32 dX11_feed_31 rfl rfl ?_
    obtain ⟨r8, e8, h⟩ := fBd h
    refine fW_cV (fI_V (as := [iv a3]) (rest := []) miX11_lays hg clX11 rfl tc_418 wd_1264 (fRoom_of rfl) rfl (Nat.le_of_ble_eq_true rfl) dX11_feed_32) (s_X11_lays hg ga3 e8) rfl rfl rfl ?_
    refine fW_rg (fun hR9 => ?_)
    refine fW_aload_n 36 dX11_feed_35 rfl rfl ?_
    refine fW_iload 38 dX11_feed_36 rfl rfl ?_
    obtain ⟨r10, e10, h⟩ := fBd h
    refine fW_cV (fI_V (as := [iv a4]) (rest := []) miX11_lays hg clX11 rfl tc_418 wd_1264 (fRoom_of rfl) rfl (Nat.le_of_ble_eq_true rfl) dX11_feed_38) (s_X11_lays hg ga4 e10) rfl rfl rfl ?_
    refine fW_rg (fun hR11 => ?_)
    refine fW_aload_n 42 dX11_feed_41 rfl rfl ?_
    refine fW_iload 44 dX11_feed_42 rfl rfl ?_
    obtain ⟨r12, e12, h⟩ := fBd h
    refine fW_cV (fI_V (as := [iv a5]) (rest := []) miX11_lays hg clX11 rfl tc_418 wd_1264 (fRoom_of rfl) rfl (Nat.le_of_ble_eq_true rfl) dX11_feed_44) (s_X11_lays hg ga5 e12) rfl rfl rfl ?_
    refine fW_rg (fun hR13 => ?_)
    refine fW_aload_n 48 dX11_feed_47 rfl rfl ?_
    refine fW_getI 51 3 (ji := 3) hg clX11 rfl (by decide) rfl tc_418 wd_1177 dX11_feed_48 rfl ?_
    exact fW_iret rfl (by decide) (by decide) dX11_feed_51 (rI_i h (hR13 418 3))
  · replace h := fFf h c3
    refine fW_iconst 19 dX11_feed_18 rfl ?_
    exact fW_iret rfl (by decide) (by decide) dX11_feed_19 (rI_i h (by decide))
def mX11_batch : fMt := (yX11_batch, cX11_batch, 4, some .int, { frames := 9, cells := 0, slots := 0, locals := 360 })
theorem miX11_batch : fMv mX11_batch 1 := ⟨⟨fM 1271 (by decide +kernel) rfl, fM 101 (by decide +kernel) rfl, ⟨by decide +kernel, by decide +kernel⟩, by decide +kernel⟩, fM 1269 (by decide +kernel) rfl, fM 1270 (by decide +kernel) rfl⟩
def L_X11_batch_34  (k : Int → fMem → Option (Int × fMem)) : Nat → Int → Int → Int → fMem → Option (Int × fMem)
  | 0, _, _, _, _ => none
  | n + 1, v1, v2, v3, M => (if v1 ≤ v3 then k v2 M else (if 0 ≤ v3 ∧ v3 < 200 then ((f_X11_isKey (M 421 v3) M).bind fun (r10 : Int) => (if r10 = 0 then (if -2147483648 ≤ v3 + 2 ∧ v3 + 2 < 2147483648 then L_X11_batch_34  k n v1 v2 (v3 + 2) M else none) else (if 0 ≤ v3 + 1 ∧ v3 + 1 < 200 then (if (M 421 (v3 + 1)) = 255 then ((f_X11_acts (M 421 v3) ((-1)) M).bind fun (r19 : Int × fMem) => (if -2147483648 ≤ v2 + 1 ∧ v2 + 1 < 2147483648 then (if -2147483648 ≤ v3 + 2 ∧ v3 + 2 < 2147483648 then L_X11_batch_34  k n v1 (v2 + 1) (v3 + 2) r19.2 else none) else none)) else ((f_X11_acts (M 421 v3) (M 421 (v3 + 1)) M).bind fun (r15 : Int × fMem) => (if -2147483648 ≤ v2 + 1 ∧ v2 + 1 < 2147483648 then (if -2147483648 ≤ v3 + 2 ∧ v3 + 2 < 2147483648 then L_X11_batch_34  k n v1 (v2 + 1) (v3 + 2) r15.2 else none) else none))) else none))) else none))
set_option maxRecDepth 100000 in
set_option maxHeartbeats 4000000 in
theorem l_X11_batch_34 {G : fG} (hg : gbt G = true)  {q : Int × fMem} {k : Int → fMem → Option (Int × fMem)} (hk : ∀ (v2 : Int) (M : fMem), rg v2 → k v2 M = some q → fW G mX11_batch (fEm G mX11_batch (rP q.2 q.1) fNo) 0 0 97 [some (rv G 418), none, some (iv v2), none] [] M) : ∀ (n : Nat) (v1 : Int) (v2 : Int) (v3 : Int) (M : fMem), rg v1 → rg v2 → rg v3 → L_X11_batch_34 k n v1 v2 v3 M = some q → fW G mX11_batch (fEm G mX11_batch (rP q.2 q.1) fNo) 0 0 34 [some (rv G 418), some (iv v1), some (iv v2), some (iv v3)] [] M := by
  intro n
  induction n with
  | zero =>
    intro v1 v2 v3 M gv1 gv2 gv3 h
    rw [L_X11_batch_34] at h
    exact absurd h (by simp)
  | succ n ih =>
    intro v1 v2 v3 M gv1 gv2 gv3 h
    rw [L_X11_batch_34] at h
    refine fW_rg (fun hR => ?_)
    refine fW_iload_n 35 dX11_batch_34 rfl rfl ?_
    refine fW_iload_n 36 dX11_batch_35 rfl rfl ?_
    refine fW_icmp_ge 39 97 gv3 gv1 dX11_batch_36 rfl rfl (fun c8 => ?_) (fun c8 => ?_)
    · replace h := fTt h c8
      exact fW_sb (hk v2 M gv2 h) ⟨rfl, rfl, trivial⟩
    · replace h := fFf h c8
      refine fW_aload_n 40 dX11_batch_39 rfl rfl ?_
      refine fW_getR 43 (r := 421) 2 hg clX11 (by decide) rfl tc_418 tf_11_2 wd_1176 dX11_batch_40 rfl ?_
      refine fW_iload_n 44 dX11_batch_43 rfl rfl ?_
      obtain ⟨c9, h⟩ := fS h
      refine fW_iald 45 hg tc_421 ⟨c9.1, by rw [show Ln 421 = 200 from rfl]; exact c9.2⟩ dX11_batch_44 rfl ?_
      obtain ⟨r10, e10, h⟩ := fBd h
      refine fW_cB (fI_S (as := [iv (M 421 v3)]) (rest := []) miX11_isKey rfl wd_1275 (fRoom_of rfl) rfl (Nat.le_of_ble_eq_true rfl) dX11_batch_45) (s_X11_isKey (hR 421 v3) e10) rfl rfl rfl (fun g10 => ?_)
      refine fW_if_eq 51 91 (rg_z g10) dX11_batch_48 rfl rfl (fun c11 => ?_) (fun c11 => ?_)
      · replace h := fTt h c11
        refine fW_iinc 94 (ls' := [some (rv G 418), some (iv v1), some (iv v2), some (iv (v3 + 2))]) dX11_batch_91 rfl rfl rfl (by decide) ?_
        refine fW_goto 34 dX11_batch_94 rfl ?_
        obtain ⟨c12, h⟩ := fS h
        exact fW_sb (ih v1 v2 (v3 + 2) M gv1 gv2 c12 h) ⟨rfl, rfl, rfl, rfl, trivial⟩
      · replace h := fFf h c11
        refine fW_aload_n 52 dX11_batch_51 rfl rfl ?_
        refine fW_aload_n 53 dX11_batch_52 rfl rfl ?_
        refine fW_getR 56 (r := 421) 2 hg clX11 (by decide) rfl tc_418 tf_11_2 wd_1176 dX11_batch_53 rfl ?_
        refine fW_iload_n 57 dX11_batch_56 rfl rfl ?_
        refine fW_iald 58 hg tc_421 ⟨c9.1, by rw [show Ln 421 = 200 from rfl]; exact c9.2⟩ dX11_batch_57 rfl ?_
        refine fW_aload_n 59 dX11_batch_58 rfl rfl ?_
        refine fW_getR 62 (r := 421) 2 hg clX11 (by decide) rfl tc_418 tf_11_2 wd_1176 dX11_batch_59 rfl ?_
        refine fW_iload_n 63 dX11_batch_62 rfl rfl ?_
        refine fW_iconst 64 dX11_batch_63 rfl ?_
        refine fW_iadd 65 dX11_batch_64 rfl ?_
        obtain ⟨c13, h⟩ := fS h
        refine fW_iald 66 hg tc_421 ⟨c13.1, by rw [show Ln 421 = 200 from rfl]; exact c13.2⟩ dX11_batch_65 rfl ?_
        refine fW_sipush 69 dX11_batch_66 rfl (by decide) ?_
        refine fW_icmp_ne 72 76 (hR 421 (v3 + 1)) (by decide) dX11_batch_69 rfl rfl (fun c14 => ?_) (fun c14 => ?_)
        · replace h := fFf h c14
          refine fW_aload_n 77 dX11_batch_76 rfl rfl ?_
          refine fW_getR 80 (r := 421) 2 hg clX11 (by decide) rfl tc_418 tf_11_2 wd_1176 dX11_batch_77 rfl ?_
          refine fW_iload_n 81 dX11_batch_80 rfl rfl ?_
          refine fW_iconst 82 dX11_batch_81 rfl ?_
          refine fW_iadd 83 dX11_batch_82 rfl ?_
          refine fW_iald 84 hg tc_421 ⟨c13.1, by rw [show Ln 421 = 200 from rfl]; exact c13.2⟩ dX11_batch_83 rfl ?_
          obtain ⟨r15, e15, h⟩ := fBd h
          refine fW_cP (fI_V (as := [iv (M 421 v3), iv (M 421 (v3 + 1))]) (rest := []) miX11_acts hg clX11 rfl tc_418 wd_1278 (fRoom_of rfl) rfl (Nat.le_of_ble_eq_true rfl) dX11_batch_84) (s_X11_acts hg (hR 421 v3) (hR 421 (v3 + 1)) e15) rfl rfl rfl (fun g15 => ?_)
          refine fW_rg (fun hR16 => ?_)
          refine fW_pop 88 dX11_batch_87 rfl rfl ?_
          refine fW_iinc 91 (ls' := [some (rv G 418), some (iv v1), some (iv (v2 + 1)), some (iv v3)]) dX11_batch_88 rfl rfl rfl (by decide) ?_
          refine fW_iinc 94 (ls' := [some (rv G 418), some (iv v1), some (iv (v2 + 1)), some (iv (v3 + 2))]) dX11_batch_91 rfl rfl rfl (by decide) ?_
          refine fW_goto 34 dX11_batch_94 rfl ?_
          obtain ⟨c17, h⟩ := fS h
          obtain ⟨c18, h⟩ := fS h
          exact fW_sb (ih v1 (v2 + 1) (v3 + 2) r15.2 gv1 c17 c18 h) ⟨rfl, rfl, rfl, rfl, trivial⟩
        · replace h := fTt h c14
          refine fW_iconst 73 dX11_batch_72 rfl ?_
          refine fW_goto 84 dX11_batch_73 rfl ?_
          obtain ⟨r19, e19, h⟩ := fBd h
          refine fW_cP (fI_V (as := [iv (M 421 v3), iv ((-1))]) (rest := []) miX11_acts hg clX11 rfl tc_418 wd_1278 (fRoom_of rfl) rfl (Nat.le_of_ble_eq_true rfl) dX11_batch_84) (s_X11_acts hg (hR 421 v3) (by decide) e19) rfl rfl rfl (fun g19 => ?_)
          refine fW_rg (fun hR20 => ?_)
          refine fW_pop 88 dX11_batch_87 rfl rfl ?_
          refine fW_iinc 91 (ls' := [some (rv G 418), some (iv v1), some (iv (v2 + 1)), some (iv v3)]) dX11_batch_88 rfl rfl rfl (by decide) ?_
          refine fW_iinc 94 (ls' := [some (rv G 418), some (iv v1), some (iv (v2 + 1)), some (iv (v3 + 2))]) dX11_batch_91 rfl rfl rfl (by decide) ?_
          refine fW_goto 34 dX11_batch_94 rfl ?_
          obtain ⟨c21, h⟩ := fS h
          obtain ⟨c22, h⟩ := fS h
          exact fW_sb (ih v1 (v2 + 1) (v3 + 2) r19.2 gv1 c21 c22 h) ⟨rfl, rfl, rfl, rfl, trivial⟩
def f_X11_batch (a1 : Int) (M : fMem) : Option (Int × fMem) := ((some (mset M 418 4 0)).bind fun (N1 : fMem) => ((f_X11_isIn a1 0 (N1 418 3) N1).bind fun (r2 : Int) => (if r2 = 0 then some ((-1), N1) else (if 0 ≤ a1 then (if -2147483648 ≤ a1 % 2 ∧ a1 % 2 < 2147483648 then (if (a1 % 2) = 0 then ((some (mset N1 418 3 0)).bind fun (N7 : fMem) => L_X11_batch_34 (fun (v2_23 : Int) (M_23 : fMem) => some (v2_23, M_23)) 20000 a1 0 0 N7) else some ((-1), N1)) else none) else none))))
set_option maxRecDepth 100000 in
set_option maxHeartbeats 4000000 in
theorem s_X11_batch {G : fG} (hg : gbt G = true) {a1 : Int} (ga1 : rg a1) {M : fMem} {q : Int × fMem} (h : f_X11_batch a1 M = some q) : fSp G mX11_batch [rv G 418, iv a1] M (rP q.2 q.1) fNo := by
  refine fSp_of (by decide +kernel) (by decide +kernel) (fC1 rfl (fC1 rfl fC0)) (Nat.le_of_ble_eq_true rfl) ?_
  show fW G mX11_batch (fEm G mX11_batch (rP q.2 q.1) fNo) 0 0 0 [some (rv G 418), some (iv a1), none, none] [] M
  rw [f_X11_batch] at h
  refine fW_rg (fun hR => ?_)
  refine fW_aload_n 1 dX11_batch_0 rfl rfl ?_
  refine fW_iconst 2 dX11_batch_1 rfl ?_
  obtain ⟨N1, e1, h⟩ := fBd h
  replace e1 := Option.some.inj e1
  refine fW_putI 5 4 (ji := 4) hg clX11 rfl (by decide) rfl rfl rfl tc_418 (by decide) wd_1178 dX11_batch_2 rfl ?_
  rw [e1]
  refine fW_rg (fun hR1 => ?_)
  refine fW_iload_n 6 dX11_batch_5 rfl rfl ?_
  refine fW_iconst 7 dX11_batch_6 rfl ?_
  refine fW_aload_n 8 dX11_batch_7 rfl rfl ?_
  refine fW_getI 11 3 (ji := 3) hg clX11 rfl (by decide) rfl tc_418 wd_1177 dX11_batch_8 rfl ?_
  obtain ⟨r2, e2, h⟩ := fBd h
  refine fW_cB (fI_S (as := [iv a1, iv 0, iv (N1 418 3)]) (rest := []) miX11_isIn rfl wd_1272 (fRoom_of rfl) rfl (Nat.le_of_ble_eq_true rfl) dX11_batch_11) (s_X11_isIn ga1 (by decide) (hR1 418 3) e2) rfl rfl rfl (fun g2 => ?_)
  refine fW_if_eq 17 23 (rg_z g2) dX11_batch_14 rfl rfl (fun c3 => ?_) (fun c3 => ?_)
  · replace h := fTt h c3
    refine fW_iconst 24 dX11_batch_23 rfl ?_
    exact fW_iret rfl (by decide) (by decide) dX11_batch_24 (rI_i h (by decide))
  · replace h := fFf h c3
    refine fW_iload_n 18 dX11_batch_17 rfl rfl ?_
    refine fW_iconst 19 dX11_batch_18 rfl ?_
    obtain ⟨c4, h⟩ := fS h
    refine fW_irem 20 ⟨c4, ga1.2⟩ (by decide) dX11_batch_19 rfl ?_
    obtain ⟨c5, h⟩ := fS h
    refine fW_if_eq 23 25 c5 dX11_batch_20 rfl rfl (fun c6 => ?_) (fun c6 => ?_)
    · replace h := fTt h c6
      refine fW_aload_n 26 dX11_batch_25 rfl rfl ?_
      refine fW_iconst 27 dX11_batch_26 rfl ?_
      obtain ⟨N7, e7, h⟩ := fBd h
      replace e7 := Option.some.inj e7
      refine fW_putI 30 3 (ji := 3) hg clX11 rfl (by decide) rfl rfl rfl tc_418 (by decide) wd_1177 dX11_batch_27 rfl ?_
      rw [e7]
      refine fW_rg (fun hR7 => ?_)
      refine fW_iconst 31 dX11_batch_30 rfl ?_
      refine fW_istore_n 32 (ls' := [some (rv G 418), some (iv a1), some (iv 0), none]) dX11_batch_31 rfl rfl rfl (by decide) ?_
      refine fW_iconst 33 dX11_batch_32 rfl ?_
      refine fW_istore_n 34 (ls' := [some (rv G 418), some (iv a1), some (iv 0), some (iv 0)]) dX11_batch_33 rfl rfl rfl (by decide) ?_
      refine fW_sb (l_X11_batch_34 hg ?_ 20000 a1 0 0 N7 ga1 (by decide) (by decide) h) ⟨rfl, rfl, rfl, rfl, trivial⟩
      intro v2_23 M_23 gv2_23 h
      refine fW_rg (fun hR_23 => ?_)
      refine fW_iload_n 98 dX11_batch_97 rfl rfl ?_
      exact fW_iret rfl (by decide) (by decide) dX11_batch_98 (rI_i h gv2_23)
    · replace h := fFf h c6
      refine fW_iconst 24 dX11_batch_23 rfl ?_
      exact fW_iret rfl (by decide) (by decide) dX11_batch_24 (rI_i h (by decide))
def mX11_put : fMt := (yX11_put, cX11_put, 3, some .int, { frames := 9, cells := 0, slots := 0, locals := 360 })
theorem miX11_put : fMv mX11_put 2 := ⟨⟨fM 1363 (by decide +kernel) rfl, fM 101 (by decide +kernel) rfl, ⟨by decide +kernel, by decide +kernel⟩, by decide +kernel⟩, fM 1361 (by decide +kernel) rfl, fM 1362 (by decide +kernel) rfl⟩
def f_X11_put (a1 : Int) (a2 : Int) (M : fMem) : Option (Int × fMem) := ((some (mset M 418 4 0)).bind fun (N1 : fMem) => ((f_X11_isKey a1 N1).bind fun (r2 : Int) => (if r2 = 0 then some ((-1), N1) else ((f_X11_isIn a2 0 999 N1).bind fun (r4 : Int) => (if r4 = 0 then some ((-1), N1) else ((f_X11_acts a1 a2 N1).bind fun (r6 : Int × fMem) => some (r6.1, r6.2)))))))
set_option maxRecDepth 100000 in
set_option maxHeartbeats 4000000 in
theorem s_X11_put {G : fG} (hg : gbt G = true) {a1 : Int} (ga1 : rg a1) {a2 : Int} (ga2 : rg a2) {M : fMem} {q : Int × fMem} (h : f_X11_put a1 a2 M = some q) : fSp G mX11_put [rv G 418, iv a1, iv a2] M (rP q.2 q.1) fNo := by
  refine fSp_of (by decide +kernel) (by decide +kernel) (fC1 rfl (fC1 rfl (fC1 rfl fC0))) (Nat.le_of_ble_eq_true rfl) ?_
  show fW G mX11_put (fEm G mX11_put (rP q.2 q.1) fNo) 0 0 0 [some (rv G 418), some (iv a1), some (iv a2)] [] M
  rw [f_X11_put] at h
  refine fW_rg (fun hR => ?_)
  refine fW_aload_n 1 dX11_put_0 rfl rfl ?_
  refine fW_iconst 2 dX11_put_1 rfl ?_
  obtain ⟨N1, e1, h⟩ := fBd h
  replace e1 := Option.some.inj e1
  refine fW_putI 5 4 (ji := 4) hg clX11 rfl (by decide) rfl rfl rfl tc_418 (by decide) wd_1178 dX11_put_2 rfl ?_
  rw [e1]
  refine fW_rg (fun hR1 => ?_)
  refine fW_iload_n 6 dX11_put_5 rfl rfl ?_
  obtain ⟨r2, e2, h⟩ := fBd h
  refine fW_cB (fI_S (as := [iv a1]) (rest := []) miX11_isKey rfl wd_1275 (fRoom_of rfl) rfl (Nat.le_of_ble_eq_true rfl) dX11_put_6) (s_X11_isKey ga1 e2) rfl rfl rfl (fun g2 => ?_)
  refine fW_if_eq 12 32 (rg_z g2) dX11_put_9 rfl rfl (fun c3 => ?_) (fun c3 => ?_)
  · replace h := fTt h c3
    refine fW_iconst 33 dX11_put_32 rfl ?_
    exact fW_iret rfl (by decide) (by decide) dX11_put_33 (rI_i h (by decide))
  · replace h := fFf h c3
    refine fW_iload_n 13 dX11_put_12 rfl rfl ?_
    refine fW_iconst 14 dX11_put_13 rfl ?_
    refine fW_sipush 17 dX11_put_14 rfl (by decide) ?_
    obtain ⟨r4, e4, h⟩ := fBd h
    refine fW_cB (fI_S (as := [iv a2, iv 0, iv 999]) (rest := []) miX11_isIn rfl wd_1272 (fRoom_of rfl) rfl (Nat.le_of_ble_eq_true rfl) dX11_put_17) (s_X11_isIn ga2 (by decide) (by decide) e4) rfl rfl rfl (fun g4 => ?_)
    refine fW_if_eq 23 32 (rg_z g4) dX11_put_20 rfl rfl (fun c5 => ?_) (fun c5 => ?_)
    · replace h := fTt h c5
      refine fW_iconst 33 dX11_put_32 rfl ?_
      exact fW_iret rfl (by decide) (by decide) dX11_put_33 (rI_i h (by decide))
    · replace h := fFf h c5
      refine fW_aload_n 24 dX11_put_23 rfl rfl ?_
      refine fW_iload_n 25 dX11_put_24 rfl rfl ?_
      refine fW_iload_n 26 dX11_put_25 rfl rfl ?_
      obtain ⟨r6, e6, h⟩ := fBd h
      refine fW_cP (fI_V (as := [iv a1, iv a2]) (rest := []) miX11_acts hg clX11 rfl tc_418 wd_1278 (fRoom_of rfl) rfl (Nat.le_of_ble_eq_true rfl) dX11_put_26) (s_X11_acts hg ga1 ga2 e6) rfl rfl rfl (fun g6 => ?_)
      refine fW_rg (fun hR7 => ?_)
      refine fW_goto 33 dX11_put_29 rfl ?_
      exact fW_iret rfl (by decide) (by decide) dX11_put_33 (rI_i h g6)
def mX11_drop : fMt := (yX11_drop, cX11_drop, 2, some .int, { frames := 9, cells := 0, slots := 0, locals := 360 })
theorem miX11_drop : fMv mX11_drop 1 := ⟨⟨fM 1367 (by decide +kernel) rfl, fM 101 (by decide +kernel) rfl, ⟨by decide +kernel, by decide +kernel⟩, by decide +kernel⟩, fM 1365 (by decide +kernel) rfl, fM 1366 (by decide +kernel) rfl⟩
def f_X11_drop (a1 : Int) (M : fMem) : Option (Int × fMem) := ((some (mset M 418 4 0)).bind fun (N1 : fMem) => ((f_X11_isKey a1 N1).bind fun (r2 : Int) => (if r2 = 0 then some ((-1), N1) else ((f_X11_acts a1 ((-1)) N1).bind fun (r4 : Int × fMem) => some (r4.1, r4.2)))))
set_option maxRecDepth 100000 in
set_option maxHeartbeats 4000000 in
theorem s_X11_drop {G : fG} (hg : gbt G = true) {a1 : Int} (ga1 : rg a1) {M : fMem} {q : Int × fMem} (h : f_X11_drop a1 M = some q) : fSp G mX11_drop [rv G 418, iv a1] M (rP q.2 q.1) fNo := by
  refine fSp_of (by decide +kernel) (by decide +kernel) (fC1 rfl (fC1 rfl fC0)) (Nat.le_of_ble_eq_true rfl) ?_
  show fW G mX11_drop (fEm G mX11_drop (rP q.2 q.1) fNo) 0 0 0 [some (rv G 418), some (iv a1)] [] M
  rw [f_X11_drop] at h
  refine fW_rg (fun hR => ?_)
  refine fW_aload_n 1 dX11_drop_0 rfl rfl ?_
  refine fW_iconst 2 dX11_drop_1 rfl ?_
  obtain ⟨N1, e1, h⟩ := fBd h
  replace e1 := Option.some.inj e1
  refine fW_putI 5 4 (ji := 4) hg clX11 rfl (by decide) rfl rfl rfl tc_418 (by decide) wd_1178 dX11_drop_2 rfl ?_
  rw [e1]
  refine fW_rg (fun hR1 => ?_)
  refine fW_iload_n 6 dX11_drop_5 rfl rfl ?_
  obtain ⟨r2, e2, h⟩ := fBd h
  refine fW_cB (fI_S (as := [iv a1]) (rest := []) miX11_isKey rfl wd_1275 (fRoom_of rfl) rfl (Nat.le_of_ble_eq_true rfl) dX11_drop_6) (s_X11_isKey ga1 e2) rfl rfl rfl (fun g2 => ?_)
  refine fW_if_eq 12 21 (rg_z g2) dX11_drop_9 rfl rfl (fun c3 => ?_) (fun c3 => ?_)
  · replace h := fTt h c3
    refine fW_iconst 22 dX11_drop_21 rfl ?_
    exact fW_iret rfl (by decide) (by decide) dX11_drop_22 (rI_i h (by decide))
  · replace h := fFf h c3
    refine fW_aload_n 13 dX11_drop_12 rfl rfl ?_
    refine fW_iload_n 14 dX11_drop_13 rfl rfl ?_
    refine fW_iconst 15 dX11_drop_14 rfl ?_
    obtain ⟨r4, e4, h⟩ := fBd h
    refine fW_cP (fI_V (as := [iv a1, iv ((-1))]) (rest := []) miX11_acts hg clX11 rfl tc_418 wd_1278 (fRoom_of rfl) rfl (Nat.le_of_ble_eq_true rfl) dX11_drop_15) (s_X11_acts hg ga1 (by decide) e4) rfl rfl rfl (fun g4 => ?_)
    refine fW_rg (fun hR5 => ?_)
    refine fW_goto 22 dX11_drop_18 rfl ?_
    exact fW_iret rfl (by decide) (by decide) dX11_drop_22 (rI_i h g4)
def mX11_steps : fMt := (yX11_steps, cX11_steps, 2, some .int, { frames := 8, cells := 0, slots := 0, locals := 320 })
theorem miX11_steps : fMv mX11_steps 1 := ⟨⟨fM 1371 (by decide +kernel) rfl, fM 101 (by decide +kernel) rfl, ⟨by decide +kernel, by decide +kernel⟩, by decide +kernel⟩, fM 1369 (by decide +kernel) rfl, fM 1370 (by decide +kernel) rfl⟩
def f_X11_steps (a1 : Int) (M : fMem) : Option (Int × fMem) := ((some (mset M 418 4 0)).bind fun (N1 : fMem) => ((f_X11_isIn a1 0 1000 N1).bind fun (r2 : Int) => (if r2 = 0 then some ((-1), N1) else ((f_X11_takes a1 N1).bind fun (r4 : Int × fMem) => some (r4.1, r4.2)))))
set_option maxRecDepth 100000 in
set_option maxHeartbeats 4000000 in
theorem s_X11_steps {G : fG} (hg : gbt G = true) {a1 : Int} (ga1 : rg a1) {M : fMem} {q : Int × fMem} (h : f_X11_steps a1 M = some q) : fSp G mX11_steps [rv G 418, iv a1] M (rP q.2 q.1) fNo := by
  refine fSp_of (by decide +kernel) (by decide +kernel) (fC1 rfl (fC1 rfl fC0)) (Nat.le_of_ble_eq_true rfl) ?_
  show fW G mX11_steps (fEm G mX11_steps (rP q.2 q.1) fNo) 0 0 0 [some (rv G 418), some (iv a1)] [] M
  rw [f_X11_steps] at h
  refine fW_rg (fun hR => ?_)
  refine fW_aload_n 1 dX11_steps_0 rfl rfl ?_
  refine fW_iconst 2 dX11_steps_1 rfl ?_
  obtain ⟨N1, e1, h⟩ := fBd h
  replace e1 := Option.some.inj e1
  refine fW_putI 5 4 (ji := 4) hg clX11 rfl (by decide) rfl rfl rfl tc_418 (by decide) wd_1178 dX11_steps_2 rfl ?_
  rw [e1]
  refine fW_rg (fun hR1 => ?_)
  refine fW_iload_n 6 dX11_steps_5 rfl rfl ?_
  refine fW_iconst 7 dX11_steps_6 rfl ?_
  refine fW_sipush 10 dX11_steps_7 rfl (by decide) ?_
  obtain ⟨r2, e2, h⟩ := fBd h
  refine fW_cB (fI_S (as := [iv a1, iv 0, iv 1000]) (rest := []) miX11_isIn rfl wd_1272 (fRoom_of rfl) rfl (Nat.le_of_ble_eq_true rfl) dX11_steps_10) (s_X11_isIn ga1 (by decide) (by decide) e2) rfl rfl rfl (fun g2 => ?_)
  refine fW_if_eq 16 24 (rg_z g2) dX11_steps_13 rfl rfl (fun c3 => ?_) (fun c3 => ?_)
  · replace h := fTt h c3
    refine fW_iconst 25 dX11_steps_24 rfl ?_
    exact fW_iret rfl (by decide) (by decide) dX11_steps_25 (rI_i h (by decide))
  · replace h := fFf h c3
    refine fW_aload_n 17 dX11_steps_16 rfl rfl ?_
    refine fW_iload_n 18 dX11_steps_17 rfl rfl ?_
    obtain ⟨r4, e4, h⟩ := fBd h
    refine fW_cP (fI_V (as := [iv a1]) (rest := []) miX11_takes hg clX11 rfl tc_418 wd_1356 (fRoom_of rfl) rfl (Nat.le_of_ble_eq_true rfl) dX11_steps_18) (s_X11_takes hg ga1 e4) rfl rfl rfl (fun g4 => ?_)
    refine fW_rg (fun hR5 => ?_)
    refine fW_goto 25 dX11_steps_21 rfl ?_
    exact fW_iret rfl (by decide) (by decide) dX11_steps_25 (rI_i h g4)
end MTH
