section MTH
def mX11_entry : fMt := (yX11_entry, cX11_entry, 9, some .int, { frames := 5, cells := 0, slots := 0, locals := 200 })
theorem miX11_entry : fMv mX11_entry 4 := ⟨⟨fM 1536 (by decide +kernel) rfl, fM 101 (by decide +kernel) rfl, ⟨by decide +kernel, by decide +kernel⟩, by decide +kernel⟩, fM 1534 (by decide +kernel) rfl, fM 1535 (by decide +kernel) rfl⟩
def j_X11_entry_123  (v1 : Int) (v4 : Int) (v6 : Int) (v7 : Int) (x0 : Int) (M : fMem) : Option (Int × fMem) := (if v4 = 0 then (if 0 ≤ v6 ∧ v6 < 13300 then some (M 425 v6, M) else none) else (if v4 = 1 then (if v7 = 0 then some (2, M) else (if x0 = ((-1)) then some (1, M) else some (0, M))) else (if v4 = 2 then (if v7 = 0 then (if 0 ≤ v6 ∧ v6 < 13300 then (if -2147483648 ≤ (M 427 v6) - (2 * (v1 + 1)) ∧ (M 427 v6) - (2 * (v1 + 1)) < 2147483648 then some ((M 427 v6) - (2 * (v1 + 1)), M) else none) else none) else some (x0, M)) else (if 0 ≤ v6 ∧ v6 < 13300 then some (M 428 v6, M) else none))))
set_option maxRecDepth 100000 in
set_option maxHeartbeats 4000000 in
theorem i_X11_entry_123 {G : fG} (hg : gbt G = true)  {v1 : Int} {v4 : Int} {v6 : Int} {v7 : Int} {x0 : Int} (gv1 : rg v1) (gv4 : rg v4) (gv6 : rg v6) (gv7 : rg v7) (gx0 : rg x0) {M : fMem} {q : Int × fMem} (h : j_X11_entry_123 v1 v4 v6 v7 x0 M = some q) : fW G mX11_entry (fEm G mX11_entry (rP q.2 q.1) fNo) 0 0 123 [some (rv G 418), some (iv v1), none, none, some (iv v4), none, some (iv v6), some (iv v7), none] [iv x0] M := by
  rw [j_X11_entry_123] at h
  refine fW_rg (fun hR => ?_)
  refine fW_istore 125 (ls' := [some (rv G 418), some (iv v1), none, none, some (iv v4), none, some (iv v6), some (iv v7), some (iv x0)]) dX11_entry_123 rfl rfl (by decide) ?_
  refine fW_iload 127 dX11_entry_125 rfl rfl ?_
  have gs := gv4
  by_cases c21 : v4 = 0
  · replace h := fTt h c21
    refine fW_tabIn 152 c21 (by decide) dX11_entry_127 (by decide) (by decide) rfl rfl ?_
    refine fW_aload_n 153 dX11_entry_152 rfl rfl ?_
    refine fW_getR 156 (r := 425) 8 hg clX11 (by decide) rfl tc_418 tf_11_8 wd_1182 dX11_entry_153 rfl ?_
    refine fW_iload 158 dX11_entry_156 rfl rfl ?_
    obtain ⟨c22, h⟩ := fS h
    refine fW_iald 159 hg tc_425 ⟨c22.1, by rw [show Ln 425 = 13300 from rfl]; exact c22.2⟩ dX11_entry_158 rfl ?_
    exact fW_iret rfl (by decide) (by decide) dX11_entry_159 (rI_i h (hR 425 v6))
  replace h := fFf h c21
  by_cases c23 : v4 = 1
  · replace h := fTt h c23
    refine fW_tabIn 160 c23 (by decide) dX11_entry_127 (by decide) (by decide) rfl rfl ?_
    refine fW_iload 162 dX11_entry_160 rfl rfl ?_
    refine fW_if_ne 165 169 gv7 dX11_entry_162 rfl rfl (fun c24 => ?_) (fun c24 => ?_)
    · replace h := fFf h c24
      refine fW_iload 171 dX11_entry_169 rfl rfl ?_
      refine fW_iconst 172 dX11_entry_171 rfl ?_
      refine fW_icmp_ne 175 179 gx0 (by decide) dX11_entry_172 rfl rfl (fun c25 => ?_) (fun c25 => ?_)
      · replace h := fFf h c25
        refine fW_iconst 180 dX11_entry_179 rfl ?_
        exact fW_iret rfl (by decide) (by decide) dX11_entry_180 (rI_i h (by decide))
      · replace h := fTt h c25
        refine fW_iconst 176 dX11_entry_175 rfl ?_
        refine fW_goto 180 dX11_entry_176 rfl ?_
        exact fW_iret rfl (by decide) (by decide) dX11_entry_180 (rI_i h (by decide))
    · replace h := fTt h c24
      refine fW_iconst 166 dX11_entry_165 rfl ?_
      refine fW_goto 180 dX11_entry_166 rfl ?_
      exact fW_iret rfl (by decide) (by decide) dX11_entry_180 (rI_i h (by decide))
  replace h := fFf h c23
  by_cases c26 : v4 = 2
  · replace h := fTt h c26
    refine fW_tabIn 181 c26 (by decide) dX11_entry_127 (by decide) (by decide) rfl rfl ?_
    refine fW_iload 183 dX11_entry_181 rfl rfl ?_
    refine fW_if_eq 186 191 gv7 dX11_entry_183 rfl rfl (fun c27 => ?_) (fun c27 => ?_)
    · replace h := fTt h c27
      refine fW_aload_n 192 dX11_entry_191 rfl rfl ?_
      refine fW_getR 195 (r := 427) 10 hg clX11 (by decide) rfl tc_418 tf_11_10 wd_1184 dX11_entry_192 rfl ?_
      refine fW_iload 197 dX11_entry_195 rfl rfl ?_
      obtain ⟨c28, h⟩ := fS h
      refine fW_iald 198 hg tc_427 ⟨c28.1, by rw [show Ln 427 = 13300 from rfl]; exact c28.2⟩ dX11_entry_197 rfl ?_
      refine fW_iconst 199 dX11_entry_198 rfl ?_
      refine fW_iload_n 200 dX11_entry_199 rfl rfl ?_
      refine fW_iconst 201 dX11_entry_200 rfl ?_
      refine fW_iadd 202 dX11_entry_201 rfl ?_
      refine fW_imul 203 dX11_entry_202 rfl ?_
      refine fW_isub 204 dX11_entry_203 rfl ?_
      obtain ⟨c29, h⟩ := fS h
      exact fW_iret rfl (by decide) (by decide) dX11_entry_204 (rI_i h c29)
    · replace h := fFf h c27
      refine fW_iload 188 dX11_entry_186 rfl rfl ?_
      refine fW_goto 204 dX11_entry_188 rfl ?_
      exact fW_iret rfl (by decide) (by decide) dX11_entry_204 (rI_i h gx0)
  replace h := fFf h c26
  refine fW_tabOut 205 gs dX11_entry_127 (by omega) rfl ?_
  refine fW_aload_n 206 dX11_entry_205 rfl rfl ?_
  refine fW_getR 209 (r := 428) 11 hg clX11 (by decide) rfl tc_418 tf_11_11 wd_1185 dX11_entry_206 rfl ?_
  refine fW_iload 211 dX11_entry_209 rfl rfl ?_
  obtain ⟨c30, h⟩ := fS h
  refine fW_iald 212 hg tc_428 ⟨c30.1, by rw [show Ln 428 = 13300 from rfl]; exact c30.2⟩ dX11_entry_211 rfl ?_
  exact fW_iret rfl (by decide) (by decide) dX11_entry_212 (rI_i h (hR 428 v6))
def j_X11_entry_99  (v1 : Int) (v4 : Int) (v5 : Int) (v6 : Int) (x0 : Int) (M : fMem) : Option (Int × fMem) := (if x0 = 0 then j_X11_entry_123 v1 v4 v6 x0 ((-1)) M else (if 0 ≤ v6 ∧ v6 < 13300 then ((f_X11_valueAt v5 (M 427 v6) M).bind fun (r32 : Int) => j_X11_entry_123 v1 v4 v6 x0 r32 M) else none))
set_option maxRecDepth 100000 in
set_option maxHeartbeats 4000000 in
theorem i_X11_entry_99 {G : fG} (hg : gbt G = true)  {v1 : Int} {v4 : Int} {v5 : Int} {v6 : Int} {x0 : Int} (gv1 : rg v1) (gv4 : rg v4) (gv5 : rg v5) (gv6 : rg v6) (gx0 : rg x0) {M : fMem} {q : Int × fMem} (h : j_X11_entry_99 v1 v4 v5 v6 x0 M = some q) : fW G mX11_entry (fEm G mX11_entry (rP q.2 q.1) fNo) 0 0 99 [some (rv G 418), some (iv v1), none, none, some (iv v4), some (iv v5), some (iv v6), none, none] [iv x0] M := by
  rw [j_X11_entry_99] at h
  refine fW_rg (fun hR => ?_)
  refine fW_istore 101 (ls' := [some (rv G 418), some (iv v1), none, none, some (iv v4), some (iv v5), some (iv v6), some (iv x0), none]) dX11_entry_99 rfl rfl (by decide) ?_
  refine fW_iload 103 dX11_entry_101 rfl rfl ?_
  refine fW_if_eq 106 122 gx0 dX11_entry_103 rfl rfl (fun c20 => ?_) (fun c20 => ?_)
  · replace h := fTt h c20
    refine fW_iconst 123 dX11_entry_122 rfl ?_
    exact fW_sb (i_X11_entry_123 hg gv1 gv4 gv6 gx0 (by decide) h) ⟨rfl, rfl, rfl, rfl, rfl, trivial⟩
  · replace h := fFf h c20
    refine fW_aload_n 107 dX11_entry_106 rfl rfl ?_
    refine fW_iload 109 dX11_entry_107 rfl rfl ?_
    refine fW_aload_n 110 dX11_entry_109 rfl rfl ?_
    refine fW_getR 113 (r := 427) 10 hg clX11 (by decide) rfl tc_418 tf_11_10 wd_1184 dX11_entry_110 rfl ?_
    refine fW_iload 115 dX11_entry_113 rfl rfl ?_
    obtain ⟨c31, h⟩ := fS h
    refine fW_iald 116 hg tc_427 ⟨c31.1, by rw [show Ln 427 = 13300 from rfl]; exact c31.2⟩ dX11_entry_115 rfl ?_
    obtain ⟨r32, e32, h⟩ := fBd h
    refine fW_cP (fI_V (as := [iv v5, iv (M 427 v6)]) (rest := []) miX11_valueAt hg clX11 rfl tc_418 wd_1308 (fRoom_of rfl) rfl (Nat.le_of_ble_eq_true rfl) dX11_entry_116) (s_X11_valueAt hg gv5 (hR 427 v6) e32) rfl rfl rfl (fun g32 => ?_)
    refine fW_goto 123 dX11_entry_119 rfl ?_
    exact fW_sb (i_X11_entry_123 hg gv1 gv4 gv6 gx0 g32 h) ⟨rfl, rfl, rfl, rfl, rfl, trivial⟩
def j_X11_entry_65  (v1 : Int) (v3 : Int) (v4 : Int) (v5 : Int) (x1 : Int) (M : fMem) : Option (Int × fMem) := (if 0 ≤ x1 ∧ x1 ≤ 1 then ((f_X11_right x1 1 M).bind fun (r14 : Int × fMem) => (if r14.1 = 0 then some (0, r14.2) else (if 0 ≤ (700 * v5) + v3 ∧ (700 * v5) + v3 < 13300 then (if (r14.2 426 ((700 * v5) + v3)) = 0 then (if -2147483648 ≤ (700 * v5) + v3 ∧ (700 * v5) + v3 < 2147483648 then j_X11_entry_99 v1 v4 v5 ((700 * v5) + v3) 1 r14.2 else none) else (if -2147483648 ≤ (700 * v5) + v3 ∧ (700 * v5) + v3 < 2147483648 then j_X11_entry_99 v1 v4 v5 ((700 * v5) + v3) 0 r14.2 else none)) else none))) else none)
set_option maxRecDepth 100000 in
set_option maxHeartbeats 4000000 in
theorem i_X11_entry_65 {G : fG} (hg : gbt G = true)  {v1 : Int} {v3 : Int} {v4 : Int} {v5 : Int} {x1 : Int} (gv1 : rg v1) (gv3 : rg v3) (gv4 : rg v4) (gv5 : rg v5) (gx1 : rg x1) {M : fMem} {q : Int × fMem} (h : j_X11_entry_65 v1 v3 v4 v5 x1 M = some q) : fW G mX11_entry (fEm G mX11_entry (rP q.2 q.1) fNo) 0 0 65 [some (rv G 418), some (iv v1), none, some (iv v3), some (iv v4), some (iv v5), none, none, none] [iv x1, rv G 418] M := by
  rw [j_X11_entry_65] at h
  refine fW_rg (fun hR => ?_)
  refine fW_iconst 66 dX11_entry_65 rfl ?_
  obtain ⟨c13, h⟩ := fS h
  obtain ⟨r14, e14, h⟩ := fBd h
  refine fW_cB (fI_V (as := [iv x1, iv 1]) (rest := []) miX11_right hg clX11 rfl tc_418 wd_1396 (fRoom_of rfl) rfl (Nat.le_of_ble_eq_true rfl) dX11_entry_66) (s_X11_right hg c13 (by decide) e14) rfl rfl rfl (fun g14 => ?_)
  refine fW_rg (fun hR15 => ?_)
  refine fW_if_ne 72 74 (rg_z g14) dX11_entry_69 rfl rfl (fun c16 => ?_) (fun c16 => ?_)
  · replace h := fFf h c16
    refine fW_sipush 77 dX11_entry_74 rfl (by decide) ?_
    refine fW_iload 79 dX11_entry_77 rfl rfl ?_
    refine fW_imul 80 dX11_entry_79 rfl ?_
    refine fW_iload_n 81 dX11_entry_80 rfl rfl ?_
    refine fW_iadd 82 dX11_entry_81 rfl ?_
    refine fW_istore 84 (ls' := [some (rv G 418), some (iv v1), none, some (iv v3), some (iv v4), some (iv v5), some (iv ((700 * v5) + v3)), none, none]) dX11_entry_82 rfl rfl (by decide) ?_
    refine fW_aload_n 85 dX11_entry_84 rfl rfl ?_
    refine fW_getR 88 (r := 426) 9 hg clX11 (by decide) rfl tc_418 tf_11_9 wd_1183 dX11_entry_85 rfl ?_
    refine fW_iload 90 dX11_entry_88 rfl rfl ?_
    obtain ⟨c17, h⟩ := fS h
    refine fW_iald 91 hg tc_426 ⟨c17.1, by rw [show Ln 426 = 13300 from rfl]; exact c17.2⟩ dX11_entry_90 rfl ?_
    refine fW_if_ne 94 98 (hR15 426 ((700 * v5) + v3)) dX11_entry_91 rfl rfl (fun c18 => ?_) (fun c18 => ?_)
    · replace h := fFf h c18
      refine fW_iconst 99 dX11_entry_98 rfl ?_
      obtain ⟨c19, h⟩ := fS h
      exact fW_sb (i_X11_entry_99 hg gv1 gv4 gv5 c19 (by decide) h) ⟨rfl, rfl, rfl, rfl, rfl, trivial⟩
    · replace h := fTt h c18
      refine fW_iconst 95 dX11_entry_94 rfl ?_
      refine fW_goto 99 dX11_entry_95 rfl ?_
      obtain ⟨c33, h⟩ := fS h
      exact fW_sb (i_X11_entry_99 hg gv1 gv4 gv5 c33 (by decide) h) ⟨rfl, rfl, rfl, rfl, rfl, trivial⟩
  · replace h := fTt h c16
    refine fW_iconst 73 dX11_entry_72 rfl ?_
    exact fW_iret rfl (by decide) (by decide) dX11_entry_73 (rI_i h (by decide))
def j_X11_entry_64  (v1 : Int) (v3 : Int) (v4 : Int) (v5 : Int) (M : fMem) : Option (Int × fMem) := j_X11_entry_65 v1 v3 v4 v5 0 M
set_option maxRecDepth 100000 in
set_option maxHeartbeats 4000000 in
theorem i_X11_entry_64 {G : fG} (hg : gbt G = true)  {v1 : Int} {v3 : Int} {v4 : Int} {v5 : Int} (gv1 : rg v1) (gv3 : rg v3) (gv4 : rg v4) (gv5 : rg v5) {M : fMem} {q : Int × fMem} (h : j_X11_entry_64 v1 v3 v4 v5 M = some q) : fW G mX11_entry (fEm G mX11_entry (rP q.2 q.1) fNo) 0 0 64 [some (rv G 418), some (iv v1), none, some (iv v3), some (iv v4), some (iv v5), none, none, none] [rv G 418] M := by
  rw [j_X11_entry_64] at h
  refine fW_rg (fun hR => ?_)
  refine fW_iconst 65 dX11_entry_64 rfl ?_
  exact fW_sb (i_X11_entry_65 hg gv1 gv3 gv4 gv5 (by decide) h) ⟨rfl, rfl, rfl, rfl, rfl, trivial⟩
def f_X11_entry (a1 : Int) (a2 : Int) (a3 : Int) (a4 : Int) (M : fMem) : Option (Int × fMem) := ((some (mset M 418 4 0)).bind fun (N1 : fMem) => ((f_X11_isRow a1 a2 N1).bind fun (r2 : Int) => ((f_X11_right r2 1 N1).bind fun (r3 : Int × fMem) => (if r3.1 = 0 then some (0, r3.2) else ((f_X11_laysEntries 0 r3.2).bind fun (r6 : fMem) => ((f_X11_rowAt a1 a2 r6).bind fun (r8 : Int) => (if 0 ≤ r8 ∧ r8 < 19 then (if -2147483648 ≤ (r6 429 r8) - 1 ∧ (r6 429 r8) - 1 < 2147483648 then ((f_X11_isIn a3 0 ((r6 429 r8) - 1) r6).bind fun (r11 : Int) => (if r11 = 0 then j_X11_entry_64 a1 a3 a4 r8 r6 else ((f_X11_isIn a4 0 3 r6).bind fun (r34 : Int) => (if r34 = 0 then j_X11_entry_64 a1 a3 a4 r8 r6 else j_X11_entry_65 a1 a3 a4 r8 1 r6)))) else none) else none)))))))
set_option maxRecDepth 100000 in
set_option maxHeartbeats 4000000 in
theorem s_X11_entry {G : fG} (hg : gbt G = true) {a1 : Int} (ga1 : rg a1) {a2 : Int} (ga2 : rg a2) {a3 : Int} (ga3 : rg a3) {a4 : Int} (ga4 : rg a4) {M : fMem} {q : Int × fMem} (h : f_X11_entry a1 a2 a3 a4 M = some q) : fSp G mX11_entry [rv G 418, iv a1, iv a2, iv a3, iv a4] M (rP q.2 q.1) fNo := by
  refine fSp_of (by decide +kernel) (by decide +kernel) (fC1 rfl (fC1 rfl (fC1 rfl (fC1 rfl (fC1 rfl fC0))))) (Nat.le_of_ble_eq_true rfl) ?_
  show fW G mX11_entry (fEm G mX11_entry (rP q.2 q.1) fNo) 0 0 0 [some (rv G 418), some (iv a1), some (iv a2), some (iv a3), some (iv a4), none, none, none, none] [] M
  rw [f_X11_entry] at h
  refine fW_rg (fun hR => ?_)
  refine fW_aload_n 1 dX11_entry_0 rfl rfl ?_
  refine fW_iconst 2 dX11_entry_1 rfl ?_
  obtain ⟨N1, e1, h⟩ := fBd h
  replace e1 := Option.some.inj e1
  refine fW_putI 5 4 (ji := 4) hg clX11 rfl (by decide) rfl rfl rfl tc_418 (by decide) wd_1178 dX11_entry_2 rfl ?_
  rw [e1]
  refine fW_rg (fun hR1 => ?_)
  refine fW_aload_n 6 dX11_entry_5 rfl rfl ?_
  refine fW_iload_n 7 dX11_entry_6 rfl rfl ?_
  refine fW_iload_n 8 dX11_entry_7 rfl rfl ?_
  obtain ⟨r2, e2, h⟩ := fBd h
  refine fW_cB (fI_S (as := [iv a1, iv a2]) (rest := [rv G 418]) miX11_isRow rfl wd_1491 (fRoom_of rfl) rfl (Nat.le_of_ble_eq_true rfl) dX11_entry_8) (s_X11_isRow ga1 ga2 e2) rfl rfl rfl (fun g2 => ?_)
  refine fW_iconst 12 dX11_entry_11 rfl ?_
  obtain ⟨r3, e3, h⟩ := fBd h
  refine fW_cB (fI_V (as := [iv r2, iv 1]) (rest := []) miX11_right hg clX11 rfl tc_418 wd_1396 (fRoom_of rfl) rfl (Nat.le_of_ble_eq_true rfl) dX11_entry_12) (s_X11_right hg g2 (by decide) e3) rfl rfl rfl (fun g3 => ?_)
  refine fW_rg (fun hR4 => ?_)
  refine fW_if_ne 18 20 (rg_z g3) dX11_entry_15 rfl rfl (fun c5 => ?_) (fun c5 => ?_)
  · replace h := fFf h c5
    refine fW_aload_n 21 dX11_entry_20 rfl rfl ?_
    refine fW_iconst 22 dX11_entry_21 rfl ?_
    obtain ⟨r6, e6, h⟩ := fBd h
    refine fW_cV (fI_V (as := [iv 0]) (rest := []) miX11_laysEntries hg clX11 rfl tc_418 wd_1431 (fRoom_of rfl) rfl (Nat.le_of_ble_eq_true rfl) dX11_entry_22) (s_X11_laysEntries hg (by decide) e6) rfl rfl rfl ?_
    refine fW_rg (fun hR7 => ?_)
    refine fW_iload_n 26 dX11_entry_25 rfl rfl ?_
    refine fW_iload_n 27 dX11_entry_26 rfl rfl ?_
    obtain ⟨r8, e8, h⟩ := fBd h
    refine fW_cP (fI_S (as := [iv a1, iv a2]) (rest := []) miX11_rowAt rfl wd_1289 (fRoom_of rfl) rfl (Nat.le_of_ble_eq_true rfl) dX11_entry_27) (s_X11_rowAt ga1 ga2 e8) rfl rfl rfl (fun g8 => ?_)
    refine fW_istore 32 (ls' := [some (rv G 418), some (iv a1), some (iv a2), some (iv a3), some (iv a4), some (iv r8), none, none, none]) dX11_entry_30 rfl rfl (by decide) ?_
    refine fW_aload_n 33 dX11_entry_32 rfl rfl ?_
    refine fW_iload_n 34 dX11_entry_33 rfl rfl ?_
    refine fW_iconst 35 dX11_entry_34 rfl ?_
    refine fW_aload_n 36 dX11_entry_35 rfl rfl ?_
    refine fW_getR 39 (r := 429) 12 hg clX11 (by decide) rfl tc_418 tf_11_12 wd_1186 dX11_entry_36 rfl ?_
    refine fW_iload 41 dX11_entry_39 rfl rfl ?_
    obtain ⟨c9, h⟩ := fS h
    refine fW_iald 42 hg tc_429 ⟨c9.1, by rw [show Ln 429 = 19 from rfl]; exact c9.2⟩ dX11_entry_41 rfl ?_
    refine fW_iconst 43 dX11_entry_42 rfl ?_
    refine fW_isub 44 dX11_entry_43 rfl ?_
    obtain ⟨c10, h⟩ := fS h
    obtain ⟨r11, e11, h⟩ := fBd h
    refine fW_cB (fI_S (as := [iv a3, iv 0, iv ((r6 429 r8) - 1)]) (rest := [rv G 418]) miX11_isIn rfl wd_1272 (fRoom_of rfl) rfl (Nat.le_of_ble_eq_true rfl) dX11_entry_44) (s_X11_isIn ga3 (by decide) c10 e11) rfl rfl rfl (fun g11 => ?_)
    refine fW_if_eq 50 64 (rg_z g11) dX11_entry_47 rfl rfl (fun c12 => ?_) (fun c12 => ?_)
    · replace h := fTt h c12
      exact fW_sb (i_X11_entry_64 hg ga1 ga3 ga4 g8 h) ⟨rfl, rfl, rfl, rfl, rfl, trivial⟩
    · replace h := fFf h c12
      refine fW_iload 52 dX11_entry_50 rfl rfl ?_
      refine fW_iconst 53 dX11_entry_52 rfl ?_
      refine fW_iconst 54 dX11_entry_53 rfl ?_
      obtain ⟨r34, e34, h⟩ := fBd h
      refine fW_cB (fI_S (as := [iv a4, iv 0, iv 3]) (rest := [rv G 418]) miX11_isIn rfl wd_1272 (fRoom_of rfl) rfl (Nat.le_of_ble_eq_true rfl) dX11_entry_54) (s_X11_isIn ga4 (by decide) (by decide) e34) rfl rfl rfl (fun g34 => ?_)
      refine fW_if_eq 60 64 (rg_z g34) dX11_entry_57 rfl rfl (fun c35 => ?_) (fun c35 => ?_)
      · replace h := fTt h c35
        exact fW_sb (i_X11_entry_64 hg ga1 ga3 ga4 g8 h) ⟨rfl, rfl, rfl, rfl, rfl, trivial⟩
      · replace h := fFf h c35
        refine fW_iconst 61 dX11_entry_60 rfl ?_
        refine fW_goto 65 dX11_entry_61 rfl ?_
        exact fW_sb (i_X11_entry_65 hg ga1 ga3 ga4 g8 (by decide) h) ⟨rfl, rfl, rfl, rfl, rfl, trivial⟩
  · replace h := fTt h c5
    refine fW_iconst 19 dX11_entry_18 rfl ?_
    exact fW_iret rfl (by decide) (by decide) dX11_entry_19 (rI_i h (by decide))
def mX11_allShut : fMt := (yX11_allShut, cX11_allShut, 3, some .int, { frames := 1, cells := 0, slots := 0, locals := 40 })
theorem miX11_allShut : fMv mX11_allShut 0 := ⟨⟨fM 1544 (by decide +kernel) rfl, fM 101 (by decide +kernel) rfl, ⟨by decide +kernel, by decide +kernel⟩, by decide +kernel⟩, fM 1543 (by decide +kernel) rfl, fM 72 (by decide +kernel) rfl⟩
def L_X11_allShut_4  (M : fMem) (k : Int → Option (Int)) : Nat → Int → Int → Option (Int)
  | 0, _, _ => none
  | n + 1, v1, v2 => (if 19 ≤ v2 then k v1 else ((f_X11_isShut v2 M).bind fun (r2 : Int) => (if r2 = 0 then (if -2147483648 ≤ v1 + 0 ∧ v1 + 0 < 2147483648 then L_X11_allShut_4 M k n (v1 + 0) (v2 + 1) else none) else (if -2147483648 ≤ v1 + 1 ∧ v1 + 1 < 2147483648 then L_X11_allShut_4 M k n (v1 + 1) (v2 + 1) else none))))
set_option maxRecDepth 100000 in
set_option maxHeartbeats 4000000 in
theorem l_X11_allShut_4 {G : fG} (hg : gbt G = true)  {M : fMem} {q : Int} {k : Int → Option (Int)} (hk : ∀ (v1 : Int), rg v1 → k v1 = some q → fW G mX11_allShut (fEm G mX11_allShut (rP M q) fNo) 0 0 32 [some (rv G 418), some (iv v1), none] [] M) : ∀ (n : Nat) (v1 : Int) (v2 : Int), rg v1 → rg v2 → L_X11_allShut_4 M k n v1 v2 = some q → fW G mX11_allShut (fEm G mX11_allShut (rP M q) fNo) 0 0 4 [some (rv G 418), some (iv v1), some (iv v2)] [] M := by
  intro n
  induction n with
  | zero =>
    intro v1 v2 gv1 gv2 h
    rw [L_X11_allShut_4] at h
    exact absurd h (by simp)
  | succ n ih =>
    intro v1 v2 gv1 gv2 h
    rw [L_X11_allShut_4] at h
    refine fW_rg (fun hR => ?_)
    refine fW_iload_n 5 dX11_allShut_4 rfl rfl ?_
    refine fW_bipush 7 dX11_allShut_5 rfl (by decide) ?_
    refine fW_icmp_ge 10 32 gv2 (by decide) dX11_allShut_7 rfl rfl (fun c1 => ?_) (fun c1 => ?_)
    · replace h := fTt h c1
      exact fW_sb (hk v1 gv1 h) ⟨rfl, rfl, trivial⟩
    · replace h := fFf h c1
      refine fW_iload_n 11 dX11_allShut_10 rfl rfl ?_
      refine fW_aload_n 12 dX11_allShut_11 rfl rfl ?_
      refine fW_iload_n 13 dX11_allShut_12 rfl rfl ?_
      obtain ⟨r2, e2, h⟩ := fBd h
      refine fW_cB (fI_V (as := [iv v2]) (rest := [iv v1]) miX11_isShut hg clX11 rfl tc_418 wd_1340 (fRoom_of rfl) rfl (Nat.le_of_ble_eq_true rfl) dX11_allShut_13) (s_X11_isShut hg gv2 e2) rfl rfl rfl (fun g2 => ?_)
      refine fW_if_eq 19 23 (rg_z g2) dX11_allShut_16 rfl rfl (fun c3 => ?_) (fun c3 => ?_)
      · replace h := fTt h c3
        refine fW_iconst 24 dX11_allShut_23 rfl ?_
        refine fW_iadd 25 dX11_allShut_24 rfl ?_
        refine fW_istore_n 26 (ls' := [some (rv G 418), some (iv (v1 + 0)), some (iv v2)]) dX11_allShut_25 rfl rfl rfl (by decide) ?_
        refine fW_iinc 29 (ls' := [some (rv G 418), some (iv (v1 + 0)), some (iv (v2 + 1))]) dX11_allShut_26 rfl rfl rfl (by decide) ?_
        refine fW_goto 4 dX11_allShut_29 rfl ?_
        obtain ⟨c4, h⟩ := fS h
        exact fW_sb (ih (v1 + 0) (v2 + 1) c4 (rg_succ' gv2 (by decide) c1) h) ⟨rfl, rfl, rfl, trivial⟩
      · replace h := fFf h c3
        refine fW_iconst 20 dX11_allShut_19 rfl ?_
        refine fW_goto 24 dX11_allShut_20 rfl ?_
        refine fW_iadd 25 dX11_allShut_24 rfl ?_
        refine fW_istore_n 26 (ls' := [some (rv G 418), some (iv (v1 + 1)), some (iv v2)]) dX11_allShut_25 rfl rfl rfl (by decide) ?_
        refine fW_iinc 29 (ls' := [some (rv G 418), some (iv (v1 + 1)), some (iv (v2 + 1))]) dX11_allShut_26 rfl rfl rfl (by decide) ?_
        refine fW_goto 4 dX11_allShut_29 rfl ?_
        obtain ⟨c5, h⟩ := fS h
        exact fW_sb (ih (v1 + 1) (v2 + 1) c5 (rg_succ' gv2 (by decide) c1) h) ⟨rfl, rfl, rfl, trivial⟩
def f_X11_allShut  (M : fMem) : Option (Int) := L_X11_allShut_4 M (fun (v1_6 : Int) => some v1_6) 20000 0 0
set_option maxRecDepth 100000 in
set_option maxHeartbeats 4000000 in
theorem s_X11_allShut {G : fG} (hg : gbt G = true)  {M : fMem} {q : Int} (h : f_X11_allShut M = some q) : fSp G mX11_allShut [rv G 418] M (rP M q) fNo := by
  refine fSp_of (by decide +kernel) (by decide +kernel) (fC1 rfl fC0) (Nat.le_of_ble_eq_true rfl) ?_
  show fW G mX11_allShut (fEm G mX11_allShut (rP M q) fNo) 0 0 0 [some (rv G 418), none, none] [] M
  rw [f_X11_allShut] at h
  refine fW_rg (fun hR => ?_)
  refine fW_iconst 1 dX11_allShut_0 rfl ?_
  refine fW_istore_n 2 (ls' := [some (rv G 418), some (iv 0), none]) dX11_allShut_1 rfl rfl rfl (by decide) ?_
  refine fW_iconst 3 dX11_allShut_2 rfl ?_
  refine fW_istore_n 4 (ls' := [some (rv G 418), some (iv 0), some (iv 0)]) dX11_allShut_3 rfl rfl rfl (by decide) ?_
  refine fW_sb (l_X11_allShut_4 hg ?_ 20000 0 0 (by decide) (by decide) h) ⟨rfl, rfl, rfl, trivial⟩
  intro v1_6 gv1_6 h
  refine fW_iload_n 33 dX11_allShut_32 rfl rfl ?_
  exact fW_iret rfl (by decide) (by decide) dX11_allShut_33 (rP_i h gv1_6)
def mX11_deepest : fMt := (yX11_deepest, cX11_deepest, 2, some .int, { frames := 2, cells := 0, slots := 0, locals := 80 })
theorem miX11_deepest : fMv mX11_deepest 0 := ⟨⟨fM 1548 (by decide +kernel) rfl, fM 101 (by decide +kernel) rfl, ⟨by decide +kernel, by decide +kernel⟩, by decide +kernel⟩, fM 1547 (by decide +kernel) rfl, fM 73 (by decide +kernel) rfl⟩
def L_X11_deepest_3  (M : fMem) (k : Option (Int)) : Nat → Int → Option (Int)
  | 0, _ => none
  | n + 1, v1 => (if v1 < 0 then k else ((f_X11_shutMany v1 M).bind fun (r2 : Int) => (if r2 ≤ 0 then L_X11_deepest_3 M k n (v1 + -1) else some v1)))
set_option maxRecDepth 100000 in
set_option maxHeartbeats 4000000 in
theorem l_X11_deepest_3 {G : fG} (hg : gbt G = true)  {M : fMem} {q : Int} {k : Option (Int)} (hk : k = some q → fW G mX11_deepest (fEm G mX11_deepest (rP M q) fNo) 0 0 23 [some (rv G 418), none] [] M) : ∀ (n : Nat) (v1 : Int), rg v1 → L_X11_deepest_3 M k n v1 = some q → fW G mX11_deepest (fEm G mX11_deepest (rP M q) fNo) 0 0 3 [some (rv G 418), some (iv v1)] [] M := by
  intro n
  induction n with
  | zero =>
    intro v1 gv1 h
    rw [L_X11_deepest_3] at h
    exact absurd h (by simp)
  | succ n ih =>
    intro v1 gv1 h
    rw [L_X11_deepest_3] at h
    refine fW_rg (fun hR => ?_)
    refine fW_iload_n 4 dX11_deepest_3 rfl rfl ?_
    refine fW_if_lt 7 23 gv1 dX11_deepest_4 rfl rfl (fun c1 => ?_) (fun c1 => ?_)
    · replace h := fTt h c1
      exact fW_sb (hk h) ⟨rfl, trivial⟩
    · replace h := fFf h c1
      refine fW_aload_n 8 dX11_deepest_7 rfl rfl ?_
      refine fW_iload_n 9 dX11_deepest_8 rfl rfl ?_
      obtain ⟨r2, e2, h⟩ := fBd h
      refine fW_cP (fI_V (as := [iv v1]) (rest := []) miX11_shutMany hg clX11 rfl tc_418 wd_1336 (fRoom_of rfl) rfl (Nat.le_of_ble_eq_true rfl) dX11_deepest_9) (s_X11_shutMany hg gv1 e2) rfl rfl rfl (fun g2 => ?_)
      refine fW_if_le 15 17 g2 dX11_deepest_12 rfl rfl (fun c3 => ?_) (fun c3 => ?_)
      · replace h := fTt h c3
        refine fW_iinc 20 (ls' := [some (rv G 418), some (iv (v1 + -1))]) dX11_deepest_17 rfl rfl rfl (by decide) ?_
        refine fW_goto 3 dX11_deepest_20 rfl ?_
        exact fW_sb (ih (v1 + -1) (rg_pred0' gv1 c1) h) ⟨rfl, rfl, trivial⟩
      · replace h := fFf h c3
        refine fW_iload_n 16 dX11_deepest_15 rfl rfl ?_
        exact fW_iret rfl (by decide) (by decide) dX11_deepest_16 (rP_i h gv1)
def f_X11_deepest  (M : fMem) : Option (Int) := L_X11_deepest_3 M (some ((-1))) 20000 8
set_option maxRecDepth 100000 in
set_option maxHeartbeats 4000000 in
theorem s_X11_deepest {G : fG} (hg : gbt G = true)  {M : fMem} {q : Int} (h : f_X11_deepest M = some q) : fSp G mX11_deepest [rv G 418] M (rP M q) fNo := by
  refine fSp_of (by decide +kernel) (by decide +kernel) (fC1 rfl fC0) (Nat.le_of_ble_eq_true rfl) ?_
  show fW G mX11_deepest (fEm G mX11_deepest (rP M q) fNo) 0 0 0 [some (rv G 418), none] [] M
  rw [f_X11_deepest] at h
  refine fW_rg (fun hR => ?_)
  refine fW_bipush 2 dX11_deepest_0 rfl (by decide) ?_
  refine fW_istore_n 3 (ls' := [some (rv G 418), some (iv 8)]) dX11_deepest_2 rfl rfl rfl (by decide) ?_
  refine fW_sb (l_X11_deepest_3 hg ?_ 20000 8 (by decide) h) ⟨rfl, rfl, trivial⟩
  intro  h
  refine fW_iconst 24 dX11_deepest_23 rfl ?_
  exact fW_iret rfl (by decide) (by decide) dX11_deepest_24 (rP_i h (by decide))
def mX11_mergingMany : fMt := (yX11_mergingMany, cX11_mergingMany, 3, some .int, { frames := 0, cells := 0, slots := 0, locals := 0 })
theorem miX11_mergingMany : fMv mX11_mergingMany 0 := ⟨⟨fM 1552 (by decide +kernel) rfl, fM 101 (by decide +kernel) rfl, ⟨by decide +kernel, by decide +kernel⟩, by decide +kernel⟩, fM 1551 (by decide +kernel) rfl, fM 74 (by decide +kernel) rfl⟩
def L_X11_mergingMany_4  (M : fMem) (k : Int → Option (Int)) : Nat → Int → Int → Option (Int)
  | 0, _, _ => none
  | n + 1, v1, v2 => (if 9 ≤ v2 then k v1 else (if 0 ≤ 7657 + v2 ∧ 7657 + v2 < 7787 then (if -2147483648 ≤ v1 + (M 419 (7657 + v2)) ∧ v1 + (M 419 (7657 + v2)) < 2147483648 then L_X11_mergingMany_4 M k n (v1 + (M 419 (7657 + v2))) (v2 + 1) else none) else none))
set_option maxRecDepth 100000 in
set_option maxHeartbeats 4000000 in
theorem l_X11_mergingMany_4 {G : fG} (hg : gbt G = true)  {M : fMem} {q : Int} {k : Int → Option (Int)} (hk : ∀ (v1 : Int), rg v1 → k v1 = some q → fW G mX11_mergingMany (fEm G mX11_mergingMany (rP M q) fNo) 0 0 29 [some (rv G 418), some (iv v1), none] [] M) : ∀ (n : Nat) (v1 : Int) (v2 : Int), rg v1 → rg v2 → L_X11_mergingMany_4 M k n v1 v2 = some q → fW G mX11_mergingMany (fEm G mX11_mergingMany (rP M q) fNo) 0 0 4 [some (rv G 418), some (iv v1), some (iv v2)] [] M := by
  intro n
  induction n with
  | zero =>
    intro v1 v2 gv1 gv2 h
    rw [L_X11_mergingMany_4] at h
    exact absurd h (by simp)
  | succ n ih =>
    intro v1 v2 gv1 gv2 h
    rw [L_X11_mergingMany_4] at h
    refine fW_rg (fun hR => ?_)
    refine fW_iload_n 5 dX11_mergingMany_4 rfl rfl ?_
    refine fW_bipush 7 dX11_mergingMany_5 rfl (by decide) ?_
    refine fW_icmp_ge 10 29 gv2 (by decide) dX11_mergingMany_7 rfl rfl (fun c1 => ?_) (fun c1 => ?_)
    · replace h := fTt h c1
      exact fW_sb (hk v1 gv1 h) ⟨rfl, rfl, trivial⟩
    · replace h := fFf h c1
      refine fW_iload_n 11 dX11_mergingMany_10 rfl rfl ?_
      refine fW_aload_n 12 dX11_mergingMany_11 rfl rfl ?_
      refine fW_getR 15 (r := 419) 0 hg clX11 (by decide) rfl tc_418 tf_11_0 wd_1174 dX11_mergingMany_12 rfl ?_
      refine fW_sipush 18 dX11_mergingMany_15 rfl (by decide) ?_
      refine fW_iload_n 19 dX11_mergingMany_18 rfl rfl ?_
      refine fW_iadd 20 dX11_mergingMany_19 rfl ?_
      obtain ⟨c2, h⟩ := fS h
      refine fW_iald 21 hg tc_419 ⟨c2.1, by rw [show Ln 419 = 7787 from rfl]; exact c2.2⟩ dX11_mergingMany_20 rfl ?_
      refine fW_iadd 22 dX11_mergingMany_21 rfl ?_
      refine fW_istore_n 23 (ls' := [some (rv G 418), some (iv (v1 + (M 419 (7657 + v2)))), some (iv v2)]) dX11_mergingMany_22 rfl rfl rfl (by decide) ?_
      refine fW_iinc 26 (ls' := [some (rv G 418), some (iv (v1 + (M 419 (7657 + v2)))), some (iv (v2 + 1))]) dX11_mergingMany_23 rfl rfl rfl (by decide) ?_
      refine fW_goto 4 dX11_mergingMany_26 rfl ?_
      obtain ⟨c3, h⟩ := fS h
      exact fW_sb (ih (v1 + (M 419 (7657 + v2))) (v2 + 1) c3 (rg_succ' gv2 (by decide) c1) h) ⟨rfl, rfl, rfl, trivial⟩
def f_X11_mergingMany  (M : fMem) : Option (Int) := L_X11_mergingMany_4 M (fun (v1_4 : Int) => some v1_4) 20000 0 0
set_option maxRecDepth 100000 in
set_option maxHeartbeats 4000000 in
theorem s_X11_mergingMany {G : fG} (hg : gbt G = true)  {M : fMem} {q : Int} (h : f_X11_mergingMany M = some q) : fSp G mX11_mergingMany [rv G 418] M (rP M q) fNo := by
  refine fSp_of (by decide +kernel) (by decide +kernel) (fC1 rfl fC0) (Nat.le_of_ble_eq_true rfl) ?_
  show fW G mX11_mergingMany (fEm G mX11_mergingMany (rP M q) fNo) 0 0 0 [some (rv G 418), none, none] [] M
  rw [f_X11_mergingMany] at h
  refine fW_rg (fun hR => ?_)
  refine fW_iconst 1 dX11_mergingMany_0 rfl ?_
  refine fW_istore_n 2 (ls' := [some (rv G 418), some (iv 0), none]) dX11_mergingMany_1 rfl rfl rfl (by decide) ?_
  refine fW_iconst 3 dX11_mergingMany_2 rfl ?_
  refine fW_istore_n 4 (ls' := [some (rv G 418), some (iv 0), some (iv 0)]) dX11_mergingMany_3 rfl rfl rfl (by decide) ?_
  refine fW_sb (l_X11_mergingMany_4 hg ?_ 20000 0 0 (by decide) (by decide) h) ⟨rfl, rfl, rfl, trivial⟩
  intro v1_4 gv1_4 h
  refine fW_iload_n 30 dX11_mergingMany_29 rfl rfl ?_
  exact fW_iret rfl (by decide) (by decide) dX11_mergingMany_30 (rP_i h gv1_4)
def mX11_count : fMt := (yX11_count, cX11_count, 2, some .int, { frames := 6, cells := 0, slots := 0, locals := 240 })
theorem miX11_count : fMv mX11_count 1 := ⟨⟨fM 1540 (by decide +kernel) rfl, fM 101 (by decide +kernel) rfl, ⟨by decide +kernel, by decide +kernel⟩, by decide +kernel⟩, fM 1538 (by decide +kernel) rfl, fM 1539 (by decide +kernel) rfl⟩
def f_X11_count (a1 : Int) (M : fMem) : Option (Int × fMem) := ((some (mset M 418 4 0)).bind fun (N1 : fMem) => ((f_X11_isIn a1 0 15 N1).bind fun (r2 : Int) => ((f_X11_right r2 1 N1).bind fun (r3 : Int × fMem) => (if r3.1 = 0 then some (0, r3.2) else (if a1 = 6 then ((f_X11_thereMany r3.2).bind fun (r7 : Int × fMem) => some (r7.1, r7.2)) else (if a1 = 7 then ((f_X11_allShut r3.2).bind fun (r10 : Int) => some (r10, r3.2)) else (if a1 = 8 then ((f_X11_allThings r3.2).bind fun (r12 : Int) => some (r12, r3.2)) else (if a1 = 9 then ((f_X11_deepest r3.2).bind fun (r14 : Int) => some (r14, r3.2)) else (if a1 = 10 then some (r3.2 419 7739, r3.2) else (if a1 = 11 then some (r3.2 419 7740, r3.2) else (if a1 = 12 then ((f_X11_mergingMany r3.2).bind fun (r18 : Int) => some (r18, r3.2)) else (if a1 = 13 then some (r3.2 418 3, r3.2) else (if a1 = 14 then ((f_X11_mostLooks 0 r3.2).bind fun (r21 : Int × fMem) => some (r21.1, r21.2)) else (if a1 = 15 then ((f_X11_mostLooks 1 r3.2).bind fun (r24 : Int × fMem) => some (r24.1, r24.2)) else (if 0 ≤ 7741 + a1 ∧ 7741 + a1 < 7787 then some (r3.2 419 (7741 + a1), r3.2) else none)))))))))))))))
set_option maxRecDepth 100000 in
set_option maxHeartbeats 4000000 in
theorem s_X11_count {G : fG} (hg : gbt G = true) {a1 : Int} (ga1 : rg a1) {M : fMem} {q : Int × fMem} (h : f_X11_count a1 M = some q) : fSp G mX11_count [rv G 418, iv a1] M (rP q.2 q.1) fNo := by
  refine fSp_of (by decide +kernel) (by decide +kernel) (fC1 rfl (fC1 rfl fC0)) (Nat.le_of_ble_eq_true rfl) ?_
  show fW G mX11_count (fEm G mX11_count (rP q.2 q.1) fNo) 0 0 0 [some (rv G 418), some (iv a1)] [] M
  rw [f_X11_count] at h
  refine fW_rg (fun hR => ?_)
  refine fW_aload_n 1 dX11_count_0 rfl rfl ?_
  refine fW_iconst 2 dX11_count_1 rfl ?_
  obtain ⟨N1, e1, h⟩ := fBd h
  replace e1 := Option.some.inj e1
  refine fW_putI 5 4 (ji := 4) hg clX11 rfl (by decide) rfl rfl rfl tc_418 (by decide) wd_1178 dX11_count_2 rfl ?_
  rw [e1]
  refine fW_rg (fun hR1 => ?_)
  refine fW_aload_n 6 dX11_count_5 rfl rfl ?_
  refine fW_iload_n 7 dX11_count_6 rfl rfl ?_
  refine fW_iconst 8 dX11_count_7 rfl ?_
  refine fW_bipush 10 dX11_count_8 rfl (by decide) ?_
  obtain ⟨r2, e2, h⟩ := fBd h
  refine fW_cB (fI_S (as := [iv a1, iv 0, iv 15]) (rest := [rv G 418]) miX11_isIn rfl wd_1272 (fRoom_of rfl) rfl (Nat.le_of_ble_eq_true rfl) dX11_count_10) (s_X11_isIn ga1 (by decide) (by decide) e2) rfl rfl rfl (fun g2 => ?_)
  refine fW_iconst 14 dX11_count_13 rfl ?_
  obtain ⟨r3, e3, h⟩ := fBd h
  refine fW_cB (fI_V (as := [iv r2, iv 1]) (rest := []) miX11_right hg clX11 rfl tc_418 wd_1396 (fRoom_of rfl) rfl (Nat.le_of_ble_eq_true rfl) dX11_count_14) (s_X11_right hg g2 (by decide) e3) rfl rfl rfl (fun g3 => ?_)
  refine fW_rg (fun hR4 => ?_)
  refine fW_if_ne 20 22 (rg_z g3) dX11_count_17 rfl rfl (fun c5 => ?_) (fun c5 => ?_)
  · replace h := fFf h c5
    refine fW_iload_n 23 dX11_count_22 rfl rfl ?_
    have gs := ga1
    by_cases c6 : a1 = 6
    · replace h := fTt h c6
      refine fW_tabIn 76 c6 (by decide) dX11_count_23 (by decide) (by decide) rfl rfl ?_
      refine fW_aload_n 77 dX11_count_76 rfl rfl ?_
      obtain ⟨r7, e7, h⟩ := fBd h
      refine fW_cP (fI_V (as := []) (rest := []) miX11_thereMany hg clX11 rfl tc_418 wd_1419 (fRoom_of rfl) rfl (Nat.le_of_ble_eq_true rfl) dX11_count_77) (s_X11_thereMany hg e7) rfl rfl rfl (fun g7 => ?_)
      refine fW_rg (fun hR8 => ?_)
      exact fW_iret rfl (by decide) (by decide) dX11_count_80 (rI_i h g7)
    replace h := fFf h c6
    by_cases c9 : a1 = 7
    · replace h := fTt h c9
      refine fW_tabIn 81 c9 (by decide) dX11_count_23 (by decide) (by decide) rfl rfl ?_
      refine fW_aload_n 82 dX11_count_81 rfl rfl ?_
      obtain ⟨r10, e10, h⟩ := fBd h
      refine fW_cP (fI_V (as := []) (rest := []) miX11_allShut hg clX11 rfl tc_418 wd_1541 (fRoom_of rfl) rfl (Nat.le_of_ble_eq_true rfl) dX11_count_82) (s_X11_allShut hg e10) rfl rfl rfl (fun g10 => ?_)
      exact fW_iret rfl (by decide) (by decide) dX11_count_85 (rI_i h g10)
    replace h := fFf h c9
    by_cases c11 : a1 = 8
    · replace h := fTt h c11
      refine fW_tabIn 86 c11 (by decide) dX11_count_23 (by decide) (by decide) rfl rfl ?_
      refine fW_aload_n 87 dX11_count_86 rfl rfl ?_
      obtain ⟨r12, e12, h⟩ := fBd h
      refine fW_cP (fI_V (as := []) (rest := []) miX11_allThings hg clX11 rfl tc_418 wd_1423 (fRoom_of rfl) rfl (Nat.le_of_ble_eq_true rfl) dX11_count_87) (s_X11_allThings hg e12) rfl rfl rfl (fun g12 => ?_)
      exact fW_iret rfl (by decide) (by decide) dX11_count_90 (rI_i h g12)
    replace h := fFf h c11
    by_cases c13 : a1 = 9
    · replace h := fTt h c13
      refine fW_tabIn 91 c13 (by decide) dX11_count_23 (by decide) (by decide) rfl rfl ?_
      refine fW_aload_n 92 dX11_count_91 rfl rfl ?_
      obtain ⟨r14, e14, h⟩ := fBd h
      refine fW_cP (fI_V (as := []) (rest := []) miX11_deepest hg clX11 rfl tc_418 wd_1545 (fRoom_of rfl) rfl (Nat.le_of_ble_eq_true rfl) dX11_count_92) (s_X11_deepest hg e14) rfl rfl rfl (fun g14 => ?_)
      exact fW_iret rfl (by decide) (by decide) dX11_count_95 (rI_i h g14)
    replace h := fFf h c13
    by_cases c15 : a1 = 10
    · replace h := fTt h c15
      refine fW_tabIn 96 c15 (by decide) dX11_count_23 (by decide) (by decide) rfl rfl ?_
      refine fW_aload_n 97 dX11_count_96 rfl rfl ?_
      refine fW_getR 100 (r := 419) 0 hg clX11 (by decide) rfl tc_418 tf_11_0 wd_1174 dX11_count_97 rfl ?_
      refine fW_sipush 103 dX11_count_100 rfl (by decide) ?_
      refine fW_iald 104 hg tc_419 ⟨by decide, by rw [show Ln 419 = 7787 from rfl]; decide⟩ dX11_count_103 rfl ?_
      exact fW_iret rfl (by decide) (by decide) dX11_count_104 (rI_i h (hR4 419 7739))
    replace h := fFf h c15
    by_cases c16 : a1 = 11
    · replace h := fTt h c16
      refine fW_tabIn 105 c16 (by decide) dX11_count_23 (by decide) (by decide) rfl rfl ?_
      refine fW_aload_n 106 dX11_count_105 rfl rfl ?_
      refine fW_getR 109 (r := 419) 0 hg clX11 (by decide) rfl tc_418 tf_11_0 wd_1174 dX11_count_106 rfl ?_
      refine fW_sipush 112 dX11_count_109 rfl (by decide) ?_
      refine fW_iald 113 hg tc_419 ⟨by decide, by rw [show Ln 419 = 7787 from rfl]; decide⟩ dX11_count_112 rfl ?_
      exact fW_iret rfl (by decide) (by decide) dX11_count_113 (rI_i h (hR4 419 7740))
    replace h := fFf h c16
    by_cases c17 : a1 = 12
    · replace h := fTt h c17
      refine fW_tabIn 114 c17 (by decide) dX11_count_23 (by decide) (by decide) rfl rfl ?_
      refine fW_aload_n 115 dX11_count_114 rfl rfl ?_
      obtain ⟨r18, e18, h⟩ := fBd h
      refine fW_cP (fI_V (as := []) (rest := []) miX11_mergingMany hg clX11 rfl tc_418 wd_1549 (fRoom_of rfl) rfl (Nat.le_of_ble_eq_true rfl) dX11_count_115) (s_X11_mergingMany hg e18) rfl rfl rfl (fun g18 => ?_)
      exact fW_iret rfl (by decide) (by decide) dX11_count_118 (rI_i h g18)
    replace h := fFf h c17
    by_cases c19 : a1 = 13
    · replace h := fTt h c19
      refine fW_tabIn 119 c19 (by decide) dX11_count_23 (by decide) (by decide) rfl rfl ?_
      refine fW_aload_n 120 dX11_count_119 rfl rfl ?_
      refine fW_getI 123 3 (ji := 3) hg clX11 rfl (by decide) rfl tc_418 wd_1177 dX11_count_120 rfl ?_
      exact fW_iret rfl (by decide) (by decide) dX11_count_123 (rI_i h (hR4 418 3))
    replace h := fFf h c19
    by_cases c20 : a1 = 14
    · replace h := fTt h c20
      refine fW_tabIn 124 c20 (by decide) dX11_count_23 (by decide) (by decide) rfl rfl ?_
      refine fW_aload_n 125 dX11_count_124 rfl rfl ?_
      refine fW_iconst 126 dX11_count_125 rfl ?_
      obtain ⟨r21, e21, h⟩ := fBd h
      refine fW_cP (fI_V (as := [iv 0]) (rest := []) miX11_mostLooks hg clX11 rfl tc_418 wd_1553 (fRoom_of rfl) rfl (Nat.le_of_ble_eq_true rfl) dX11_count_126) (s_X11_mostLooks hg (by decide) e21) rfl rfl rfl (fun g21 => ?_)
      refine fW_rg (fun hR22 => ?_)
      exact fW_iret rfl (by decide) (by decide) dX11_count_129 (rI_i h g21)
    replace h := fFf h c20
    by_cases c23 : a1 = 15
    · replace h := fTt h c23
      refine fW_tabIn 130 c23 (by decide) dX11_count_23 (by decide) (by decide) rfl rfl ?_
      refine fW_aload_n 131 dX11_count_130 rfl rfl ?_
      refine fW_iconst 132 dX11_count_131 rfl ?_
      obtain ⟨r24, e24, h⟩ := fBd h
      refine fW_cP (fI_V (as := [iv 1]) (rest := []) miX11_mostLooks hg clX11 rfl tc_418 wd_1553 (fRoom_of rfl) rfl (Nat.le_of_ble_eq_true rfl) dX11_count_132) (s_X11_mostLooks hg (by decide) e24) rfl rfl rfl (fun g24 => ?_)
      refine fW_rg (fun hR25 => ?_)
      exact fW_iret rfl (by decide) (by decide) dX11_count_135 (rI_i h g24)
    replace h := fFf h c23
    refine fW_tabOut 136 gs dX11_count_23 (by omega) rfl ?_
    refine fW_aload_n 137 dX11_count_136 rfl rfl ?_
    refine fW_getR 140 (r := 419) 0 hg clX11 (by decide) rfl tc_418 tf_11_0 wd_1174 dX11_count_137 rfl ?_
    refine fW_sipush 143 dX11_count_140 rfl (by decide) ?_
    refine fW_iload_n 144 dX11_count_143 rfl rfl ?_
    refine fW_iadd 145 dX11_count_144 rfl ?_
    obtain ⟨c26, h⟩ := fS h
    refine fW_iald 146 hg tc_419 ⟨c26.1, by rw [show Ln 419 = 7787 from rfl]; exact c26.2⟩ dX11_count_145 rfl ?_
    exact fW_iret rfl (by decide) (by decide) dX11_count_146 (rI_i h (hR4 419 (7741 + a1)))
  · replace h := fTt h c5
    refine fW_iconst 21 dX11_count_20 rfl ?_
    exact fW_iret rfl (by decide) (by decide) dX11_count_21 (rI_i h (by decide))
end MTH
