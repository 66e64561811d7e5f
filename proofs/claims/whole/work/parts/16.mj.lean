section MTH
def mX11_looks : fMt := (yX11_looks, cX11_looks, 3, some .int, { frames := 5, cells := 0, slots := 0, locals := 200 })
theorem miX11_looks : fMv mX11_looks 2 := ⟨⟨fM 1430 (by decide +kernel) rfl, fM 101 (by decide +kernel) rfl, ⟨by decide +kernel, by decide +kernel⟩, by decide +kernel⟩, fM 1428 (by decide +kernel) rfl, fM 1429 (by decide +kernel) rfl⟩
def f_X11_looks (a1 : Int) (a2 : Int) (M : fMem) : Option (Int × fMem) := ((f_X11_isKey a1 (mset M 418 4 0)).bind fun (r2 : Int) => ((f_X11_right r2 1 (mset M 418 4 0)).bind fun (r3 : Int × fMem) => (if r3.1 = 0 then some (0, r3.2) else ((f_X11_laysEntries a2 r3.2).bind fun (r6 : fMem) => ((f_X11_looksFor a1 r6).bind fun (r8 : Int × fMem) => some (r8.1, r8.2))))))
set_option maxRecDepth 100000 in
set_option maxHeartbeats 4000000 in
theorem s_X11_looks {G : fG} (hg : gbt G = true) {a1 : Int} (ga1 : rg a1) {a2 : Int} (ga2 : 0 ≤ a2 ∧ a2 ≤ 1) {M : fMem} {q : Int × fMem} (h : f_X11_looks a1 a2 M = some q) : fSp G mX11_looks [rv G 418, iv a1, iv a2] M (rP q.2 q.1) fNo := by
  refine fSp_of (by decide +kernel) (by decide +kernel) (fC1 rfl (fC1 rfl (fC1 rfl fC0))) (Nat.le_of_ble_eq_true rfl) ?_
  show fW G mX11_looks (fEm G mX11_looks (rP q.2 q.1) fNo) 0 0 0 [some (rv G 418), some (iv a1), some (iv a2)] [] M
  rw [f_X11_looks] at h
  refine fW_rg (fun hR => ?_)
  refine fW_aload_n 1 dX11_looks_0 rfl rfl ?_
  refine fW_iconst 2 dX11_looks_1 rfl ?_
  refine fW_putI 5 4 (ji := 4) hg clX11 rfl (by decide) rfl rfl rfl tc_418 (by decide) wd_1178 dX11_looks_2 rfl ?_
  refine fW_rg (fun hR1 => ?_)
  refine fW_aload_n 6 dX11_looks_5 rfl rfl ?_
  refine fW_iload_n 7 dX11_looks_6 rfl rfl ?_
  obtain ⟨r2, e2, h⟩ := fBd h
  refine fW_cB (fI_S (as := [iv a1]) (rest := [rv G 418]) miX11_isKey rfl wd_1275 (fRoom_of rfl) rfl (Nat.le_of_ble_eq_true rfl) dX11_looks_7) (s_X11_isKey ga1 e2) rfl rfl rfl (fun g2 => ?_)
  refine fW_iconst 11 dX11_looks_10 rfl ?_
  obtain ⟨r3, e3, h⟩ := fBd h
  refine fW_cB (fI_V (as := [iv r2, iv 1]) (rest := []) miX11_right hg clX11 rfl tc_418 wd_1396 (fRoom_of rfl) rfl (Nat.le_of_ble_eq_true rfl) dX11_looks_11) (s_X11_right hg g2 (by decide) e3) rfl rfl rfl (fun g3 => ?_)
  refine fW_rg (fun hR4 => ?_)
  refine fW_if_ne 17 19 (rg_z g3) dX11_looks_14 rfl rfl (fun c5 => ?_) (fun c5 => ?_)
  · replace h := fFf h c5
    refine fW_aload_n 20 dX11_looks_19 rfl rfl ?_
    refine fW_iload_n 21 dX11_looks_20 rfl rfl ?_
    obtain ⟨r6, e6, h⟩ := fBd h
    refine fW_cV (fI_V (as := [iv a2]) (rest := []) miX11_laysEntries hg clX11 rfl tc_418 wd_1431 (fRoom_of rfl) rfl (Nat.le_of_ble_eq_true rfl) dX11_looks_21) (s_X11_laysEntries hg ga2 e6) rfl rfl rfl ?_
    refine fW_rg (fun hR7 => ?_)
    refine fW_aload_n 25 dX11_looks_24 rfl rfl ?_
    refine fW_iload_n 26 dX11_looks_25 rfl rfl ?_
    obtain ⟨r8, e8, h⟩ := fBd h
    refine fW_cP (fI_V (as := [iv a1]) (rest := []) miX11_looksFor hg clX11 rfl tc_418 wd_1455 (fRoom_of rfl) rfl (Nat.le_of_ble_eq_true rfl) dX11_looks_26) (s_X11_looksFor hg ga1 e8) rfl rfl rfl (fun g8 => ?_)
    refine fW_rg (fun hR9 => ?_)
    exact fW_iret rfl (by decide) (by decide) dX11_looks_29 (rI_i h g8)
  · replace h := fTt h c5
    refine fW_iconst 18 dX11_looks_17 rfl ?_
    exact fW_iret rfl (by decide) (by decide) dX11_looks_18 (rI_i h (by decide))
def mX11_route : fMt := (yX11_route, cX11_route, 6, some .int, { frames := 5, cells := 0, slots := 0, locals := 200 })
theorem miX11_route : fMv mX11_route 3 := ⟨⟨fM 1482 (by decide +kernel) rfl, fM 101 (by decide +kernel) rfl, ⟨by decide +kernel, by decide +kernel⟩, by decide +kernel⟩, fM 1480 (by decide +kernel) rfl, fM 1481 (by decide +kernel) rfl⟩
def j_X11_route_73  (v2 : Int) (v3 : Int) (x1 : Int) (M : fMem) : Option (Int × fMem) := (if 0 ≤ x1 ∧ x1 ≤ 1 then ((f_X11_right x1 1 M).bind fun (r14 : Int × fMem) => (if r14.1 = 0 then some (0, r14.2) else (if v2 = ((-1)) then some (r14.2 418 22, r14.2) else (if 0 ≤ v2 ∧ v2 < 19 then (if v3 = 0 then ((f_X11_levelOf (r14.2 430 v2) r14.2).bind fun (r20 : Int) => some (r20, r14.2)) else (if v3 = 1 then ((f_X11_levelOf (r14.2 430 v2) r14.2).bind fun (r22 : Int) => (if -2147483648 ≤ (r14.2 430 v2) - (2 * r22) ∧ (r14.2 430 v2) - (2 * r22) < 2147483648 then some ((r14.2 430 v2) - (2 * r22), r14.2) else none)) else (if v3 = 2 then (if 0 ≤ v2 ∧ v2 < 19 then some (r14.2 431 v2, r14.2) else none) else (if v3 = 3 then (if 0 ≤ v2 ∧ v2 < 19 then some (r14.2 432 v2, r14.2) else none) else (if v3 = 4 then (if 0 ≤ v2 ∧ v2 < 19 then some (r14.2 433 v2, r14.2) else none) else (if 0 ≤ v2 ∧ v2 < 19 then some (r14.2 434 v2, r14.2) else none)))))) else none)))) else none)
set_option maxRecDepth 100000 in
set_option maxHeartbeats 4000000 in
theorem i_X11_route_73 {G : fG} (hg : gbt G = true)  {v2 : Int} {v3 : Int} {x1 : Int} (gv2 : rg v2) (gv3 : rg v3) (gx1 : rg x1) {M : fMem} {q : Int × fMem} (h : j_X11_route_73 v2 v3 x1 M = some q) : fW G mX11_route (fEm G mX11_route (rP q.2 q.1) fNo) 0 0 73 [some (rv G 418), none, some (iv v2), some (iv v3), none, none] [iv x1, rv G 418] M := by
  rw [j_X11_route_73] at h
  refine fW_rg (fun hR => ?_)
  refine fW_iconst 74 dX11_route_73 rfl ?_
  obtain ⟨c13, h⟩ := fS h
  obtain ⟨r14, e14, h⟩ := fBd h
  refine fW_cB (fI_V (as := [iv x1, iv 1]) (rest := []) miX11_right hg clX11 rfl tc_418 wd_1396 (fRoom_of rfl) rfl (Nat.le_of_ble_eq_true rfl) dX11_route_74) (s_X11_right hg c13 (by decide) e14) rfl rfl rfl (fun g14 => ?_)
  refine fW_rg (fun hR15 => ?_)
  refine fW_if_ne 80 82 (rg_z g14) dX11_route_77 rfl rfl (fun c16 => ?_) (fun c16 => ?_)
  · replace h := fFf h c16
    refine fW_iload_n 83 dX11_route_82 rfl rfl ?_
    refine fW_iconst 84 dX11_route_83 rfl ?_
    refine fW_icmp_ne 87 92 gv2 (by decide) dX11_route_84 rfl rfl (fun c17 => ?_) (fun c17 => ?_)
    · replace h := fFf h c17
      refine fW_aload_n 93 dX11_route_92 rfl rfl ?_
      refine fW_getR 96 (r := 430) 17 hg clX11 (by decide) rfl tc_418 tf_11_17 wd_1191 dX11_route_93 rfl ?_
      refine fW_iload_n 97 dX11_route_96 rfl rfl ?_
      obtain ⟨c18, h⟩ := fS h
      refine fW_iald 98 hg tc_430 ⟨c18.1, by rw [show Ln 430 = 19 from rfl]; exact c18.2⟩ dX11_route_97 rfl ?_
      refine fW_istore 100 (ls' := [some (rv G 418), none, some (iv v2), some (iv v3), none, some (iv (r14.2 430 v2))]) dX11_route_98 rfl rfl (by decide) ?_
      refine fW_iload_n 101 dX11_route_100 rfl rfl ?_
      have gs := gv3
      by_cases c19 : v3 = 0
      · replace h := fTt h c19
        refine fW_tabIn 136 c19 (by decide) dX11_route_101 (by decide) (by decide) rfl rfl ?_
        refine fW_iload 138 dX11_route_136 rfl rfl ?_
        obtain ⟨r20, e20, h⟩ := fBd h
        refine fW_cP (fI_S (as := [iv (r14.2 430 v2)]) (rest := []) miX11_levelOf rfl wd_1412 (fRoom_of rfl) rfl (Nat.le_of_ble_eq_true rfl) dX11_route_138) (s_X11_levelOf (hR15 430 v2) e20) rfl rfl rfl (fun g20 => ?_)
        exact fW_iret rfl (by decide) (by decide) dX11_route_141 (rI_i h g20)
      replace h := fFf h c19
      by_cases c21 : v3 = 1
      · replace h := fTt h c21
        refine fW_tabIn 142 c21 (by decide) dX11_route_101 (by decide) (by decide) rfl rfl ?_
        refine fW_iload 144 dX11_route_142 rfl rfl ?_
        refine fW_iconst 145 dX11_route_144 rfl ?_
        refine fW_iload 147 dX11_route_145 rfl rfl ?_
        obtain ⟨r22, e22, h⟩ := fBd h
        refine fW_cP (fI_S (as := [iv (r14.2 430 v2)]) (rest := [iv 2, iv (r14.2 430 v2)]) miX11_levelOf rfl wd_1412 (fRoom_of rfl) rfl (Nat.le_of_ble_eq_true rfl) dX11_route_147) (s_X11_levelOf (hR15 430 v2) e22) rfl rfl rfl (fun g22 => ?_)
        refine fW_imul 151 dX11_route_150 rfl ?_
        refine fW_isub 152 dX11_route_151 rfl ?_
        obtain ⟨c23, h⟩ := fS h
        exact fW_iret rfl (by decide) (by decide) dX11_route_152 (rI_i h c23)
      replace h := fFf h c21
      by_cases c24 : v3 = 2
      · replace h := fTt h c24
        refine fW_tabIn 153 c24 (by decide) dX11_route_101 (by decide) (by decide) rfl rfl ?_
        refine fW_aload_n 154 dX11_route_153 rfl rfl ?_
        refine fW_getR 157 (r := 431) 18 hg clX11 (by decide) rfl tc_418 tf_11_18 wd_1192 dX11_route_154 rfl ?_
        refine fW_iload_n 158 dX11_route_157 rfl rfl ?_
        obtain ⟨c25, h⟩ := fS h
        refine fW_iald 159 hg tc_431 ⟨c25.1, by rw [show Ln 431 = 19 from rfl]; exact c25.2⟩ dX11_route_158 rfl ?_
        exact fW_iret rfl (by decide) (by decide) dX11_route_159 (rI_i h (hR15 431 v2))
      replace h := fFf h c24
      by_cases c26 : v3 = 3
      · replace h := fTt h c26
        refine fW_tabIn 160 c26 (by decide) dX11_route_101 (by decide) (by decide) rfl rfl ?_
        refine fW_aload_n 161 dX11_route_160 rfl rfl ?_
        refine fW_getR 164 (r := 432) 19 hg clX11 (by decide) rfl tc_418 tf_11_19 wd_1193 dX11_route_161 rfl ?_
        refine fW_iload_n 165 dX11_route_164 rfl rfl ?_
        obtain ⟨c27, h⟩ := fS h
        refine fW_iald 166 hg tc_432 ⟨c27.1, by rw [show Ln 432 = 19 from rfl]; exact c27.2⟩ dX11_route_165 rfl ?_
        exact fW_iret rfl (by decide) (by decide) dX11_route_166 (rI_i h (hR15 432 v2))
      replace h := fFf h c26
      by_cases c28 : v3 = 4
      · replace h := fTt h c28
        refine fW_tabIn 167 c28 (by decide) dX11_route_101 (by decide) (by decide) rfl rfl ?_
        refine fW_aload_n 168 dX11_route_167 rfl rfl ?_
        refine fW_getR 171 (r := 433) 20 hg clX11 (by decide) rfl tc_418 tf_11_20 wd_1194 dX11_route_168 rfl ?_
        refine fW_iload_n 172 dX11_route_171 rfl rfl ?_
        obtain ⟨c29, h⟩ := fS h
        refine fW_iald 173 hg tc_433 ⟨c29.1, by rw [show Ln 433 = 19 from rfl]; exact c29.2⟩ dX11_route_172 rfl ?_
        exact fW_iret rfl (by decide) (by decide) dX11_route_173 (rI_i h (hR15 433 v2))
      replace h := fFf h c28
      refine fW_tabOut 174 gs dX11_route_101 (by omega) rfl ?_
      refine fW_aload_n 175 dX11_route_174 rfl rfl ?_
      refine fW_getR 178 (r := 434) 21 hg clX11 (by decide) rfl tc_418 tf_11_21 wd_1195 dX11_route_175 rfl ?_
      refine fW_iload_n 179 dX11_route_178 rfl rfl ?_
      obtain ⟨c30, h⟩ := fS h
      refine fW_iald 180 hg tc_434 ⟨c30.1, by rw [show Ln 434 = 19 from rfl]; exact c30.2⟩ dX11_route_179 rfl ?_
      exact fW_iret rfl (by decide) (by decide) dX11_route_180 (rI_i h (hR15 434 v2))
    · replace h := fTt h c17
      refine fW_aload_n 88 dX11_route_87 rfl rfl ?_
      refine fW_getI 91 22 (ji := 22) hg clX11 rfl (by decide) rfl tc_418 wd_1196 dX11_route_88 rfl ?_
      exact fW_iret rfl (by decide) (by decide) dX11_route_91 (rI_i h (hR15 418 22))
  · replace h := fTt h c16
    refine fW_iconst 81 dX11_route_80 rfl ?_
    exact fW_iret rfl (by decide) (by decide) dX11_route_81 (rI_i h (by decide))
def j_X11_route_68  (v2 : Int) (v3 : Int) (M : fMem) : Option (Int × fMem) := j_X11_route_73 v2 v3 1 M
set_option maxRecDepth 100000 in
set_option maxHeartbeats 4000000 in
theorem i_X11_route_68 {G : fG} (hg : gbt G = true)  {v2 : Int} {v3 : Int} (gv2 : rg v2) (gv3 : rg v3) {M : fMem} {q : Int × fMem} (h : j_X11_route_68 v2 v3 M = some q) : fW G mX11_route (fEm G mX11_route (rP q.2 q.1) fNo) 0 0 68 [some (rv G 418), none, some (iv v2), some (iv v3), none, none] [rv G 418] M := by
  rw [j_X11_route_68] at h
  refine fW_rg (fun hR => ?_)
  refine fW_iconst 69 dX11_route_68 rfl ?_
  refine fW_goto 73 dX11_route_69 rfl ?_
  exact fW_sb (i_X11_route_73 hg gv2 gv3 (by decide) h) ⟨rfl, rfl, rfl, trivial⟩
def j_X11_route_27  (v1 : Int) (v2 : Int) (v3 : Int) (x1 : Int) (M : fMem) : Option (Int × fMem) := (if 0 ≤ x1 ∧ x1 ≤ 1 then ((f_X11_right x1 1 M).bind fun (r5 : Int × fMem) => (if r5.1 = 0 then some (0, r5.2) else ((f_X11_laysEntries 0 r5.2).bind fun (r8 : fMem) => ((f_X11_looksFor v1 r8).bind fun (r10 : Int × fMem) => (if v2 = ((-1)) then j_X11_route_68 v2 v3 r10.2 else (if -2147483648 ≤ (r10.2 418 22) - 1 ∧ (r10.2 418 22) - 1 < 2147483648 then ((f_X11_isIn v2 0 ((r10.2 418 22) - 1) r10.2).bind fun (r32 : Int) => (if r32 = 0 then j_X11_route_73 v2 v3 0 r10.2 else j_X11_route_68 v2 v3 r10.2)) else none)))))) else none)
set_option maxRecDepth 100000 in
set_option maxHeartbeats 4000000 in
theorem i_X11_route_27 {G : fG} (hg : gbt G = true)  {v1 : Int} {v2 : Int} {v3 : Int} {x1 : Int} (gv1 : rg v1) (gv2 : rg v2) (gv3 : rg v3) (gx1 : rg x1) {M : fMem} {q : Int × fMem} (h : j_X11_route_27 v1 v2 v3 x1 M = some q) : fW G mX11_route (fEm G mX11_route (rP q.2 q.1) fNo) 0 0 27 [some (rv G 418), some (iv v1), some (iv v2), some (iv v3), none, none] [iv x1, rv G 418] M := by
  rw [j_X11_route_27] at h
  refine fW_rg (fun hR => ?_)
  refine fW_iconst 28 dX11_route_27 rfl ?_
  obtain ⟨c4, h⟩ := fS h
  obtain ⟨r5, e5, h⟩ := fBd h
  refine fW_cB (fI_V (as := [iv x1, iv 1]) (rest := []) miX11_right hg clX11 rfl tc_418 wd_1396 (fRoom_of rfl) rfl (Nat.le_of_ble_eq_true rfl) dX11_route_28) (s_X11_right hg c4 (by decide) e5) rfl rfl rfl (fun g5 => ?_)
  refine fW_rg (fun hR6 => ?_)
  refine fW_if_ne 34 36 (rg_z g5) dX11_route_31 rfl rfl (fun c7 => ?_) (fun c7 => ?_)
  · replace h := fFf h c7
    refine fW_aload_n 37 dX11_route_36 rfl rfl ?_
    refine fW_iconst 38 dX11_route_37 rfl ?_
    obtain ⟨r8, e8, h⟩ := fBd h
    refine fW_cV (fI_V (as := [iv 0]) (rest := []) miX11_laysEntries hg clX11 rfl tc_418 wd_1431 (fRoom_of rfl) rfl (Nat.le_of_ble_eq_true rfl) dX11_route_38) (s_X11_laysEntries hg (by decide) e8) rfl rfl rfl ?_
    refine fW_rg (fun hR9 => ?_)
    refine fW_aload_n 42 dX11_route_41 rfl rfl ?_
    refine fW_iload_n 43 dX11_route_42 rfl rfl ?_
    obtain ⟨r10, e10, h⟩ := fBd h
    refine fW_cP (fI_V (as := [iv v1]) (rest := []) miX11_looksFor hg clX11 rfl tc_418 wd_1455 (fRoom_of rfl) rfl (Nat.le_of_ble_eq_true rfl) dX11_route_43) (s_X11_looksFor hg gv1 e10) rfl rfl rfl (fun g10 => ?_)
    refine fW_rg (fun hR11 => ?_)
    refine fW_istore 48 (ls' := [some (rv G 418), some (iv v1), some (iv v2), some (iv v3), some (iv r10.1), none]) dX11_route_46 rfl rfl (by decide) ?_
    refine fW_aload_n 49 dX11_route_48 rfl rfl ?_
    refine fW_iload_n 50 dX11_route_49 rfl rfl ?_
    refine fW_iconst 51 dX11_route_50 rfl ?_
    refine fW_icmp_eq 54 68 gv2 (by decide) dX11_route_51 rfl rfl (fun c12 => ?_) (fun c12 => ?_)
    · replace h := fTt h c12
      exact fW_sb (i_X11_route_68 hg gv2 gv3 h) ⟨rfl, rfl, rfl, trivial⟩
    · replace h := fFf h c12
      refine fW_iload_n 55 dX11_route_54 rfl rfl ?_
      refine fW_iconst 56 dX11_route_55 rfl ?_
      refine fW_aload_n 57 dX11_route_56 rfl rfl ?_
      refine fW_getI 60 22 (ji := 22) hg clX11 rfl (by decide) rfl tc_418 wd_1196 dX11_route_57 rfl ?_
      refine fW_iconst 61 dX11_route_60 rfl ?_
      refine fW_isub 62 dX11_route_61 rfl ?_
      obtain ⟨c31, h⟩ := fS h
      obtain ⟨r32, e32, h⟩ := fBd h
      refine fW_cB (fI_S (as := [iv v2, iv 0, iv ((r10.2 418 22) - 1)]) (rest := [rv G 418]) miX11_isIn rfl wd_1272 (fRoom_of rfl) rfl (Nat.le_of_ble_eq_true rfl) dX11_route_62) (s_X11_isIn gv2 (by decide) c31 e32) rfl rfl rfl (fun g32 => ?_)
      refine fW_if_eq 68 72 (rg_z g32) dX11_route_65 rfl rfl (fun c33 => ?_) (fun c33 => ?_)
      · replace h := fTt h c33
        refine fW_iconst 73 dX11_route_72 rfl ?_
        exact fW_sb (i_X11_route_73 hg gv2 gv3 (by decide) h) ⟨rfl, rfl, rfl, trivial⟩
      · replace h := fFf h c33
        exact fW_sb (i_X11_route_68 hg gv2 gv3 h) ⟨rfl, rfl, rfl, trivial⟩
  · replace h := fTt h c7
    refine fW_iconst 35 dX11_route_34 rfl ?_
    exact fW_iret rfl (by decide) (by decide) dX11_route_35 (rI_i h (by decide))
def j_X11_route_26  (v1 : Int) (v2 : Int) (v3 : Int) (M : fMem) : Option (Int × fMem) := j_X11_route_27 v1 v2 v3 0 M
set_option maxRecDepth 100000 in
set_option maxHeartbeats 4000000 in
theorem i_X11_route_26 {G : fG} (hg : gbt G = true)  {v1 : Int} {v2 : Int} {v3 : Int} (gv1 : rg v1) (gv2 : rg v2) (gv3 : rg v3) {M : fMem} {q : Int × fMem} (h : j_X11_route_26 v1 v2 v3 M = some q) : fW G mX11_route (fEm G mX11_route (rP q.2 q.1) fNo) 0 0 26 [some (rv G 418), some (iv v1), some (iv v2), some (iv v3), none, none] [rv G 418] M := by
  rw [j_X11_route_26] at h
  refine fW_rg (fun hR => ?_)
  refine fW_iconst 27 dX11_route_26 rfl ?_
  exact fW_sb (i_X11_route_27 hg gv1 gv2 gv3 (by decide) h) ⟨rfl, rfl, rfl, rfl, trivial⟩
def f_X11_route (a1 : Int) (a2 : Int) (a3 : Int) (M : fMem) : Option (Int × fMem) := ((f_X11_isKey a1 (mset M 418 4 0)).bind fun (r2 : Int) => (if r2 = 0 then j_X11_route_26 a1 a2 a3 (mset M 418 4 0) else ((f_X11_isIn a3 0 5 (mset M 418 4 0)).bind fun (r34 : Int) => (if r34 = 0 then j_X11_route_26 a1 a2 a3 (mset M 418 4 0) else j_X11_route_27 a1 a2 a3 1 (mset M 418 4 0)))))
set_option maxRecDepth 100000 in
set_option maxHeartbeats 4000000 in
theorem s_X11_route {G : fG} (hg : gbt G = true) {a1 : Int} (ga1 : rg a1) {a2 : Int} (ga2 : rg a2) {a3 : Int} (ga3 : rg a3) {M : fMem} {q : Int × fMem} (h : f_X11_route a1 a2 a3 M = some q) : fSp G mX11_route [rv G 418, iv a1, iv a2, iv a3] M (rP q.2 q.1) fNo := by
  refine fSp_of (by decide +kernel) (by decide +kernel) (fC1 rfl (fC1 rfl (fC1 rfl (fC1 rfl fC0)))) (Nat.le_of_ble_eq_true rfl) ?_
  show fW G mX11_route (fEm G mX11_route (rP q.2 q.1) fNo) 0 0 0 [some (rv G 418), some (iv a1), some (iv a2), some (iv a3), none, none] [] M
  rw [f_X11_route] at h
  refine fW_rg (fun hR => ?_)
  refine fW_aload_n 1 dX11_route_0 rfl rfl ?_
  refine fW_iconst 2 dX11_route_1 rfl ?_
  refine fW_putI 5 4 (ji := 4) hg clX11 rfl (by decide) rfl rfl rfl tc_418 (by decide) wd_1178 dX11_route_2 rfl ?_
  refine fW_rg (fun hR1 => ?_)
  refine fW_aload_n 6 dX11_route_5 rfl rfl ?_
  refine fW_iload_n 7 dX11_route_6 rfl rfl ?_
  obtain ⟨r2, e2, h⟩ := fBd h
  refine fW_cB (fI_S (as := [iv a1]) (rest := [rv G 418]) miX11_isKey rfl wd_1275 (fRoom_of rfl) rfl (Nat.le_of_ble_eq_true rfl) dX11_route_7) (s_X11_isKey ga1 e2) rfl rfl rfl (fun g2 => ?_)
  refine fW_if_eq 13 26 (rg_z g2) dX11_route_10 rfl rfl (fun c3 => ?_) (fun c3 => ?_)
  · replace h := fTt h c3
    exact fW_sb (i_X11_route_26 hg ga1 ga2 ga3 h) ⟨rfl, rfl, rfl, rfl, trivial⟩
  · replace h := fFf h c3
    refine fW_iload_n 14 dX11_route_13 rfl rfl ?_
    refine fW_iconst 15 dX11_route_14 rfl ?_
    refine fW_iconst 16 dX11_route_15 rfl ?_
    obtain ⟨r34, e34, h⟩ := fBd h
    refine fW_cB (fI_S (as := [iv a3, iv 0, iv 5]) (rest := [rv G 418]) miX11_isIn rfl wd_1272 (fRoom_of rfl) rfl (Nat.le_of_ble_eq_true rfl) dX11_route_16) (s_X11_isIn ga3 (by decide) (by decide) e34) rfl rfl rfl (fun g34 => ?_)
    refine fW_if_eq 22 26 (rg_z g34) dX11_route_19 rfl rfl (fun c35 => ?_) (fun c35 => ?_)
    · replace h := fTt h c35
      exact fW_sb (i_X11_route_26 hg ga1 ga2 ga3 h) ⟨rfl, rfl, rfl, rfl, trivial⟩
    · replace h := fFf h c35
      refine fW_iconst 23 dX11_route_22 rfl ?_
      refine fW_goto 27 dX11_route_23 rfl ?_
      exact fW_sb (i_X11_route_27 hg ga1 ga2 ga3 (by decide) h) ⟨rfl, rfl, rfl, rfl, trivial⟩
def mX11_isShutRow : fMt := (yX11_isShutRow, cX11_isShutRow, 4, some .boolean, { frames := 3, cells := 0, slots := 0, locals := 120 })
theorem miX11_isShutRow : fMv mX11_isShutRow 3 := ⟨⟨fM 1490 (by decide +kernel) rfl, fM 101 (by decide +kernel) rfl, ⟨by decide +kernel, by decide +kernel⟩, by decide +kernel⟩, fM 1489 (by decide +kernel) rfl, fM 66 (by decide +kernel) rfl⟩
def f_X11_isShutRow (a1 : Int) (a2 : Int) (a3 : Int) (M : fMem) : Option (Int × fMem) := ((f_X11_isKey a1 M).bind fun (r1 : Int) => (if r1 = 0 then ((f_X11_right 0 1 M).bind fun (r3 : Int × fMem) => some (r3.1, r3.2)) else ((f_X11_isRow a2 a3 M).bind fun (r5 : Int) => (if r5 = 0 then ((f_X11_right 0 1 M).bind fun (r7 : Int × fMem) => some (r7.1, r7.2)) else ((f_X11_rowAt a2 a3 M).bind fun (r9 : Int) => ((f_X11_isShut r9 M).bind fun (r10 : Int) => (if r10 = 0 then ((f_X11_right 0 1 M).bind fun (r12 : Int × fMem) => some (r12.1, r12.2)) else ((f_X11_right 1 1 M).bind fun (r14 : Int × fMem) => some (r14.1, r14.2)))))))))
set_option maxRecDepth 100000 in
set_option maxHeartbeats 4000000 in
theorem s_X11_isShutRow {G : fG} (hg : gbt G = true) {a1 : Int} (ga1 : rg a1) {a2 : Int} (ga2 : rg a2) {a3 : Int} (ga3 : rg a3) {M : fMem} {q : Int × fMem} (h : f_X11_isShutRow a1 a2 a3 M = some q) : fSp G mX11_isShutRow [rv G 418, iv a1, iv a2, iv a3] M (rB q.2 q.1) fNo := by
  refine fSp_of (by decide +kernel) (by decide +kernel) (fC1 rfl (fC1 rfl (fC1 rfl (fC1 rfl fC0)))) (Nat.le_of_ble_eq_true rfl) ?_
  show fW G mX11_isShutRow (fEm G mX11_isShutRow (rB q.2 q.1) fNo) 0 0 0 [some (rv G 418), some (iv a1), some (iv a2), some (iv a3)] [] M
  rw [f_X11_isShutRow] at h
  refine fW_rg (fun hR => ?_)
  refine fW_aload_n 1 dX11_isShutRow_0 rfl rfl ?_
  refine fW_iload_n 2 dX11_isShutRow_1 rfl rfl ?_
  obtain ⟨r1, e1, h⟩ := fBd h
  refine fW_cB (fI_S (as := [iv a1]) (rest := [rv G 418]) miX11_isKey rfl wd_1275 (fRoom_of rfl) rfl (Nat.le_of_ble_eq_true rfl) dX11_isShutRow_2) (s_X11_isKey ga1 e1) rfl rfl rfl (fun g1 => ?_)
  refine fW_if_eq 8 32 (rg_z g1) dX11_isShutRow_5 rfl rfl (fun c2 => ?_) (fun c2 => ?_)
  · replace h := fTt h c2
    refine fW_iconst 33 dX11_isShutRow_32 rfl ?_
    refine fW_iconst 34 dX11_isShutRow_33 rfl ?_
    obtain ⟨r3, e3, h⟩ := fBd h
    refine fW_cB (fI_V (as := [iv 0, iv 1]) (rest := []) miX11_right hg clX11 rfl tc_418 wd_1396 (fRoom_of rfl) rfl (Nat.le_of_ble_eq_true rfl) dX11_isShutRow_34) (s_X11_right hg (by decide) (by decide) e3) rfl rfl rfl (fun g3 => ?_)
    refine fW_rg (fun hR4 => ?_)
    exact fW_zret rfl g3 (by decide) (by decide) dX11_isShutRow_37 (rBI_i h g3)
  · replace h := fFf h c2
    refine fW_iload_n 9 dX11_isShutRow_8 rfl rfl ?_
    refine fW_iload_n 10 dX11_isShutRow_9 rfl rfl ?_
    obtain ⟨r5, e5, h⟩ := fBd h
    refine fW_cB (fI_S (as := [iv a2, iv a3]) (rest := [rv G 418]) miX11_isRow rfl wd_1491 (fRoom_of rfl) rfl (Nat.le_of_ble_eq_true rfl) dX11_isShutRow_10) (s_X11_isRow ga2 ga3 e5) rfl rfl rfl (fun g5 => ?_)
    refine fW_if_eq 16 32 (rg_z g5) dX11_isShutRow_13 rfl rfl (fun c6 => ?_) (fun c6 => ?_)
    · replace h := fTt h c6
      refine fW_iconst 33 dX11_isShutRow_32 rfl ?_
      refine fW_iconst 34 dX11_isShutRow_33 rfl ?_
      obtain ⟨r7, e7, h⟩ := fBd h
      refine fW_cB (fI_V (as := [iv 0, iv 1]) (rest := []) miX11_right hg clX11 rfl tc_418 wd_1396 (fRoom_of rfl) rfl (Nat.le_of_ble_eq_true rfl) dX11_isShutRow_34) (s_X11_right hg (by decide) (by decide) e7) rfl rfl rfl (fun g7 => ?_)
      refine fW_rg (fun hR8 => ?_)
      exact fW_zret rfl g7 (by decide) (by decide) dX11_isShutRow_37 (rBI_i h g7)
    · replace h := fFf h c6
      refine fW_aload_n 17 dX11_isShutRow_16 rfl rfl ?_
      refine fW_iload_n 18 dX11_isShutRow_17 rfl rfl ?_
      refine fW_iload_n 19 dX11_isShutRow_18 rfl rfl ?_
      obtain ⟨r9, e9, h⟩ := fBd h
      refine fW_cP (fI_S (as := [iv a2, iv a3]) (rest := [rv G 418, rv G 418]) miX11_rowAt rfl wd_1289 (fRoom_of rfl) rfl (Nat.le_of_ble_eq_true rfl) dX11_isShutRow_19) (s_X11_rowAt ga2 ga3 e9) rfl rfl rfl (fun g9 => ?_)
      obtain ⟨r10, e10, h⟩ := fBd h
      refine fW_cB (fI_V (as := [iv r9]) (rest := [rv G 418]) miX11_isShut hg clX11 rfl tc_418 wd_1340 (fRoom_of rfl) rfl (Nat.le_of_ble_eq_true rfl) dX11_isShutRow_22) (s_X11_isShut hg g9 e10) rfl rfl rfl (fun g10 => ?_)
      refine fW_if_eq 28 32 (rg_z g10) dX11_isShutRow_25 rfl rfl (fun c11 => ?_) (fun c11 => ?_)
      · replace h := fTt h c11
        refine fW_iconst 33 dX11_isShutRow_32 rfl ?_
        refine fW_iconst 34 dX11_isShutRow_33 rfl ?_
        obtain ⟨r12, e12, h⟩ := fBd h
        refine fW_cB (fI_V (as := [iv 0, iv 1]) (rest := []) miX11_right hg clX11 rfl tc_418 wd_1396 (fRoom_of rfl) rfl (Nat.le_of_ble_eq_true rfl) dX11_isShutRow_34) (s_X11_right hg (by decide) (by decide) e12) rfl rfl rfl (fun g12 => ?_)
        refine fW_rg (fun hR13 => ?_)
        exact fW_zret rfl g12 (by decide) (by decide) dX11_isShutRow_37 (rBI_i h g12)
      · replace h := fFf h c11
        refine fW_iconst 29 dX11_isShutRow_28 rfl ?_
        refine fW_goto 33 dX11_isShutRow_29 rfl ?_
        refine fW_iconst 34 dX11_isShutRow_33 rfl ?_
        obtain ⟨r14, e14, h⟩ := fBd h
        refine fW_cB (fI_V (as := [iv 1, iv 1]) (rest := []) miX11_right hg clX11 rfl tc_418 wd_1396 (fRoom_of rfl) rfl (Nat.le_of_ble_eq_true rfl) dX11_isShutRow_34) (s_X11_right hg (by decide) (by decide) e14) rfl rfl rfl (fun g14 => ?_)
        refine fW_rg (fun hR15 => ?_)
        exact fW_zret rfl g14 (by decide) (by decide) dX11_isShutRow_37 (rBI_i h g14)
def mX11_falls : fMt := (yX11_falls, cX11_falls, 4, some .int, { frames := 6, cells := 0, slots := 0, locals := 240 })
theorem miX11_falls : fMv mX11_falls 3 := ⟨⟨fM 1486 (by decide +kernel) rfl, fM 101 (by decide +kernel) rfl, ⟨by decide +kernel, by decide +kernel⟩, by decide +kernel⟩, fM 1484 (by decide +kernel) rfl, fM 1485 (by decide +kernel) rfl⟩
def f_X11_falls (a1 : Int) (a2 : Int) (a3 : Int) (M : fMem) : Option (Int × fMem) := ((f_X11_isShutRow a1 a2 a3 (mset M 418 4 0)).bind fun (r2 : Int × fMem) => (if r2.1 = 0 then some (0, r2.2) else ((f_X11_comesTo a1 a2 a3 r2.2).bind fun (r5 : fMem) => ((f_X11_rowAt a2 a3 r5).bind fun (r7 : Int) => ((f_X11_fallsIn r7 a1 r5).bind fun (r8 : Int × fMem) => some (r8.1, r8.2))))))
set_option maxRecDepth 100000 in
set_option maxHeartbeats 4000000 in
theorem s_X11_falls {G : fG} (hg : gbt G = true) {a1 : Int} (ga1 : rg a1) {a2 : Int} (ga2 : rg a2) {a3 : Int} (ga3 : rg a3) {M : fMem} {q : Int × fMem} (h : f_X11_falls a1 a2 a3 M = some q) : fSp G mX11_falls [rv G 418, iv a1, iv a2, iv a3] M (rP q.2 q.1) fNo := by
  refine fSp_of (by decide +kernel) (by decide +kernel) (fC1 rfl (fC1 rfl (fC1 rfl (fC1 rfl fC0)))) (Nat.le_of_ble_eq_true rfl) ?_
  show fW G mX11_falls (fEm G mX11_falls (rP q.2 q.1) fNo) 0 0 0 [some (rv G 418), some (iv a1), some (iv a2), some (iv a3)] [] M
  rw [f_X11_falls] at h
  refine fW_rg (fun hR => ?_)
  refine fW_aload_n 1 dX11_falls_0 rfl rfl ?_
  refine fW_iconst 2 dX11_falls_1 rfl ?_
  refine fW_putI 5 4 (ji := 4) hg clX11 rfl (by decide) rfl rfl rfl tc_418 (by decide) wd_1178 dX11_falls_2 rfl ?_
  refine fW_rg (fun hR1 => ?_)
  refine fW_aload_n 6 dX11_falls_5 rfl rfl ?_
  refine fW_iload_n 7 dX11_falls_6 rfl rfl ?_
  refine fW_iload_n 8 dX11_falls_7 rfl rfl ?_
  refine fW_iload_n 9 dX11_falls_8 rfl rfl ?_
  obtain ⟨r2, e2, h⟩ := fBd h
  refine fW_cB (fI_V (as := [iv a1, iv a2, iv a3]) (rest := []) miX11_isShutRow hg clX11 rfl tc_418 wd_1487 (fRoom_of rfl) rfl (Nat.le_of_ble_eq_true rfl) dX11_falls_9) (s_X11_isShutRow hg ga1 ga2 ga3 e2) rfl rfl rfl (fun g2 => ?_)
  refine fW_rg (fun hR3 => ?_)
  refine fW_if_ne 15 17 (rg_z g2) dX11_falls_12 rfl rfl (fun c4 => ?_) (fun c4 => ?_)
  · replace h := fFf h c4
    refine fW_aload_n 18 dX11_falls_17 rfl rfl ?_
    refine fW_iload_n 19 dX11_falls_18 rfl rfl ?_
    refine fW_iload_n 20 dX11_falls_19 rfl rfl ?_
    refine fW_iload_n 21 dX11_falls_20 rfl rfl ?_
    obtain ⟨r5, e5, h⟩ := fBd h
    refine fW_cV (fI_V (as := [iv a1, iv a2, iv a3]) (rest := []) miX11_comesTo hg clX11 rfl tc_418 wd_1497 (fRoom_of rfl) rfl (Nat.le_of_ble_eq_true rfl) dX11_falls_21) (s_X11_comesTo hg ga1 ga2 ga3 e5) rfl rfl rfl ?_
    refine fW_rg (fun hR6 => ?_)
    refine fW_aload_n 25 dX11_falls_24 rfl rfl ?_
    refine fW_iload_n 26 dX11_falls_25 rfl rfl ?_
    refine fW_iload_n 27 dX11_falls_26 rfl rfl ?_
    obtain ⟨r7, e7, h⟩ := fBd h
    refine fW_cP (fI_S (as := [iv a2, iv a3]) (rest := [rv G 418]) miX11_rowAt rfl wd_1289 (fRoom_of rfl) rfl (Nat.le_of_ble_eq_true rfl) dX11_falls_27) (s_X11_rowAt ga2 ga3 e7) rfl rfl rfl (fun g7 => ?_)
    refine fW_iload_n 31 dX11_falls_30 rfl rfl ?_
    obtain ⟨r8, e8, h⟩ := fBd h
    refine fW_cP (fI_V (as := [iv r7, iv a1]) (rest := []) miX11_fallsIn hg clX11 rfl tc_418 wd_1471 (fRoom_of rfl) rfl (Nat.le_of_ble_eq_true rfl) dX11_falls_31) (s_X11_fallsIn hg g7 ga1 e8) rfl rfl rfl (fun g8 => ?_)
    refine fW_rg (fun hR9 => ?_)
    exact fW_iret rfl (by decide) (by decide) dX11_falls_34 (rI_i h g8)
  · replace h := fTt h c4
    refine fW_iconst 16 dX11_falls_15 rfl ?_
    exact fW_iret rfl (by decide) (by decide) dX11_falls_16 (rI_i h (by decide))
def mX11_bounds_ : fMt := (yX11_bounds_, cX11_bounds_, 5, some .int, { frames := 6, cells := 0, slots := 0, locals := 240 })
theorem miX11_bounds_ : fMv mX11_bounds_ 4 := ⟨⟨fM 1504 (by decide +kernel) rfl, fM 101 (by decide +kernel) rfl, ⟨by decide +kernel, by decide +kernel⟩, by decide +kernel⟩, fM 1502 (by decide +kernel) rfl, fM 1503 (by decide +kernel) rfl⟩
def f_X11_bounds_ (a1 : Int) (a2 : Int) (a3 : Int) (a4 : Int) (M : fMem) : Option (Int × fMem) := ((f_X11_isShutRow a1 a2 a3 (mset M 418 4 0)).bind fun (r2 : Int × fMem) => (if r2.1 = 0 then some (0, r2.2) else ((f_X11_comesTo a1 a2 a3 r2.2).bind fun (r5 : fMem) => (if a4 = 0 then some (r5 418 14, r5) else some (r5 418 15, r5)))))
set_option maxRecDepth 100000 in
set_option maxHeartbeats 4000000 in
theorem s_X11_bounds_ {G : fG} (hg : gbt G = true) {a1 : Int} (ga1 : rg a1) {a2 : Int} (ga2 : rg a2) {a3 : Int} (ga3 : rg a3) {a4 : Int} (ga4 : 0 ≤ a4 ∧ a4 ≤ 1) {M : fMem} {q : Int × fMem} (h : f_X11_bounds_ a1 a2 a3 a4 M = some q) : fSp G mX11_bounds_ [rv G 418, iv a1, iv a2, iv a3, iv a4] M (rP q.2 q.1) fNo := by
  refine fSp_of (by decide +kernel) (by decide +kernel) (fC1 rfl (fC1 rfl (fC1 rfl (fC1 rfl (fC1 rfl fC0))))) (Nat.le_of_ble_eq_true rfl) ?_
  show fW G mX11_bounds_ (fEm G mX11_bounds_ (rP q.2 q.1) fNo) 0 0 0 [some (rv G 418), some (iv a1), some (iv a2), some (iv a3), some (iv a4)] [] M
  rw [f_X11_bounds_] at h
  refine fW_rg (fun hR => ?_)
  refine fW_aload_n 1 dX11_bounds__0 rfl rfl ?_
  refine fW_iconst 2 dX11_bounds__1 rfl ?_
  refine fW_putI 5 4 (ji := 4) hg clX11 rfl (by decide) rfl rfl rfl tc_418 (by decide) wd_1178 dX11_bounds__2 rfl ?_
  refine fW_rg (fun hR1 => ?_)
  refine fW_aload_n 6 dX11_bounds__5 rfl rfl ?_
  refine fW_iload_n 7 dX11_bounds__6 rfl rfl ?_
  refine fW_iload_n 8 dX11_bounds__7 rfl rfl ?_
  refine fW_iload_n 9 dX11_bounds__8 rfl rfl ?_
  obtain ⟨r2, e2, h⟩ := fBd h
  refine fW_cB (fI_V (as := [iv a1, iv a2, iv a3]) (rest := []) miX11_isShutRow hg clX11 rfl tc_418 wd_1487 (fRoom_of rfl) rfl (Nat.le_of_ble_eq_true rfl) dX11_bounds__9) (s_X11_isShutRow hg ga1 ga2 ga3 e2) rfl rfl rfl (fun g2 => ?_)
  refine fW_rg (fun hR3 => ?_)
  refine fW_if_ne 15 17 (rg_z g2) dX11_bounds__12 rfl rfl (fun c4 => ?_) (fun c4 => ?_)
  · replace h := fFf h c4
    refine fW_aload_n 18 dX11_bounds__17 rfl rfl ?_
    refine fW_iload_n 19 dX11_bounds__18 rfl rfl ?_
    refine fW_iload_n 20 dX11_bounds__19 rfl rfl ?_
    refine fW_iload_n 21 dX11_bounds__20 rfl rfl ?_
    obtain ⟨r5, e5, h⟩ := fBd h
    refine fW_cV (fI_V (as := [iv a1, iv a2, iv a3]) (rest := []) miX11_comesTo hg clX11 rfl tc_418 wd_1497 (fRoom_of rfl) rfl (Nat.le_of_ble_eq_true rfl) dX11_bounds__21) (s_X11_comesTo hg ga1 ga2 ga3 e5) rfl rfl rfl ?_
    refine fW_rg (fun hR6 => ?_)
    refine fW_iload 26 dX11_bounds__24 rfl rfl ?_
    refine fW_if_eq 29 36 (rg_z ga4) dX11_bounds__26 rfl rfl (fun c7 => ?_) (fun c7 => ?_)
    · replace h := fTt h c7
      refine fW_aload_n 37 dX11_bounds__36 rfl rfl ?_
      refine fW_getI 40 14 (ji := 14) hg clX11 rfl (by decide) rfl tc_418 wd_1188 dX11_bounds__37 rfl ?_
      exact fW_iret rfl (by decide) (by decide) dX11_bounds__40 (rI_i h (hR6 418 14))
    · replace h := fFf h c7
      refine fW_aload_n 30 dX11_bounds__29 rfl rfl ?_
      refine fW_getI 33 15 (ji := 15) hg clX11 rfl (by decide) rfl tc_418 wd_1189 dX11_bounds__30 rfl ?_
      refine fW_goto 40 dX11_bounds__33 rfl ?_
      exact fW_iret rfl (by decide) (by decide) dX11_bounds__40 (rI_i h (hR6 418 15))
  · replace h := fTt h c4
    refine fW_iconst 16 dX11_bounds__15 rfl ?_
    exact fW_iret rfl (by decide) (by decide) dX11_bounds__16 (rI_i h (by decide))
def mX11_mostLooks : fMt := (yX11_mostLooks, cX11_mostLooks, 5, some .int, { frames := 5, cells := 0, slots := 0, locals := 200 })
theorem miX11_mostLooks : fMv mX11_mostLooks 1 := ⟨⟨fM 1556 (by decide +kernel) rfl, fM 101 (by decide +kernel) rfl, ⟨by decide +kernel, by decide +kernel⟩, by decide +kernel⟩, fM 1555 (by decide +kernel) rfl, fM 75 (by decide +kernel) rfl⟩
def L_X11_mostLooks_9  (k : Int → fMem → Option (Int × fMem)) : Nat → Int → Int → fMem → Option (Int × fMem)
  | 0, _, _, _ => none
  | n + 1, v2, v3, M => (if 200 ≤ v3 then k v2 M else ((f_X11_looksFor v3 M).bind fun (r4 : Int × fMem) => (if r4.1 ≤ v2 then L_X11_mostLooks_9  k n v2 (v3 + 1) r4.2 else L_X11_mostLooks_9  k n r4.1 (v3 + 1) r4.2)))
set_option maxRecDepth 100000 in
set_option maxHeartbeats 4000000 in
theorem l_X11_mostLooks_9 {G : fG} (hg : gbt G = true)  {q : Int × fMem} {k : Int → fMem → Option (Int × fMem)} (hk : ∀ (v2 : Int) (M : fMem), rg v2 → k v2 M = some q → fW G mX11_mostLooks (fEm G mX11_mostLooks (rP q.2 q.1) fNo) 0 0 42 [some (rv G 418), none, some (iv v2), none, none] [] M) : ∀ (n : Nat) (v2 : Int) (v3 : Int) (M : fMem), rg v2 → rg v3 → L_X11_mostLooks_9 k n v2 v3 M = some q → fW G mX11_mostLooks (fEm G mX11_mostLooks (rP q.2 q.1) fNo) 0 0 9 [some (rv G 418), none, some (iv v2), some (iv v3), none] [] M := by
  intro n
  induction n with
  | zero =>
    intro v2 v3 M gv2 gv3 h
    rw [L_X11_mostLooks_9] at h
    exact absurd h (by simp)
  | succ n ih =>
    intro v2 v3 M gv2 gv3 h
    rw [L_X11_mostLooks_9] at h
    refine fW_rg (fun hR => ?_)
    refine fW_iload_n 10 dX11_mostLooks_9 rfl rfl ?_
    refine fW_sipush 13 dX11_mostLooks_10 rfl (by decide) ?_
    refine fW_icmp_ge 16 42 gv3 (by decide) dX11_mostLooks_13 rfl rfl (fun c3 => ?_) (fun c3 => ?_)
    · replace h := fTt h c3
      exact fW_sb (hk v2 M gv2 h) ⟨rfl, rfl, trivial⟩
    · replace h := fFf h c3
      refine fW_aload_n 17 dX11_mostLooks_16 rfl rfl ?_
      refine fW_iload_n 18 dX11_mostLooks_17 rfl rfl ?_
      obtain ⟨r4, e4, h⟩ := fBd h
      refine fW_cP (fI_V (as := [iv v3]) (rest := []) miX11_looksFor hg clX11 rfl tc_418 wd_1455 (fRoom_of rfl) rfl (Nat.le_of_ble_eq_true rfl) dX11_mostLooks_18) (s_X11_looksFor hg gv3 e4) rfl rfl rfl (fun g4 => ?_)
      refine fW_rg (fun hR5 => ?_)
      refine fW_istore 23 (ls' := [some (rv G 418), none, some (iv v2), some (iv v3), some (iv r4.1)]) dX11_mostLooks_21 rfl rfl (by decide) ?_
      refine fW_iload 25 dX11_mostLooks_23 rfl rfl ?_
      refine fW_iload_n 26 dX11_mostLooks_25 rfl rfl ?_
      refine fW_icmp_le 29 34 g4 gv2 dX11_mostLooks_26 rfl rfl (fun c6 => ?_) (fun c6 => ?_)
      · replace h := fTt h c6
        refine fW_iload_n 35 dX11_mostLooks_34 rfl rfl ?_
        refine fW_istore_n 36 (ls' := [some (rv G 418), none, some (iv v2), some (iv v3), some (iv r4.1)]) dX11_mostLooks_35 rfl rfl rfl (by decide) ?_
        refine fW_iinc 39 (ls' := [some (rv G 418), none, some (iv v2), some (iv (v3 + 1)), some (iv r4.1)]) dX11_mostLooks_36 rfl rfl rfl (by decide) ?_
        refine fW_goto 9 dX11_mostLooks_39 rfl ?_
        exact fW_sb (ih v2 (v3 + 1) r4.2 gv2 (rg_succ' gv3 (by decide) c3) h) ⟨rfl, rfl, rfl, trivial⟩
      · replace h := fFf h c6
        refine fW_iload 31 dX11_mostLooks_29 rfl rfl ?_
        refine fW_goto 35 dX11_mostLooks_31 rfl ?_
        refine fW_istore_n 36 (ls' := [some (rv G 418), none, some (iv r4.1), some (iv v3), some (iv r4.1)]) dX11_mostLooks_35 rfl rfl rfl (by decide) ?_
        refine fW_iinc 39 (ls' := [some (rv G 418), none, some (iv r4.1), some (iv (v3 + 1)), some (iv r4.1)]) dX11_mostLooks_36 rfl rfl rfl (by decide) ?_
        refine fW_goto 9 dX11_mostLooks_39 rfl ?_
        exact fW_sb (ih r4.1 (v3 + 1) r4.2 g4 (rg_succ' gv3 (by decide) c3) h) ⟨rfl, rfl, rfl, trivial⟩
def f_X11_mostLooks (a1 : Int) (M : fMem) : Option (Int × fMem) := ((f_X11_laysEntries a1 M).bind fun (r1 : fMem) => L_X11_mostLooks_9 (fun (v2_7 : Int) (M_7 : fMem) => some (v2_7, M_7)) 20000 0 0 r1)
set_option maxRecDepth 100000 in
set_option maxHeartbeats 4000000 in
theorem s_X11_mostLooks {G : fG} (hg : gbt G = true) {a1 : Int} (ga1 : 0 ≤ a1 ∧ a1 ≤ 1) {M : fMem} {q : Int × fMem} (h : f_X11_mostLooks a1 M = some q) : fSp G mX11_mostLooks [rv G 418, iv a1] M (rP q.2 q.1) fNo := by
  refine fSp_of (by decide +kernel) (by decide +kernel) (fC1 rfl (fC1 rfl fC0)) (Nat.le_of_ble_eq_true rfl) ?_
  show fW G mX11_mostLooks (fEm G mX11_mostLooks (rP q.2 q.1) fNo) 0 0 0 [some (rv G 418), some (iv a1), none, none, none] [] M
  rw [f_X11_mostLooks] at h
  refine fW_rg (fun hR => ?_)
  refine fW_aload_n 1 dX11_mostLooks_0 rfl rfl ?_
  refine fW_iload_n 2 dX11_mostLooks_1 rfl rfl ?_
  obtain ⟨r1, e1, h⟩ := fBd h
  refine fW_cV (fI_V (as := [iv a1]) (rest := []) miX11_laysEntries hg clX11 rfl tc_418 wd_1431 (fRoom_of rfl) rfl (Nat.le_of_ble_eq_true rfl) dX11_mostLooks_2) (s_X11_laysEntries hg ga1 e1) rfl rfl rfl ?_
  refine fW_rg (fun hR2 => ?_)
  refine fW_iconst 6 dX11_mostLooks_5 rfl ?_
  refine fW_istore_n 7 (ls' := [some (rv G 418), some (iv a1), some (iv 0), none, none]) dX11_mostLooks_6 rfl rfl rfl (by decide) ?_
  refine fW_iconst 8 dX11_mostLooks_7 rfl ?_
  refine fW_istore_n 9 (ls' := [some (rv G 418), some (iv a1), some (iv 0), some (iv 0), none]) dX11_mostLooks_8 rfl rfl rfl (by decide) ?_
  refine fW_sb (l_X11_mostLooks_9 hg ?_ 20000 0 0 r1 (by decide) (by decide) h) ⟨rfl, rfl, rfl, trivial⟩
  intro v2_7 M_7 gv2_7 h
  refine fW_rg (fun hR_7 => ?_)
  refine fW_iload_n 43 dX11_mostLooks_42 rfl rfl ?_
  exact fW_iret rfl (by decide) (by decide) dX11_mostLooks_43 (rI_i h gv2_7)
def mX11_thingsIn : fMt := (yX11_thingsIn, cX11_thingsIn, 4, some .int, { frames := 1, cells := 0, slots := 0, locals := 40 })
theorem miX11_thingsIn : fMv mX11_thingsIn 1 := ⟨⟨fM 1512 (by decide +kernel) rfl, fM 101 (by decide +kernel) rfl, ⟨by decide +kernel, by decide +kernel⟩, by decide +kernel⟩, fM 1511 (by decide +kernel) rfl, fM 68 (by decide +kernel) rfl⟩
def L_X11_thingsIn_4  (M : fMem) (k : Int → Option (Int)) : Nat → Int → Int → Int → Option (Int)
  | 0, _, _, _ => none
  | n + 1, v1, v2, v3 => ((f_X11_rowsOf v1 M).bind fun (r1 : Int) => (if r1 ≤ v3 then k v2 else ((f_X11_rowAt v1 v3 M).bind fun (r3 : Int) => ((f_X11_isShut r3 M).bind fun (r4 : Int) => (if r4 = 0 then (if -2147483648 ≤ v2 + 0 ∧ v2 + 0 < 2147483648 then L_X11_thingsIn_4 M k n v1 (v2 + 0) (v3 + 1) else none) else ((f_X11_rowAt v1 v3 M).bind fun (r7 : Int) => (if 0 ≤ 7600 + r7 ∧ 7600 + r7 < 7787 then (if -2147483648 ≤ v2 + (M 419 (7600 + r7)) ∧ v2 + (M 419 (7600 + r7)) < 2147483648 then L_X11_thingsIn_4 M k n v1 (v2 + (M 419 (7600 + r7))) (v3 + 1) else none) else none)))))))
set_option maxRecDepth 100000 in
set_option maxHeartbeats 4000000 in
theorem l_X11_thingsIn_4 {G : fG} (hg : gbt G = true)  {M : fMem} {q : Int} {k : Int → Option (Int)} (hk : ∀ (v2 : Int), rg v2 → k v2 = some q → fW G mX11_thingsIn (fEm G mX11_thingsIn (rP M q) fNo) 0 0 51 [some (rv G 418), none, some (iv v2), none] [] M) : ∀ (n : Nat) (v1 : Int) (v2 : Int) (v3 : Int), rg v1 → rg v2 → rg v3 → L_X11_thingsIn_4 M k n v1 v2 v3 = some q → fW G mX11_thingsIn (fEm G mX11_thingsIn (rP M q) fNo) 0 0 4 [some (rv G 418), some (iv v1), some (iv v2), some (iv v3)] [] M := by
  intro n
  induction n with
  | zero =>
    intro v1 v2 v3 gv1 gv2 gv3 h
    rw [L_X11_thingsIn_4] at h
    exact absurd h (by simp)
  | succ n ih =>
    intro v1 v2 v3 gv1 gv2 gv3 h
    rw [L_X11_thingsIn_4] at h
    refine fW_rg (fun hR => ?_)
    refine fW_iload_n 5 dX11_thingsIn_4 rfl rfl ?_
    refine fW_iload_n 6 dX11_thingsIn_5 rfl rfl ?_
    obtain ⟨r1, e1, h⟩ := fBd h
    refine fW_cP (fI_S (as := [iv v1]) (rest := [iv v3]) miX11_rowsOf rfl wd_1286 (fRoom_of rfl) rfl (Nat.le_of_ble_eq_true rfl) dX11_thingsIn_6) (s_X11_rowsOf gv1 e1) rfl rfl rfl (fun g1 => ?_)
    refine fW_icmp_ge 12 51 gv3 g1 dX11_thingsIn_9 rfl rfl (fun c2 => ?_) (fun c2 => ?_)
    · replace h := fTt h c2
      exact fW_sb (hk v2 gv2 h) ⟨rfl, rfl, trivial⟩
    · replace h := fFf h c2
      refine fW_iload_n 13 dX11_thingsIn_12 rfl rfl ?_
      refine fW_aload_n 14 dX11_thingsIn_13 rfl rfl ?_
      refine fW_iload_n 15 dX11_thingsIn_14 rfl rfl ?_
      refine fW_iload_n 16 dX11_thingsIn_15 rfl rfl ?_
      obtain ⟨r3, e3, h⟩ := fBd h
      refine fW_cP (fI_S (as := [iv v1, iv v3]) (rest := [rv G 418, iv v2]) miX11_rowAt rfl wd_1289 (fRoom_of rfl) rfl (Nat.le_of_ble_eq_true rfl) dX11_thingsIn_16) (s_X11_rowAt gv1 gv3 e3) rfl rfl rfl (fun g3 => ?_)
      obtain ⟨r4, e4, h⟩ := fBd h
      refine fW_cB (fI_V (as := [iv r3]) (rest := [iv v2]) miX11_isShut hg clX11 rfl tc_418 wd_1340 (fRoom_of rfl) rfl (Nat.le_of_ble_eq_true rfl) dX11_thingsIn_19) (s_X11_isShut hg g3 e4) rfl rfl rfl (fun g4 => ?_)
      refine fW_if_eq 25 42 (rg_z g4) dX11_thingsIn_22 rfl rfl (fun c5 => ?_) (fun c5 => ?_)
      · replace h := fTt h c5
        refine fW_iconst 43 dX11_thingsIn_42 rfl ?_
        refine fW_iadd 44 dX11_thingsIn_43 rfl ?_
        refine fW_istore_n 45 (ls' := [some (rv G 418), some (iv v1), some (iv (v2 + 0)), some (iv v3)]) dX11_thingsIn_44 rfl rfl rfl (by decide) ?_
        refine fW_iinc 48 (ls' := [some (rv G 418), some (iv v1), some (iv (v2 + 0)), some (iv (v3 + 1))]) dX11_thingsIn_45 rfl rfl rfl (by decide) ?_
        refine fW_goto 4 dX11_thingsIn_48 rfl ?_
        obtain ⟨c6, h⟩ := fS h
        exact fW_sb (ih v1 (v2 + 0) (v3 + 1) gv1 c6 (rg_succ' gv3 g1 c2) h) ⟨rfl, rfl, rfl, rfl, trivial⟩
      · replace h := fFf h c5
        refine fW_aload_n 26 dX11_thingsIn_25 rfl rfl ?_
        refine fW_getR 29 (r := 419) 0 hg clX11 (by decide) rfl tc_418 tf_11_0 wd_1174 dX11_thingsIn_26 rfl ?_
        refine fW_sipush 32 dX11_thingsIn_29 rfl (by decide) ?_
        refine fW_iload_n 33 dX11_thingsIn_32 rfl rfl ?_
        refine fW_iload_n 34 dX11_thingsIn_33 rfl rfl ?_
        obtain ⟨r7, e7, h⟩ := fBd h
        refine fW_cP (fI_S (as := [iv v1, iv v3]) (rest := [iv 7600, rv G 419, iv v2]) miX11_rowAt rfl wd_1289 (fRoom_of rfl) rfl (Nat.le_of_ble_eq_true rfl) dX11_thingsIn_34) (s_X11_rowAt gv1 gv3 e7) rfl rfl rfl (fun g7 => ?_)
        refine fW_iadd 38 dX11_thingsIn_37 rfl ?_
        obtain ⟨c8, h⟩ := fS h
        refine fW_iald 39 hg tc_419 ⟨c8.1, by rw [show Ln 419 = 7787 from rfl]; exact c8.2⟩ dX11_thingsIn_38 rfl ?_
        refine fW_goto 43 dX11_thingsIn_39 rfl ?_
        refine fW_iadd 44 dX11_thingsIn_43 rfl ?_
        refine fW_istore_n 45 (ls' := [some (rv G 418), some (iv v1), some (iv (v2 + (M 419 (7600 + r7)))), some (iv v3)]) dX11_thingsIn_44 rfl rfl rfl (by decide) ?_
        refine fW_iinc 48 (ls' := [some (rv G 418), some (iv v1), some (iv (v2 + (M 419 (7600 + r7)))), some (iv (v3 + 1))]) dX11_thingsIn_45 rfl rfl rfl (by decide) ?_
        refine fW_goto 4 dX11_thingsIn_48 rfl ?_
        obtain ⟨c9, h⟩ := fS h
        exact fW_sb (ih v1 (v2 + (M 419 (7600 + r7))) (v3 + 1) gv1 c9 (rg_succ' gv3 g1 c2) h) ⟨rfl, rfl, rfl, rfl, trivial⟩
def f_X11_thingsIn (a1 : Int) (M : fMem) : Option (Int) := L_X11_thingsIn_4 M (fun (v2_10 : Int) => some v2_10) 4 a1 0 0
set_option maxRecDepth 100000 in
set_option maxHeartbeats 4000000 in
theorem s_X11_thingsIn {G : fG} (hg : gbt G = true) {a1 : Int} (ga1 : rg a1) {M : fMem} {q : Int} (h : f_X11_thingsIn a1 M = some q) : fSp G mX11_thingsIn [rv G 418, iv a1] M (rP M q) fNo := by
  refine fSp_of (by decide +kernel) (by decide +kernel) (fC1 rfl (fC1 rfl fC0)) (Nat.le_of_ble_eq_true rfl) ?_
  show fW G mX11_thingsIn (fEm G mX11_thingsIn (rP M q) fNo) 0 0 0 [some (rv G 418), some (iv a1), none, none] [] M
  rw [f_X11_thingsIn] at h
  refine fW_rg (fun hR => ?_)
  refine fW_iconst 1 dX11_thingsIn_0 rfl ?_
  refine fW_istore_n 2 (ls' := [some (rv G 418), some (iv a1), some (iv 0), none]) dX11_thingsIn_1 rfl rfl rfl (by decide) ?_
  refine fW_iconst 3 dX11_thingsIn_2 rfl ?_
  refine fW_istore_n 4 (ls' := [some (rv G 418), some (iv a1), some (iv 0), some (iv 0)]) dX11_thingsIn_3 rfl rfl rfl (by decide) ?_
  refine fW_sb (l_X11_thingsIn_4 hg ?_ 4 a1 0 0 ga1 (by decide) (by decide) h) ⟨rfl, rfl, rfl, rfl, trivial⟩
  intro v2_10 gv2_10 h
  refine fW_iload_n 52 dX11_thingsIn_51 rfl rfl ?_
  exact fW_iret rfl (by decide) (by decide) dX11_thingsIn_52 (rP_i h gv2_10)
end MTH
