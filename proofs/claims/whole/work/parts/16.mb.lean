section MTH
def mX11_byAge : fMt := (yX11_byAge, cX11_byAge, 5, some .int, { frames := 2, cells := 0, slots := 0, locals := 80 })
theorem miX11_byAge : fMv mX11_byAge 2 := ⟨⟨fM 1351 (by decide +kernel) rfl, fM 101 (by decide +kernel) rfl, ⟨by decide +kernel, by decide +kernel⟩, by decide +kernel⟩, fM 1350 (by decide +kernel) rfl, fM 46 (by decide +kernel) rfl⟩
def L_X11_byAge_2  (M : fMem) (k : Option (Int)) : Nat → Int → Int → Int → Option (Int)
  | 0, _, _, _ => none
  | n + 1, v1, v2, v3 => ((f_X11_rowsOf v1 M).bind fun (r1 : Int) => (if r1 ≤ v3 then k else ((f_X11_rowAt v1 v3 M).bind fun (r3 : Int) => ((f_X11_isShut r3 M).bind fun (r4 : Int) => (if r4 = 0 then L_X11_byAge_2 M k n v1 v2 (v3 + 1) else ((f_X11_youngerMany v1 r3 M).bind fun (r6 : Int) => (if r6 = v2 then some r3 else L_X11_byAge_2 M k n v1 v2 (v3 + 1))))))))
set_option maxRecDepth 100000 in
set_option maxHeartbeats 4000000 in
theorem l_X11_byAge_2 {G : fG} (hg : gbt G = true)  {M : fMem} {q : Int} {k : Option (Int)} (hk : k = some q → fW G mX11_byAge (fEm G mX11_byAge (rP M q) fNo) 0 0 46 [some (rv G 418), none, none, none, none] [] M) : ∀ (n : Nat) (v1 : Int) (v2 : Int) (v3 : Int), rg v1 → rg v2 → rg v3 → L_X11_byAge_2 M k n v1 v2 v3 = some q → fW G mX11_byAge (fEm G mX11_byAge (rP M q) fNo) 0 0 2 [some (rv G 418), some (iv v1), some (iv v2), some (iv v3), none] [] M := by
  intro n
  induction n with
  | zero =>
    intro v1 v2 v3 gv1 gv2 gv3 h
    rw [L_X11_byAge_2] at h
    exact absurd h (by simp)
  | succ n ih =>
    intro v1 v2 v3 gv1 gv2 gv3 h
    rw [L_X11_byAge_2] at h
    refine fW_rg (fun hR => ?_)
    refine fW_iload_n 3 dX11_byAge_2 rfl rfl ?_
    refine fW_iload_n 4 dX11_byAge_3 rfl rfl ?_
    obtain ⟨r1, e1, h⟩ := fBd h
    refine fW_cP (fI_S (as := [iv v1]) (rest := [iv v3]) miX11_rowsOf rfl wd_1286 (fRoom_of rfl) rfl (Nat.le_of_ble_eq_true rfl) dX11_byAge_4) (s_X11_rowsOf gv1 e1) rfl rfl rfl (fun g1 => ?_)
    refine fW_icmp_ge 10 46 gv3 g1 dX11_byAge_7 rfl rfl (fun c2 => ?_) (fun c2 => ?_)
    · replace h := fTt h c2
      exact fW_sb (hk h) ⟨rfl, trivial⟩
    · replace h := fFf h c2
      refine fW_iload_n 11 dX11_byAge_10 rfl rfl ?_
      refine fW_iload_n 12 dX11_byAge_11 rfl rfl ?_
      obtain ⟨r3, e3, h⟩ := fBd h
      refine fW_cP (fI_S (as := [iv v1, iv v3]) (rest := []) miX11_rowAt rfl wd_1289 (fRoom_of rfl) rfl (Nat.le_of_ble_eq_true rfl) dX11_byAge_12) (s_X11_rowAt gv1 gv3 e3) rfl rfl rfl (fun g3 => ?_)
      refine fW_istore 17 (ls' := [some (rv G 418), some (iv v1), some (iv v2), some (iv v3), some (iv r3)]) dX11_byAge_15 rfl rfl (by decide) ?_
      refine fW_aload_n 18 dX11_byAge_17 rfl rfl ?_
      refine fW_iload 20 dX11_byAge_18 rfl rfl ?_
      obtain ⟨r4, e4, h⟩ := fBd h
      refine fW_cB (fI_V (as := [iv r3]) (rest := []) miX11_isShut hg clX11 rfl tc_418 wd_1340 (fRoom_of rfl) rfl (Nat.le_of_ble_eq_true rfl) dX11_byAge_20) (s_X11_isShut hg g3 e4) rfl rfl rfl (fun g4 => ?_)
      refine fW_if_eq 26 40 (rg_z g4) dX11_byAge_23 rfl rfl (fun c5 => ?_) (fun c5 => ?_)
      · replace h := fTt h c5
        refine fW_iinc 43 (ls' := [some (rv G 418), some (iv v1), some (iv v2), some (iv (v3 + 1)), some (iv r3)]) dX11_byAge_40 rfl rfl rfl (by decide) ?_
        refine fW_goto 2 dX11_byAge_43 rfl ?_
        exact fW_sb (ih v1 v2 (v3 + 1) gv1 gv2 (rg_succ' gv3 g1 c2) h) ⟨rfl, rfl, rfl, rfl, trivial⟩
      · replace h := fFf h c5
        refine fW_aload_n 27 dX11_byAge_26 rfl rfl ?_
        refine fW_iload_n 28 dX11_byAge_27 rfl rfl ?_
        refine fW_iload 30 dX11_byAge_28 rfl rfl ?_
        obtain ⟨r6, e6, h⟩ := fBd h
        refine fW_cP (fI_V (as := [iv v1, iv r3]) (rest := []) miX11_youngerMany hg clX11 rfl tc_418 wd_1352 (fRoom_of rfl) rfl (Nat.le_of_ble_eq_true rfl) dX11_byAge_30) (s_X11_youngerMany hg gv1 g3 e6) rfl rfl rfl (fun g6 => ?_)
        refine fW_iload_n 34 dX11_byAge_33 rfl rfl ?_
        refine fW_icmp_ne 37 40 g6 gv2 dX11_byAge_34 rfl rfl (fun c7 => ?_) (fun c7 => ?_)
        · replace h := fFf h c7
          refine fW_iinc 43 (ls' := [some (rv G 418), some (iv v1), some (iv v2), some (iv (v3 + 1)), some (iv r3)]) dX11_byAge_40 rfl rfl rfl (by decide) ?_
          refine fW_goto 2 dX11_byAge_43 rfl ?_
          exact fW_sb (ih v1 v2 (v3 + 1) gv1 gv2 (rg_succ' gv3 g1 c2) h) ⟨rfl, rfl, rfl, rfl, trivial⟩
        · replace h := fTt h c7
          refine fW_iload 39 dX11_byAge_37 rfl rfl ?_
          exact fW_iret rfl (by decide) (by decide) dX11_byAge_39 (rP_i h g3)
def f_X11_byAge (a1 : Int) (a2 : Int) (M : fMem) : Option (Int) := L_X11_byAge_2 M (some ((-1))) 4 a1 a2 0
set_option maxRecDepth 100000 in
set_option maxHeartbeats 4000000 in
theorem s_X11_byAge {G : fG} (hg : gbt G = true) {a1 : Int} (ga1 : rg a1) {a2 : Int} (ga2 : rg a2) {M : fMem} {q : Int} (h : f_X11_byAge a1 a2 M = some q) : fSp G mX11_byAge [rv G 418, iv a1, iv a2] M (rP M q) fNo := by
  refine fSp_of (by decide +kernel) (by decide +kernel) (fC1 rfl (fC1 rfl (fC1 rfl fC0))) (Nat.le_of_ble_eq_true rfl) ?_
  show fW G mX11_byAge (fEm G mX11_byAge (rP M q) fNo) 0 0 0 [some (rv G 418), some (iv a1), some (iv a2), none, none] [] M
  rw [f_X11_byAge] at h
  refine fW_rg (fun hR => ?_)
  refine fW_iconst 1 dX11_byAge_0 rfl ?_
  refine fW_istore_n 2 (ls' := [some (rv G 418), some (iv a1), some (iv a2), some (iv 0), none]) dX11_byAge_1 rfl rfl rfl (by decide) ?_
  refine fW_sb (l_X11_byAge_2 hg ?_ 4 a1 a2 0 ga1 ga2 (by decide) h) ⟨rfl, rfl, rfl, rfl, trivial⟩
  intro  h
  refine fW_iconst 47 dX11_byAge_46 rfl ?_
  exact fW_iret rfl (by decide) (by decide) dX11_byAge_47 (rP_i h (by decide))
def mX11_isBare : fMt := (yX11_isBare, cX11_isBare, 3, some .boolean, { frames := 2, cells := 0, slots := 0, locals := 80 })
theorem miX11_isBare : fMv mX11_isBare 1 := ⟨⟨fM 1347 (by decide +kernel) rfl, fM 101 (by decide +kernel) rfl, ⟨by decide +kernel, by decide +kernel⟩, by decide +kernel⟩, fM 1346 (by decide +kernel) rfl, fM 45 (by decide +kernel) rfl⟩
def L_X11_isBare_4  (M : fMem) (k : Option (Int)) : Nat → Int → Option (Int)
  | 0, _ => none
  | n + 1, v2 => (if 9 ≤ v2 then k else ((f_X11_shutMany v2 M).bind fun (r3 : Int) => (if r3 ≤ 0 then L_X11_isBare_4 M k n (v2 + 1) else some 0)))
set_option maxRecDepth 100000 in
set_option maxHeartbeats 4000000 in
theorem l_X11_isBare_4 {G : fG} (hg : gbt G = true)  {M : fMem} {q : Int} {k : Option (Int)} (hk : k = some q → fW G mX11_isBare (fEm G mX11_isBare (rB M q) fNo) 0 0 26 [some (rv G 418), none, none] [] M) : ∀ (n : Nat) (v2 : Int), rg v2 → L_X11_isBare_4 M k n v2 = some q → fW G mX11_isBare (fEm G mX11_isBare (rB M q) fNo) 0 0 4 [some (rv G 418), none, some (iv v2)] [] M := by
  intro n
  induction n with
  | zero =>
    intro v2 gv2 h
    rw [L_X11_isBare_4] at h
    exact absurd h (by simp)
  | succ n ih =>
    intro v2 gv2 h
    rw [L_X11_isBare_4] at h
    refine fW_rg (fun hR => ?_)
    refine fW_iload_n 5 dX11_isBare_4 rfl rfl ?_
    refine fW_bipush 7 dX11_isBare_5 rfl (by decide) ?_
    refine fW_icmp_ge 10 26 gv2 (by decide) dX11_isBare_7 rfl rfl (fun c2 => ?_) (fun c2 => ?_)
    · replace h := fTt h c2
      exact fW_sb (hk h) ⟨rfl, trivial⟩
    · replace h := fFf h c2
      refine fW_aload_n 11 dX11_isBare_10 rfl rfl ?_
      refine fW_iload_n 12 dX11_isBare_11 rfl rfl ?_
      obtain ⟨r3, e3, h⟩ := fBd h
      refine fW_cP (fI_V (as := [iv v2]) (rest := []) miX11_shutMany hg clX11 rfl tc_418 wd_1336 (fRoom_of rfl) rfl (Nat.le_of_ble_eq_true rfl) dX11_isBare_12) (s_X11_shutMany hg gv2 e3) rfl rfl rfl (fun g3 => ?_)
      refine fW_if_le 18 20 g3 dX11_isBare_15 rfl rfl (fun c4 => ?_) (fun c4 => ?_)
      · replace h := fTt h c4
        refine fW_iinc 23 (ls' := [some (rv G 418), none, some (iv (v2 + 1))]) dX11_isBare_20 rfl rfl rfl (by decide) ?_
        refine fW_goto 4 dX11_isBare_23 rfl ?_
        exact fW_sb (ih (v2 + 1) (rg_succ' gv2 (by decide) c2) h) ⟨rfl, rfl, trivial⟩
      · replace h := fFf h c4
        refine fW_iconst 19 dX11_isBare_18 rfl ?_
        exact fW_zret rfl (by decide) (by decide) (by decide) dX11_isBare_19 (rB_i h (by decide))
def f_X11_isBare (a1 : Int) (M : fMem) : Option (Int) := (if -2147483648 ≤ a1 + 1 ∧ a1 + 1 < 2147483648 then L_X11_isBare_4 M (some 1) 20000 (a1 + 1) else none)
set_option maxRecDepth 100000 in
set_option maxHeartbeats 4000000 in
theorem s_X11_isBare {G : fG} (hg : gbt G = true) {a1 : Int} (ga1 : rg a1) {M : fMem} {q : Int} (h : f_X11_isBare a1 M = some q) : fSp G mX11_isBare [rv G 418, iv a1] M (rB M q) fNo := by
  refine fSp_of (by decide +kernel) (by decide +kernel) (fC1 rfl (fC1 rfl fC0)) (Nat.le_of_ble_eq_true rfl) ?_
  show fW G mX11_isBare (fEm G mX11_isBare (rB M q) fNo) 0 0 0 [some (rv G 418), some (iv a1), none] [] M
  rw [f_X11_isBare] at h
  refine fW_rg (fun hR => ?_)
  refine fW_iload_n 1 dX11_isBare_0 rfl rfl ?_
  refine fW_iconst 2 dX11_isBare_1 rfl ?_
  refine fW_iadd 3 dX11_isBare_2 rfl ?_
  refine fW_istore_n 4 (ls' := [some (rv G 418), some (iv a1), some (iv (a1 + 1))]) dX11_isBare_3 rfl rfl rfl (by decide) ?_
  obtain ⟨c1, h⟩ := fS h
  refine fW_sb (l_X11_isBare_4 hg ?_ 20000 (a1 + 1) c1 h) ⟨rfl, rfl, trivial⟩
  intro  h
  refine fW_iconst 27 dX11_isBare_26 rfl ?_
  exact fW_zret rfl (by decide) (by decide) (by decide) dX11_isBare_27 (rB_i h (by decide))
def mX11_asks : fMt := (yX11_asks, cX11_asks, 3, none, { frames := 3, cells := 0, slots := 0, locals := 120 })
theorem miX11_asks : fMv mX11_asks 1 := ⟨⟨fM 1335 (by decide +kernel) rfl, fM 101 (by decide +kernel) rfl, ⟨by decide +kernel, by decide +kernel⟩, by decide +kernel⟩, fM 1334 (by decide +kernel) rfl, fM 42 (by decide +kernel) rfl⟩
def j_X11_asks_71  (v1 : Int) (v2 : Int) (x1 : Int) (x2 : Int) (M : fMem) : Option (fMem) := (if 0 ≤ x1 ∧ x1 < 7787 then ((some (mset M 419 x1 x2)).bind fun (N13 : fMem) => (if 0 ≤ 7657 + v1 ∧ 7657 + v1 < 7787 then ((some (mset N13 419 (7657 + v1) 1)).bind fun (N15 : fMem) => (if 0 ≤ 7675 + v1 ∧ 7675 + v1 < 7787 then ((some (mset N15 419 (7675 + v1) v2)).bind fun (N17 : fMem) => ((f_X11_byAge v1 0 N17).bind fun (r18 : Int) => (if 0 ≤ 7684 + v1 ∧ 7684 + v1 < 7787 then ((some (mset N17 419 (7684 + v1) r18)).bind fun (N20 : fMem) => ((f_X11_byAge v1 1 N20).bind fun (r21 : Int) => (if 0 ≤ 7693 + v1 ∧ 7693 + v1 < 7787 then ((some (mset N20 419 (7693 + v1) r21)).bind fun (N23 : fMem) => (if 0 ≤ 7702 + v1 ∧ 7702 + v1 < 7787 then ((some (mset N23 419 (7702 + v1) 0)).bind fun (N25 : fMem) => (if 0 ≤ 7711 + v1 ∧ 7711 + v1 < 7787 then ((some (mset N25 419 (7711 + v1) 0)).bind fun (N27 : fMem) => (if 0 ≤ 7619 + v2 ∧ 7619 + v2 < 7787 then ((some (mset N27 419 (7619 + v2) 1)).bind fun (N29 : fMem) => (if 0 ≤ 7600 + v2 ∧ 7600 + v2 < 7787 then ((some (mset N29 419 (7600 + v2) 0)).bind fun (N31 : fMem) => some N31) else none)) else none)) else none)) else none)) else none))) else none))) else none)) else none)) else none)
set_option maxRecDepth 100000 in
set_option maxHeartbeats 4000000 in
theorem i_X11_asks_71 {G : fG} (hg : gbt G = true)  {v1 : Int} {v2 : Int} {x1 : Int} {x2 : Int} (gv1 : rg v1) (gv2 : rg v2) (gx1 : rg x1) (gx2 : rg x2) {M : fMem} {q : fMem} (h : j_X11_asks_71 v1 v2 x1 x2 M = some q) : fW G mX11_asks (fEm G mX11_asks (rV q) fNo) 0 0 71 [some (rv G 418), some (iv v1), some (iv v2)] [iv x2, iv x1, rv G 419] M := by
  rw [j_X11_asks_71] at h
  refine fW_rg (fun hR => ?_)
  obtain ⟨c12, h⟩ := fS h
  obtain ⟨N13, e13, h⟩ := fBd h
  replace e13 := Option.some.inj e13
  refine fW_iast 72 hg tc_419 ⟨c12.1, by rw [show Ln 419 = 7787 from rfl]; exact c12.2⟩ gx2 dX11_asks_71 rfl ?_
  rw [e13]
  refine fW_rg (fun hR13 => ?_)
  refine fW_aload_n 73 dX11_asks_72 rfl rfl ?_
  refine fW_getR 76 (r := 419) 0 hg clX11 (by decide) rfl tc_418 tf_11_0 wd_1174 dX11_asks_73 rfl ?_
  refine fW_sipush 79 dX11_asks_76 rfl (by decide) ?_
  refine fW_iload_n 80 dX11_asks_79 rfl rfl ?_
  refine fW_iadd 81 dX11_asks_80 rfl ?_
  refine fW_iconst 82 dX11_asks_81 rfl ?_
  obtain ⟨c14, h⟩ := fS h
  obtain ⟨N15, e15, h⟩ := fBd h
  replace e15 := Option.some.inj e15
  refine fW_iast 83 hg tc_419 ⟨c14.1, by rw [show Ln 419 = 7787 from rfl]; exact c14.2⟩ (by decide) dX11_asks_82 rfl ?_
  rw [e15]
  refine fW_rg (fun hR15 => ?_)
  refine fW_aload_n 84 dX11_asks_83 rfl rfl ?_
  refine fW_getR 87 (r := 419) 0 hg clX11 (by decide) rfl tc_418 tf_11_0 wd_1174 dX11_asks_84 rfl ?_
  refine fW_sipush 90 dX11_asks_87 rfl (by decide) ?_
  refine fW_iload_n 91 dX11_asks_90 rfl rfl ?_
  refine fW_iadd 92 dX11_asks_91 rfl ?_
  refine fW_iload_n 93 dX11_asks_92 rfl rfl ?_
  obtain ⟨c16, h⟩ := fS h
  obtain ⟨N17, e17, h⟩ := fBd h
  replace e17 := Option.some.inj e17
  refine fW_iast 94 hg tc_419 ⟨c16.1, by rw [show Ln 419 = 7787 from rfl]; exact c16.2⟩ gv2 dX11_asks_93 rfl ?_
  rw [e17]
  refine fW_rg (fun hR17 => ?_)
  refine fW_aload_n 95 dX11_asks_94 rfl rfl ?_
  refine fW_getR 98 (r := 419) 0 hg clX11 (by decide) rfl tc_418 tf_11_0 wd_1174 dX11_asks_95 rfl ?_
  refine fW_sipush 101 dX11_asks_98 rfl (by decide) ?_
  refine fW_iload_n 102 dX11_asks_101 rfl rfl ?_
  refine fW_iadd 103 dX11_asks_102 rfl ?_
  refine fW_aload_n 104 dX11_asks_103 rfl rfl ?_
  refine fW_iload_n 105 dX11_asks_104 rfl rfl ?_
  refine fW_iconst 106 dX11_asks_105 rfl ?_
  obtain ⟨r18, e18, h⟩ := fBd h
  refine fW_cP (fI_V (as := [iv v1, iv 0]) (rest := [iv (7684 + v1), rv G 419]) miX11_byAge hg clX11 rfl tc_418 wd_1348 (fRoom_of rfl) rfl (Nat.le_of_ble_eq_true rfl) dX11_asks_106) (s_X11_byAge hg gv1 (by decide) e18) rfl rfl rfl (fun g18 => ?_)
  obtain ⟨c19, h⟩ := fS h
  obtain ⟨N20, e20, h⟩ := fBd h
  replace e20 := Option.some.inj e20
  refine fW_iast 110 hg tc_419 ⟨c19.1, by rw [show Ln 419 = 7787 from rfl]; exact c19.2⟩ g18 dX11_asks_109 rfl ?_
  rw [e20]
  refine fW_rg (fun hR20 => ?_)
  refine fW_aload_n 111 dX11_asks_110 rfl rfl ?_
  refine fW_getR 114 (r := 419) 0 hg clX11 (by decide) rfl tc_418 tf_11_0 wd_1174 dX11_asks_111 rfl ?_
  refine fW_sipush 117 dX11_asks_114 rfl (by decide) ?_
  refine fW_iload_n 118 dX11_asks_117 rfl rfl ?_
  refine fW_iadd 119 dX11_asks_118 rfl ?_
  refine fW_aload_n 120 dX11_asks_119 rfl rfl ?_
  refine fW_iload_n 121 dX11_asks_120 rfl rfl ?_
  refine fW_iconst 122 dX11_asks_121 rfl ?_
  obtain ⟨r21, e21, h⟩ := fBd h
  refine fW_cP (fI_V (as := [iv v1, iv 1]) (rest := [iv (7693 + v1), rv G 419]) miX11_byAge hg clX11 rfl tc_418 wd_1348 (fRoom_of rfl) rfl (Nat.le_of_ble_eq_true rfl) dX11_asks_122) (s_X11_byAge hg gv1 (by decide) e21) rfl rfl rfl (fun g21 => ?_)
  obtain ⟨c22, h⟩ := fS h
  obtain ⟨N23, e23, h⟩ := fBd h
  replace e23 := Option.some.inj e23
  refine fW_iast 126 hg tc_419 ⟨c22.1, by rw [show Ln 419 = 7787 from rfl]; exact c22.2⟩ g21 dX11_asks_125 rfl ?_
  rw [e23]
  refine fW_rg (fun hR23 => ?_)
  refine fW_aload_n 127 dX11_asks_126 rfl rfl ?_
  refine fW_getR 130 (r := 419) 0 hg clX11 (by decide) rfl tc_418 tf_11_0 wd_1174 dX11_asks_127 rfl ?_
  refine fW_sipush 133 dX11_asks_130 rfl (by decide) ?_
  refine fW_iload_n 134 dX11_asks_133 rfl rfl ?_
  refine fW_iadd 135 dX11_asks_134 rfl ?_
  refine fW_iconst 136 dX11_asks_135 rfl ?_
  obtain ⟨c24, h⟩ := fS h
  obtain ⟨N25, e25, h⟩ := fBd h
  replace e25 := Option.some.inj e25
  refine fW_iast 137 hg tc_419 ⟨c24.1, by rw [show Ln 419 = 7787 from rfl]; exact c24.2⟩ (by decide) dX11_asks_136 rfl ?_
  rw [e25]
  refine fW_rg (fun hR25 => ?_)
  refine fW_aload_n 138 dX11_asks_137 rfl rfl ?_
  refine fW_getR 141 (r := 419) 0 hg clX11 (by decide) rfl tc_418 tf_11_0 wd_1174 dX11_asks_138 rfl ?_
  refine fW_sipush 144 dX11_asks_141 rfl (by decide) ?_
  refine fW_iload_n 145 dX11_asks_144 rfl rfl ?_
  refine fW_iadd 146 dX11_asks_145 rfl ?_
  refine fW_iconst 147 dX11_asks_146 rfl ?_
  obtain ⟨c26, h⟩ := fS h
  obtain ⟨N27, e27, h⟩ := fBd h
  replace e27 := Option.some.inj e27
  refine fW_iast 148 hg tc_419 ⟨c26.1, by rw [show Ln 419 = 7787 from rfl]; exact c26.2⟩ (by decide) dX11_asks_147 rfl ?_
  rw [e27]
  refine fW_rg (fun hR27 => ?_)
  refine fW_aload_n 149 dX11_asks_148 rfl rfl ?_
  refine fW_getR 152 (r := 419) 0 hg clX11 (by decide) rfl tc_418 tf_11_0 wd_1174 dX11_asks_149 rfl ?_
  refine fW_sipush 155 dX11_asks_152 rfl (by decide) ?_
  refine fW_iload_n 156 dX11_asks_155 rfl rfl ?_
  refine fW_iadd 157 dX11_asks_156 rfl ?_
  refine fW_iconst 158 dX11_asks_157 rfl ?_
  obtain ⟨c28, h⟩ := fS h
  obtain ⟨N29, e29, h⟩ := fBd h
  replace e29 := Option.some.inj e29
  refine fW_iast 159 hg tc_419 ⟨c28.1, by rw [show Ln 419 = 7787 from rfl]; exact c28.2⟩ (by decide) dX11_asks_158 rfl ?_
  rw [e29]
  refine fW_rg (fun hR29 => ?_)
  refine fW_aload_n 160 dX11_asks_159 rfl rfl ?_
  refine fW_getR 163 (r := 419) 0 hg clX11 (by decide) rfl tc_418 tf_11_0 wd_1174 dX11_asks_160 rfl ?_
  refine fW_sipush 166 dX11_asks_163 rfl (by decide) ?_
  refine fW_iload_n 167 dX11_asks_166 rfl rfl ?_
  refine fW_iadd 168 dX11_asks_167 rfl ?_
  refine fW_iconst 169 dX11_asks_168 rfl ?_
  obtain ⟨c30, h⟩ := fS h
  obtain ⟨N31, e31, h⟩ := fBd h
  replace e31 := Option.some.inj e31
  refine fW_iast 170 hg tc_419 ⟨c30.1, by rw [show Ln 419 = 7787 from rfl]; exact c30.2⟩ (by decide) dX11_asks_169 rfl ?_
  rw [e31]
  refine fW_rg (fun hR31 => ?_)
  exact fW_vret rfl (by decide) (by decide) dX11_asks_170 (rV_i h)
def j_X11_asks_39  (v1 : Int) (x1 : Int) (M : fMem) : Option (fMem) := ((f_X11_firstFree x1 M).bind fun (r7 : Int) => (if r7 = ((-1)) then some M else ((f_X11_isBare v1 M).bind fun (r9 : Int) => (if r9 = 0 then (if -2147483648 ≤ 7666 + v1 ∧ 7666 + v1 < 2147483648 then j_X11_asks_71 v1 r7 (7666 + v1) 0 M else none) else (if -2147483648 ≤ 7666 + v1 ∧ 7666 + v1 < 2147483648 then j_X11_asks_71 v1 r7 (7666 + v1) 1 M else none)))))
set_option maxRecDepth 100000 in
set_option maxHeartbeats 4000000 in
theorem i_X11_asks_39 {G : fG} (hg : gbt G = true)  {v1 : Int} {x1 : Int} (gv1 : rg v1) (gx1 : rg x1) {M : fMem} {q : fMem} (h : j_X11_asks_39 v1 x1 M = some q) : fW G mX11_asks (fEm G mX11_asks (rV q) fNo) 0 0 39 [some (rv G 418), some (iv v1), none] [iv x1, rv G 418] M := by
  rw [j_X11_asks_39] at h
  refine fW_rg (fun hR => ?_)
  obtain ⟨r7, e7, h⟩ := fBd h
  refine fW_cP (fI_V (as := [iv x1]) (rest := []) miX11_firstFree hg clX11 rfl tc_418 wd_1282 (fRoom_of rfl) rfl (Nat.le_of_ble_eq_true rfl) dX11_asks_39) (s_X11_firstFree hg gx1 e7) rfl rfl rfl (fun g7 => ?_)
  refine fW_istore_n 43 (ls' := [some (rv G 418), some (iv v1), some (iv r7)]) dX11_asks_42 rfl rfl rfl (by decide) ?_
  refine fW_iload_n 44 dX11_asks_43 rfl rfl ?_
  refine fW_iconst 45 dX11_asks_44 rfl ?_
  refine fW_icmp_ne 48 49 g7 (by decide) dX11_asks_45 rfl rfl (fun c8 => ?_) (fun c8 => ?_)
  · replace h := fFf h c8
    refine fW_aload_n 50 dX11_asks_49 rfl rfl ?_
    refine fW_getR 53 (r := 419) 0 hg clX11 (by decide) rfl tc_418 tf_11_0 wd_1174 dX11_asks_50 rfl ?_
    refine fW_sipush 56 dX11_asks_53 rfl (by decide) ?_
    refine fW_iload_n 57 dX11_asks_56 rfl rfl ?_
    refine fW_iadd 58 dX11_asks_57 rfl ?_
    refine fW_aload_n 59 dX11_asks_58 rfl rfl ?_
    refine fW_iload_n 60 dX11_asks_59 rfl rfl ?_
    obtain ⟨r9, e9, h⟩ := fBd h
    refine fW_cB (fI_V (as := [iv v1]) (rest := [iv (7666 + v1), rv G 419]) miX11_isBare hg clX11 rfl tc_418 wd_1344 (fRoom_of rfl) rfl (Nat.le_of_ble_eq_true rfl) dX11_asks_60) (s_X11_isBare hg gv1 e9) rfl rfl rfl (fun g9 => ?_)
    refine fW_if_eq 66 70 (rg_z g9) dX11_asks_63 rfl rfl (fun c10 => ?_) (fun c10 => ?_)
    · replace h := fTt h c10
      refine fW_iconst 71 dX11_asks_70 rfl ?_
      obtain ⟨c11, h⟩ := fS h
      exact fW_sb (i_X11_asks_71 hg gv1 g7 c11 (by decide) h) ⟨rfl, rfl, rfl, trivial⟩
    · replace h := fFf h c10
      refine fW_iconst 67 dX11_asks_66 rfl ?_
      refine fW_goto 71 dX11_asks_67 rfl ?_
      obtain ⟨c32, h⟩ := fS h
      exact fW_sb (i_X11_asks_71 hg gv1 g7 c32 (by decide) h) ⟨rfl, rfl, rfl, trivial⟩
  · replace h := fTt h c8
    exact fW_vret rfl (by decide) (by decide) dX11_asks_48 (rV_i h)
def f_X11_asks (a1 : Int) (M : fMem) : Option (fMem) := (if 0 ≤ 7657 + a1 ∧ 7657 + a1 < 7787 then (if (M 419 (7657 + a1)) = 1 then some M else ((f_X11_shutMany a1 M).bind fun (r3 : Int) => (if r3 = 2 then (if a1 = 8 then j_X11_asks_39 a1 8 M else (if -2147483648 ≤ a1 + 1 ∧ a1 + 1 < 2147483648 then j_X11_asks_39 a1 (a1 + 1) M else none)) else some M))) else none)
set_option maxRecDepth 100000 in
set_option maxHeartbeats 4000000 in
theorem s_X11_asks {G : fG} (hg : gbt G = true) {a1 : Int} (ga1 : rg a1) {M : fMem} {q : fMem} (h : f_X11_asks a1 M = some q) : fSp G mX11_asks [rv G 418, iv a1] M (rV q) fNo := by
  refine fSp_of (by decide +kernel) (by decide +kernel) (fC1 rfl (fC1 rfl fC0)) (Nat.le_of_ble_eq_true rfl) ?_
  show fW G mX11_asks (fEm G mX11_asks (rV q) fNo) 0 0 0 [some (rv G 418), some (iv a1), none] [] M
  rw [f_X11_asks] at h
  refine fW_rg (fun hR => ?_)
  refine fW_aload_n 1 dX11_asks_0 rfl rfl ?_
  refine fW_getR 4 (r := 419) 0 hg clX11 (by decide) rfl tc_418 tf_11_0 wd_1174 dX11_asks_1 rfl ?_
  refine fW_sipush 7 dX11_asks_4 rfl (by decide) ?_
  refine fW_iload_n 8 dX11_asks_7 rfl rfl ?_
  refine fW_iadd 9 dX11_asks_8 rfl ?_
  obtain ⟨c1, h⟩ := fS h
  refine fW_iald 10 hg tc_419 ⟨c1.1, by rw [show Ln 419 = 7787 from rfl]; exact c1.2⟩ dX11_asks_9 rfl ?_
  refine fW_iconst 11 dX11_asks_10 rfl ?_
  refine fW_icmp_eq 14 23 (hR 419 (7657 + a1)) (by decide) dX11_asks_11 rfl rfl (fun c2 => ?_) (fun c2 => ?_)
  · replace h := fTt h c2
    exact fW_vret rfl (by decide) (by decide) dX11_asks_23 (rV_i h)
  · replace h := fFf h c2
    refine fW_aload_n 15 dX11_asks_14 rfl rfl ?_
    refine fW_iload_n 16 dX11_asks_15 rfl rfl ?_
    obtain ⟨r3, e3, h⟩ := fBd h
    refine fW_cP (fI_V (as := [iv a1]) (rest := []) miX11_shutMany hg clX11 rfl tc_418 wd_1336 (fRoom_of rfl) rfl (Nat.le_of_ble_eq_true rfl) dX11_asks_16) (s_X11_shutMany hg ga1 e3) rfl rfl rfl (fun g3 => ?_)
    refine fW_iconst 20 dX11_asks_19 rfl ?_
    refine fW_icmp_eq 23 24 g3 (by decide) dX11_asks_20 rfl rfl (fun c4 => ?_) (fun c4 => ?_)
    · replace h := fTt h c4
      refine fW_aload_n 25 dX11_asks_24 rfl rfl ?_
      refine fW_iload_n 26 dX11_asks_25 rfl rfl ?_
      refine fW_bipush 28 dX11_asks_26 rfl (by decide) ?_
      refine fW_icmp_ne 31 36 ga1 (by decide) dX11_asks_28 rfl rfl (fun c5 => ?_) (fun c5 => ?_)
      · replace h := fFf h c5
        refine fW_iload_n 37 dX11_asks_36 rfl rfl ?_
        refine fW_iconst 38 dX11_asks_37 rfl ?_
        refine fW_iadd 39 dX11_asks_38 rfl ?_
        obtain ⟨c6, h⟩ := fS h
        exact fW_sb (i_X11_asks_39 hg ga1 c6 h) ⟨rfl, rfl, trivial⟩
      · replace h := fTt h c5
        refine fW_bipush 33 dX11_asks_31 rfl (by decide) ?_
        refine fW_goto 39 dX11_asks_33 rfl ?_
        exact fW_sb (i_X11_asks_39 hg ga1 (by decide) h) ⟨rfl, rfl, trivial⟩
    · replace h := fFf h c4
      exact fW_vret rfl (by decide) (by decide) dX11_asks_23 (rV_i h)
def mX11_asksAll : fMt := (yX11_asksAll, cX11_asksAll, 2, none, { frames := 4, cells := 0, slots := 0, locals := 160 })
theorem miX11_asksAll : fMv mX11_asksAll 0 := ⟨⟨fM 1331 (by decide +kernel) rfl, fM 101 (by decide +kernel) rfl, ⟨by decide +kernel, by decide +kernel⟩, by decide +kernel⟩, fM 1330 (by decide +kernel) rfl, fM 41 (by decide +kernel) rfl⟩
def L_X11_asksAll_3  (k : fMem → Option (fMem)) : Nat → Int → fMem → Option (fMem)
  | 0, _, _ => none
  | n + 1, v1, M => (if v1 < 0 then k  M else ((f_X11_asks v1 M).bind fun (r2 : fMem) => L_X11_asksAll_3  k n (v1 + -1) r2))
set_option maxRecDepth 100000 in
set_option maxHeartbeats 4000000 in
theorem l_X11_asksAll_3 {G : fG} (hg : gbt G = true)  {q : fMem} {k : fMem → Option (fMem)} (hk : ∀ (M : fMem), k M = some q → fW G mX11_asksAll (fEm G mX11_asksAll (rV q) fNo) 0 0 18 [some (rv G 418), none] [] M) : ∀ (n : Nat) (v1 : Int) (M : fMem), rg v1 → L_X11_asksAll_3 k n v1 M = some q → fW G mX11_asksAll (fEm G mX11_asksAll (rV q) fNo) 0 0 3 [some (rv G 418), some (iv v1)] [] M := by
  intro n
  induction n with
  | zero =>
    intro v1 M gv1 h
    rw [L_X11_asksAll_3] at h
    exact absurd h (by simp)
  | succ n ih =>
    intro v1 M gv1 h
    rw [L_X11_asksAll_3] at h
    refine fW_rg (fun hR => ?_)
    refine fW_iload_n 4 dX11_asksAll_3 rfl rfl ?_
    refine fW_if_lt 7 18 gv1 dX11_asksAll_4 rfl rfl (fun c1 => ?_) (fun c1 => ?_)
    · replace h := fTt h c1
      exact fW_sb (hk M h) ⟨rfl, trivial⟩
    · replace h := fFf h c1
      refine fW_aload_n 8 dX11_asksAll_7 rfl rfl ?_
      refine fW_iload_n 9 dX11_asksAll_8 rfl rfl ?_
      obtain ⟨r2, e2, h⟩ := fBd h
      refine fW_cV (fI_V (as := [iv v1]) (rest := []) miX11_asks hg clX11 rfl tc_418 wd_1332 (fRoom_of rfl) rfl (Nat.le_of_ble_eq_true rfl) dX11_asksAll_9) (s_X11_asks hg gv1 e2) rfl rfl rfl ?_
      refine fW_rg (fun hR3 => ?_)
      refine fW_iinc 15 (ls' := [some (rv G 418), some (iv (v1 + -1))]) dX11_asksAll_12 rfl rfl rfl (by decide) ?_
      refine fW_goto 3 dX11_asksAll_15 rfl ?_
      exact fW_sb (ih (v1 + -1) r2 (rg_pred0' gv1 c1) h) ⟨rfl, rfl, trivial⟩
def f_X11_asksAll  (M : fMem) : Option (fMem) := L_X11_asksAll_3 (fun  (M_4 : fMem) => some M_4) 20000 8 M
set_option maxRecDepth 100000 in
set_option maxHeartbeats 4000000 in
theorem s_X11_asksAll {G : fG} (hg : gbt G = true)  {M : fMem} {q : fMem} (h : f_X11_asksAll M = some q) : fSp G mX11_asksAll [rv G 418] M (rV q) fNo := by
  refine fSp_of (by decide +kernel) (by decide +kernel) (fC1 rfl fC0) (Nat.le_of_ble_eq_true rfl) ?_
  show fW G mX11_asksAll (fEm G mX11_asksAll (rV q) fNo) 0 0 0 [some (rv G 418), none] [] M
  rw [f_X11_asksAll] at h
  refine fW_rg (fun hR => ?_)
  refine fW_bipush 2 dX11_asksAll_0 rfl (by decide) ?_
  refine fW_istore_n 3 (ls' := [some (rv G 418), some (iv 8)]) dX11_asksAll_2 rfl rfl rfl (by decide) ?_
  refine fW_sb (l_X11_asksAll_3 hg ?_ 20000 8 M (by decide) h) ⟨rfl, rfl, trivial⟩
  intro M_4 h
  refine fW_rg (fun hR_4 => ?_)
  exact fW_vret rfl (by decide) (by decide) dX11_asksAll_18 (rV_i h)
def mX11_shuts : fMt := (yX11_shuts, cX11_shuts, 2, none, { frames := 0, cells := 0, slots := 0, locals := 0 })
theorem miX11_shuts : fMv mX11_shuts 1 := ⟨⟨fM 1327 (by decide +kernel) rfl, fM 101 (by decide +kernel) rfl, ⟨by decide +kernel, by decide +kernel⟩, by decide +kernel⟩, fM 1326 (by decide +kernel) rfl, fM 40 (by decide +kernel) rfl⟩
def f_X11_shuts (a1 : Int) (M : fMem) : Option (fMem) := (if 0 ≤ 7619 + a1 ∧ 7619 + a1 < 7787 then ((some (mset M 419 (7619 + a1) 2)).bind fun (N2 : fMem) => (if -2147483648 ≤ (N2 419 7738) + 1 ∧ (N2 419 7738) + 1 < 2147483648 then ((some (mset N2 419 7738 ((N2 419 7738) + 1))).bind fun (N4 : fMem) => (if 0 ≤ 7638 + a1 ∧ 7638 + a1 < 7787 then ((some (mset N4 419 (7638 + a1) (N4 419 7738))).bind fun (N6 : fMem) => some N6) else none)) else none)) else none)
set_option maxRecDepth 100000 in
set_option maxHeartbeats 4000000 in
theorem s_X11_shuts {G : fG} (hg : gbt G = true) {a1 : Int} (ga1 : rg a1) {M : fMem} {q : fMem} (h : f_X11_shuts a1 M = some q) : fSp G mX11_shuts [rv G 418, iv a1] M (rV q) fNo := by
  refine fSp_of (by decide +kernel) (by decide +kernel) (fC1 rfl (fC1 rfl fC0)) (Nat.le_of_ble_eq_true rfl) ?_
  show fW G mX11_shuts (fEm G mX11_shuts (rV q) fNo) 0 0 0 [some (rv G 418), some (iv a1)] [] M
  rw [f_X11_shuts] at h
  refine fW_rg (fun hR => ?_)
  refine fW_aload_n 1 dX11_shuts_0 rfl rfl ?_
  refine fW_getR 4 (r := 419) 0 hg clX11 (by decide) rfl tc_418 tf_11_0 wd_1174 dX11_shuts_1 rfl ?_
  refine fW_sipush 7 dX11_shuts_4 rfl (by decide) ?_
  refine fW_iload_n 8 dX11_shuts_7 rfl rfl ?_
  refine fW_iadd 9 dX11_shuts_8 rfl ?_
  refine fW_iconst 10 dX11_shuts_9 rfl ?_
  obtain ⟨c1, h⟩ := fS h
  obtain ⟨N2, e2, h⟩ := fBd h
  replace e2 := Option.some.inj e2
  refine fW_iast 11 hg tc_419 ⟨c1.1, by rw [show Ln 419 = 7787 from rfl]; exact c1.2⟩ (by decide) dX11_shuts_10 rfl ?_
  rw [e2]
  refine fW_rg (fun hR2 => ?_)
  refine fW_aload_n 12 dX11_shuts_11 rfl rfl ?_
  refine fW_getR 15 (r := 419) 0 hg clX11 (by decide) rfl tc_418 tf_11_0 wd_1174 dX11_shuts_12 rfl ?_
  refine fW_sipush 18 dX11_shuts_15 rfl (by decide) ?_
  refine fW_dup2 19 dX11_shuts_18 rfl rfl rfl ?_
  refine fW_iald 20 hg tc_419 ⟨by decide, by rw [show Ln 419 = 7787 from rfl]; decide⟩ dX11_shuts_19 rfl ?_
  refine fW_iconst 21 dX11_shuts_20 rfl ?_
  refine fW_iadd 22 dX11_shuts_21 rfl ?_
  obtain ⟨c3, h⟩ := fS h
  obtain ⟨N4, e4, h⟩ := fBd h
  replace e4 := Option.some.inj e4
  refine fW_iast 23 hg tc_419 ⟨by decide, by rw [show Ln 419 = 7787 from rfl]; decide⟩ c3 dX11_shuts_22 rfl ?_
  rw [e4]
  refine fW_rg (fun hR4 => ?_)
  refine fW_aload_n 24 dX11_shuts_23 rfl rfl ?_
  refine fW_getR 27 (r := 419) 0 hg clX11 (by decide) rfl tc_418 tf_11_0 wd_1174 dX11_shuts_24 rfl ?_
  refine fW_sipush 30 dX11_shuts_27 rfl (by decide) ?_
  refine fW_iload_n 31 dX11_shuts_30 rfl rfl ?_
  refine fW_iadd 32 dX11_shuts_31 rfl ?_
  refine fW_aload_n 33 dX11_shuts_32 rfl rfl ?_
  refine fW_getR 36 (r := 419) 0 hg clX11 (by decide) rfl tc_418 tf_11_0 wd_1174 dX11_shuts_33 rfl ?_
  refine fW_sipush 39 dX11_shuts_36 rfl (by decide) ?_
  refine fW_iald 40 hg tc_419 ⟨by decide, by rw [show Ln 419 = 7787 from rfl]; decide⟩ dX11_shuts_39 rfl ?_
  obtain ⟨c5, h⟩ := fS h
  obtain ⟨N6, e6, h⟩ := fBd h
  replace e6 := Option.some.inj e6
  refine fW_iast 41 hg tc_419 ⟨c5.1, by rw [show Ln 419 = 7787 from rfl]; exact c5.2⟩ (hR4 419 7738) dX11_shuts_40 rfl ?_
  rw [e6]
  refine fW_rg (fun hR6 => ?_)
  exact fW_vret rfl (by decide) (by decide) dX11_shuts_41 (rV_i h)
def mX11_frees : fMt := (yX11_frees, cX11_frees, 2, none, { frames := 0, cells := 0, slots := 0, locals := 0 })
theorem miX11_frees : fMv mX11_frees 1 := ⟨⟨fM 1323 (by decide +kernel) rfl, fM 101 (by decide +kernel) rfl, ⟨by decide +kernel, by decide +kernel⟩, by decide +kernel⟩, fM 1322 (by decide +kernel) rfl, fM 39 (by decide +kernel) rfl⟩
def f_X11_frees (a1 : Int) (M : fMem) : Option (fMem) := (if 0 ≤ 7619 + a1 ∧ 7619 + a1 < 7787 then ((some (mset M 419 (7619 + a1) 0)).bind fun (N2 : fMem) => (if 0 ≤ 7600 + a1 ∧ 7600 + a1 < 7787 then ((some (mset N2 419 (7600 + a1) 0)).bind fun (N4 : fMem) => some N4) else none)) else none)
set_option maxRecDepth 100000 in
set_option maxHeartbeats 4000000 in
theorem s_X11_frees {G : fG} (hg : gbt G = true) {a1 : Int} (ga1 : rg a1) {M : fMem} {q : fMem} (h : f_X11_frees a1 M = some q) : fSp G mX11_frees [rv G 418, iv a1] M (rV q) fNo := by
  refine fSp_of (by decide +kernel) (by decide +kernel) (fC1 rfl (fC1 rfl fC0)) (Nat.le_of_ble_eq_true rfl) ?_
  show fW G mX11_frees (fEm G mX11_frees (rV q) fNo) 0 0 0 [some (rv G 418), some (iv a1)] [] M
  rw [f_X11_frees] at h
  refine fW_rg (fun hR => ?_)
  refine fW_aload_n 1 dX11_frees_0 rfl rfl ?_
  refine fW_getR 4 (r := 419) 0 hg clX11 (by decide) rfl tc_418 tf_11_0 wd_1174 dX11_frees_1 rfl ?_
  refine fW_sipush 7 dX11_frees_4 rfl (by decide) ?_
  refine fW_iload_n 8 dX11_frees_7 rfl rfl ?_
  refine fW_iadd 9 dX11_frees_8 rfl ?_
  refine fW_iconst 10 dX11_frees_9 rfl ?_
  obtain ⟨c1, h⟩ := fS h
  obtain ⟨N2, e2, h⟩ := fBd h
  replace e2 := Option.some.inj e2
  refine fW_iast 11 hg tc_419 ⟨c1.1, by rw [show Ln 419 = 7787 from rfl]; exact c1.2⟩ (by decide) dX11_frees_10 rfl ?_
  rw [e2]
  refine fW_rg (fun hR2 => ?_)
  refine fW_aload_n 12 dX11_frees_11 rfl rfl ?_
  refine fW_getR 15 (r := 419) 0 hg clX11 (by decide) rfl tc_418 tf_11_0 wd_1174 dX11_frees_12 rfl ?_
  refine fW_sipush 18 dX11_frees_15 rfl (by decide) ?_
  refine fW_iload_n 19 dX11_frees_18 rfl rfl ?_
  refine fW_iadd 20 dX11_frees_19 rfl ?_
  refine fW_iconst 21 dX11_frees_20 rfl ?_
  obtain ⟨c3, h⟩ := fS h
  obtain ⟨N4, e4, h⟩ := fBd h
  replace e4 := Option.some.inj e4
  refine fW_iast 22 hg tc_419 ⟨c3.1, by rw [show Ln 419 = 7787 from rfl]; exact c3.2⟩ (by decide) dX11_frees_21 rfl ?_
  rw [e4]
  refine fW_rg (fun hR4 => ?_)
  exact fW_vret rfl (by decide) (by decide) dX11_frees_22 (rV_i h)
def mX11_lowestMerging : fMt := (yX11_lowestMerging, cX11_lowestMerging, 2, some .int, { frames := 0, cells := 0, slots := 0, locals := 0 })
theorem miX11_lowestMerging : fMv mX11_lowestMerging 0 := ⟨⟨fM 1299 (by decide +kernel) rfl, fM 101 (by decide +kernel) rfl, ⟨by decide +kernel, by decide +kernel⟩, by decide +kernel⟩, fM 1298 (by decide +kernel) rfl, fM 33 (by decide +kernel) rfl⟩
def L_X11_lowestMerging_2  (M : fMem) (k : Option (Int)) : Nat → Int → Option (Int)
  | 0, _ => none
  | n + 1, v1 => (if 9 ≤ v1 then k else (if 0 ≤ 7657 + v1 ∧ 7657 + v1 < 7787 then (if (M 419 (7657 + v1)) = 1 then some v1 else L_X11_lowestMerging_2 M k n (v1 + 1)) else none))
set_option maxRecDepth 100000 in
set_option maxHeartbeats 4000000 in
theorem l_X11_lowestMerging_2 {G : fG} (hg : gbt G = true)  {M : fMem} {q : Int} {k : Option (Int)} (hk : k = some q → fW G mX11_lowestMerging (fEm G mX11_lowestMerging (rP M q) fNo) 0 0 30 [some (rv G 418), none] [] M) : ∀ (n : Nat) (v1 : Int), rg v1 → L_X11_lowestMerging_2 M k n v1 = some q → fW G mX11_lowestMerging (fEm G mX11_lowestMerging (rP M q) fNo) 0 0 2 [some (rv G 418), some (iv v1)] [] M := by
  intro n
  induction n with
  | zero =>
    intro v1 gv1 h
    rw [L_X11_lowestMerging_2] at h
    exact absurd h (by simp)
  | succ n ih =>
    intro v1 gv1 h
    rw [L_X11_lowestMerging_2] at h
    refine fW_rg (fun hR => ?_)
    refine fW_iload_n 3 dX11_lowestMerging_2 rfl rfl ?_
    refine fW_bipush 5 dX11_lowestMerging_3 rfl (by decide) ?_
    refine fW_icmp_ge 8 30 gv1 (by decide) dX11_lowestMerging_5 rfl rfl (fun c1 => ?_) (fun c1 => ?_)
    · replace h := fTt h c1
      exact fW_sb (hk h) ⟨rfl, trivial⟩
    · replace h := fFf h c1
      refine fW_aload_n 9 dX11_lowestMerging_8 rfl rfl ?_
      refine fW_getR 12 (r := 419) 0 hg clX11 (by decide) rfl tc_418 tf_11_0 wd_1174 dX11_lowestMerging_9 rfl ?_
      refine fW_sipush 15 dX11_lowestMerging_12 rfl (by decide) ?_
      refine fW_iload_n 16 dX11_lowestMerging_15 rfl rfl ?_
      refine fW_iadd 17 dX11_lowestMerging_16 rfl ?_
      obtain ⟨c2, h⟩ := fS h
      refine fW_iald 18 hg tc_419 ⟨c2.1, by rw [show Ln 419 = 7787 from rfl]; exact c2.2⟩ dX11_lowestMerging_17 rfl ?_
      refine fW_iconst 19 dX11_lowestMerging_18 rfl ?_
      refine fW_icmp_ne 22 24 (hR 419 (7657 + v1)) (by decide) dX11_lowestMerging_19 rfl rfl (fun c3 => ?_) (fun c3 => ?_)
      · replace h := fFf h c3
        refine fW_iinc 27 (ls' := [some (rv G 418), some (iv (v1 + 1))]) dX11_lowestMerging_24 rfl rfl rfl (by decide) ?_
        refine fW_goto 2 dX11_lowestMerging_27 rfl ?_
        exact fW_sb (ih (v1 + 1) (rg_succ' gv1 (by decide) c1) h) ⟨rfl, rfl, trivial⟩
      · replace h := fTt h c3
        refine fW_iload_n 23 dX11_lowestMerging_22 rfl rfl ?_
        exact fW_iret rfl (by decide) (by decide) dX11_lowestMerging_23 (rP_i h gv1)
def f_X11_lowestMerging  (M : fMem) : Option (Int) := L_X11_lowestMerging_2 M (some ((-1))) 20000 0
set_option maxRecDepth 100000 in
set_option maxHeartbeats 4000000 in
theorem s_X11_lowestMerging {G : fG} (hg : gbt G = true)  {M : fMem} {q : Int} (h : f_X11_lowestMerging M = some q) : fSp G mX11_lowestMerging [rv G 418] M (rP M q) fNo := by
  refine fSp_of (by decide +kernel) (by decide +kernel) (fC1 rfl fC0) (Nat.le_of_ble_eq_true rfl) ?_
  show fW G mX11_lowestMerging (fEm G mX11_lowestMerging (rP M q) fNo) 0 0 0 [some (rv G 418), none] [] M
  rw [f_X11_lowestMerging] at h
  refine fW_rg (fun hR => ?_)
  refine fW_iconst 1 dX11_lowestMerging_0 rfl ?_
  refine fW_istore_n 2 (ls' := [some (rv G 418), some (iv 0)]) dX11_lowestMerging_1 rfl rfl rfl (by decide) ?_
  refine fW_sb (l_X11_lowestMerging_2 hg ?_ 20000 0 (by decide) h) ⟨rfl, rfl, trivial⟩
  intro  h
  refine fW_iconst 31 dX11_lowestMerging_30 rfl ?_
  exact fW_iret rfl (by decide) (by decide) dX11_lowestMerging_31 (rP_i h (by decide))
def mX11_leftOf : fMt := (yX11_leftOf, cX11_leftOf, 2, some .int, { frames := 0, cells := 0, slots := 0, locals := 0 })
theorem miX11_leftOf : fMv mX11_leftOf 1 := ⟨⟨fM 1315 (by decide +kernel) rfl, fM 101 (by decide +kernel) rfl, ⟨by decide +kernel, by decide +kernel⟩, by decide +kernel⟩, fM 1314 (by decide +kernel) rfl, fM 37 (by decide +kernel) rfl⟩
def f_X11_leftOf (a1 : Int) (M : fMem) : Option (Int) := (if 0 ≤ 7657 + a1 ∧ 7657 + a1 < 7787 then (if (M 419 (7657 + a1)) = 0 then some 0 else (if 0 ≤ 7684 + a1 ∧ 7684 + a1 < 7787 then (if 0 ≤ 7600 + (M 419 (7684 + a1)) ∧ 7600 + (M 419 (7684 + a1)) < 7787 then (if 0 ≤ 7702 + a1 ∧ 7702 + a1 < 7787 then (if 0 ≤ 7693 + a1 ∧ 7693 + a1 < 7787 then (if 0 ≤ 7600 + (M 419 (7693 + a1)) ∧ 7600 + (M 419 (7693 + a1)) < 7787 then (if 0 ≤ 7711 + a1 ∧ 7711 + a1 < 7787 then (if -2147483648 ≤ (((M 419 (7600 + (M 419 (7684 + a1)))) - (M 419 (7702 + a1))) + (M 419 (7600 + (M 419 (7693 + a1))))) - (M 419 (7711 + a1)) ∧ (((M 419 (7600 + (M 419 (7684 + a1)))) - (M 419 (7702 + a1))) + (M 419 (7600 + (M 419 (7693 + a1))))) - (M 419 (7711 + a1)) < 2147483648 then some ((((M 419 (7600 + (M 419 (7684 + a1)))) - (M 419 (7702 + a1))) + (M 419 (7600 + (M 419 (7693 + a1))))) - (M 419 (7711 + a1))) else none) else none) else none) else none) else none) else none) else none)) else none)
set_option maxRecDepth 100000 in
set_option maxHeartbeats 4000000 in
theorem s_X11_leftOf {G : fG} (hg : gbt G = true) {a1 : Int} (ga1 : rg a1) {M : fMem} {q : Int} (h : f_X11_leftOf a1 M = some q) : fSp G mX11_leftOf [rv G 418, iv a1] M (rP M q) fNo := by
  refine fSp_of (by decide +kernel) (by decide +kernel) (fC1 rfl (fC1 rfl fC0)) (Nat.le_of_ble_eq_true rfl) ?_
  show fW G mX11_leftOf (fEm G mX11_leftOf (rP M q) fNo) 0 0 0 [some (rv G 418), some (iv a1)] [] M
  rw [f_X11_leftOf] at h
  refine fW_rg (fun hR => ?_)
  refine fW_aload_n 1 dX11_leftOf_0 rfl rfl ?_
  refine fW_getR 4 (r := 419) 0 hg clX11 (by decide) rfl tc_418 tf_11_0 wd_1174 dX11_leftOf_1 rfl ?_
  refine fW_sipush 7 dX11_leftOf_4 rfl (by decide) ?_
  refine fW_iload_n 8 dX11_leftOf_7 rfl rfl ?_
  refine fW_iadd 9 dX11_leftOf_8 rfl ?_
  obtain ⟨c1, h⟩ := fS h
  refine fW_iald 10 hg tc_419 ⟨c1.1, by rw [show Ln 419 = 7787 from rfl]; exact c1.2⟩ dX11_leftOf_9 rfl ?_
  refine fW_if_ne 13 15 (hR 419 (7657 + a1)) dX11_leftOf_10 rfl rfl (fun c2 => ?_) (fun c2 => ?_)
  · replace h := fFf h c2
    refine fW_aload_n 16 dX11_leftOf_15 rfl rfl ?_
    refine fW_getR 19 (r := 419) 0 hg clX11 (by decide) rfl tc_418 tf_11_0 wd_1174 dX11_leftOf_16 rfl ?_
    refine fW_sipush 22 dX11_leftOf_19 rfl (by decide) ?_
    refine fW_aload_n 23 dX11_leftOf_22 rfl rfl ?_
    refine fW_getR 26 (r := 419) 0 hg clX11 (by decide) rfl tc_418 tf_11_0 wd_1174 dX11_leftOf_23 rfl ?_
    refine fW_sipush 29 dX11_leftOf_26 rfl (by decide) ?_
    refine fW_iload_n 30 dX11_leftOf_29 rfl rfl ?_
    refine fW_iadd 31 dX11_leftOf_30 rfl ?_
    obtain ⟨c3, h⟩ := fS h
    refine fW_iald 32 hg tc_419 ⟨c3.1, by rw [show Ln 419 = 7787 from rfl]; exact c3.2⟩ dX11_leftOf_31 rfl ?_
    refine fW_iadd 33 dX11_leftOf_32 rfl ?_
    obtain ⟨c4, h⟩ := fS h
    refine fW_iald 34 hg tc_419 ⟨c4.1, by rw [show Ln 419 = 7787 from rfl]; exact c4.2⟩ dX11_leftOf_33 rfl ?_
    refine fW_aload_n 35 dX11_leftOf_34 rfl rfl ?_
    refine fW_getR 38 (r := 419) 0 hg clX11 (by decide) rfl tc_418 tf_11_0 wd_1174 dX11_leftOf_35 rfl ?_
    refine fW_sipush 41 dX11_leftOf_38 rfl (by decide) ?_
    refine fW_iload_n 42 dX11_leftOf_41 rfl rfl ?_
    refine fW_iadd 43 dX11_leftOf_42 rfl ?_
    obtain ⟨c5, h⟩ := fS h
    refine fW_iald 44 hg tc_419 ⟨c5.1, by rw [show Ln 419 = 7787 from rfl]; exact c5.2⟩ dX11_leftOf_43 rfl ?_
    refine fW_isub 45 dX11_leftOf_44 rfl ?_
    refine fW_aload_n 46 dX11_leftOf_45 rfl rfl ?_
    refine fW_getR 49 (r := 419) 0 hg clX11 (by decide) rfl tc_418 tf_11_0 wd_1174 dX11_leftOf_46 rfl ?_
    refine fW_sipush 52 dX11_leftOf_49 rfl (by decide) ?_
    refine fW_aload_n 53 dX11_leftOf_52 rfl rfl ?_
    refine fW_getR 56 (r := 419) 0 hg clX11 (by decide) rfl tc_418 tf_11_0 wd_1174 dX11_leftOf_53 rfl ?_
    refine fW_sipush 59 dX11_leftOf_56 rfl (by decide) ?_
    refine fW_iload_n 60 dX11_leftOf_59 rfl rfl ?_
    refine fW_iadd 61 dX11_leftOf_60 rfl ?_
    obtain ⟨c6, h⟩ := fS h
    refine fW_iald 62 hg tc_419 ⟨c6.1, by rw [show Ln 419 = 7787 from rfl]; exact c6.2⟩ dX11_leftOf_61 rfl ?_
    refine fW_iadd 63 dX11_leftOf_62 rfl ?_
    obtain ⟨c7, h⟩ := fS h
    refine fW_iald 64 hg tc_419 ⟨c7.1, by rw [show Ln 419 = 7787 from rfl]; exact c7.2⟩ dX11_leftOf_63 rfl ?_
    refine fW_iadd 65 dX11_leftOf_64 rfl ?_
    refine fW_aload_n 66 dX11_leftOf_65 rfl rfl ?_
    refine fW_getR 69 (r := 419) 0 hg clX11 (by decide) rfl tc_418 tf_11_0 wd_1174 dX11_leftOf_66 rfl ?_
    refine fW_sipush 72 dX11_leftOf_69 rfl (by decide) ?_
    refine fW_iload_n 73 dX11_leftOf_72 rfl rfl ?_
    refine fW_iadd 74 dX11_leftOf_73 rfl ?_
    obtain ⟨c8, h⟩ := fS h
    refine fW_iald 75 hg tc_419 ⟨c8.1, by rw [show Ln 419 = 7787 from rfl]; exact c8.2⟩ dX11_leftOf_74 rfl ?_
    refine fW_isub 76 dX11_leftOf_75 rfl ?_
    obtain ⟨c9, h⟩ := fS h
    exact fW_iret rfl (by decide) (by decide) dX11_leftOf_76 (rP_i h c9)
  · replace h := fTt h c2
    refine fW_iconst 14 dX11_leftOf_13 rfl ?_
    exact fW_iret rfl (by decide) (by decide) dX11_leftOf_14 (rP_i h (by decide))
end MTH
