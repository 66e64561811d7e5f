section MTH
def mX10_needShut : fMt := (yX10_needShut, cX10_needShut, 3, none, { frames := 8, cells := 3, slots := 18, locals := 320 })
theorem miX10_needShut : fMv mX10_needShut 2 := ⟨⟨fM 880 (by decide +kernel) rfl, fM 89 (by decide +kernel) rfl, ⟨by decide +kernel, by decide +kernel⟩, by decide +kernel⟩, fM 879 (by decide +kernel) rfl, fM 21 (by decide +kernel) rfl⟩
def f_X10_needShut (a1 : Int) (a2 : Int) (M : fMem) : Option (Int) := ((f_X10_needRow a1 a2 M).bind fun (r1 : Int) => (if r1 = 0 then ((f_X10_at a1 a2 M).bind fun (r2 : Int) => (if 0 ≤ r2 ∧ r2 < 19 then ((f_X6_isShut (3 * r2.toNat + 5) M).bind fun (r5 : Int) => (if r5 = 0 then some (1 : Int) else some (0 : Int))) else none)) else some r1))
set_option maxRecDepth 100000 in
set_option maxHeartbeats 4000000 in
theorem s_X10_needShut {G : fG} (hg : gbt G = true) {a1 : Int} (ga1 : rg a1) {a2 : Int} (ga2 : rg a2) {M : fMem} {q : Int} (h : f_X10_needShut a1 a2 M = some q) : fSp G mX10_needShut [rv G 0, iv a1, iv a2] M (rU M q) (xT q M) := by
  refine fSp_of (by decide +kernel) (by decide +kernel) (fC1 rfl (fC1 rfl (fC1 rfl fC0))) (Nat.le_of_ble_eq_true rfl) ?_
  show fW G mX10_needShut (fEm G mX10_needShut (rU M q) (xT q M)) 0 0 0 [some (rv G 0), some (iv a1), some (iv a2)] [] M
  rw [f_X10_needShut] at h
  refine fW_rg (fun hR => ?_)
  refine fW_iload_n 1 dX10_needShut_0 rfl rfl ?_
  refine fW_iload_n 2 dX10_needShut_1 rfl rfl ?_
  obtain ⟨r1, e1, h⟩ := fBd h
  refine fW_cU 2 12 (by decide +kernel) (fI_S (as := [iv a1, iv a2]) (rest := []) miX10_needRow rfl wd_881 (fRoom_of rfl) rfl (Nat.le_of_ble_eq_true rfl) dX10_needShut_2) (s_X10_needRow hg ga1 ga2 e1) rfl rfl rfl (by decide) (by decide) (fun cx => xU_U cx (fFf h cx)) (fun cx => ?_)
  replace h := fTt h cx
  refine fW_aload_n 6 dX10_needShut_5 rfl rfl ?_
  refine fW_getR 9 (r := 1) 0 hg clX10 (by decide) rfl tc_0 tf_10_0 wd_417 dX10_needShut_6 rfl ?_
  refine fW_getR 12 (r := 2) 0 hg clX0 (by decide) rfl tc_1 (tf_0_0 tc_1) wd_248 dX10_needShut_9 rfl ?_
  refine fW_getR 15 (r := 3) 0 hg clX7 (by decide) rfl (tt_0_0 tc_1) (tf_7_0 (tt_0_0 tc_1)) wd_185 dX10_needShut_12 rfl ?_
  refine fW_iload_n 16 dX10_needShut_15 rfl rfl ?_
  refine fW_iload_n 17 dX10_needShut_16 rfl rfl ?_
  obtain ⟨r2, e2, h⟩ := fBd h
  refine fW_cP (fI_S (as := [iv a1, iv a2]) (rest := [rv G 3]) miX10_at rfl wd_661 (fRoom_of rfl) rfl (Nat.le_of_ble_eq_true rfl) dX10_needShut_17) (s_X10_at hg ga1 ga2 e2) rfl rfl rfl (fun g2 => ?_)
  obtain ⟨c3, h⟩ := fS h
  have t4 := ta_16 (r := 3 * r2.toNat + 5) (tt_7_0 (tt_0_0 tc_1)) c3 (by omega)
  refine fW_aald 21 4 hg (tt_7_0 (tt_0_0 tc_1)) (by decide) (by decide) t4.1 t4.2.2 rfl dX10_needShut_20 rfl ?_
  obtain ⟨r5, e5, h⟩ := fBd h
  refine fW_cB (fI_V (as := []) (rest := []) miX6_isShut hg clX6 rfl t4.2.1 wd_890 (fRoom_of rfl) rfl (Nat.le_of_ble_eq_true rfl) dX10_needShut_21) (s_X6_isShut hg t4.2.1 e5) rfl rfl rfl (fun g5 => ?_)
  refine fW_if_ne 27 38 (rg_z g5) dX10_needShut_24 rfl rfl (fun c6 => ?_) (fun c6 => ?_)
  · replace h := fFf h c6
    exact fW_vret rfl (by decide) (by decide) dX10_needShut_38 (rU_i h)
  · replace h := fTt h c6
    exact fW_throwW hg rfl th1 (text := _) (fStr_409) dX10_needShut_27 dX10_needShut_30 dX10_needShut_31 dX10_needShut_34 dX10_needShut_37 (by decide) (Nat.le_of_ble_eq_true rfl) (by decide) (by decide) (xU_1 h)
def mX10_falls : fMt := (yX10_falls, cX10_falls, 4, some .int, { frames := 9, cells := 4, slots := 24, locals := 360 })
theorem miX10_falls : fMv mX10_falls 3 := ⟨⟨fM 876 (by decide +kernel) rfl, fM 89 (by decide +kernel) rfl, ⟨by decide +kernel, by decide +kernel⟩, by decide +kernel⟩, fM 874 (by decide +kernel) rfl, fM 875 (by decide +kernel) rfl⟩
def f_X10_falls (a1 : Int) (a2 : Int) (a3 : Int) (M : fMem) : Option (Int × Int × fMem) := ((f_X10_needKey a1 M).bind fun (r1 : Int) => (if r1 = 0 then ((f_X10_needShut a2 a3 M).bind fun (r2 : Int) => (if r2 = 0 then ((f_X10_refresh M).bind fun (r3 : fMem) => ((f_X5_followAll 2 a1 r3).bind fun (r5 : fMem) => ((f_X10_at a2 a3 r5).bind fun (r7 : Int) => (if 0 ≤ r7 ∧ r7 < 19 then some (0, r5 230 r7, r5) else none)))) else some (r2, 0, M))) else some (r1, 0, M)))
set_option maxRecDepth 100000 in
set_option maxHeartbeats 4000000 in
theorem s_X10_falls {G : fG} (hg : gbt G = true) {a1 : Int} (ga1 : rg a1) {a2 : Int} (ga2 : rg a2) {a3 : Int} (ga3 : rg a3) {M : fMem} {q : Int × Int × fMem} (h : f_X10_falls a1 a2 a3 M = some q) : fSp G mX10_falls [rv G 0, iv a1, iv a2, iv a3] M (rT q) (xT q.1 q.2.2) := by
  refine fSp_of (by decide +kernel) (by decide +kernel) (fC1 rfl (fC1 rfl (fC1 rfl (fC1 rfl fC0)))) (Nat.le_of_ble_eq_true rfl) ?_
  show fW G mX10_falls (fEm G mX10_falls (rT q) (xT q.1 q.2.2)) 0 0 0 [some (rv G 0), some (iv a1), some (iv a2), some (iv a3)] [] M
  rw [f_X10_falls] at h
  refine fW_rg (fun hR => ?_)
  refine fW_iload_n 1 dX10_falls_0 rfl rfl ?_
  obtain ⟨r1, e1, h⟩ := fBd h
  refine fW_cU 1 6 (by decide +kernel) (fI_S (as := [iv a1]) (rest := []) miX10_needKey rfl wd_708 (fRoom_of rfl) rfl (Nat.le_of_ble_eq_true rfl) dX10_falls_1) (s_X10_needKey hg ga1 e1) rfl rfl rfl (by decide) (by decide) (fun cx => xU_T cx (fFf h cx)) (fun cx => ?_)
  replace h := fTt h cx
  refine fW_aload_n 5 dX10_falls_4 rfl rfl ?_
  refine fW_iload_n 6 dX10_falls_5 rfl rfl ?_
  refine fW_iload_n 7 dX10_falls_6 rfl rfl ?_
  obtain ⟨r2, e2, h⟩ := fBd h
  refine fW_cU 4 24 (by decide +kernel) (fI_V (as := [iv a2, iv a3]) (rest := []) miX10_needShut hg clX10 rfl tc_0 wd_877 (fRoom_of rfl) rfl (Nat.le_of_ble_eq_true rfl) dX10_falls_7) (s_X10_needShut hg ga2 ga3 e2) rfl rfl rfl (by decide) (by decide) (fun cx => xU_T cx (fFf h cx)) (fun cx => ?_)
  replace h := fTt h cx
  refine fW_aload_n 11 dX10_falls_10 rfl rfl ?_
  obtain ⟨r3, e3, h⟩ := fBd h
  refine fW_cV (fI_V (as := []) (rest := []) miX10_refresh hg clX10 rfl tc_0 wd_778 (fRoom_of rfl) rfl (Nat.le_of_ble_eq_true rfl) dX10_falls_11) (s_X10_refresh hg e3) rfl rfl rfl ?_
  refine fW_rg (fun hR4 => ?_)
  refine fW_aload_n 15 dX10_falls_14 rfl rfl ?_
  refine fW_getR 18 (r := 227) 7 hg clX10 (by decide) rfl tc_0 tf_10_7 wd_424 dX10_falls_15 rfl ?_
  refine fW_aload_n 19 dX10_falls_18 rfl rfl ?_
  refine fW_getR 22 (r := 1) 0 hg clX10 (by decide) rfl tc_0 tf_10_0 wd_417 dX10_falls_19 rfl ?_
  refine fW_getR 25 (r := 2) 0 hg clX0 (by decide) rfl tc_1 (tf_0_0 tc_1) wd_248 dX10_falls_22 rfl ?_
  refine fW_aload_n 26 dX10_falls_25 rfl rfl ?_
  refine fW_getR 29 (r := 149) 6 hg clX10 (by decide) rfl tc_0 tf_10_6 wd_423 dX10_falls_26 rfl ?_
  refine fW_iload_n 30 dX10_falls_29 rfl rfl ?_
  obtain ⟨r5, e5, h⟩ := fBd h
  refine fW_cV (fI_V (as := [rv G 2, rv G 149, iv a1]) (rest := []) miX5_followAll hg clX5 rfl tc_227 wd_892 (fRoom_of rfl) rfl (Nat.le_of_ble_eq_true rfl) dX10_falls_30) (s_X5_followAll hg (tt_0_0 tc_1) ga1 e5) rfl rfl rfl ?_
  refine fW_rg (fun hR6 => ?_)
  refine fW_aload_n 34 dX10_falls_33 rfl rfl ?_
  refine fW_getR 37 (r := 227) 7 hg clX10 (by decide) rfl tc_0 tf_10_7 wd_424 dX10_falls_34 rfl ?_
  refine fW_getR 40 (r := 230) 2 hg clX5 (by decide) rfl tc_227 tf_5_2 wd_378 dX10_falls_37 rfl ?_
  refine fW_iload_n 41 dX10_falls_40 rfl rfl ?_
  refine fW_iload_n 42 dX10_falls_41 rfl rfl ?_
  obtain ⟨r7, e7, h⟩ := fBd h
  refine fW_cP (fI_S (as := [iv a2, iv a3]) (rest := [rv G 230]) miX10_at rfl wd_661 (fRoom_of rfl) rfl (Nat.le_of_ble_eq_true rfl) dX10_falls_42) (s_X10_at hg ga2 ga3 e7) rfl rfl rfl (fun g7 => ?_)
  obtain ⟨c8, h⟩ := fS h
  refine fW_iald 46 hg tc_230 ⟨c8.1, by rw [show Ln 230 = 19 from rfl]; exact c8.2⟩ dX10_falls_45 rfl ?_
  exact fW_iret rfl (by decide) (by decide) dX10_falls_46 (rT_i h (hR6 230 r7))
def mX10_bounds : fMt := (yX10_bounds, cX10_bounds, 6, some .int, { frames := 9, cells := 4, slots := 24, locals := 360 })
theorem miX10_bounds : fMv mX10_bounds 4 := ⟨⟨fM 902 (by decide +kernel) rfl, fM 89 (by decide +kernel) rfl, ⟨by decide +kernel, by decide +kernel⟩, by decide +kernel⟩, fM 900 (by decide +kernel) rfl, fM 901 (by decide +kernel) rfl⟩
def f_X10_bounds (a1 : Int) (a2 : Int) (a3 : Int) (a4 : Int) (M : fMem) : Option (Int × Int × fMem) := ((f_X10_needKey a1 M).bind fun (r1 : Int) => (if r1 = 0 then ((f_X10_needShut a2 a3 M).bind fun (r2 : Int) => (if r2 = 0 then ((f_X10_refresh M).bind fun (r3 : fMem) => ((f_X5_followAll 2 a1 r3).bind fun (r5 : fMem) => ((f_X10_at a2 a3 r5).bind fun (r7 : Int) => (if a4 = 0 then (if 0 ≤ r7 ∧ r7 < 19 then some (0, r5 228 r7, r5) else none) else (if 0 ≤ r7 ∧ r7 < 19 then some (0, r5 229 r7, r5) else none))))) else some (r2, 0, M))) else some (r1, 0, M)))
set_option maxRecDepth 100000 in
set_option maxHeartbeats 4000000 in
theorem s_X10_bounds {G : fG} (hg : gbt G = true) {a1 : Int} (ga1 : rg a1) {a2 : Int} (ga2 : rg a2) {a3 : Int} (ga3 : rg a3) {a4 : Int} (ga4 : 0 ≤ a4 ∧ a4 ≤ 1) {M : fMem} {q : Int × Int × fMem} (h : f_X10_bounds a1 a2 a3 a4 M = some q) : fSp G mX10_bounds [rv G 0, iv a1, iv a2, iv a3, iv a4] M (rT q) (xT q.1 q.2.2) := by
  refine fSp_of (by decide +kernel) (by decide +kernel) (fC1 rfl (fC1 rfl (fC1 rfl (fC1 rfl (fC1 rfl fC0))))) (Nat.le_of_ble_eq_true rfl) ?_
  show fW G mX10_bounds (fEm G mX10_bounds (rT q) (xT q.1 q.2.2)) 0 0 0 [some (rv G 0), some (iv a1), some (iv a2), some (iv a3), some (iv a4), none] [] M
  rw [f_X10_bounds] at h
  refine fW_rg (fun hR => ?_)
  refine fW_iload_n 1 dX10_bounds_0 rfl rfl ?_
  obtain ⟨r1, e1, h⟩ := fBd h
  refine fW_cU 1 6 (by decide +kernel) (fI_S (as := [iv a1]) (rest := []) miX10_needKey rfl wd_708 (fRoom_of rfl) rfl (Nat.le_of_ble_eq_true rfl) dX10_bounds_1) (s_X10_needKey hg ga1 e1) rfl rfl rfl (by decide) (by decide) (fun cx => xU_T cx (fFf h cx)) (fun cx => ?_)
  replace h := fTt h cx
  refine fW_aload_n 5 dX10_bounds_4 rfl rfl ?_
  refine fW_iload_n 6 dX10_bounds_5 rfl rfl ?_
  refine fW_iload_n 7 dX10_bounds_6 rfl rfl ?_
  obtain ⟨r2, e2, h⟩ := fBd h
  refine fW_cU 4 24 (by decide +kernel) (fI_V (as := [iv a2, iv a3]) (rest := []) miX10_needShut hg clX10 rfl tc_0 wd_877 (fRoom_of rfl) rfl (Nat.le_of_ble_eq_true rfl) dX10_bounds_7) (s_X10_needShut hg ga2 ga3 e2) rfl rfl rfl (by decide) (by decide) (fun cx => xU_T cx (fFf h cx)) (fun cx => ?_)
  replace h := fTt h cx
  refine fW_aload_n 11 dX10_bounds_10 rfl rfl ?_
  obtain ⟨r3, e3, h⟩ := fBd h
  refine fW_cV (fI_V (as := []) (rest := []) miX10_refresh hg clX10 rfl tc_0 wd_778 (fRoom_of rfl) rfl (Nat.le_of_ble_eq_true rfl) dX10_bounds_11) (s_X10_refresh hg e3) rfl rfl rfl ?_
  refine fW_rg (fun hR4 => ?_)
  refine fW_aload_n 15 dX10_bounds_14 rfl rfl ?_
  refine fW_getR 18 (r := 227) 7 hg clX10 (by decide) rfl tc_0 tf_10_7 wd_424 dX10_bounds_15 rfl ?_
  refine fW_aload_n 19 dX10_bounds_18 rfl rfl ?_
  refine fW_getR 22 (r := 1) 0 hg clX10 (by decide) rfl tc_0 tf_10_0 wd_417 dX10_bounds_19 rfl ?_
  refine fW_getR 25 (r := 2) 0 hg clX0 (by decide) rfl tc_1 (tf_0_0 tc_1) wd_248 dX10_bounds_22 rfl ?_
  refine fW_aload_n 26 dX10_bounds_25 rfl rfl ?_
  refine fW_getR 29 (r := 149) 6 hg clX10 (by decide) rfl tc_0 tf_10_6 wd_423 dX10_bounds_26 rfl ?_
  refine fW_iload_n 30 dX10_bounds_29 rfl rfl ?_
  obtain ⟨r5, e5, h⟩ := fBd h
  refine fW_cV (fI_V (as := [rv G 2, rv G 149, iv a1]) (rest := []) miX5_followAll hg clX5 rfl tc_227 wd_892 (fRoom_of rfl) rfl (Nat.le_of_ble_eq_true rfl) dX10_bounds_30) (s_X5_followAll hg (tt_0_0 tc_1) ga1 e5) rfl rfl rfl ?_
  refine fW_rg (fun hR6 => ?_)
  refine fW_iload_n 34 dX10_bounds_33 rfl rfl ?_
  refine fW_iload_n 35 dX10_bounds_34 rfl rfl ?_
  obtain ⟨r7, e7, h⟩ := fBd h
  refine fW_cP (fI_S (as := [iv a2, iv a3]) (rest := []) miX10_at rfl wd_661 (fRoom_of rfl) rfl (Nat.le_of_ble_eq_true rfl) dX10_bounds_35) (s_X10_at hg ga2 ga3 e7) rfl rfl rfl (fun g7 => ?_)
  refine fW_istore 40 (ls' := [some (rv G 0), some (iv a1), some (iv a2), some (iv a3), some (iv a4), some (iv r7)]) dX10_bounds_38 rfl rfl (by decide) ?_
  refine fW_iload 42 dX10_bounds_40 rfl rfl ?_
  refine fW_if_eq 45 58 (rg_z ga4) dX10_bounds_42 rfl rfl (fun c8 => ?_) (fun c8 => ?_)
  · replace h := fTt h c8
    refine fW_aload_n 59 dX10_bounds_58 rfl rfl ?_
    refine fW_getR 62 (r := 227) 7 hg clX10 (by decide) rfl tc_0 tf_10_7 wd_424 dX10_bounds_59 rfl ?_
    refine fW_getR 65 (r := 228) 0 hg clX5 (by decide) rfl tc_227 tf_5_0 wd_374 dX10_bounds_62 rfl ?_
    refine fW_iload 67 dX10_bounds_65 rfl rfl ?_
    obtain ⟨c9, h⟩ := fS h
    refine fW_iald 68 hg tc_228 ⟨c9.1, by rw [show Ln 228 = 19 from rfl]; exact c9.2⟩ dX10_bounds_67 rfl ?_
    exact fW_iret rfl (by decide) (by decide) dX10_bounds_68 (rT_i h (hR6 228 r7))
  · replace h := fFf h c8
    refine fW_aload_n 46 dX10_bounds_45 rfl rfl ?_
    refine fW_getR 49 (r := 227) 7 hg clX10 (by decide) rfl tc_0 tf_10_7 wd_424 dX10_bounds_46 rfl ?_
    refine fW_getR 52 (r := 229) 1 hg clX5 (by decide) rfl tc_227 tf_5_1 wd_376 dX10_bounds_49 rfl ?_
    refine fW_iload 54 dX10_bounds_52 rfl rfl ?_
    obtain ⟨c10, h⟩ := fS h
    refine fW_iald 55 hg tc_229 ⟨c10.1, by rw [show Ln 229 = 19 from rfl]; exact c10.2⟩ dX10_bounds_54 rfl ?_
    refine fW_goto 68 dX10_bounds_55 rfl ?_
    exact fW_iret rfl (by decide) (by decide) dX10_bounds_68 (rT_i h (hR6 229 r7))
def mX10_needWhat : fMt := (yX10_needWhat, cX10_needWhat, 2, none, { frames := 6, cells := 1, slots := 6, locals := 240 })
theorem miX10_needWhat : fMs mX10_needWhat 2 := ⟨⟨fM 912 (by decide +kernel) rfl, fM 89 (by decide +kernel) rfl, ⟨by decide +kernel, by decide +kernel⟩, by decide +kernel⟩, fM 911 (by decide +kernel) rfl⟩
def f_X10_needWhat (a1 : Int) (a2 : Int) (M : fMem) : Option (Int) := (if a1 < 0 then some (1 : Int) else (if a1 < a2 then some (0 : Int) else some (1 : Int)))
set_option maxRecDepth 100000 in
set_option maxHeartbeats 4000000 in
theorem s_X10_needWhat {G : fG} (hg : gbt G = true) {a1 : Int} (ga1 : rg a1) {a2 : Int} (ga2 : rg a2) {M : fMem} {q : Int} (h : f_X10_needWhat a1 a2 M = some q) : fSp G mX10_needWhat [iv a1, iv a2] M (rU M q) (xT q M) := by
  refine fSp_of (by decide +kernel) (by decide +kernel) (fC1 rfl (fC1 rfl fC0)) (Nat.le_of_ble_eq_true rfl) ?_
  show fW G mX10_needWhat (fEm G mX10_needWhat (rU M q) (xT q M)) 0 0 0 [some (iv a1), some (iv a2)] [] M
  rw [f_X10_needWhat] at h
  refine fW_rg (fun hR => ?_)
  refine fW_iload_n 1 dX10_needWhat_0 rfl rfl ?_
  refine fW_if_lt 4 9 ga1 dX10_needWhat_1 rfl rfl (fun c1 => ?_) (fun c1 => ?_)
  · replace h := fTt h c1
    exact fW_throwW hg rfl th1 (text := _) (fStr_423) dX10_needWhat_9 dX10_needWhat_12 dX10_needWhat_13 dX10_needWhat_16 dX10_needWhat_19 (by decide) (Nat.le_of_ble_eq_true rfl) (by decide) (by decide) (xU_1 h)
  · replace h := fFf h c1
    refine fW_iload_n 5 dX10_needWhat_4 rfl rfl ?_
    refine fW_iload_n 6 dX10_needWhat_5 rfl rfl ?_
    refine fW_icmp_lt 9 20 ga1 ga2 dX10_needWhat_6 rfl rfl (fun c2 => ?_) (fun c2 => ?_)
    · replace h := fTt h c2
      exact fW_vret rfl (by decide) (by decide) dX10_needWhat_20 (rU_i h)
    · replace h := fFf h c2
      exact fW_throwW hg rfl th1 (text := _) (fStr_423) dX10_needWhat_9 dX10_needWhat_12 dX10_needWhat_13 dX10_needWhat_16 dX10_needWhat_19 (by decide) (Nat.le_of_ble_eq_true rfl) (by decide) (by decide) (xU_1 h)
def mX10_route : fMt := (yX10_route, cX10_route, 5, some .int, { frames := 7, cells := 3, slots := 18, locals := 280 })
theorem miX10_route : fMv mX10_route 3 := ⟨⟨fM 909 (by decide +kernel) rfl, fM 89 (by decide +kernel) rfl, ⟨by decide +kernel, by decide +kernel⟩, by decide +kernel⟩, fM 907 (by decide +kernel) rfl, fM 908 (by decide +kernel) rfl⟩
def f_X10_route (a1 : Int) (a2 : Int) (a3 : Int) (M : fMem) : Option (Int × Int × fMem) := ((f_X10_needKey a1 M).bind fun (r1 : Int) => (if r1 = 0 then ((f_X10_needWhat a3 6 M).bind fun (r2 : Int) => (if r2 = 0 then ((f_X10_refresh M).bind fun (r3 : fMem) => ((f_X5_follow 2 a1 r3).bind fun (r5 : fMem) => (if a2 = ((-1)) then some (0, r5 227 4, r5) else (if a2 < 0 then some (1, 0, r5) else (if a2 < (r5 227 4) then (if 0 ≤ a2 ∧ a2 < 19 then (if a3 = 0 then (if 0 ≤ r5 4 a2 ∧ r5 4 a2 < 19 then some (0, LO (r5 4 a2), r5) else none) else (if a3 = 1 then ((f_X10_numberOf (r5 4 a2) r5).bind fun (r14 : Int) => some (0, r14, r5)) else (if a3 = 2 then (if 0 ≤ r5 4 a2 ∧ r5 4 a2 < 19 then some (0, r5 228 (r5 4 a2), r5) else none) else (if a3 = 3 then (if 0 ≤ r5 4 a2 ∧ r5 4 a2 < 19 then some (0, r5 229 (r5 4 a2), r5) else none) else (if a3 = 4 then (if 0 ≤ r5 4 a2 ∧ r5 4 a2 < 19 then some (0, r5 230 (r5 4 a2), r5) else none) else (if 0 ≤ r5 4 a2 ∧ r5 4 a2 < 19 then some (0, r5 231 (r5 4 a2), r5) else none)))))) else none) else some (1, 0, r5)))))) else some (r2, 0, M))) else some (r1, 0, M)))
set_option maxRecDepth 100000 in
set_option maxHeartbeats 4000000 in
theorem s_X10_route {G : fG} (hg : gbt G = true) {a1 : Int} (ga1 : rg a1) {a2 : Int} (ga2 : rg a2) {a3 : Int} (ga3 : rg a3) {M : fMem} {q : Int × Int × fMem} (h : f_X10_route a1 a2 a3 M = some q) : fSp G mX10_route [rv G 0, iv a1, iv a2, iv a3] M (rT q) (xT q.1 q.2.2) := by
  refine fSp_of (by decide +kernel) (by decide +kernel) (fC1 rfl (fC1 rfl (fC1 rfl (fC1 rfl fC0)))) (Nat.le_of_ble_eq_true rfl) ?_
  show fW G mX10_route (fEm G mX10_route (rT q) (xT q.1 q.2.2)) 0 0 0 [some (rv G 0), some (iv a1), some (iv a2), some (iv a3), none] [] M
  rw [f_X10_route] at h
  refine fW_rg (fun hR => ?_)
  refine fW_iload_n 1 dX10_route_0 rfl rfl ?_
  obtain ⟨r1, e1, h⟩ := fBd h
  refine fW_cU 1 6 (by decide +kernel) (fI_S (as := [iv a1]) (rest := []) miX10_needKey rfl wd_708 (fRoom_of rfl) rfl (Nat.le_of_ble_eq_true rfl) dX10_route_1) (s_X10_needKey hg ga1 e1) rfl rfl rfl (by decide) (by decide) (fun cx => xU_T cx (fFf h cx)) (fun cx => ?_)
  replace h := fTt h cx
  refine fW_iload_n 5 dX10_route_4 rfl rfl ?_
  refine fW_bipush 7 dX10_route_5 rfl (by decide) ?_
  obtain ⟨r2, e2, h⟩ := fBd h
  refine fW_cU 2 12 (by decide +kernel) (fI_S (as := [iv a3, iv 6]) (rest := []) miX10_needWhat rfl wd_910 (fRoom_of rfl) rfl (Nat.le_of_ble_eq_true rfl) dX10_route_7) (s_X10_needWhat hg ga3 (by decide) e2) rfl rfl rfl (by decide) (by decide) (fun cx => xU_T cx (fFf h cx)) (fun cx => ?_)
  replace h := fTt h cx
  refine fW_aload_n 11 dX10_route_10 rfl rfl ?_
  obtain ⟨r3, e3, h⟩ := fBd h
  refine fW_cV (fI_V (as := []) (rest := []) miX10_refresh hg clX10 rfl tc_0 wd_778 (fRoom_of rfl) rfl (Nat.le_of_ble_eq_true rfl) dX10_route_11) (s_X10_refresh hg e3) rfl rfl rfl ?_
  refine fW_rg (fun hR4 => ?_)
  refine fW_aload_n 15 dX10_route_14 rfl rfl ?_
  refine fW_getR 18 (r := 227) 7 hg clX10 (by decide) rfl tc_0 tf_10_7 wd_424 dX10_route_15 rfl ?_
  refine fW_aload_n 19 dX10_route_18 rfl rfl ?_
  refine fW_getR 22 (r := 1) 0 hg clX10 (by decide) rfl tc_0 tf_10_0 wd_417 dX10_route_19 rfl ?_
  refine fW_getR 25 (r := 2) 0 hg clX0 (by decide) rfl tc_1 (tf_0_0 tc_1) wd_248 dX10_route_22 rfl ?_
  refine fW_aload_n 26 dX10_route_25 rfl rfl ?_
  refine fW_getR 29 (r := 149) 6 hg clX10 (by decide) rfl tc_0 tf_10_6 wd_423 dX10_route_26 rfl ?_
  refine fW_iload_n 30 dX10_route_29 rfl rfl ?_
  obtain ⟨r5, e5, h⟩ := fBd h
  refine fW_cV (fI_V (as := [rv G 2, rv G 149, iv a1]) (rest := []) miX5_follow hg clX5 rfl tc_227 wd_841 (fRoom_of rfl) rfl (Nat.le_of_ble_eq_true rfl) dX10_route_30) (s_X5_follow hg (tt_0_0 tc_1) ga1 e5) rfl rfl rfl ?_
  refine fW_rg (fun hR6 => ?_)
  refine fW_iload_n 34 dX10_route_33 rfl rfl ?_
  refine fW_iconst 35 dX10_route_34 rfl ?_
  refine fW_icmp_ne 38 46 ga2 (by decide) dX10_route_35 rfl rfl (fun c7 => ?_) (fun c7 => ?_)
  · replace h := fFf h c7
    refine fW_iload_n 47 dX10_route_46 rfl rfl ?_
    refine fW_if_lt 50 61 ga2 dX10_route_47 rfl rfl (fun c8 => ?_) (fun c8 => ?_)
    · replace h := fTt h c8
      exact fW_throw hg rfl th1 (text := _) (fStr_157) dX10_route_61 dX10_route_64 dX10_route_65 dX10_route_67 dX10_route_70 (by decide) (Nat.le_of_ble_eq_true rfl) (by decide) (by decide) (xT_1 h)
    · replace h := fFf h c8
      refine fW_iload_n 51 dX10_route_50 rfl rfl ?_
      refine fW_aload_n 52 dX10_route_51 rfl rfl ?_
      refine fW_getR 55 (r := 227) 7 hg clX10 (by decide) rfl tc_0 tf_10_7 wd_424 dX10_route_52 rfl ?_
      refine fW_getI 58 4 (ji := 4) hg clX5 rfl (by decide) rfl tc_227 wd_382 dX10_route_55 rfl ?_
      refine fW_icmp_lt 61 71 ga2 (hR6 227 4) dX10_route_58 rfl rfl (fun c9 => ?_) (fun c9 => ?_)
      · replace h := fTt h c9
        refine fW_aload_n 72 dX10_route_71 rfl rfl ?_
        refine fW_getR 75 (r := 1) 0 hg clX10 (by decide) rfl tc_0 tf_10_0 wd_417 dX10_route_72 rfl ?_
        refine fW_getR 78 (r := 2) 0 hg clX0 (by decide) rfl tc_1 (tf_0_0 tc_1) wd_248 dX10_route_75 rfl ?_
        refine fW_getR 81 (r := 4) 1 hg clX7 (by decide) rfl (tt_0_0 tc_1) (tf_7_1 (tt_0_0 tc_1)) wd_189 dX10_route_78 rfl ?_
        refine fW_iload_n 82 dX10_route_81 rfl rfl ?_
        obtain ⟨c10, h⟩ := fS h
        refine fW_iald 83 hg (tt_7_1 (tt_0_0 tc_1)) ⟨c10.1, by rw [lf_7_1 (tt_0_0 tc_1)]; exact c10.2⟩ dX10_route_82 rfl ?_
        refine fW_istore 85 (ls' := [some (rv G 0), some (iv a1), some (iv a2), some (iv a3), some (iv (r5 4 a2))]) dX10_route_83 rfl rfl (by decide) ?_
        refine fW_iload_n 86 dX10_route_85 rfl rfl ?_
        have gs := ga3
        by_cases c11 : a3 = 0
        · replace h := fTt h c11
          refine fW_tabIn 120 c11 (by decide) dX10_route_86 (by decide) (by decide) rfl rfl ?_
          refine fW_gets 123 2 (by decide) wd_821 dX10_route_120 rfl ?_
          refine fW_iload 125 dX10_route_123 rfl rfl ?_
          obtain ⟨c12, h⟩ := fS h
          refine fW_sald 126 2 (by decide) c12 dX10_route_125 rfl ?_
          rw [show SV 2 (r5 4 a2) = LO (r5 4 a2) from rfl]
          exact fW_iret rfl (by decide) (by decide) dX10_route_126 (rT_i h (rg_LO c12))
        replace h := fFf h c11
        by_cases c13 : a3 = 1
        · replace h := fTt h c13
          refine fW_tabIn 127 c13 (by decide) dX10_route_86 (by decide) (by decide) rfl rfl ?_
          refine fW_iload 129 dX10_route_127 rfl rfl ?_
          obtain ⟨r14, e14, h⟩ := fBd h
          refine fW_cP (fI_S (as := [iv (r5 4 a2)]) (rest := []) miX10_numberOf rfl wd_915 (fRoom_of rfl) rfl (Nat.le_of_ble_eq_true rfl) dX10_route_129) (s_X10_numberOf hg (hR6 4 a2) e14) rfl rfl rfl (fun g14 => ?_)
          exact fW_iret rfl (by decide) (by decide) dX10_route_132 (rT_i h g14)
        replace h := fFf h c13
        by_cases c15 : a3 = 2
        · replace h := fTt h c15
          refine fW_tabIn 133 c15 (by decide) dX10_route_86 (by decide) (by decide) rfl rfl ?_
          refine fW_aload_n 134 dX10_route_133 rfl rfl ?_
          refine fW_getR 137 (r := 227) 7 hg clX10 (by decide) rfl tc_0 tf_10_7 wd_424 dX10_route_134 rfl ?_
          refine fW_getR 140 (r := 228) 0 hg clX5 (by decide) rfl tc_227 tf_5_0 wd_374 dX10_route_137 rfl ?_
          refine fW_iload 142 dX10_route_140 rfl rfl ?_
          obtain ⟨c16, h⟩ := fS h
          refine fW_iald 143 hg tc_228 ⟨c16.1, by rw [show Ln 228 = 19 from rfl]; exact c16.2⟩ dX10_route_142 rfl ?_
          exact fW_iret rfl (by decide) (by decide) dX10_route_143 (rT_i h (hR6 228 (r5 4 a2)))
        replace h := fFf h c15
        by_cases c17 : a3 = 3
        · replace h := fTt h c17
          refine fW_tabIn 144 c17 (by decide) dX10_route_86 (by decide) (by decide) rfl rfl ?_
          refine fW_aload_n 145 dX10_route_144 rfl rfl ?_
          refine fW_getR 148 (r := 227) 7 hg clX10 (by decide) rfl tc_0 tf_10_7 wd_424 dX10_route_145 rfl ?_
          refine fW_getR 151 (r := 229) 1 hg clX5 (by decide) rfl tc_227 tf_5_1 wd_376 dX10_route_148 rfl ?_
          refine fW_iload 153 dX10_route_151 rfl rfl ?_
          obtain ⟨c18, h⟩ := fS h
          refine fW_iald 154 hg tc_229 ⟨c18.1, by rw [show Ln 229 = 19 from rfl]; exact c18.2⟩ dX10_route_153 rfl ?_
          exact fW_iret rfl (by decide) (by decide) dX10_route_154 (rT_i h (hR6 229 (r5 4 a2)))
        replace h := fFf h c17
        by_cases c19 : a3 = 4
        · replace h := fTt h c19
          refine fW_tabIn 155 c19 (by decide) dX10_route_86 (by decide) (by decide) rfl rfl ?_
          refine fW_aload_n 156 dX10_route_155 rfl rfl ?_
          refine fW_getR 159 (r := 227) 7 hg clX10 (by decide) rfl tc_0 tf_10_7 wd_424 dX10_route_156 rfl ?_
          refine fW_getR 162 (r := 230) 2 hg clX5 (by decide) rfl tc_227 tf_5_2 wd_378 dX10_route_159 rfl ?_
          refine fW_iload 164 dX10_route_162 rfl rfl ?_
          obtain ⟨c20, h⟩ := fS h
          refine fW_iald 165 hg tc_230 ⟨c20.1, by rw [show Ln 230 = 19 from rfl]; exact c20.2⟩ dX10_route_164 rfl ?_
          exact fW_iret rfl (by decide) (by decide) dX10_route_165 (rT_i h (hR6 230 (r5 4 a2)))
        replace h := fFf h c19
        refine fW_tabOut 166 gs dX10_route_86 (by omega) rfl ?_
        refine fW_aload_n 167 dX10_route_166 rfl rfl ?_
        refine fW_getR 170 (r := 227) 7 hg clX10 (by decide) rfl tc_0 tf_10_7 wd_424 dX10_route_167 rfl ?_
        refine fW_getR 173 (r := 231) 3 hg clX5 (by decide) rfl tc_227 tf_5_3 wd_380 dX10_route_170 rfl ?_
        refine fW_iload 175 dX10_route_173 rfl rfl ?_
        obtain ⟨c21, h⟩ := fS h
        refine fW_iald 176 hg tc_231 ⟨c21.1, by rw [show Ln 231 = 19 from rfl]; exact c21.2⟩ dX10_route_175 rfl ?_
        exact fW_iret rfl (by decide) (by decide) dX10_route_176 (rT_i h (hR6 231 (r5 4 a2)))
      · replace h := fFf h c9
        exact fW_throw hg rfl th1 (text := _) (fStr_157) dX10_route_61 dX10_route_64 dX10_route_65 dX10_route_67 dX10_route_70 (by decide) (Nat.le_of_ble_eq_true rfl) (by decide) (by decide) (xT_1 h)
  · replace h := fTt h c7
    refine fW_aload_n 39 dX10_route_38 rfl rfl ?_
    refine fW_getR 42 (r := 227) 7 hg clX10 (by decide) rfl tc_0 tf_10_7 wd_424 dX10_route_39 rfl ?_
    refine fW_getI 45 4 (ji := 4) hg clX5 rfl (by decide) rfl tc_227 wd_382 dX10_route_42 rfl ?_
    exact fW_iret rfl (by decide) (by decide) dX10_route_45 (rT_i h (hR6 227 4))
def mX10_next : fMt := (yX10_next, cX10_next, 3, some .int, { frames := 7, cells := 1, slots := 6, locals := 280 })
theorem miX10_next : fMv mX10_next 1 := ⟨⟨fM 922 (by decide +kernel) rfl, fM 89 (by decide +kernel) rfl, ⟨by decide +kernel, by decide +kernel⟩, by decide +kernel⟩, fM 920 (by decide +kernel) rfl, fM 921 (by decide +kernel) rfl⟩
def L_X10_next_27  (k : fMem → Option (Int × Int × fMem)) : Nat → Int → fMem → Option (Int × Int × fMem)
  | 0, _, _ => none
  | n + 1, v2, M => (if 200 ≤ v2 then k  M else ((f_X2_has 232 v2 M).bind fun (r6 : Int) => (if r6 = 0 then L_X10_next_27  k n (v2 + 1) M else some (0, v2, M))))
set_option maxRecDepth 100000 in
set_option maxHeartbeats 4000000 in
theorem l_X10_next_27 {G : fG} (hg : gbt G = true)  {q : Int × Int × fMem} {k : fMem → Option (Int × Int × fMem)} (hk : ∀ (M : fMem), k M = some q → fW G mX10_next (fEm G mX10_next (rT q) (xT q.1 q.2.2)) 1 6 53 [some (rv G 0), none, none] [] M) : ∀ (n : Nat) (v2 : Int) (M : fMem), rg v2 → L_X10_next_27 k n v2 M = some q → fW G mX10_next (fEm G mX10_next (rT q) (xT q.1 q.2.2)) 1 6 27 [some (rv G 0), none, some (iv v2)] [] M := by
  intro n
  induction n with
  | zero =>
    intro v2 M gv2 h
    rw [L_X10_next_27] at h
    exact absurd h (by simp)
  | succ n ih =>
    intro v2 M gv2 h
    rw [L_X10_next_27] at h
    refine fW_rg (fun hR => ?_)
    refine fW_iload_n 28 dX10_next_27 rfl rfl ?_
    refine fW_sipush 31 dX10_next_28 rfl (by decide) ?_
    refine fW_icmp_ge 34 53 gv2 (by decide) dX10_next_31 rfl rfl (fun c5 => ?_) (fun c5 => ?_)
    · replace h := fTt h c5
      exact fW_sb (hk M h) ⟨rfl, trivial⟩
    · replace h := fFf h c5
      refine fW_aload_n 35 dX10_next_34 rfl rfl ?_
      refine fW_getR 38 (r := 232) 8 hg clX10 (by decide) rfl tc_0 tf_10_8 wd_425 dX10_next_35 rfl ?_
      refine fW_iload_n 39 dX10_next_38 rfl rfl ?_
      obtain ⟨r6, e6, h⟩ := fBd h
      refine fW_cB (fI_V (as := [iv v2]) (rest := []) miX2_has hg clX2 rfl tc_232 wd_665 (fRoom_of rfl) rfl (Nat.le_of_ble_eq_true rfl) dX10_next_39) (s_X2_has hg tc_232 gv2 e6) rfl rfl rfl (fun g6 => ?_)
      refine fW_if_eq 45 47 (rg_z g6) dX10_next_42 rfl rfl (fun c7 => ?_) (fun c7 => ?_)
      · replace h := fTt h c7
        refine fW_iinc 50 (ls' := [some (rv G 0), none, some (iv (v2 + 1))]) dX10_next_47 rfl rfl rfl (by decide) ?_
        refine fW_goto 27 dX10_next_50 rfl ?_
        exact fW_sb (ih (v2 + 1) M (rg_succ' gv2 (by decide) c5) h) ⟨rfl, rfl, trivial⟩
      · replace h := fFf h c7
        refine fW_iload_n 46 dX10_next_45 rfl rfl ?_
        exact fW_iret rfl (by decide) (by decide) dX10_next_46 (rT_i h gv2)
def j_X10_next_9  (v1 : Int) (M : fMem) : Option (Int × Int × fMem) := ((f_X2_read 232 2 M).bind fun (r2 : fMem) => (if -2147483648 ≤ v1 + 1 ∧ v1 + 1 < 2147483648 then L_X10_next_27 (fun  (M_8 : fMem) => some (0, (-1), M_8)) 20000 (v1 + 1) r2 else none))
set_option maxRecDepth 100000 in
set_option maxHeartbeats 4000000 in
theorem i_X10_next_9 {G : fG} (hg : gbt G = true)  {v1 : Int} (gv1 : rg v1) {M : fMem} {q : Int × Int × fMem} (h : j_X10_next_9 v1 M = some q) : fW G mX10_next (fEm G mX10_next (rT q) (xT q.1 q.2.2)) 1 6 9 [some (rv G 0), some (iv v1), none] [] M := by
  rw [j_X10_next_9] at h
  refine fW_rg (fun hR => ?_)
  refine fW_aload_n 10 dX10_next_9 rfl rfl ?_
  refine fW_getR 13 (r := 232) 8 hg clX10 (by decide) rfl tc_0 tf_10_8 wd_425 dX10_next_10 rfl ?_
  refine fW_aload_n 14 dX10_next_13 rfl rfl ?_
  refine fW_getR 17 (r := 1) 0 hg clX10 (by decide) rfl tc_0 tf_10_0 wd_417 dX10_next_14 rfl ?_
  refine fW_getR 20 (r := 2) 0 hg clX0 (by decide) rfl tc_1 (tf_0_0 tc_1) wd_248 dX10_next_17 rfl ?_
  obtain ⟨r2, e2, h⟩ := fBd h
  refine fW_cV (fI_V (as := [rv G 2]) (rest := []) miX2_read hg clX2 rfl tc_232 wd_626 (fRoom_of rfl) rfl (Nat.le_of_ble_eq_true rfl) dX10_next_20) (s_X2_read hg tc_232 (tt_0_0 tc_1) e2) rfl rfl rfl ?_
  refine fW_rg (fun hR3 => ?_)
  refine fW_iload_n 24 dX10_next_23 rfl rfl ?_
  refine fW_iconst 25 dX10_next_24 rfl ?_
  refine fW_iadd 26 dX10_next_25 rfl ?_
  refine fW_istore_n 27 (ls' := [some (rv G 0), some (iv v1), some (iv (v1 + 1))]) dX10_next_26 rfl rfl rfl (by decide) ?_
  obtain ⟨c4, h⟩ := fS h
  refine fW_sb (l_X10_next_27 hg ?_ 20000 (v1 + 1) r2 c4 h) ⟨rfl, rfl, trivial⟩
  intro M_8 h
  refine fW_rg (fun hR_8 => ?_)
  refine fW_iconst 54 dX10_next_53 rfl ?_
  exact fW_iret rfl (by decide) (by decide) dX10_next_54 (rT_i h (by decide))
def f_X10_next (a1 : Int) (M : fMem) : Option (Int × Int × fMem) := (if a1 = ((-1)) then j_X10_next_9 a1 M else ((f_X10_needKey a1 M).bind fun (r9 : Int) => (if r9 = 0 then j_X10_next_9 a1 M else some (r9, 0, M))))
set_option maxRecDepth 100000 in
set_option maxHeartbeats 4000000 in
theorem s_X10_next {G : fG} (hg : gbt G = true) {a1 : Int} (ga1 : rg a1) {M : fMem} {q : Int × Int × fMem} (h : f_X10_next a1 M = some q) : fSp G mX10_next [rv G 0, iv a1] M (rT q) (xT q.1 q.2.2) := by
  refine fSp_of (by decide +kernel) (by decide +kernel) (fC1 rfl (fC1 rfl fC0)) (Nat.le_of_ble_eq_true rfl) ?_
  show fW G mX10_next (fEm G mX10_next (rT q) (xT q.1 q.2.2)) 0 0 0 [some (rv G 0), some (iv a1), none] [] M
  rw [f_X10_next] at h
  refine fW_rg (fun hR => ?_)
  refine fW_iload_n 1 dX10_next_0 rfl rfl ?_
  refine fW_iconst 2 dX10_next_1 rfl ?_
  refine fW_icmp_eq 5 9 ga1 (by decide) dX10_next_2 rfl rfl (fun c1 => ?_) (fun c1 => ?_)
  · replace h := fTt h c1
    refine fW_wide (c1 := 1) (s1 := 6) (by decide) (by decide) ?_
    exact fW_sb (i_X10_next_9 hg ga1 h) ⟨rfl, rfl, trivial⟩
  · replace h := fFf h c1
    refine fW_iload_n 6 dX10_next_5 rfl rfl ?_
    obtain ⟨r9, e9, h⟩ := fBd h
    refine fW_cU 1 6 (by decide +kernel) (fI_S (as := [iv a1]) (rest := []) miX10_needKey rfl wd_708 (fRoom_of rfl) rfl (Nat.le_of_ble_eq_true rfl) dX10_next_6) (s_X10_needKey hg ga1 e9) rfl rfl rfl (by decide) (by decide) (fun cx => xU_T cx (fFf h cx)) (fun cx => ?_)
    replace h := fTt h cx
    exact fW_sb (i_X10_next_9 hg ga1 h) ⟨rfl, rfl, trivial⟩
def mX10_nth : fMt := (yX10_nth, cX10_nth, 4, some .int, { frames := 6, cells := 1, slots := 6, locals := 240 })
theorem miX10_nth : fMv mX10_nth 1 := ⟨⟨fM 929 (by decide +kernel) rfl, fM 89 (by decide +kernel) rfl, ⟨by decide +kernel, by decide +kernel⟩, by decide +kernel⟩, fM 927 (by decide +kernel) rfl, fM 928 (by decide +kernel) rfl⟩
def L_X10_nth_18  (k : fMem → Option (Int × Int × fMem)) : Nat → Int → Int → fMem → Option (Int × Int × fMem)
  | 0, _, _, _ => none
  | n + 1, v2, v3, M => (if 200 ≤ v3 then k  M else (if v2 < 0 then k  M else ((f_X2_has 232 v3 M).bind fun (r5 : Int) => (if r5 = 0 then L_X10_nth_18  k n v2 (v3 + 1) M else (if v2 = 0 then some (0, v3, M) else L_X10_nth_18  k n (v2 + -1) (v3 + 1) M)))))
set_option maxRecDepth 100000 in
set_option maxHeartbeats 4000000 in
theorem l_X10_nth_18 {G : fG} (hg : gbt G = true)  {q : Int × Int × fMem} {k : fMem → Option (Int × Int × fMem)} (hk : ∀ (M : fMem), k M = some q → fW G mX10_nth (fEm G mX10_nth (rT q) (xT q.1 q.2.2)) 0 0 55 [some (rv G 0), none, none, none] [] M) : ∀ (n : Nat) (v2 : Int) (v3 : Int) (M : fMem), rg v2 → rg v3 → L_X10_nth_18 k n v2 v3 M = some q → fW G mX10_nth (fEm G mX10_nth (rT q) (xT q.1 q.2.2)) 0 0 18 [some (rv G 0), none, some (iv v2), some (iv v3)] [] M := by
  intro n
  induction n with
  | zero =>
    intro v2 v3 M gv2 gv3 h
    rw [L_X10_nth_18] at h
    exact absurd h (by simp)
  | succ n ih =>
    intro v2 v3 M gv2 gv3 h
    rw [L_X10_nth_18] at h
    refine fW_rg (fun hR => ?_)
    refine fW_iload_n 19 dX10_nth_18 rfl rfl ?_
    refine fW_sipush 22 dX10_nth_19 rfl (by decide) ?_
    refine fW_icmp_ge 25 55 gv3 (by decide) dX10_nth_22 rfl rfl (fun c3 => ?_) (fun c3 => ?_)
    · replace h := fTt h c3
      exact fW_sb (hk M h) ⟨rfl, trivial⟩
    · replace h := fFf h c3
      refine fW_iload_n 26 dX10_nth_25 rfl rfl ?_
      refine fW_if_lt 29 55 gv2 dX10_nth_26 rfl rfl (fun c4 => ?_) (fun c4 => ?_)
      · replace h := fTt h c4
        exact fW_sb (hk M h) ⟨rfl, trivial⟩
      · replace h := fFf h c4
        refine fW_aload_n 30 dX10_nth_29 rfl rfl ?_
        refine fW_getR 33 (r := 232) 8 hg clX10 (by decide) rfl tc_0 tf_10_8 wd_425 dX10_nth_30 rfl ?_
        refine fW_iload_n 34 dX10_nth_33 rfl rfl ?_
        obtain ⟨r5, e5, h⟩ := fBd h
        refine fW_cB (fI_V (as := [iv v3]) (rest := []) miX2_has hg clX2 rfl tc_232 wd_665 (fRoom_of rfl) rfl (Nat.le_of_ble_eq_true rfl) dX10_nth_34) (s_X2_has hg tc_232 gv3 e5) rfl rfl rfl (fun g5 => ?_)
        refine fW_if_eq 40 49 (rg_z g5) dX10_nth_37 rfl rfl (fun c6 => ?_) (fun c6 => ?_)
        · replace h := fTt h c6
          refine fW_iinc 52 (ls' := [some (rv G 0), none, some (iv v2), some (iv (v3 + 1))]) dX10_nth_49 rfl rfl rfl (by decide) ?_
          refine fW_goto 18 dX10_nth_52 rfl ?_
          exact fW_sb (ih v2 (v3 + 1) M gv2 (rg_succ' gv3 (by decide) c3) h) ⟨rfl, rfl, rfl, trivial⟩
        · replace h := fFf h c6
          refine fW_iload_n 41 dX10_nth_40 rfl rfl ?_
          refine fW_if_ne 44 46 gv2 dX10_nth_41 rfl rfl (fun c7 => ?_) (fun c7 => ?_)
          · replace h := fFf h c7
            refine fW_iinc 49 (ls' := [some (rv G 0), none, some (iv (v2 + -1)), some (iv v3)]) dX10_nth_46 rfl rfl rfl (by decide) ?_
            refine fW_iinc 52 (ls' := [some (rv G 0), none, some (iv (v2 + -1)), some (iv (v3 + 1))]) dX10_nth_49 rfl rfl rfl (by decide) ?_
            refine fW_goto 18 dX10_nth_52 rfl ?_
            exact fW_sb (ih (v2 + -1) (v3 + 1) M (rg_pred0' gv2 c4) (rg_succ' gv3 (by decide) c3) h) ⟨rfl, rfl, rfl, trivial⟩
          · replace h := fTt h c7
            refine fW_iload_n 45 dX10_nth_44 rfl rfl ?_
            exact fW_iret rfl (by decide) (by decide) dX10_nth_45 (rT_i h gv3)
def f_X10_nth (a1 : Int) (M : fMem) : Option (Int × Int × fMem) := ((f_X2_read 232 2 M).bind fun (r1 : fMem) => L_X10_nth_18 (fun  (M_8 : fMem) => some (1, 0, M_8)) 20000 a1 0 r1)
set_option maxRecDepth 100000 in
set_option maxHeartbeats 4000000 in
theorem s_X10_nth {G : fG} (hg : gbt G = true) {a1 : Int} (ga1 : rg a1) {M : fMem} {q : Int × Int × fMem} (h : f_X10_nth a1 M = some q) : fSp G mX10_nth [rv G 0, iv a1] M (rT q) (xT q.1 q.2.2) := by
  refine fSp_of (by decide +kernel) (by decide +kernel) (fC1 rfl (fC1 rfl fC0)) (Nat.le_of_ble_eq_true rfl) ?_
  show fW G mX10_nth (fEm G mX10_nth (rT q) (xT q.1 q.2.2)) 0 0 0 [some (rv G 0), some (iv a1), none, none] [] M
  rw [f_X10_nth] at h
  refine fW_rg (fun hR => ?_)
  refine fW_aload_n 1 dX10_nth_0 rfl rfl ?_
  refine fW_getR 4 (r := 232) 8 hg clX10 (by decide) rfl tc_0 tf_10_8 wd_425 dX10_nth_1 rfl ?_
  refine fW_aload_n 5 dX10_nth_4 rfl rfl ?_
  refine fW_getR 8 (r := 1) 0 hg clX10 (by decide) rfl tc_0 tf_10_0 wd_417 dX10_nth_5 rfl ?_
  refine fW_getR 11 (r := 2) 0 hg clX0 (by decide) rfl tc_1 (tf_0_0 tc_1) wd_248 dX10_nth_8 rfl ?_
  obtain ⟨r1, e1, h⟩ := fBd h
  refine fW_cV (fI_V (as := [rv G 2]) (rest := []) miX2_read hg clX2 rfl tc_232 wd_626 (fRoom_of rfl) rfl (Nat.le_of_ble_eq_true rfl) dX10_nth_11) (s_X2_read hg tc_232 (tt_0_0 tc_1) e1) rfl rfl rfl ?_
  refine fW_rg (fun hR2 => ?_)
  refine fW_iload_n 15 dX10_nth_14 rfl rfl ?_
  refine fW_istore_n 16 (ls' := [some (rv G 0), some (iv a1), some (iv a1), none]) dX10_nth_15 rfl rfl rfl (by decide) ?_
  refine fW_iconst 17 dX10_nth_16 rfl ?_
  refine fW_istore_n 18 (ls' := [some (rv G 0), some (iv a1), some (iv a1), some (iv 0)]) dX10_nth_17 rfl rfl rfl (by decide) ?_
  refine fW_sb (l_X10_nth_18 hg ?_ 20000 a1 0 r1 ga1 (by decide) h) ⟨rfl, rfl, rfl, trivial⟩
  intro M_8 h
  refine fW_rg (fun hR_8 => ?_)
  exact fW_throw hg rfl th1 (text := _) (fStr_181) dX10_nth_55 dX10_nth_58 dX10_nth_59 dX10_nth_61 dX10_nth_64 (by decide) (Nat.le_of_ble_eq_true rfl) (by decide) (by decide) (xT_1 h)
def mX10_waste : fMt := (yX10_waste, cX10_waste, 2, some .int, { frames := 7, cells := 1, slots := 6, locals := 280 })
theorem miX10_waste : fMv mX10_waste 1 := ⟨⟨fM 937 (by decide +kernel) rfl, fM 89 (by decide +kernel) rfl, ⟨by decide +kernel, by decide +kernel⟩, by decide +kernel⟩, fM 935 (by decide +kernel) rfl, fM 936 (by decide +kernel) rfl⟩
def f_X10_waste (a1 : Int) (M : fMem) : Option (Int × Int × fMem) := ((f_X10_needWhat a1 3 M).bind fun (r1 : Int) => (if r1 = 0 then ((f_X2_read 232 2 M).bind fun (r2 : fMem) => (if a1 = 0 then ((f_X2_heldKeys 232 r2).bind fun (r5 : Int) => (if -2147483648 ≤ (r2 232 2) - r5 ∧ (r2 232 2) - r5 < 2147483648 then some (0, (r2 232 2) - r5, r2) else none)) else (if a1 = 1 then ((f_X2_loneSigns 232 r2).bind fun (r8 : Int) => some (0, r8, r2)) else ((f_X2_keysThere 232 0 199 r2).bind fun (r9 : Int) => (if -2147483648 ≤ (r2 232 2) - r9 ∧ (r2 232 2) - r9 < 2147483648 then some (0, (r2 232 2) - r9, r2) else none))))) else some (r1, 0, M)))
set_option maxRecDepth 100000 in
set_option maxHeartbeats 4000000 in
theorem s_X10_waste {G : fG} (hg : gbt G = true) {a1 : Int} (ga1 : rg a1) {M : fMem} {q : Int × Int × fMem} (h : f_X10_waste a1 M = some q) : fSp G mX10_waste [rv G 0, iv a1] M (rT q) (xT q.1 q.2.2) := by
  refine fSp_of (by decide +kernel) (by decide +kernel) (fC1 rfl (fC1 rfl fC0)) (Nat.le_of_ble_eq_true rfl) ?_
  show fW G mX10_waste (fEm G mX10_waste (rT q) (xT q.1 q.2.2)) 0 0 0 [some (rv G 0), some (iv a1)] [] M
  rw [f_X10_waste] at h
  refine fW_rg (fun hR => ?_)
  refine fW_iload_n 1 dX10_waste_0 rfl rfl ?_
  refine fW_iconst 2 dX10_waste_1 rfl ?_
  obtain ⟨r1, e1, h⟩ := fBd h
  refine fW_cU 1 6 (by decide +kernel) (fI_S (as := [iv a1, iv 3]) (rest := []) miX10_needWhat rfl wd_910 (fRoom_of rfl) rfl (Nat.le_of_ble_eq_true rfl) dX10_waste_2) (s_X10_needWhat hg ga1 (by decide) e1) rfl rfl rfl (by decide) (by decide) (fun cx => xU_T cx (fFf h cx)) (fun cx => ?_)
  replace h := fTt h cx
  refine fW_aload_n 6 dX10_waste_5 rfl rfl ?_
  refine fW_getR 9 (r := 232) 8 hg clX10 (by decide) rfl tc_0 tf_10_8 wd_425 dX10_waste_6 rfl ?_
  refine fW_aload_n 10 dX10_waste_9 rfl rfl ?_
  refine fW_getR 13 (r := 1) 0 hg clX10 (by decide) rfl tc_0 tf_10_0 wd_417 dX10_waste_10 rfl ?_
  refine fW_getR 16 (r := 2) 0 hg clX0 (by decide) rfl tc_1 (tf_0_0 tc_1) wd_248 dX10_waste_13 rfl ?_
  obtain ⟨r2, e2, h⟩ := fBd h
  refine fW_cV (fI_V (as := [rv G 2]) (rest := []) miX2_read hg clX2 rfl tc_232 wd_626 (fRoom_of rfl) rfl (Nat.le_of_ble_eq_true rfl) dX10_waste_16) (s_X2_read hg tc_232 (tt_0_0 tc_1) e2) rfl rfl rfl ?_
  refine fW_rg (fun hR3 => ?_)
  refine fW_iload_n 20 dX10_waste_19 rfl rfl ?_
  have gs := ga1
  by_cases c4 : a1 = 0
  · replace h := fTt h c4
    refine fW_look 48 (off := 28) gs dX10_waste_20 (by decide) (by rw [c4]; try rfl) rfl ?_
    refine fW_aload_n 49 dX10_waste_48 rfl rfl ?_
    refine fW_getR 52 (r := 232) 8 hg clX10 (by decide) rfl tc_0 tf_10_8 wd_425 dX10_waste_49 rfl ?_
    refine fW_getI 55 2 (ji := 2) hg clX2 rfl (by decide) rfl tc_232 wd_408 dX10_waste_52 rfl ?_
    refine fW_aload_n 56 dX10_waste_55 rfl rfl ?_
    refine fW_getR 59 (r := 232) 8 hg clX10 (by decide) rfl tc_0 tf_10_8 wd_425 dX10_waste_56 rfl ?_
    obtain ⟨r5, e5, h⟩ := fBd h
    refine fW_cP (fI_V (as := []) (rest := [iv (r2 232 2)]) miX2_heldKeys hg clX2 rfl tc_232 wd_938 (fRoom_of rfl) rfl (Nat.le_of_ble_eq_true rfl) dX10_waste_59) (s_X2_heldKeys hg tc_232 e5) rfl rfl rfl (fun g5 => ?_)
    refine fW_isub 63 dX10_waste_62 rfl ?_
    obtain ⟨c6, h⟩ := fS h
    exact fW_iret rfl (by decide) (by decide) dX10_waste_63 (rT_i h c6)
  replace h := fFf h c4
  by_cases c7 : a1 = 1
  · replace h := fTt h c7
    refine fW_look 64 (off := 44) gs dX10_waste_20 (by decide) (by rw [c7]; try rfl) rfl ?_
    refine fW_aload_n 65 dX10_waste_64 rfl rfl ?_
    refine fW_getR 68 (r := 232) 8 hg clX10 (by decide) rfl tc_0 tf_10_8 wd_425 dX10_waste_65 rfl ?_
    obtain ⟨r8, e8, h⟩ := fBd h
    refine fW_cP (fI_V (as := []) (rest := []) miX2_loneSigns hg clX2 rfl tc_232 wd_942 (fRoom_of rfl) rfl (Nat.le_of_ble_eq_true rfl) dX10_waste_68) (s_X2_loneSigns hg tc_232 e8) rfl rfl rfl (fun g8 => ?_)
    exact fW_iret rfl (by decide) (by decide) dX10_waste_71 (rT_i h g8)
  replace h := fFf h c7
  refine fW_look 72 (off := 52) gs dX10_waste_20 (by decide) (by simp [Op.lookupswitch.offset, List.find?, Ne.symm c4, c4, Ne.symm c7, c7]) rfl ?_
  refine fW_aload_n 73 dX10_waste_72 rfl rfl ?_
  refine fW_getR 76 (r := 232) 8 hg clX10 (by decide) rfl tc_0 tf_10_8 wd_425 dX10_waste_73 rfl ?_
  refine fW_getI 79 2 (ji := 2) hg clX2 rfl (by decide) rfl tc_232 wd_408 dX10_waste_76 rfl ?_
  refine fW_aload_n 80 dX10_waste_79 rfl rfl ?_
  refine fW_getR 83 (r := 232) 8 hg clX10 (by decide) rfl tc_0 tf_10_8 wd_425 dX10_waste_80 rfl ?_
  refine fW_iconst 84 dX10_waste_83 rfl ?_
  refine fW_sipush 87 dX10_waste_84 rfl (by decide) ?_
  obtain ⟨r9, e9, h⟩ := fBd h
  refine fW_cP (fI_V (as := [iv 0, iv 199]) (rest := [iv (r2 232 2)]) miX2_keysThere hg clX2 rfl tc_232 wd_650 (fRoom_of rfl) rfl (Nat.le_of_ble_eq_true rfl) dX10_waste_87) (s_X2_keysThere hg tc_232 (by decide) (by decide) e9) rfl rfl rfl (fun g9 => ?_)
  refine fW_isub 91 dX10_waste_90 rfl ?_
  obtain ⟨c10, h⟩ := fS h
  exact fW_iret rfl (by decide) (by decide) dX10_waste_91 (rT_i h c10)
end MTH
