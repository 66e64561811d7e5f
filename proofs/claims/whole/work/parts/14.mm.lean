section MTH
def mX10_many : fMt := (yX10_many, cX10_many, 3, some .int, { frames := 7, cells := 2, slots := 12, locals := 280 })
theorem miX10_many : fMv mX10_many 2 := ⟨⟨fM 952 (by decide +kernel) rfl, fM 89 (by decide +kernel) rfl, ⟨by decide +kernel, by decide +kernel⟩, by decide +kernel⟩, fM 950 (by decide +kernel) rfl, fM 951 (by decide +kernel) rfl⟩
def f_X10_many (a1 : Int) (a2 : Int) (M : fMem) : Option (Int × Int × fMem) := ((f_X10_needKey a1 M).bind fun (r1 : Int) => (if r1 = 0 then ((f_X10_needKey a2 M).bind fun (r2 : Int) => (if r2 = 0 then ((f_X2_read 232 2 M).bind fun (r3 : fMem) => ((f_X2_keysThere 232 a1 a2 r3).bind fun (r5 : Int) => some (0, r5, r3))) else some (r2, 0, M))) else some (r1, 0, M)))
set_option maxRecDepth 100000 in
set_option maxHeartbeats 4000000 in
theorem s_X10_many {G : fG} (hg : gbt G = true) {a1 : Int} (ga1 : rg a1) {a2 : Int} (ga2 : rg a2) {M : fMem} {q : Int × Int × fMem} (h : f_X10_many a1 a2 M = some q) : fSp G mX10_many [rv G 0, iv a1, iv a2] M (rT q) (xT q.1 q.2.2) := by
  refine fSp_of (by decide +kernel) (by decide +kernel) (fC1 rfl (fC1 rfl (fC1 rfl fC0))) (Nat.le_of_ble_eq_true rfl) ?_
  show fW G mX10_many (fEm G mX10_many (rT q) (xT q.1 q.2.2)) 0 0 0 [some (rv G 0), some (iv a1), some (iv a2)] [] M
  rw [f_X10_many] at h
  refine fW_rg (fun hR => ?_)
  refine fW_iload_n 1 dX10_many_0 rfl rfl ?_
  obtain ⟨r1, e1, h⟩ := fBd h
  refine fW_cU 1 6 (by decide +kernel) (fI_S (as := [iv a1]) (rest := []) miX10_needKey rfl wd_708 (fRoom_of rfl) rfl (Nat.le_of_ble_eq_true rfl) dX10_many_1) (s_X10_needKey hg ga1 e1) rfl rfl rfl (by decide) (by decide) (fun cx => xU_T cx (fFf h cx)) (fun cx => ?_)
  replace h := fTt h cx
  refine fW_iload_n 5 dX10_many_4 rfl rfl ?_
  obtain ⟨r2, e2, h⟩ := fBd h
  refine fW_cU 2 12 (by decide +kernel) (fI_S (as := [iv a2]) (rest := []) miX10_needKey rfl wd_708 (fRoom_of rfl) rfl (Nat.le_of_ble_eq_true rfl) dX10_many_5) (s_X10_needKey hg ga2 e2) rfl rfl rfl (by decide) (by decide) (fun cx => xU_T cx (fFf h cx)) (fun cx => ?_)
  replace h := fTt h cx
  refine fW_aload_n 9 dX10_many_8 rfl rfl ?_
  refine fW_getR 12 (r := 232) 8 hg clX10 (by decide) rfl tc_0 tf_10_8 wd_425 dX10_many_9 rfl ?_
  refine fW_aload_n 13 dX10_many_12 rfl rfl ?_
  refine fW_getR 16 (r := 1) 0 hg clX10 (by decide) rfl tc_0 tf_10_0 wd_417 dX10_many_13 rfl ?_
  refine fW_getR 19 (r := 2) 0 hg clX0 (by decide) rfl tc_1 (tf_0_0 tc_1) wd_248 dX10_many_16 rfl ?_
  obtain ⟨r3, e3, h⟩ := fBd h
  refine fW_cV (fI_V (as := [rv G 2]) (rest := []) miX2_read hg clX2 rfl tc_232 wd_626 (fRoom_of rfl) rfl (Nat.le_of_ble_eq_true rfl) dX10_many_19) (s_X2_read hg tc_232 (tt_0_0 tc_1) e3) rfl rfl rfl ?_
  refine fW_rg (fun hR4 => ?_)
  refine fW_aload_n 23 dX10_many_22 rfl rfl ?_
  refine fW_getR 26 (r := 232) 8 hg clX10 (by decide) rfl tc_0 tf_10_8 wd_425 dX10_many_23 rfl ?_
  refine fW_iload_n 27 dX10_many_26 rfl rfl ?_
  refine fW_iload_n 28 dX10_many_27 rfl rfl ?_
  obtain ⟨r5, e5, h⟩ := fBd h
  refine fW_cP (fI_V (as := [iv a1, iv a2]) (rest := []) miX2_keysThere hg clX2 rfl tc_232 wd_650 (fRoom_of rfl) rfl (Nat.le_of_ble_eq_true rfl) dX10_many_28) (s_X2_keysThere hg tc_232 ga1 ga2 e5) rfl rfl rfl (fun g5 => ?_)
  exact fW_iret rfl (by decide) (by decide) dX10_many_31 (rT_i h g5)
def mX10_trace : fMt := (yX10_trace, cX10_trace, 5, some .int, { frames := 7, cells := 2, slots := 12, locals := 280 })
theorem miX10_trace : fMv mX10_trace 2 := ⟨⟨fM 959 (by decide +kernel) rfl, fM 89 (by decide +kernel) rfl, ⟨by decide +kernel, by decide +kernel⟩, by decide +kernel⟩, fM 957 (by decide +kernel) rfl, fM 958 (by decide +kernel) rfl⟩
def f_X10_trace (a1 : Int) (a2 : Int) (M : fMem) : Option (Int × Int × fMem) := ((f_X10_needKey a1 M).bind fun (r1 : Int) => (if r1 = 0 then ((f_X10_needWhat a2 3 M).bind fun (r2 : Int) => (if r2 = 0 then ((f_X7_arrange 2 M).bind fun (r3 : Int × fMem) => (if a2 = 0 then ((f_X7_rowsWith 2 a1 r3.2).bind fun (r11 : Int) => some (0, r11, r3.2)) else ((f_X7_firstWith 2 a1 r3.2).bind fun (r6 : Int) => (if r6 = ((-1)) then some (0, (-1), r3.2) else (if a2 = 1 then (if 0 ≤ r6 ∧ r6 < 19 then some (0, LO r6, r3.2) else none) else ((f_X10_numberOf r6 r3.2).bind fun (r9 : Int) => some (0, r9, r3.2))))))) else some (r2, 0, M))) else some (r1, 0, M)))
set_option maxRecDepth 100000 in
set_option maxHeartbeats 4000000 in
theorem s_X10_trace {G : fG} (hg : gbt G = true) {a1 : Int} (ga1 : rg a1) {a2 : Int} (ga2 : rg a2) {M : fMem} {q : Int × Int × fMem} (h : f_X10_trace a1 a2 M = some q) : fSp G mX10_trace [rv G 0, iv a1, iv a2] M (rT q) (xT q.1 q.2.2) := by
  refine fSp_of (by decide +kernel) (by decide +kernel) (fC1 rfl (fC1 rfl (fC1 rfl fC0))) (Nat.le_of_ble_eq_true rfl) ?_
  show fW G mX10_trace (fEm G mX10_trace (rT q) (xT q.1 q.2.2)) 0 0 0 [some (rv G 0), some (iv a1), some (iv a2), none, none] [] M
  rw [f_X10_trace] at h
  refine fW_rg (fun hR => ?_)
  refine fW_iload_n 1 dX10_trace_0 rfl rfl ?_
  obtain ⟨r1, e1, h⟩ := fBd h
  refine fW_cU 1 6 (by decide +kernel) (fI_S (as := [iv a1]) (rest := []) miX10_needKey rfl wd_708 (fRoom_of rfl) rfl (Nat.le_of_ble_eq_true rfl) dX10_trace_1) (s_X10_needKey hg ga1 e1) rfl rfl rfl (by decide) (by decide) (fun cx => xU_T cx (fFf h cx)) (fun cx => ?_)
  replace h := fTt h cx
  refine fW_iload_n 5 dX10_trace_4 rfl rfl ?_
  refine fW_iconst 6 dX10_trace_5 rfl ?_
  obtain ⟨r2, e2, h⟩ := fBd h
  refine fW_cU 2 12 (by decide +kernel) (fI_S (as := [iv a2, iv 3]) (rest := []) miX10_needWhat rfl wd_910 (fRoom_of rfl) rfl (Nat.le_of_ble_eq_true rfl) dX10_trace_6) (s_X10_needWhat hg ga2 (by decide) e2) rfl rfl rfl (by decide) (by decide) (fun cx => xU_T cx (fFf h cx)) (fun cx => ?_)
  replace h := fTt h cx
  refine fW_aload_n 10 dX10_trace_9 rfl rfl ?_
  refine fW_getR 13 (r := 1) 0 hg clX10 (by decide) rfl tc_0 tf_10_0 wd_417 dX10_trace_10 rfl ?_
  refine fW_getR 16 (r := 2) 0 hg clX0 (by decide) rfl tc_1 (tf_0_0 tc_1) wd_248 dX10_trace_13 rfl ?_
  refine fW_astore_n 17 (ls' := [some (rv G 0), some (iv a1), some (iv a2), some (rv G 2), none]) dX10_trace_16 rfl rfl rfl (by decide) ?_
  refine fW_aload_n 18 dX10_trace_17 rfl rfl ?_
  obtain ⟨r3, e3, h⟩ := fBd h
  refine fW_cP (fI_V (as := []) (rest := []) miX7_arrange hg clX7 rfl (tt_0_0 tc_1) wd_596 (fRoom_of rfl) rfl (Nat.le_of_ble_eq_true rfl) dX10_trace_18) (s_X7_arrange hg (tt_0_0 tc_1) e3) rfl rfl rfl (fun g3 => ?_)
  refine fW_rg (fun hR4 => ?_)
  refine fW_pop 22 dX10_trace_21 rfl rfl ?_
  refine fW_iload_n 23 dX10_trace_22 rfl rfl ?_
  refine fW_if_ne 26 32 ga2 dX10_trace_23 rfl rfl (fun c5 => ?_) (fun c5 => ?_)
  · replace h := fFf h c5
    refine fW_aload_n 33 dX10_trace_32 rfl rfl ?_
    refine fW_iload_n 34 dX10_trace_33 rfl rfl ?_
    obtain ⟨r6, e6, h⟩ := fBd h
    refine fW_cP (fI_V (as := [iv a1]) (rest := []) miX7_firstWith hg clX7 rfl (tt_0_0 tc_1) wd_964 (fRoom_of rfl) rfl (Nat.le_of_ble_eq_true rfl) dX10_trace_34) (s_X7_firstWith hg (tt_0_0 tc_1) ga1 e6) rfl rfl rfl (fun g6 => ?_)
    refine fW_istore 39 (ls' := [some (rv G 0), some (iv a1), some (iv a2), some (rv G 2), some (iv r6)]) dX10_trace_37 rfl rfl (by decide) ?_
    refine fW_iload 41 dX10_trace_39 rfl rfl ?_
    refine fW_iconst 42 dX10_trace_41 rfl ?_
    refine fW_icmp_ne 45 47 g6 (by decide) dX10_trace_42 rfl rfl (fun c7 => ?_) (fun c7 => ?_)
    · replace h := fFf h c7
      refine fW_iload_n 48 dX10_trace_47 rfl rfl ?_
      refine fW_iconst 49 dX10_trace_48 rfl ?_
      refine fW_icmp_ne 52 61 ga2 (by decide) dX10_trace_49 rfl rfl (fun c8 => ?_) (fun c8 => ?_)
      · replace h := fFf h c8
        refine fW_iload 63 dX10_trace_61 rfl rfl ?_
        obtain ⟨r9, e9, h⟩ := fBd h
        refine fW_cP (fI_S (as := [iv r6]) (rest := []) miX10_numberOf rfl wd_915 (fRoom_of rfl) rfl (Nat.le_of_ble_eq_true rfl) dX10_trace_63) (s_X10_numberOf hg g6 e9) rfl rfl rfl (fun g9 => ?_)
        exact fW_iret rfl (by decide) (by decide) dX10_trace_66 (rT_i h g9)
      · replace h := fTt h c8
        refine fW_gets 55 2 (by decide) wd_821 dX10_trace_52 rfl ?_
        refine fW_iload 57 dX10_trace_55 rfl rfl ?_
        obtain ⟨c10, h⟩ := fS h
        refine fW_sald 58 2 (by decide) c10 dX10_trace_57 rfl ?_
        rw [show SV 2 r6 = LO r6 from rfl]
        refine fW_goto 66 dX10_trace_58 rfl ?_
        exact fW_iret rfl (by decide) (by decide) dX10_trace_66 (rT_i h (rg_LO c10))
    · replace h := fTt h c7
      refine fW_iconst 46 dX10_trace_45 rfl ?_
      exact fW_iret rfl (by decide) (by decide) dX10_trace_46 (rT_i h (by decide))
  · replace h := fTt h c5
    refine fW_aload_n 27 dX10_trace_26 rfl rfl ?_
    refine fW_iload_n 28 dX10_trace_27 rfl rfl ?_
    obtain ⟨r11, e11, h⟩ := fBd h
    refine fW_cP (fI_V (as := [iv a1]) (rest := []) miX7_rowsWith hg clX7 rfl (tt_0_0 tc_1) wd_960 (fRoom_of rfl) rfl (Nat.le_of_ble_eq_true rfl) dX10_trace_28) (s_X7_rowsWith hg (tt_0_0 tc_1) ga1 e11) rfl rfl rfl (fun g11 => ?_)
    exact fW_iret rfl (by decide) (by decide) dX10_trace_31 (rT_i h g11)
def mX10_marksOf : fMt := (yX10_marksOf, cX10_marksOf, 2, some .int, { frames := 5, cells := 0, slots := 0, locals := 200 })
theorem miX10_marksOf : fMv mX10_marksOf 1 := ⟨⟨fM 982 (by decide +kernel) rfl, fM 89 (by decide +kernel) rfl, ⟨by decide +kernel, by decide +kernel⟩, by decide +kernel⟩, fM 981 (by decide +kernel) rfl, fM 22 (by decide +kernel) rfl⟩
def f_X10_marksOf (a1 : Int) (M : fMem) : Option (Int × fMem) := ((f_X10_refresh M).bind fun (r1 : fMem) => (if 0 ≤ a1 ∧ a1 < 19 then some (r1 (4 * psO a1.toNat + 151) 4, r1) else none))
set_option maxRecDepth 100000 in
set_option maxHeartbeats 4000000 in
theorem s_X10_marksOf {G : fG} (hg : gbt G = true) {a1 : Int} (ga1 : rg a1) {M : fMem} {q : Int × fMem} (h : f_X10_marksOf a1 M = some q) : fSp G mX10_marksOf [rv G 0, iv a1] M (rP q.2 q.1) fNo := by
  refine fSp_of (by decide +kernel) (by decide +kernel) (fC1 rfl (fC1 rfl fC0)) (Nat.le_of_ble_eq_true rfl) ?_
  show fW G mX10_marksOf (fEm G mX10_marksOf (rP q.2 q.1) fNo) 0 0 0 [some (rv G 0), some (iv a1)] [] M
  rw [f_X10_marksOf] at h
  refine fW_rg (fun hR => ?_)
  refine fW_aload_n 1 dX10_marksOf_0 rfl rfl ?_
  obtain ⟨r1, e1, h⟩ := fBd h
  refine fW_cV (fI_V (as := []) (rest := []) miX10_refresh hg clX10 rfl tc_0 wd_778 (fRoom_of rfl) rfl (Nat.le_of_ble_eq_true rfl) dX10_marksOf_1) (s_X10_refresh hg e1) rfl rfl rfl ?_
  refine fW_rg (fun hR2 => ?_)
  refine fW_aload_n 5 dX10_marksOf_4 rfl rfl ?_
  refine fW_getR 8 (r := 149) 6 hg clX10 (by decide) rfl tc_0 tf_10_6 wd_423 dX10_marksOf_5 rfl ?_
  refine fW_getR 11 (r := 150) 0 hg clX3 (by decide) rfl tc_149 tf_3_0 wd_363 dX10_marksOf_8 rfl ?_
  refine fW_iload_n 12 dX10_marksOf_11 rfl rfl ?_
  obtain ⟨c3, h⟩ := fS h
  have t4 := ta_14 (r := 4 * psO a1.toNat + 151) tc_150 c3 (by omega)
  refine fW_aald 13 2 hg tc_150 (by decide) (by decide) t4.1 t4.2.2 rfl dX10_marksOf_12 rfl ?_
  refine fW_getI 16 4 (ji := 4) hg clX1 rfl (by decide) rfl t4.2.1 wd_349 dX10_marksOf_13 rfl ?_
  exact fW_iret rfl (by decide) (by decide) dX10_marksOf_16 (rI_i h (hR2 (4 * psO a1.toNat + 151) 4))
def mX10_level : fMt := (yX10_level, cX10_level, 5, some .int, { frames := 7, cells := 2, slots := 12, locals := 280 })
theorem miX10_level : fMv mX10_level 2 := ⟨⟨fM 971 (by decide +kernel) rfl, fM 89 (by decide +kernel) rfl, ⟨by decide +kernel, by decide +kernel⟩, by decide +kernel⟩, fM 969 (by decide +kernel) rfl, fM 970 (by decide +kernel) rfl⟩
def f_X10_level (a1 : Int) (a2 : Int) (M : fMem) : Option (Int × Int × fMem) := ((f_X10_needLevel a1 M).bind fun (r1 : Int) => (if r1 = 0 then ((f_X10_needWhat a2 9 M).bind fun (r2 : Int) => (if r2 = 0 then (if 0 ≤ a1 ∧ a1 < 9 then ((f_X7_leadOf 2 a1 M).bind fun (r5 : Int) => (if a2 = 0 then ((f_X7_shutOf 2 a1 M).bind fun (r7 : Int) => some (0, r7, M)) else (if a2 = 1 then (if (M (a1.toNat + 63) 0) = 0 then some (0, 0, M) else some (0, 1, M)) else (if a2 = 2 then ((f_X7_thingsOf 2 a1 M).bind fun (r11 : Int) => some (0, r11, M)) else (if a2 = 3 then some (0, M (a1.toNat + 63) 7, M) else (if a2 = 4 then some (0, M (a1.toNat + 63) 8, M) else (if a2 = 5 then ((f_X0_leftOf 1 a1 M).bind fun (r15 : Int) => some (0, r15, M)) else (if a2 = 6 then (if (M (a1.toNat + 63) 0) = 0 then some (0, 0, M) else (if (M (a1.toNat + 63) 1) = 0 then some (0, 0, M) else some (0, 1, M))) else (if a2 = 7 then (if r5 = ((-1)) then some (0, (-1), M) else ((f_X10_numberOf r5 M).bind fun (r21 : Int) => some (0, r21, M))) else (if r5 = ((-1)) then some (0, 0, M) else ((f_X10_marksOf r5 M).bind fun (r23 : Int × fMem) => some (0, r23.1, r23.2)))))))))))) else none) else some (r2, 0, M))) else some (r1, 0, M)))
set_option maxRecDepth 100000 in
set_option maxHeartbeats 4000000 in
theorem s_X10_level {G : fG} (hg : gbt G = true) {a1 : Int} (ga1 : rg a1) {a2 : Int} (ga2 : rg a2) {M : fMem} {q : Int × Int × fMem} (h : f_X10_level a1 a2 M = some q) : fSp G mX10_level [rv G 0, iv a1, iv a2] M (rT q) (xT q.1 q.2.2) := by
  refine fSp_of (by decide +kernel) (by decide +kernel) (fC1 rfl (fC1 rfl (fC1 rfl fC0))) (Nat.le_of_ble_eq_true rfl) ?_
  show fW G mX10_level (fEm G mX10_level (rT q) (xT q.1 q.2.2)) 0 0 0 [some (rv G 0), some (iv a1), some (iv a2), none, none] [] M
  rw [f_X10_level] at h
  refine fW_rg (fun hR => ?_)
  refine fW_iload_n 1 dX10_level_0 rfl rfl ?_
  obtain ⟨r1, e1, h⟩ := fBd h
  refine fW_cU 1 6 (by decide +kernel) (fI_S (as := [iv a1]) (rest := []) miX10_needLevel rfl wd_884 (fRoom_of rfl) rfl (Nat.le_of_ble_eq_true rfl) dX10_level_1) (s_X10_needLevel hg ga1 e1) rfl rfl rfl (by decide) (by decide) (fun cx => xU_T cx (fFf h cx)) (fun cx => ?_)
  replace h := fTt h cx
  refine fW_iload_n 5 dX10_level_4 rfl rfl ?_
  refine fW_bipush 7 dX10_level_5 rfl (by decide) ?_
  obtain ⟨r2, e2, h⟩ := fBd h
  refine fW_cU 2 12 (by decide +kernel) (fI_S (as := [iv a2, iv 9]) (rest := []) miX10_needWhat rfl wd_910 (fRoom_of rfl) rfl (Nat.le_of_ble_eq_true rfl) dX10_level_7) (s_X10_needWhat hg ga2 (by decide) e2) rfl rfl rfl (by decide) (by decide) (fun cx => xU_T cx (fFf h cx)) (fun cx => ?_)
  replace h := fTt h cx
  refine fW_aload_n 11 dX10_level_10 rfl rfl ?_
  refine fW_getR 14 (r := 1) 0 hg clX10 (by decide) rfl tc_0 tf_10_0 wd_417 dX10_level_11 rfl ?_
  refine fW_getR 17 (r := 62) 1 hg clX0 (by decide) rfl tc_1 (tf_0_1 tc_1) wd_250 dX10_level_14 rfl ?_
  refine fW_iload_n 18 dX10_level_17 rfl rfl ?_
  obtain ⟨c3, h⟩ := fS h
  have t4 := ta_15 (r := a1.toNat + 63) (tt_0_1 tc_1) c3 (by omega)
  refine fW_aald 19 3 hg (tt_0_1 tc_1) (by decide) (by decide) t4.1 t4.2.2 rfl dX10_level_18 rfl ?_
  refine fW_astore_n 20 (ls' := [some (rv G 0), some (iv a1), some (iv a2), some (rv G (a1.toNat + 63)), none]) dX10_level_19 rfl rfl rfl (by decide) ?_
  refine fW_aload_n 21 dX10_level_20 rfl rfl ?_
  refine fW_getR 24 (r := 1) 0 hg clX10 (by decide) rfl tc_0 tf_10_0 wd_417 dX10_level_21 rfl ?_
  refine fW_getR 27 (r := 2) 0 hg clX0 (by decide) rfl tc_1 (tf_0_0 tc_1) wd_248 dX10_level_24 rfl ?_
  refine fW_iload_n 28 dX10_level_27 rfl rfl ?_
  obtain ⟨r5, e5, h⟩ := fBd h
  refine fW_cP (fI_V (as := [iv a1]) (rest := []) miX7_leadOf hg clX7 rfl (tt_0_0 tc_1) wd_972 (fRoom_of rfl) rfl (Nat.le_of_ble_eq_true rfl) dX10_level_28) (s_X7_leadOf hg (tt_0_0 tc_1) ga1 e5) rfl rfl rfl (fun g5 => ?_)
  refine fW_istore 33 (ls' := [some (rv G 0), some (iv a1), some (iv a2), some (rv G (a1.toNat + 63)), some (iv r5)]) dX10_level_31 rfl rfl (by decide) ?_
  refine fW_iload_n 34 dX10_level_33 rfl rfl ?_
  have gs := ga2
  by_cases c6 : a2 = 0
  · replace h := fTt h c6
    refine fW_tabIn 80 c6 (by decide) dX10_level_34 (by decide) (by decide) rfl rfl ?_
    refine fW_aload_n 81 dX10_level_80 rfl rfl ?_
    refine fW_getR 84 (r := 1) 0 hg clX10 (by decide) rfl tc_0 tf_10_0 wd_417 dX10_level_81 rfl ?_
    refine fW_getR 87 (r := 2) 0 hg clX0 (by decide) rfl tc_1 (tf_0_0 tc_1) wd_248 dX10_level_84 rfl ?_
    refine fW_iload_n 88 dX10_level_87 rfl rfl ?_
    obtain ⟨r7, e7, h⟩ := fBd h
    refine fW_cP (fI_V (as := [iv a1]) (rest := []) miX7_shutOf hg clX7 rfl (tt_0_0 tc_1) wd_973 (fRoom_of rfl) rfl (Nat.le_of_ble_eq_true rfl) dX10_level_88) (s_X7_shutOf hg (tt_0_0 tc_1) ga1 e7) rfl rfl rfl (fun g7 => ?_)
    exact fW_iret rfl (by decide) (by decide) dX10_level_91 (rT_i h g7)
  replace h := fFf h c6
  by_cases c8 : a2 = 1
  · replace h := fTt h c8
    refine fW_tabIn 92 c8 (by decide) dX10_level_34 (by decide) (by decide) rfl rfl ?_
    refine fW_aload_n 93 dX10_level_92 rfl rfl ?_
    refine fW_getI 96 0 (ji := 0) hg clX4 rfl (by decide) rfl t4.2.1 wd_208 dX10_level_93 rfl ?_
    refine fW_if_eq 99 103 (hR (a1.toNat + 63) 0) dX10_level_96 rfl rfl (fun c9 => ?_) (fun c9 => ?_)
    · replace h := fTt h c9
      refine fW_iconst 104 dX10_level_103 rfl ?_
      exact fW_iret rfl (by decide) (by decide) dX10_level_104 (rT_i h (by decide))
    · replace h := fFf h c9
      refine fW_iconst 100 dX10_level_99 rfl ?_
      refine fW_goto 104 dX10_level_100 rfl ?_
      exact fW_iret rfl (by decide) (by decide) dX10_level_104 (rT_i h (by decide))
  replace h := fFf h c8
  by_cases c10 : a2 = 2
  · replace h := fTt h c10
    refine fW_tabIn 105 c10 (by decide) dX10_level_34 (by decide) (by decide) rfl rfl ?_
    refine fW_aload_n 106 dX10_level_105 rfl rfl ?_
    refine fW_getR 109 (r := 1) 0 hg clX10 (by decide) rfl tc_0 tf_10_0 wd_417 dX10_level_106 rfl ?_
    refine fW_getR 112 (r := 2) 0 hg clX0 (by decide) rfl tc_1 (tf_0_0 tc_1) wd_248 dX10_level_109 rfl ?_
    refine fW_iload_n 113 dX10_level_112 rfl rfl ?_
    obtain ⟨r11, e11, h⟩ := fBd h
    refine fW_cP (fI_V (as := [iv a1]) (rest := []) miX7_thingsOf hg clX7 rfl (tt_0_0 tc_1) wd_974 (fRoom_of rfl) rfl (Nat.le_of_ble_eq_true rfl) dX10_level_113) (s_X7_thingsOf hg (tt_0_0 tc_1) ga1 e11) rfl rfl rfl (fun g11 => ?_)
    exact fW_iret rfl (by decide) (by decide) dX10_level_116 (rT_i h g11)
  replace h := fFf h c10
  by_cases c12 : a2 = 3
  · replace h := fTt h c12
    refine fW_tabIn 117 c12 (by decide) dX10_level_34 (by decide) (by decide) rfl rfl ?_
    refine fW_aload_n 118 dX10_level_117 rfl rfl ?_
    refine fW_getI 121 7 (ji := 7) hg clX4 rfl (by decide) rfl t4.2.1 wd_224 dX10_level_118 rfl ?_
    exact fW_iret rfl (by decide) (by decide) dX10_level_121 (rT_i h (hR (a1.toNat + 63) 7))
  replace h := fFf h c12
  by_cases c13 : a2 = 4
  · replace h := fTt h c13
    refine fW_tabIn 122 c13 (by decide) dX10_level_34 (by decide) (by decide) rfl rfl ?_
    refine fW_aload_n 123 dX10_level_122 rfl rfl ?_
    refine fW_getI 126 8 (ji := 8) hg clX4 rfl (by decide) rfl t4.2.1 wd_227 dX10_level_123 rfl ?_
    exact fW_iret rfl (by decide) (by decide) dX10_level_126 (rT_i h (hR (a1.toNat + 63) 8))
  replace h := fFf h c13
  by_cases c14 : a2 = 5
  · replace h := fTt h c14
    refine fW_tabIn 127 c14 (by decide) dX10_level_34 (by decide) (by decide) rfl rfl ?_
    refine fW_aload_n 128 dX10_level_127 rfl rfl ?_
    refine fW_getR 131 (r := 1) 0 hg clX10 (by decide) rfl tc_0 tf_10_0 wd_417 dX10_level_128 rfl ?_
    refine fW_iload_n 132 dX10_level_131 rfl rfl ?_
    obtain ⟨r15, e15, h⟩ := fBd h
    refine fW_cP (fI_V (as := [iv a1]) (rest := []) miX0_leftOf hg clX0 rfl tc_1 wd_978 (fRoom_of rfl) rfl (Nat.le_of_ble_eq_true rfl) dX10_level_132) (s_X0_leftOf hg tc_1 ga1 e15) rfl rfl rfl (fun g15 => ?_)
    exact fW_iret rfl (by decide) (by decide) dX10_level_135 (rT_i h g15)
  replace h := fFf h c14
  by_cases c16 : a2 = 6
  · replace h := fTt h c16
    refine fW_tabIn 136 c16 (by decide) dX10_level_34 (by decide) (by decide) rfl rfl ?_
    refine fW_aload_n 137 dX10_level_136 rfl rfl ?_
    refine fW_getI 140 0 (ji := 0) hg clX4 rfl (by decide) rfl t4.2.1 wd_208 dX10_level_137 rfl ?_
    refine fW_if_eq 143 154 (hR (a1.toNat + 63) 0) dX10_level_140 rfl rfl (fun c17 => ?_) (fun c17 => ?_)
    · replace h := fTt h c17
      refine fW_iconst 155 dX10_level_154 rfl ?_
      exact fW_iret rfl (by decide) (by decide) dX10_level_155 (rT_i h (by decide))
    · replace h := fFf h c17
      refine fW_aload_n 144 dX10_level_143 rfl rfl ?_
      refine fW_getI 147 1 (ji := 1) hg clX4 rfl (by decide) rfl t4.2.1 wd_211 dX10_level_144 rfl ?_
      refine fW_if_eq 150 154 (hR (a1.toNat + 63) 1) dX10_level_147 rfl rfl (fun c18 => ?_) (fun c18 => ?_)
      · replace h := fTt h c18
        refine fW_iconst 155 dX10_level_154 rfl ?_
        exact fW_iret rfl (by decide) (by decide) dX10_level_155 (rT_i h (by decide))
      · replace h := fFf h c18
        refine fW_iconst 151 dX10_level_150 rfl ?_
        refine fW_goto 155 dX10_level_151 rfl ?_
        exact fW_iret rfl (by decide) (by decide) dX10_level_155 (rT_i h (by decide))
  replace h := fFf h c16
  by_cases c19 : a2 = 7
  · replace h := fTt h c19
    refine fW_tabIn 156 c19 (by decide) dX10_level_34 (by decide) (by decide) rfl rfl ?_
    refine fW_iload 158 dX10_level_156 rfl rfl ?_
    refine fW_iconst 159 dX10_level_158 rfl ?_
    refine fW_icmp_ne 162 166 g5 (by decide) dX10_level_159 rfl rfl (fun c20 => ?_) (fun c20 => ?_)
    · replace h := fFf h c20
      refine fW_iload 168 dX10_level_166 rfl rfl ?_
      obtain ⟨r21, e21, h⟩ := fBd h
      refine fW_cP (fI_S (as := [iv r5]) (rest := []) miX10_numberOf rfl wd_915 (fRoom_of rfl) rfl (Nat.le_of_ble_eq_true rfl) dX10_level_168) (s_X10_numberOf hg g5 e21) rfl rfl rfl (fun g21 => ?_)
      exact fW_iret rfl (by decide) (by decide) dX10_level_171 (rT_i h g21)
    · replace h := fTt h c20
      refine fW_iconst 163 dX10_level_162 rfl ?_
      refine fW_goto 171 dX10_level_163 rfl ?_
      exact fW_iret rfl (by decide) (by decide) dX10_level_171 (rT_i h (by decide))
  replace h := fFf h c19
  refine fW_tabOut 172 gs dX10_level_34 (by omega) rfl ?_
  refine fW_iload 174 dX10_level_172 rfl rfl ?_
  refine fW_iconst 175 dX10_level_174 rfl ?_
  refine fW_icmp_ne 178 182 g5 (by decide) dX10_level_175 rfl rfl (fun c22 => ?_) (fun c22 => ?_)
  · replace h := fFf h c22
    refine fW_aload_n 183 dX10_level_182 rfl rfl ?_
    refine fW_iload 185 dX10_level_183 rfl rfl ?_
    obtain ⟨r23, e23, h⟩ := fBd h
    refine fW_cP (fI_V (as := [iv r5]) (rest := []) miX10_marksOf hg clX10 rfl tc_0 wd_979 (fRoom_of rfl) rfl (Nat.le_of_ble_eq_true rfl) dX10_level_185) (s_X10_marksOf hg g5 e23) rfl rfl rfl (fun g23 => ?_)
    refine fW_rg (fun hR24 => ?_)
    exact fW_iret rfl (by decide) (by decide) dX10_level_188 (rT_i h g23)
  · replace h := fTt h c22
    refine fW_iconst 179 dX10_level_178 rfl ?_
    refine fW_goto 188 dX10_level_179 rfl ?_
    exact fW_iret rfl (by decide) (by decide) dX10_level_188 (rT_i h (by decide))
def mX10_entriesOf : fMt := (yX10_entriesOf, cX10_entriesOf, 2, some .int, { frames := 5, cells := 0, slots := 0, locals := 200 })
theorem miX10_entriesOf : fMv mX10_entriesOf 1 := ⟨⟨fM 993 (by decide +kernel) rfl, fM 89 (by decide +kernel) rfl, ⟨by decide +kernel, by decide +kernel⟩, by decide +kernel⟩, fM 992 (by decide +kernel) rfl, fM 23 (by decide +kernel) rfl⟩
def f_X10_entriesOf (a1 : Int) (M : fMem) : Option (Int × fMem) := ((f_X10_refresh M).bind fun (r1 : fMem) => (if 0 ≤ a1 ∧ a1 < 19 then some (r1 (4 * psO a1.toNat + 151) 3, r1) else none))
set_option maxRecDepth 100000 in
set_option maxHeartbeats 4000000 in
theorem s_X10_entriesOf {G : fG} (hg : gbt G = true) {a1 : Int} (ga1 : rg a1) {M : fMem} {q : Int × fMem} (h : f_X10_entriesOf a1 M = some q) : fSp G mX10_entriesOf [rv G 0, iv a1] M (rP q.2 q.1) fNo := by
  refine fSp_of (by decide +kernel) (by decide +kernel) (fC1 rfl (fC1 rfl fC0)) (Nat.le_of_ble_eq_true rfl) ?_
  show fW G mX10_entriesOf (fEm G mX10_entriesOf (rP q.2 q.1) fNo) 0 0 0 [some (rv G 0), some (iv a1)] [] M
  rw [f_X10_entriesOf] at h
  refine fW_rg (fun hR => ?_)
  refine fW_aload_n 1 dX10_entriesOf_0 rfl rfl ?_
  obtain ⟨r1, e1, h⟩ := fBd h
  refine fW_cV (fI_V (as := []) (rest := []) miX10_refresh hg clX10 rfl tc_0 wd_778 (fRoom_of rfl) rfl (Nat.le_of_ble_eq_true rfl) dX10_entriesOf_1) (s_X10_refresh hg e1) rfl rfl rfl ?_
  refine fW_rg (fun hR2 => ?_)
  refine fW_aload_n 5 dX10_entriesOf_4 rfl rfl ?_
  refine fW_getR 8 (r := 149) 6 hg clX10 (by decide) rfl tc_0 tf_10_6 wd_423 dX10_entriesOf_5 rfl ?_
  refine fW_getR 11 (r := 150) 0 hg clX3 (by decide) rfl tc_149 tf_3_0 wd_363 dX10_entriesOf_8 rfl ?_
  refine fW_iload_n 12 dX10_entriesOf_11 rfl rfl ?_
  obtain ⟨c3, h⟩ := fS h
  have t4 := ta_14 (r := 4 * psO a1.toNat + 151) tc_150 c3 (by omega)
  refine fW_aald 13 2 hg tc_150 (by decide) (by decide) t4.1 t4.2.2 rfl dX10_entriesOf_12 rfl ?_
  refine fW_getI 16 3 (ji := 3) hg clX1 rfl (by decide) rfl t4.2.1 wd_347 dX10_entriesOf_13 rfl ?_
  exact fW_iret rfl (by decide) (by decide) dX10_entriesOf_16 (rI_i h (hR2 (4 * psO a1.toNat + 151) 3))
def mX10_aheadOf : fMt := (yX10_aheadOf, cX10_aheadOf, 4, some .int, { frames := 2, cells := 0, slots := 0, locals := 80 })
theorem miX10_aheadOf : fMv mX10_aheadOf 1 := ⟨⟨fM 997 (by decide +kernel) rfl, fM 89 (by decide +kernel) rfl, ⟨by decide +kernel, by decide +kernel⟩, by decide +kernel⟩, fM 996 (by decide +kernel) rfl, fM 24 (by decide +kernel) rfl⟩
def L_X10_aheadOf_13  (k : fMem → Option (Int × fMem)) : Nat → Int → Int → Int → fMem → Option (Int × fMem)
  | 0, _, _, _, _ => none
  | n + 1, v1, v2, v3, M => (if v2 ≤ v3 then k  M else (if 0 ≤ v3 ∧ v3 < 19 then (if (M 4 v3) = v1 then some (v3, M) else L_X10_aheadOf_13  k n v1 v2 (v3 + 1) M) else none))
set_option maxRecDepth 100000 in
set_option maxHeartbeats 4000000 in
theorem l_X10_aheadOf_13 {G : fG} (hg : gbt G = true)  {q : Int × fMem} {k : fMem → Option (Int × fMem)} (hk : ∀ (M : fMem), k M = some q → fW G mX10_aheadOf (fEm G mX10_aheadOf (rP q.2 q.1) fNo) 0 0 42 [some (rv G 0), none, none, none] [] M) : ∀ (n : Nat) (v1 : Int) (v2 : Int) (v3 : Int) (M : fMem), rg v1 → rg v2 → rg v3 → L_X10_aheadOf_13 k n v1 v2 v3 M = some q → fW G mX10_aheadOf (fEm G mX10_aheadOf (rP q.2 q.1) fNo) 0 0 13 [some (rv G 0), some (iv v1), some (iv v2), some (iv v3)] [] M := by
  intro n
  induction n with
  | zero =>
    intro v1 v2 v3 M gv1 gv2 gv3 h
    rw [L_X10_aheadOf_13] at h
    exact absurd h (by simp)
  | succ n ih =>
    intro v1 v2 v3 M gv1 gv2 gv3 h
    rw [L_X10_aheadOf_13] at h
    refine fW_rg (fun hR => ?_)
    refine fW_iload_n 14 dX10_aheadOf_13 rfl rfl ?_
    refine fW_iload_n 15 dX10_aheadOf_14 rfl rfl ?_
    refine fW_icmp_ge 18 42 gv3 gv2 dX10_aheadOf_15 rfl rfl (fun c3 => ?_) (fun c3 => ?_)
    · replace h := fTt h c3
      exact fW_sb (hk M h) ⟨rfl, trivial⟩
    · replace h := fFf h c3
      refine fW_aload_n 19 dX10_aheadOf_18 rfl rfl ?_
      refine fW_getR 22 (r := 1) 0 hg clX10 (by decide) rfl tc_0 tf_10_0 wd_417 dX10_aheadOf_19 rfl ?_
      refine fW_getR 25 (r := 2) 0 hg clX0 (by decide) rfl tc_1 (tf_0_0 tc_1) wd_248 dX10_aheadOf_22 rfl ?_
      refine fW_getR 28 (r := 4) 1 hg clX7 (by decide) rfl (tt_0_0 tc_1) (tf_7_1 (tt_0_0 tc_1)) wd_189 dX10_aheadOf_25 rfl ?_
      refine fW_iload_n 29 dX10_aheadOf_28 rfl rfl ?_
      obtain ⟨c4, h⟩ := fS h
      refine fW_iald 30 hg (tt_7_1 (tt_0_0 tc_1)) ⟨c4.1, by rw [lf_7_1 (tt_0_0 tc_1)]; exact c4.2⟩ dX10_aheadOf_29 rfl ?_
      refine fW_iload_n 31 dX10_aheadOf_30 rfl rfl ?_
      refine fW_icmp_ne 34 36 (hR 4 v3) gv1 dX10_aheadOf_31 rfl rfl (fun c5 => ?_) (fun c5 => ?_)
      · replace h := fFf h c5
        refine fW_iinc 39 (ls' := [some (rv G 0), some (iv v1), some (iv v2), some (iv (v3 + 1))]) dX10_aheadOf_36 rfl rfl rfl (by decide) ?_
        refine fW_goto 13 dX10_aheadOf_39 rfl ?_
        exact fW_sb (ih v1 v2 (v3 + 1) M gv1 gv2 (rg_succ' gv3 gv2 c3) h) ⟨rfl, rfl, rfl, rfl, trivial⟩
      · replace h := fTt h c5
        refine fW_iload_n 35 dX10_aheadOf_34 rfl rfl ?_
        exact fW_iret rfl (by decide) (by decide) dX10_aheadOf_35 (rI_i h gv3)
def f_X10_aheadOf (a1 : Int) (M : fMem) : Option (Int × fMem) := ((f_X7_arrange 2 M).bind fun (r1 : Int × fMem) => L_X10_aheadOf_13 (fun  (M_6 : fMem) => some ((-1), M_6)) 20000 a1 r1.1 0 r1.2)
set_option maxRecDepth 100000 in
set_option maxHeartbeats 4000000 in
theorem s_X10_aheadOf {G : fG} (hg : gbt G = true) {a1 : Int} (ga1 : rg a1) {M : fMem} {q : Int × fMem} (h : f_X10_aheadOf a1 M = some q) : fSp G mX10_aheadOf [rv G 0, iv a1] M (rP q.2 q.1) fNo := by
  refine fSp_of (by decide +kernel) (by decide +kernel) (fC1 rfl (fC1 rfl fC0)) (Nat.le_of_ble_eq_true rfl) ?_
  show fW G mX10_aheadOf (fEm G mX10_aheadOf (rP q.2 q.1) fNo) 0 0 0 [some (rv G 0), some (iv a1), none, none] [] M
  rw [f_X10_aheadOf] at h
  refine fW_rg (fun hR => ?_)
  refine fW_aload_n 1 dX10_aheadOf_0 rfl rfl ?_
  refine fW_getR 4 (r := 1) 0 hg clX10 (by decide) rfl tc_0 tf_10_0 wd_417 dX10_aheadOf_1 rfl ?_
  refine fW_getR 7 (r := 2) 0 hg clX0 (by decide) rfl tc_1 (tf_0_0 tc_1) wd_248 dX10_aheadOf_4 rfl ?_
  obtain ⟨r1, e1, h⟩ := fBd h
  refine fW_cP (fI_V (as := []) (rest := []) miX7_arrange hg clX7 rfl (tt_0_0 tc_1) wd_596 (fRoom_of rfl) rfl (Nat.le_of_ble_eq_true rfl) dX10_aheadOf_7) (s_X7_arrange hg (tt_0_0 tc_1) e1) rfl rfl rfl (fun g1 => ?_)
  refine fW_rg (fun hR2 => ?_)
  refine fW_istore_n 11 (ls' := [some (rv G 0), some (iv a1), some (iv r1.1), none]) dX10_aheadOf_10 rfl rfl rfl (by decide) ?_
  refine fW_iconst 12 dX10_aheadOf_11 rfl ?_
  refine fW_istore_n 13 (ls' := [some (rv G 0), some (iv a1), some (iv r1.1), some (iv 0)]) dX10_aheadOf_12 rfl rfl rfl (by decide) ?_
  refine fW_sb (l_X10_aheadOf_13 hg ?_ 20000 a1 r1.1 0 r1.2 ga1 g1 (by decide) h) ⟨rfl, rfl, rfl, rfl, trivial⟩
  intro M_6 h
  refine fW_rg (fun hR_6 => ?_)
  refine fW_iconst 43 dX10_aheadOf_42 rfl ?_
  exact fW_iret rfl (by decide) (by decide) dX10_aheadOf_43 (rI_i h (by decide))
def mX10_row : fMt := (yX10_row, cX10_row, 6, some .int, { frames := 8, cells := 3, slots := 18, locals := 320 })
theorem miX10_row : fMv mX10_row 3 := ⟨⟨fM 989 (by decide +kernel) rfl, fM 89 (by decide +kernel) rfl, ⟨by decide +kernel, by decide +kernel⟩, by decide +kernel⟩, fM 987 (by decide +kernel) rfl, fM 988 (by decide +kernel) rfl⟩
def f_X10_row (a1 : Int) (a2 : Int) (a3 : Int) (M : fMem) : Option (Int × Int × fMem) := ((f_X10_needRow a1 a2 M).bind fun (r1 : Int) => (if r1 = 0 then ((f_X10_needWhat a3 6 M).bind fun (r2 : Int) => (if r2 = 0 then ((f_X10_at a1 a2 M).bind fun (r3 : Int) => (if 0 ≤ r3 ∧ r3 < 19 then (if a3 = 0 then some (0, M (3 * r3.toNat + 5) 2, M) else (if a3 = 1 then some (0, M (3 * r3.toNat + 5) 3, M) else (if a3 = 2 then ((f_X10_entriesOf r3 M).bind fun (r9 : Int × fMem) => some (0, r9.1, r9.2)) else (if a3 = 3 then ((f_X10_marksOf r3 M).bind fun (r12 : Int × fMem) => some (0, r12.1, r12.2)) else (if a3 = 4 then some (0, M (3 * r3.toNat + 5) 4, M) else ((f_X10_aheadOf r3 M).bind fun (r15 : Int × fMem) => some (0, r15.1, r15.2))))))) else none)) else some (r2, 0, M))) else some (r1, 0, M)))
set_option maxRecDepth 100000 in
set_option maxHeartbeats 4000000 in
theorem s_X10_row {G : fG} (hg : gbt G = true) {a1 : Int} (ga1 : rg a1) {a2 : Int} (ga2 : rg a2) {a3 : Int} (ga3 : rg a3) {M : fMem} {q : Int × Int × fMem} (h : f_X10_row a1 a2 a3 M = some q) : fSp G mX10_row [rv G 0, iv a1, iv a2, iv a3] M (rT q) (xT q.1 q.2.2) := by
  refine fSp_of (by decide +kernel) (by decide +kernel) (fC1 rfl (fC1 rfl (fC1 rfl (fC1 rfl fC0)))) (Nat.le_of_ble_eq_true rfl) ?_
  show fW G mX10_row (fEm G mX10_row (rT q) (xT q.1 q.2.2)) 0 0 0 [some (rv G 0), some (iv a1), some (iv a2), some (iv a3), none, none] [] M
  rw [f_X10_row] at h
  refine fW_rg (fun hR => ?_)
  refine fW_iload_n 1 dX10_row_0 rfl rfl ?_
  refine fW_iload_n 2 dX10_row_1 rfl rfl ?_
  obtain ⟨r1, e1, h⟩ := fBd h
  refine fW_cU 2 12 (by decide +kernel) (fI_S (as := [iv a1, iv a2]) (rest := []) miX10_needRow rfl wd_881 (fRoom_of rfl) rfl (Nat.le_of_ble_eq_true rfl) dX10_row_2) (s_X10_needRow hg ga1 ga2 e1) rfl rfl rfl (by decide) (by decide) (fun cx => xU_T cx (fFf h cx)) (fun cx => ?_)
  replace h := fTt h cx
  refine fW_iload_n 6 dX10_row_5 rfl rfl ?_
  refine fW_bipush 8 dX10_row_6 rfl (by decide) ?_
  obtain ⟨r2, e2, h⟩ := fBd h
  refine fW_cU 3 18 (by decide +kernel) (fI_S (as := [iv a3, iv 6]) (rest := []) miX10_needWhat rfl wd_910 (fRoom_of rfl) rfl (Nat.le_of_ble_eq_true rfl) dX10_row_8) (s_X10_needWhat hg ga3 (by decide) e2) rfl rfl rfl (by decide) (by decide) (fun cx => xU_T cx (fFf h cx)) (fun cx => ?_)
  replace h := fTt h cx
  refine fW_iload_n 12 dX10_row_11 rfl rfl ?_
  refine fW_iload_n 13 dX10_row_12 rfl rfl ?_
  obtain ⟨r3, e3, h⟩ := fBd h
  refine fW_cP (fI_S (as := [iv a1, iv a2]) (rest := []) miX10_at rfl wd_661 (fRoom_of rfl) rfl (Nat.le_of_ble_eq_true rfl) dX10_row_13) (s_X10_at hg ga1 ga2 e3) rfl rfl rfl (fun g3 => ?_)
  refine fW_istore 18 (ls' := [some (rv G 0), some (iv a1), some (iv a2), some (iv a3), some (iv r3), none]) dX10_row_16 rfl rfl (by decide) ?_
  refine fW_aload_n 19 dX10_row_18 rfl rfl ?_
  refine fW_getR 22 (r := 1) 0 hg clX10 (by decide) rfl tc_0 tf_10_0 wd_417 dX10_row_19 rfl ?_
  refine fW_getR 25 (r := 2) 0 hg clX0 (by decide) rfl tc_1 (tf_0_0 tc_1) wd_248 dX10_row_22 rfl ?_
  refine fW_getR 28 (r := 3) 0 hg clX7 (by decide) rfl (tt_0_0 tc_1) (tf_7_0 (tt_0_0 tc_1)) wd_185 dX10_row_25 rfl ?_
  refine fW_iload 30 dX10_row_28 rfl rfl ?_
  obtain ⟨c4, h⟩ := fS h
  have t5 := ta_16 (r := 3 * r3.toNat + 5) (tt_7_0 (tt_0_0 tc_1)) c4 (by omega)
  refine fW_aald 31 4 hg (tt_7_0 (tt_0_0 tc_1)) (by decide) (by decide) t5.1 t5.2.2 rfl dX10_row_30 rfl ?_
  refine fW_astore 33 (ls' := [some (rv G 0), some (iv a1), some (iv a2), some (iv a3), some (iv r3), some (rv G (3 * r3.toNat + 5))]) dX10_row_31 rfl rfl (by decide) ?_
  refine fW_iload_n 34 dX10_row_33 rfl rfl ?_
  have gs := ga3
  by_cases c6 : a3 = 0
  · replace h := fTt h c6
    refine fW_tabIn 68 c6 (by decide) dX10_row_34 (by decide) (by decide) rfl rfl ?_
    refine fW_aload 70 dX10_row_68 rfl rfl ?_
    refine fW_getI 73 2 (ji := 2) hg clX6 rfl (by decide) rfl t5.2.1 wd_153 dX10_row_70 rfl ?_
    exact fW_iret rfl (by decide) (by decide) dX10_row_73 (rT_i h (hR (3 * r3.toNat + 5) 2))
  replace h := fFf h c6
  by_cases c7 : a3 = 1
  · replace h := fTt h c7
    refine fW_tabIn 74 c7 (by decide) dX10_row_34 (by decide) (by decide) rfl rfl ?_
    refine fW_aload 76 dX10_row_74 rfl rfl ?_
    refine fW_getI 79 3 (ji := 3) hg clX6 rfl (by decide) rfl t5.2.1 wd_160 dX10_row_76 rfl ?_
    exact fW_iret rfl (by decide) (by decide) dX10_row_79 (rT_i h (hR (3 * r3.toNat + 5) 3))
  replace h := fFf h c7
  by_cases c8 : a3 = 2
  · replace h := fTt h c8
    refine fW_tabIn 80 c8 (by decide) dX10_row_34 (by decide) (by decide) rfl rfl ?_
    refine fW_aload_n 81 dX10_row_80 rfl rfl ?_
    refine fW_iload 83 dX10_row_81 rfl rfl ?_
    obtain ⟨r9, e9, h⟩ := fBd h
    refine fW_cP (fI_V (as := [iv r3]) (rest := []) miX10_entriesOf hg clX10 rfl tc_0 wd_990 (fRoom_of rfl) rfl (Nat.le_of_ble_eq_true rfl) dX10_row_83) (s_X10_entriesOf hg g3 e9) rfl rfl rfl (fun g9 => ?_)
    refine fW_rg (fun hR10 => ?_)
    exact fW_iret rfl (by decide) (by decide) dX10_row_86 (rT_i h g9)
  replace h := fFf h c8
  by_cases c11 : a3 = 3
  · replace h := fTt h c11
    refine fW_tabIn 87 c11 (by decide) dX10_row_34 (by decide) (by decide) rfl rfl ?_
    refine fW_aload_n 88 dX10_row_87 rfl rfl ?_
    refine fW_iload 90 dX10_row_88 rfl rfl ?_
    obtain ⟨r12, e12, h⟩ := fBd h
    refine fW_cP (fI_V (as := [iv r3]) (rest := []) miX10_marksOf hg clX10 rfl tc_0 wd_979 (fRoom_of rfl) rfl (Nat.le_of_ble_eq_true rfl) dX10_row_90) (s_X10_marksOf hg g3 e12) rfl rfl rfl (fun g12 => ?_)
    refine fW_rg (fun hR13 => ?_)
    exact fW_iret rfl (by decide) (by decide) dX10_row_93 (rT_i h g12)
  replace h := fFf h c11
  by_cases c14 : a3 = 4
  · replace h := fTt h c14
    refine fW_tabIn 94 c14 (by decide) dX10_row_34 (by decide) (by decide) rfl rfl ?_
    refine fW_aload 96 dX10_row_94 rfl rfl ?_
    refine fW_getI 99 4 (ji := 4) hg clX6 rfl (by decide) rfl t5.2.1 wd_162 dX10_row_96 rfl ?_
    exact fW_iret rfl (by decide) (by decide) dX10_row_99 (rT_i h (hR (3 * r3.toNat + 5) 4))
  replace h := fFf h c14
  refine fW_tabOut 100 gs dX10_row_34 (by omega) rfl ?_
  refine fW_aload_n 101 dX10_row_100 rfl rfl ?_
  refine fW_iload 103 dX10_row_101 rfl rfl ?_
  obtain ⟨r15, e15, h⟩ := fBd h
  refine fW_cP (fI_V (as := [iv r3]) (rest := []) miX10_aheadOf hg clX10 rfl tc_0 wd_994 (fRoom_of rfl) rfl (Nat.le_of_ble_eq_true rfl) dX10_row_103) (s_X10_aheadOf hg g3 e15) rfl rfl rfl (fun g15 => ?_)
  refine fW_rg (fun hR16 => ?_)
  exact fW_iret rfl (by decide) (by decide) dX10_row_106 (rT_i h g15)
def mX10_thing : fMt := (yX10_thing, cX10_thing, 6, some .int, { frames := 8, cells := 4, slots := 24, locals := 320 })
theorem miX10_thing : fMv mX10_thing 4 := ⟨⟨fM 1004 (by decide +kernel) rfl, fM 89 (by decide +kernel) rfl, ⟨by decide +kernel, by decide +kernel⟩, by decide +kernel⟩, fM 1002 (by decide +kernel) rfl, fM 1003 (by decide +kernel) rfl⟩
def f_X10_thing (a1 : Int) (a2 : Int) (a3 : Int) (a4 : Int) (M : fMem) : Option (Int × Int × fMem) := ((f_X10_needRow a1 a2 M).bind fun (r1 : Int) => (if r1 = 0 then ((f_X10_needWhat a4 2 M).bind fun (r2 : Int) => (if r2 = 0 then ((f_X10_at a1 a2 M).bind fun (r3 : Int) => (if 0 ≤ r3 ∧ r3 < 19 then (if a3 < 0 then some (1, 0, M) else (if a3 < (M (3 * r3.toNat + 5) 3) then (if a4 = 0 then ((f_X6_keyAt (3 * r3.toNat + 5) a3 M).bind fun (r10 : Int) => some (0, r10, M)) else ((f_X6_valueAt (3 * r3.toNat + 5) a3 M).bind fun (r9 : Int) => some (0, r9, M))) else some (1, 0, M))) else none)) else some (r2, 0, M))) else some (r1, 0, M)))
set_option maxRecDepth 100000 in
set_option maxHeartbeats 4000000 in
theorem s_X10_thing {G : fG} (hg : gbt G = true) {a1 : Int} (ga1 : rg a1) {a2 : Int} (ga2 : rg a2) {a3 : Int} (ga3 : rg a3) {a4 : Int} (ga4 : rg a4) {M : fMem} {q : Int × Int × fMem} (h : f_X10_thing a1 a2 a3 a4 M = some q) : fSp G mX10_thing [rv G 0, iv a1, iv a2, iv a3, iv a4] M (rT q) (xT q.1 q.2.2) := by
  refine fSp_of (by decide +kernel) (by decide +kernel) (fC1 rfl (fC1 rfl (fC1 rfl (fC1 rfl (fC1 rfl fC0))))) (Nat.le_of_ble_eq_true rfl) ?_
  show fW G mX10_thing (fEm G mX10_thing (rT q) (xT q.1 q.2.2)) 0 0 0 [some (rv G 0), some (iv a1), some (iv a2), some (iv a3), some (iv a4), none] [] M
  rw [f_X10_thing] at h
  refine fW_rg (fun hR => ?_)
  refine fW_iload_n 1 dX10_thing_0 rfl rfl ?_
  refine fW_iload_n 2 dX10_thing_1 rfl rfl ?_
  obtain ⟨r1, e1, h⟩ := fBd h
  refine fW_cU 2 12 (by decide +kernel) (fI_S (as := [iv a1, iv a2]) (rest := []) miX10_needRow rfl wd_881 (fRoom_of rfl) rfl (Nat.le_of_ble_eq_true rfl) dX10_thing_2) (s_X10_needRow hg ga1 ga2 e1) rfl rfl rfl (by decide) (by decide) (fun cx => xU_T cx (fFf h cx)) (fun cx => ?_)
  replace h := fTt h cx
  refine fW_iload 7 dX10_thing_5 rfl rfl ?_
  refine fW_iconst 8 dX10_thing_7 rfl ?_
  obtain ⟨r2, e2, h⟩ := fBd h
  refine fW_cU 3 18 (by decide +kernel) (fI_S (as := [iv a4, iv 2]) (rest := []) miX10_needWhat rfl wd_910 (fRoom_of rfl) rfl (Nat.le_of_ble_eq_true rfl) dX10_thing_8) (s_X10_needWhat hg ga4 (by decide) e2) rfl rfl rfl (by decide) (by decide) (fun cx => xU_T cx (fFf h cx)) (fun cx => ?_)
  replace h := fTt h cx
  refine fW_aload_n 12 dX10_thing_11 rfl rfl ?_
  refine fW_getR 15 (r := 1) 0 hg clX10 (by decide) rfl tc_0 tf_10_0 wd_417 dX10_thing_12 rfl ?_
  refine fW_getR 18 (r := 2) 0 hg clX0 (by decide) rfl tc_1 (tf_0_0 tc_1) wd_248 dX10_thing_15 rfl ?_
  refine fW_getR 21 (r := 3) 0 hg clX7 (by decide) rfl (tt_0_0 tc_1) (tf_7_0 (tt_0_0 tc_1)) wd_185 dX10_thing_18 rfl ?_
  refine fW_iload_n 22 dX10_thing_21 rfl rfl ?_
  refine fW_iload_n 23 dX10_thing_22 rfl rfl ?_
  obtain ⟨r3, e3, h⟩ := fBd h
  refine fW_cP (fI_S (as := [iv a1, iv a2]) (rest := [rv G 3]) miX10_at rfl wd_661 (fRoom_of rfl) rfl (Nat.le_of_ble_eq_true rfl) dX10_thing_23) (s_X10_at hg ga1 ga2 e3) rfl rfl rfl (fun g3 => ?_)
  obtain ⟨c4, h⟩ := fS h
  have t5 := ta_16 (r := 3 * r3.toNat + 5) (tt_7_0 (tt_0_0 tc_1)) c4 (by omega)
  refine fW_aald 27 4 hg (tt_7_0 (tt_0_0 tc_1)) (by decide) (by decide) t5.1 t5.2.2 rfl dX10_thing_26 rfl ?_
  refine fW_astore 29 (ls' := [some (rv G 0), some (iv a1), some (iv a2), some (iv a3), some (iv a4), some (rv G (3 * r3.toNat + 5))]) dX10_thing_27 rfl rfl (by decide) ?_
  refine fW_iload_n 30 dX10_thing_29 rfl rfl ?_
  refine fW_if_lt 33 42 ga3 dX10_thing_30 rfl rfl (fun c6 => ?_) (fun c6 => ?_)
  · replace h := fTt h c6
    exact fW_throwW hg rfl th1 (text := _) (fStr_259) dX10_thing_42 dX10_thing_45 dX10_thing_46 dX10_thing_49 dX10_thing_52 (by decide) (Nat.le_of_ble_eq_true rfl) (by decide) (by decide) (xT_1 h)
  · replace h := fFf h c6
    refine fW_iload_n 34 dX10_thing_33 rfl rfl ?_
    refine fW_aload 36 dX10_thing_34 rfl rfl ?_
    refine fW_getI 39 3 (ji := 3) hg clX6 rfl (by decide) rfl t5.2.1 wd_160 dX10_thing_36 rfl ?_
    refine fW_icmp_lt 42 53 ga3 (hR (3 * r3.toNat + 5) 3) dX10_thing_39 rfl rfl (fun c7 => ?_) (fun c7 => ?_)
    · replace h := fTt h c7
      refine fW_iload 55 dX10_thing_53 rfl rfl ?_
      refine fW_if_ne 58 67 ga4 dX10_thing_55 rfl rfl (fun c8 => ?_) (fun c8 => ?_)
      · replace h := fFf h c8
        refine fW_aload 69 dX10_thing_67 rfl rfl ?_
        refine fW_iload_n 70 dX10_thing_69 rfl rfl ?_
        obtain ⟨r9, e9, h⟩ := fBd h
        refine fW_cP (fI_V (as := [iv a3]) (rest := []) miX6_valueAt hg clX6 rfl t5.2.1 wd_1007 (fRoom_of rfl) rfl (Nat.le_of_ble_eq_true rfl) dX10_thing_70) (s_X6_valueAt hg t5.2.1 ga3 e9) rfl rfl rfl (fun g9 => ?_)
        exact fW_iret rfl (by decide) (by decide) dX10_thing_73 (rT_i h g9)
      · replace h := fTt h c8
        refine fW_aload 60 dX10_thing_58 rfl rfl ?_
        refine fW_iload_n 61 dX10_thing_60 rfl rfl ?_
        obtain ⟨r10, e10, h⟩ := fBd h
        refine fW_cP (fI_V (as := [iv a3]) (rest := []) miX6_keyAt hg clX6 rfl t5.2.1 wd_1006 (fRoom_of rfl) rfl (Nat.le_of_ble_eq_true rfl) dX10_thing_61) (s_X6_keyAt hg t5.2.1 ga3 e10) rfl rfl rfl (fun g10 => ?_)
        refine fW_goto 73 dX10_thing_64 rfl ?_
        exact fW_iret rfl (by decide) (by decide) dX10_thing_73 (rT_i h g10)
    · replace h := fFf h c7
      exact fW_throwW hg rfl th1 (text := _) (fStr_259) dX10_thing_42 dX10_thing_45 dX10_thing_46 dX10_thing_49 dX10_thing_52 (by decide) (Nat.le_of_ble_eq_true rfl) (by decide) (by decide) (xT_1 h)
end MTH
