section MTH
def mX10_seen : fMt := (yX10_seen, cX10_seen, 3, some .int, { frames := 7, cells := 2, slots := 12, locals := 280 })
theorem miX10_seen : fMv mX10_seen 2 := ⟨⟨fM 1136 (by decide +kernel) rfl, fM 89 (by decide +kernel) rfl, ⟨by decide +kernel, by decide +kernel⟩, by decide +kernel⟩, fM 1134 (by decide +kernel) rfl, fM 1135 (by decide +kernel) rfl⟩
def f_X10_seen (a1 : Int) (a2 : Int) (M : fMem) : Option (Int × Int × fMem) := ((f_X10_needTaken a1 M).bind fun (r1 : Int) => (if r1 = 0 then ((f_X10_needKey a2 M).bind fun (r2 : Int) => (if r2 = 0 then (if 0 ≤ a1 ∧ a1 < 3 then ((f_X7_arrange (60 * a1.toNat + 238) M).bind fun (r5 : Int × fMem) => ((f_X7_valueOf (60 * a1.toNat + 238) a2 r5.2).bind fun (r8 : Int) => some (0, r8, r5.2))) else none) else some (r2, 0, M))) else some (r1, 0, M)))
set_option maxRecDepth 100000 in
set_option maxHeartbeats 4000000 in
theorem s_X10_seen {G : fG} (hg : gbt G = true) {a1 : Int} (ga1 : rg a1) {a2 : Int} (ga2 : rg a2) {M : fMem} {q : Int × Int × fMem} (h : f_X10_seen a1 a2 M = some q) : fSp G mX10_seen [rv G 0, iv a1, iv a2] M (rT q) (xT q.1 q.2.2) := by
  refine fSp_of (by decide +kernel) (by decide +kernel) (fC1 rfl (fC1 rfl (fC1 rfl fC0))) (Nat.le_of_ble_eq_true rfl) ?_
  show fW G mX10_seen (fEm G mX10_seen (rT q) (xT q.1 q.2.2)) 0 0 0 [some (rv G 0), some (iv a1), some (iv a2)] [] M
  rw [f_X10_seen] at h
  refine fW_rg (fun hR => ?_)
  refine fW_aload_n 1 dX10_seen_0 rfl rfl ?_
  refine fW_iload_n 2 dX10_seen_1 rfl rfl ?_
  obtain ⟨r1, e1, h⟩ := fBd h
  refine fW_cU 1 6 (by decide +kernel) (fI_V (as := [iv a1]) (rest := []) miX10_needTaken hg clX10 rfl tc_0 wd_1137 (fRoom_of rfl) rfl (Nat.le_of_ble_eq_true rfl) dX10_seen_2) (s_X10_needTaken hg ga1 e1) rfl rfl rfl (by decide) (by decide) (fun cx => xU_T cx (fFf h cx)) (fun cx => ?_)
  replace h := fTt h cx
  refine fW_iload_n 6 dX10_seen_5 rfl rfl ?_
  obtain ⟨r2, e2, h⟩ := fBd h
  refine fW_cU 2 12 (by decide +kernel) (fI_S (as := [iv a2]) (rest := []) miX10_needKey rfl wd_708 (fRoom_of rfl) rfl (Nat.le_of_ble_eq_true rfl) dX10_seen_6) (s_X10_needKey hg ga2 e2) rfl rfl rfl (by decide) (by decide) (fun cx => xU_T cx (fFf h cx)) (fun cx => ?_)
  replace h := fTt h cx
  refine fW_aload_n 10 dX10_seen_9 rfl rfl ?_
  refine fW_getR 13 (r := 143) 2 hg clX10 (by decide) rfl tc_0 tf_10_2 wd_419 dX10_seen_10 rfl ?_
  refine fW_iload_n 14 dX10_seen_13 rfl rfl ?_
  obtain ⟨c3, h⟩ := fS h
  have t4 := ta_17 (r := 60 * a1.toNat + 238) tc_143 c3 (by omega)
  refine fW_aald 15 5 hg tc_143 (by decide) (by decide) t4.1 t4.2.2 rfl dX10_seen_14 rfl ?_
  obtain ⟨r5, e5, h⟩ := fBd h
  refine fW_cP (fI_V (as := []) (rest := []) miX7_arrange hg clX7 rfl t4.2.1 wd_596 (fRoom_of rfl) rfl (Nat.le_of_ble_eq_true rfl) dX10_seen_15) (s_X7_arrange hg t4.2.1 e5) rfl rfl rfl (fun g5 => ?_)
  refine fW_rg (fun hR6 => ?_)
  refine fW_pop 19 dX10_seen_18 rfl rfl ?_
  refine fW_aload_n 20 dX10_seen_19 rfl rfl ?_
  refine fW_getR 23 (r := 143) 2 hg clX10 (by decide) rfl tc_0 tf_10_2 wd_419 dX10_seen_20 rfl ?_
  refine fW_iload_n 24 dX10_seen_23 rfl rfl ?_
  have t7 := ta_17 (r := 60 * a1.toNat + 238) tc_143 c3 (by omega)
  refine fW_aald 25 5 hg tc_143 (by decide) (by decide) t7.1 t7.2.2 rfl dX10_seen_24 rfl ?_
  refine fW_iload_n 26 dX10_seen_25 rfl rfl ?_
  obtain ⟨r8, e8, h⟩ := fBd h
  refine fW_cP (fI_V (as := [iv a2]) (rest := []) miX7_valueOf hg clX7 rfl t7.2.1 wd_608 (fRoom_of rfl) rfl (Nat.le_of_ble_eq_true rfl) dX10_seen_26) (s_X7_valueOf hg t7.2.1 ga2 e8) rfl rfl rfl (fun g8 => ?_)
  exact fW_iret rfl (by decide) (by decide) dX10_seen_29 (rT_i h g8)
def mX10_against : fMt := (yX10_against, cX10_against, 3, some .int, { frames := 7, cells := 2, slots := 12, locals := 280 })
theorem miX10_against : fMv mX10_against 2 := ⟨⟨fM 1148 (by decide +kernel) rfl, fM 89 (by decide +kernel) rfl, ⟨by decide +kernel, by decide +kernel⟩, by decide +kernel⟩, fM 1146 (by decide +kernel) rfl, fM 1147 (by decide +kernel) rfl⟩
def f_X10_against (a1 : Int) (a2 : Int) (M : fMem) : Option (Int × Int × fMem) := ((f_X10_needTaken a1 M).bind fun (r1 : Int) => (if r1 = 0 then ((f_X10_needWhat a2 4 M).bind fun (r2 : Int) => (if r2 = 0 then ((f_X2_read 232 2 M).bind fun (r3 : fMem) => (if 0 ≤ a1 ∧ a1 < 3 then ((f_X2_read 235 (60 * a1.toNat + 238) r3).bind fun (r7 : fMem) => (if a2 = 0 then ((f_X2_keysThere 235 0 199 r7).bind fun (r10 : Int) => some (0, r10, r7)) else (if a2 = 1 then ((f_X2_lostIn 235 232 r7).bind fun (r12 : Int) => some (0, r12, r7)) else (if a2 = 2 then ((f_X2_missingIn 232 235 r7).bind fun (r14 : Int) => some (0, r14, r7)) else ((f_X7_shutYetIn (60 * a1.toNat + 238) 2 r7).bind fun (r16 : Int) => some (0, r16, r7)))))) else none)) else some (r2, 0, M))) else some (r1, 0, M)))
set_option maxRecDepth 100000 in
set_option maxHeartbeats 4000000 in
theorem s_X10_against {G : fG} (hg : gbt G = true) {a1 : Int} (ga1 : rg a1) {a2 : Int} (ga2 : rg a2) {M : fMem} {q : Int × Int × fMem} (h : f_X10_against a1 a2 M = some q) : fSp G mX10_against [rv G 0, iv a1, iv a2] M (rT q) (xT q.1 q.2.2) := by
  refine fSp_of (by decide +kernel) (by decide +kernel) (fC1 rfl (fC1 rfl (fC1 rfl fC0))) (Nat.le_of_ble_eq_true rfl) ?_
  show fW G mX10_against (fEm G mX10_against (rT q) (xT q.1 q.2.2)) 0 0 0 [some (rv G 0), some (iv a1), some (iv a2)] [] M
  rw [f_X10_against] at h
  refine fW_rg (fun hR => ?_)
  refine fW_aload_n 1 dX10_against_0 rfl rfl ?_
  refine fW_iload_n 2 dX10_against_1 rfl rfl ?_
  obtain ⟨r1, e1, h⟩ := fBd h
  refine fW_cU 1 6 (by decide +kernel) (fI_V (as := [iv a1]) (rest := []) miX10_needTaken hg clX10 rfl tc_0 wd_1137 (fRoom_of rfl) rfl (Nat.le_of_ble_eq_true rfl) dX10_against_2) (s_X10_needTaken hg ga1 e1) rfl rfl rfl (by decide) (by decide) (fun cx => xU_T cx (fFf h cx)) (fun cx => ?_)
  replace h := fTt h cx
  refine fW_iload_n 6 dX10_against_5 rfl rfl ?_
  refine fW_iconst 7 dX10_against_6 rfl ?_
  obtain ⟨r2, e2, h⟩ := fBd h
  refine fW_cU 2 12 (by decide +kernel) (fI_S (as := [iv a2, iv 4]) (rest := []) miX10_needWhat rfl wd_910 (fRoom_of rfl) rfl (Nat.le_of_ble_eq_true rfl) dX10_against_7) (s_X10_needWhat hg ga2 (by decide) e2) rfl rfl rfl (by decide) (by decide) (fun cx => xU_T cx (fFf h cx)) (fun cx => ?_)
  replace h := fTt h cx
  refine fW_aload_n 11 dX10_against_10 rfl rfl ?_
  refine fW_getR 14 (r := 232) 8 hg clX10 (by decide) rfl tc_0 tf_10_8 wd_425 dX10_against_11 rfl ?_
  refine fW_aload_n 15 dX10_against_14 rfl rfl ?_
  refine fW_getR 18 (r := 1) 0 hg clX10 (by decide) rfl tc_0 tf_10_0 wd_417 dX10_against_15 rfl ?_
  refine fW_getR 21 (r := 2) 0 hg clX0 (by decide) rfl tc_1 (tf_0_0 tc_1) wd_248 dX10_against_18 rfl ?_
  obtain ⟨r3, e3, h⟩ := fBd h
  refine fW_cV (fI_V (as := [rv G 2]) (rest := []) miX2_read hg clX2 rfl tc_232 wd_626 (fRoom_of rfl) rfl (Nat.le_of_ble_eq_true rfl) dX10_against_21) (s_X2_read hg tc_232 (tt_0_0 tc_1) e3) rfl rfl rfl ?_
  refine fW_rg (fun hR4 => ?_)
  refine fW_aload_n 25 dX10_against_24 rfl rfl ?_
  refine fW_getR 28 (r := 235) 9 hg clX10 (by decide) rfl tc_0 tf_10_9 wd_426 dX10_against_25 rfl ?_
  refine fW_aload_n 29 dX10_against_28 rfl rfl ?_
  refine fW_getR 32 (r := 143) 2 hg clX10 (by decide) rfl tc_0 tf_10_2 wd_419 dX10_against_29 rfl ?_
  refine fW_iload_n 33 dX10_against_32 rfl rfl ?_
  obtain ⟨c5, h⟩ := fS h
  have t6 := ta_17 (r := 60 * a1.toNat + 238) tc_143 c5 (by omega)
  refine fW_aald 34 5 hg tc_143 (by decide) (by decide) t6.1 t6.2.2 rfl dX10_against_33 rfl ?_
  obtain ⟨r7, e7, h⟩ := fBd h
  refine fW_cV (fI_V (as := [rv G (60 * a1.toNat + 238)]) (rest := []) miX2_read hg clX2 rfl tc_235 wd_626 (fRoom_of rfl) rfl (Nat.le_of_ble_eq_true rfl) dX10_against_34) (s_X2_read hg tc_235 t6.2.1 e7) rfl rfl rfl ?_
  refine fW_rg (fun hR8 => ?_)
  refine fW_iload_n 38 dX10_against_37 rfl rfl ?_
  have gs := ga2
  by_cases c9 : a2 = 0
  · replace h := fTt h c9
    refine fW_tabIn 64 c9 (by decide) dX10_against_38 (by decide) (by decide) rfl rfl ?_
    refine fW_aload_n 65 dX10_against_64 rfl rfl ?_
    refine fW_getR 68 (r := 235) 9 hg clX10 (by decide) rfl tc_0 tf_10_9 wd_426 dX10_against_65 rfl ?_
    refine fW_iconst 69 dX10_against_68 rfl ?_
    refine fW_sipush 72 dX10_against_69 rfl (by decide) ?_
    obtain ⟨r10, e10, h⟩ := fBd h
    refine fW_cP (fI_V (as := [iv 0, iv 199]) (rest := []) miX2_keysThere hg clX2 rfl tc_235 wd_650 (fRoom_of rfl) rfl (Nat.le_of_ble_eq_true rfl) dX10_against_72) (s_X2_keysThere hg tc_235 (by decide) (by decide) e10) rfl rfl rfl (fun g10 => ?_)
    exact fW_iret rfl (by decide) (by decide) dX10_against_75 (rT_i h g10)
  replace h := fFf h c9
  by_cases c11 : a2 = 1
  · replace h := fTt h c11
    refine fW_tabIn 76 c11 (by decide) dX10_against_38 (by decide) (by decide) rfl rfl ?_
    refine fW_aload_n 77 dX10_against_76 rfl rfl ?_
    refine fW_getR 80 (r := 235) 9 hg clX10 (by decide) rfl tc_0 tf_10_9 wd_426 dX10_against_77 rfl ?_
    refine fW_aload_n 81 dX10_against_80 rfl rfl ?_
    refine fW_getR 84 (r := 232) 8 hg clX10 (by decide) rfl tc_0 tf_10_8 wd_425 dX10_against_81 rfl ?_
    obtain ⟨r12, e12, h⟩ := fBd h
    refine fW_cP (fI_V (as := [rv G 232]) (rest := []) miX2_lostIn hg clX2 rfl tc_235 wd_1149 (fRoom_of rfl) rfl (Nat.le_of_ble_eq_true rfl) dX10_against_84) (s_X2_lostIn hg tc_235 tc_232 e12) rfl rfl rfl (fun g12 => ?_)
    exact fW_iret rfl (by decide) (by decide) dX10_against_87 (rT_i h g12)
  replace h := fFf h c11
  by_cases c13 : a2 = 2
  · replace h := fTt h c13
    refine fW_tabIn 88 c13 (by decide) dX10_against_38 (by decide) (by decide) rfl rfl ?_
    refine fW_aload_n 89 dX10_against_88 rfl rfl ?_
    refine fW_getR 92 (r := 232) 8 hg clX10 (by decide) rfl tc_0 tf_10_8 wd_425 dX10_against_89 rfl ?_
    refine fW_aload_n 93 dX10_against_92 rfl rfl ?_
    refine fW_getR 96 (r := 235) 9 hg clX10 (by decide) rfl tc_0 tf_10_9 wd_426 dX10_against_93 rfl ?_
    obtain ⟨r14, e14, h⟩ := fBd h
    refine fW_cP (fI_V (as := [rv G 235]) (rest := []) miX2_missingIn hg clX2 rfl tc_232 wd_1153 (fRoom_of rfl) rfl (Nat.le_of_ble_eq_true rfl) dX10_against_96) (s_X2_missingIn hg tc_232 tc_235 e14) rfl rfl rfl (fun g14 => ?_)
    exact fW_iret rfl (by decide) (by decide) dX10_against_99 (rT_i h g14)
  replace h := fFf h c13
  refine fW_tabOut 100 gs dX10_against_38 (by omega) rfl ?_
  refine fW_aload_n 101 dX10_against_100 rfl rfl ?_
  refine fW_getR 104 (r := 143) 2 hg clX10 (by decide) rfl tc_0 tf_10_2 wd_419 dX10_against_101 rfl ?_
  refine fW_iload_n 105 dX10_against_104 rfl rfl ?_
  have t15 := ta_17 (r := 60 * a1.toNat + 238) tc_143 c5 (by omega)
  refine fW_aald 106 5 hg tc_143 (by decide) (by decide) t15.1 t15.2.2 rfl dX10_against_105 rfl ?_
  refine fW_aload_n 107 dX10_against_106 rfl rfl ?_
  refine fW_getR 110 (r := 1) 0 hg clX10 (by decide) rfl tc_0 tf_10_0 wd_417 dX10_against_107 rfl ?_
  refine fW_getR 113 (r := 2) 0 hg clX0 (by decide) rfl tc_1 (tf_0_0 tc_1) wd_248 dX10_against_110 rfl ?_
  obtain ⟨r16, e16, h⟩ := fBd h
  refine fW_cP (fI_V (as := [rv G 2]) (rest := []) miX7_shutYetIn hg clX7 rfl t15.2.1 wd_1157 (fRoom_of rfl) rfl (Nat.le_of_ble_eq_true rfl) dX10_against_113) (s_X7_shutYetIn hg t15.2.1 (tt_0_0 tc_1) e16) rfl rfl rfl (fun g16 => ?_)
  exact fW_iret rfl (by decide) (by decide) dX10_against_116 (rT_i h g16)
def mX10_between : fMt := (yX10_between, cX10_between, 3, some .int, { frames := 7, cells := 2, slots := 12, locals := 280 })
theorem miX10_between : fMv mX10_between 2 := ⟨⟨fM 1167 (by decide +kernel) rfl, fM 89 (by decide +kernel) rfl, ⟨by decide +kernel, by decide +kernel⟩, by decide +kernel⟩, fM 1165 (by decide +kernel) rfl, fM 1166 (by decide +kernel) rfl⟩
def f_X10_between (a1 : Int) (a2 : Int) (M : fMem) : Option (Int × Int × fMem) := ((f_X10_needTaken a1 M).bind fun (r1 : Int) => (if r1 = 0 then ((f_X10_needTaken a2 M).bind fun (r2 : Int) => (if r2 = 0 then (if 0 ≤ a1 ∧ a1 < 3 then ((f_X2_read 232 (60 * a1.toNat + 238) M).bind fun (r5 : fMem) => (if 0 ≤ a2 ∧ a2 < 3 then ((f_X2_read 235 (60 * a2.toNat + 238) r5).bind fun (r9 : fMem) => ((f_X2_lostIn 232 235 r9).bind fun (r11 : Int) => ((f_X2_missingIn 235 232 r9).bind fun (r12 : Int) => (if -2147483648 ≤ r11 + r12 ∧ r11 + r12 < 2147483648 then some (0, r11 + r12, r9) else none)))) else none)) else none) else some (r2, 0, M))) else some (r1, 0, M)))
set_option maxRecDepth 100000 in
set_option maxHeartbeats 4000000 in
theorem s_X10_between {G : fG} (hg : gbt G = true) {a1 : Int} (ga1 : rg a1) {a2 : Int} (ga2 : rg a2) {M : fMem} {q : Int × Int × fMem} (h : f_X10_between a1 a2 M = some q) : fSp G mX10_between [rv G 0, iv a1, iv a2] M (rT q) (xT q.1 q.2.2) := by
  refine fSp_of (by decide +kernel) (by decide +kernel) (fC1 rfl (fC1 rfl (fC1 rfl fC0))) (Nat.le_of_ble_eq_true rfl) ?_
  show fW G mX10_between (fEm G mX10_between (rT q) (xT q.1 q.2.2)) 0 0 0 [some (rv G 0), some (iv a1), some (iv a2)] [] M
  rw [f_X10_between] at h
  refine fW_rg (fun hR => ?_)
  refine fW_aload_n 1 dX10_between_0 rfl rfl ?_
  refine fW_iload_n 2 dX10_between_1 rfl rfl ?_
  obtain ⟨r1, e1, h⟩ := fBd h
  refine fW_cU 1 6 (by decide +kernel) (fI_V (as := [iv a1]) (rest := []) miX10_needTaken hg clX10 rfl tc_0 wd_1137 (fRoom_of rfl) rfl (Nat.le_of_ble_eq_true rfl) dX10_between_2) (s_X10_needTaken hg ga1 e1) rfl rfl rfl (by decide) (by decide) (fun cx => xU_T cx (fFf h cx)) (fun cx => ?_)
  replace h := fTt h cx
  refine fW_aload_n 6 dX10_between_5 rfl rfl ?_
  refine fW_iload_n 7 dX10_between_6 rfl rfl ?_
  obtain ⟨r2, e2, h⟩ := fBd h
  refine fW_cU 2 12 (by decide +kernel) (fI_V (as := [iv a2]) (rest := []) miX10_needTaken hg clX10 rfl tc_0 wd_1137 (fRoom_of rfl) rfl (Nat.le_of_ble_eq_true rfl) dX10_between_7) (s_X10_needTaken hg ga2 e2) rfl rfl rfl (by decide) (by decide) (fun cx => xU_T cx (fFf h cx)) (fun cx => ?_)
  replace h := fTt h cx
  refine fW_aload_n 11 dX10_between_10 rfl rfl ?_
  refine fW_getR 14 (r := 232) 8 hg clX10 (by decide) rfl tc_0 tf_10_8 wd_425 dX10_between_11 rfl ?_
  refine fW_aload_n 15 dX10_between_14 rfl rfl ?_
  refine fW_getR 18 (r := 143) 2 hg clX10 (by decide) rfl tc_0 tf_10_2 wd_419 dX10_between_15 rfl ?_
  refine fW_iload_n 19 dX10_between_18 rfl rfl ?_
  obtain ⟨c3, h⟩ := fS h
  have t4 := ta_17 (r := 60 * a1.toNat + 238) tc_143 c3 (by omega)
  refine fW_aald 20 5 hg tc_143 (by decide) (by decide) t4.1 t4.2.2 rfl dX10_between_19 rfl ?_
  obtain ⟨r5, e5, h⟩ := fBd h
  refine fW_cV (fI_V (as := [rv G (60 * a1.toNat + 238)]) (rest := []) miX2_read hg clX2 rfl tc_232 wd_626 (fRoom_of rfl) rfl (Nat.le_of_ble_eq_true rfl) dX10_between_20) (s_X2_read hg tc_232 t4.2.1 e5) rfl rfl rfl ?_
  refine fW_rg (fun hR6 => ?_)
  refine fW_aload_n 24 dX10_between_23 rfl rfl ?_
  refine fW_getR 27 (r := 235) 9 hg clX10 (by decide) rfl tc_0 tf_10_9 wd_426 dX10_between_24 rfl ?_
  refine fW_aload_n 28 dX10_between_27 rfl rfl ?_
  refine fW_getR 31 (r := 143) 2 hg clX10 (by decide) rfl tc_0 tf_10_2 wd_419 dX10_between_28 rfl ?_
  refine fW_iload_n 32 dX10_between_31 rfl rfl ?_
  obtain ⟨c7, h⟩ := fS h
  have t8 := ta_17 (r := 60 * a2.toNat + 238) tc_143 c7 (by omega)
  refine fW_aald 33 5 hg tc_143 (by decide) (by decide) t8.1 t8.2.2 rfl dX10_between_32 rfl ?_
  obtain ⟨r9, e9, h⟩ := fBd h
  refine fW_cV (fI_V (as := [rv G (60 * a2.toNat + 238)]) (rest := []) miX2_read hg clX2 rfl tc_235 wd_626 (fRoom_of rfl) rfl (Nat.le_of_ble_eq_true rfl) dX10_between_33) (s_X2_read hg tc_235 t8.2.1 e9) rfl rfl rfl ?_
  refine fW_rg (fun hR10 => ?_)
  refine fW_aload_n 37 dX10_between_36 rfl rfl ?_
  refine fW_getR 40 (r := 232) 8 hg clX10 (by decide) rfl tc_0 tf_10_8 wd_425 dX10_between_37 rfl ?_
  refine fW_aload_n 41 dX10_between_40 rfl rfl ?_
  refine fW_getR 44 (r := 235) 9 hg clX10 (by decide) rfl tc_0 tf_10_9 wd_426 dX10_between_41 rfl ?_
  obtain ⟨r11, e11, h⟩ := fBd h
  refine fW_cP (fI_V (as := [rv G 235]) (rest := []) miX2_lostIn hg clX2 rfl tc_232 wd_1149 (fRoom_of rfl) rfl (Nat.le_of_ble_eq_true rfl) dX10_between_44) (s_X2_lostIn hg tc_232 tc_235 e11) rfl rfl rfl (fun g11 => ?_)
  refine fW_aload_n 48 dX10_between_47 rfl rfl ?_
  refine fW_getR 51 (r := 235) 9 hg clX10 (by decide) rfl tc_0 tf_10_9 wd_426 dX10_between_48 rfl ?_
  refine fW_aload_n 52 dX10_between_51 rfl rfl ?_
  refine fW_getR 55 (r := 232) 8 hg clX10 (by decide) rfl tc_0 tf_10_8 wd_425 dX10_between_52 rfl ?_
  obtain ⟨r12, e12, h⟩ := fBd h
  refine fW_cP (fI_V (as := [rv G 232]) (rest := [iv r11]) miX2_missingIn hg clX2 rfl tc_235 wd_1153 (fRoom_of rfl) rfl (Nat.le_of_ble_eq_true rfl) dX10_between_55) (s_X2_missingIn hg tc_235 tc_232 e12) rfl rfl rfl (fun g12 => ?_)
  refine fW_iadd 59 dX10_between_58 rfl ?_
  obtain ⟨c13, h⟩ := fS h
  exact fW_iret rfl (by decide) (by decide) dX10_between_59 (rT_i h c13)
def mX10_restore : fMt := (yX10_restore, cX10_restore, 2, some .int, { frames := 4, cells := 0, slots := 0, locals := 160 })
theorem miX10_restore : fMv mX10_restore 1 := ⟨⟨fM 698 (by decide +kernel) rfl, fM 89 (by decide +kernel) rfl, ⟨by decide +kernel, by decide +kernel⟩, by decide +kernel⟩, fM 696 (by decide +kernel) rfl, fM 697 (by decide +kernel) rfl⟩
def f_X10_restore (a1 : Int) (M : fMem) : Option (Int × fMem) := ((f_X10_isTaken a1 M).bind fun (r1 : Int) => (if r1 = 0 then some ((-1), M) else ((f_X0_freeAll 1 M).bind fun (r3 : fMem) => (if 0 ≤ a1 ∧ a1 < 3 then ((f_X7_copyShut 2 (60 * a1.toNat + 238) r3).bind fun (r7 : fMem) => ((f_X0_askLevels 1 r7).bind fun (r9 : fMem) => ((some (mset r9 0 11 1)).bind fun (N11 : fMem) => ((f_X7_arrange 2 N11).bind fun (r12 : Int × fMem) => some (r12.1, r12.2))))) else none))))
set_option maxRecDepth 100000 in
set_option maxHeartbeats 4000000 in
theorem s_X10_restore {G : fG} (hg : gbt G = true) {a1 : Int} (ga1 : rg a1) {M : fMem} {q : Int × fMem} (h : f_X10_restore a1 M = some q) : fSp G mX10_restore [rv G 0, iv a1] M (rP q.2 q.1) fNo := by
  refine fSp_of (by decide +kernel) (by decide +kernel) (fC1 rfl (fC1 rfl fC0)) (Nat.le_of_ble_eq_true rfl) ?_
  show fW G mX10_restore (fEm G mX10_restore (rP q.2 q.1) fNo) 0 0 0 [some (rv G 0), some (iv a1)] [] M
  rw [f_X10_restore] at h
  refine fW_rg (fun hR => ?_)
  refine fW_aload_n 1 dX10_restore_0 rfl rfl ?_
  refine fW_iload_n 2 dX10_restore_1 rfl rfl ?_
  obtain ⟨r1, e1, h⟩ := fBd h
  refine fW_cB (fI_V (as := [iv a1]) (rest := []) miX10_isTaken hg clX10 rfl tc_0 wd_691 (fRoom_of rfl) rfl (Nat.le_of_ble_eq_true rfl) dX10_restore_2) (s_X10_isTaken hg ga1 e1) rfl rfl rfl (fun g1 => ?_)
  refine fW_if_ne 8 10 (rg_z g1) dX10_restore_5 rfl rfl (fun c2 => ?_) (fun c2 => ?_)
  · replace h := fFf h c2
    refine fW_aload_n 11 dX10_restore_10 rfl rfl ?_
    refine fW_getR 14 (r := 1) 0 hg clX10 (by decide) rfl tc_0 tf_10_0 wd_417 dX10_restore_11 rfl ?_
    obtain ⟨r3, e3, h⟩ := fBd h
    refine fW_cV (fI_V (as := []) (rest := []) miX0_freeAll hg clX0 rfl tc_1 wd_641 (fRoom_of rfl) rfl (Nat.le_of_ble_eq_true rfl) dX10_restore_14) (s_X0_freeAll hg tc_1 e3) rfl rfl rfl ?_
    refine fW_rg (fun hR4 => ?_)
    refine fW_aload_n 18 dX10_restore_17 rfl rfl ?_
    refine fW_getR 21 (r := 1) 0 hg clX10 (by decide) rfl tc_0 tf_10_0 wd_417 dX10_restore_18 rfl ?_
    refine fW_getR 24 (r := 2) 0 hg clX0 (by decide) rfl tc_1 (tf_0_0 tc_1) wd_248 dX10_restore_21 rfl ?_
    refine fW_aload_n 25 dX10_restore_24 rfl rfl ?_
    refine fW_getR 28 (r := 143) 2 hg clX10 (by decide) rfl tc_0 tf_10_2 wd_419 dX10_restore_25 rfl ?_
    refine fW_iload_n 29 dX10_restore_28 rfl rfl ?_
    obtain ⟨c5, h⟩ := fS h
    have t6 := ta_17 (r := 60 * a1.toNat + 238) tc_143 c5 (by omega)
    refine fW_aald 30 5 hg tc_143 (by decide) (by decide) t6.1 t6.2.2 rfl dX10_restore_29 rfl ?_
    obtain ⟨r7, e7, h⟩ := fBd h
    refine fW_cV (fI_V (as := [rv G (60 * a1.toNat + 238)]) (rest := []) miX7_copyShut hg clX7 rfl (tt_0_0 tc_1) wd_675 (fRoom_of rfl) rfl (Nat.le_of_ble_eq_true rfl) dX10_restore_30) (s_X7_copyShut hg (tt_0_0 tc_1) t6.2.1 e7) rfl rfl rfl ?_
    refine fW_rg (fun hR8 => ?_)
    refine fW_aload_n 34 dX10_restore_33 rfl rfl ?_
    refine fW_getR 37 (r := 1) 0 hg clX10 (by decide) rfl tc_0 tf_10_0 wd_417 dX10_restore_34 rfl ?_
    obtain ⟨r9, e9, h⟩ := fBd h
    refine fW_cV (fI_V (as := []) (rest := []) miX0_askLevels hg clX0 rfl tc_1 wd_699 (fRoom_of rfl) rfl (Nat.le_of_ble_eq_true rfl) dX10_restore_37) (s_X0_askLevels hg tc_1 e9) rfl rfl rfl ?_
    refine fW_rg (fun hR10 => ?_)
    refine fW_aload_n 41 dX10_restore_40 rfl rfl ?_
    refine fW_iconst 42 dX10_restore_41 rfl ?_
    obtain ⟨N11, e11, h⟩ := fBd h
    replace e11 := Option.some.inj e11
    refine fW_putZ 45 11 (ji := 11) hg clX10 rfl (by decide) rfl rfl rfl tc_0 (by decide) wd_428 dX10_restore_42 rfl ?_
    rw [e11]
    refine fW_rg (fun hR11 => ?_)
    refine fW_aload_n 46 dX10_restore_45 rfl rfl ?_
    refine fW_getR 49 (r := 1) 0 hg clX10 (by decide) rfl tc_0 tf_10_0 wd_417 dX10_restore_46 rfl ?_
    refine fW_getR 52 (r := 2) 0 hg clX0 (by decide) rfl tc_1 (tf_0_0 tc_1) wd_248 dX10_restore_49 rfl ?_
    obtain ⟨r12, e12, h⟩ := fBd h
    refine fW_cP (fI_V (as := []) (rest := []) miX7_arrange hg clX7 rfl (tt_0_0 tc_1) wd_596 (fRoom_of rfl) rfl (Nat.le_of_ble_eq_true rfl) dX10_restore_52) (s_X7_arrange hg (tt_0_0 tc_1) e12) rfl rfl rfl (fun g12 => ?_)
    refine fW_rg (fun hR13 => ?_)
    exact fW_iret rfl (by decide) (by decide) dX10_restore_55 (rI_i h g12)
  · replace h := fTt h c2
    refine fW_iconst 9 dX10_restore_8 rfl ?_
    exact fW_iret rfl (by decide) (by decide) dX10_restore_9 (rI_i h (by decide))
def mX10_thingRoom : fMt := (yX10_thingRoom, cX10_thingRoom, 1, some .int, { frames := 1, cells := 0, slots := 0, locals := 40 })
theorem miX10_thingRoom : fMs mX10_thingRoom 1 := ⟨⟨fM 136 (by decide +kernel) rfl, fM 89 (by decide +kernel) rfl, ⟨by decide +kernel, by decide +kernel⟩, by decide +kernel⟩, fM 135 (by decide +kernel) rfl⟩
def f_X10_thingRoom (a1 : Int) (M : fMem) : Option (Int) := (if 0 ≤ a1 ∧ a1 < 32 then (if -2147483648 ≤ (1 : Int) * 2 ^ a1.toNat ∧ (1 : Int) * 2 ^ a1.toNat < 2147483648 then some (min ((1 : Int) * 2 ^ a1.toNat) 200) else none) else none)
set_option maxRecDepth 100000 in
set_option maxHeartbeats 4000000 in
theorem s_X10_thingRoom {G : fG}  {a1 : Int} (ga1 : rg a1) {M : fMem} {q : Int} (h : f_X10_thingRoom a1 M = some q) : fSp G mX10_thingRoom [iv a1] M (rP M q) fNo := by
  refine fSp_of (by decide +kernel) (by decide +kernel) (fC1 rfl fC0) (Nat.le_of_ble_eq_true rfl) ?_
  show fW G mX10_thingRoom (fEm G mX10_thingRoom (rP M q) fNo) 0 0 0 [some (iv a1)] [] M
  rw [f_X10_thingRoom] at h
  refine fW_rg (fun hR => ?_)
  refine fW_iconst 1 dX10_thingRoom_0 rfl ?_
  refine fW_iload_n 2 dX10_thingRoom_1 rfl rfl ?_
  obtain ⟨c1, h⟩ := fS h
  refine fW_ishl 3 c1 dX10_thingRoom_2 rfl ?_
  refine fW_sipush 6 dX10_thingRoom_3 rfl (by decide) ?_
  obtain ⟨c2, h⟩ := fS h
  refine fW_mmin 9 c2 (by decide) wd_137 (by decide) (Nat.le_of_ble_eq_true rfl) (by decide) (by decide) dX10_thingRoom_6 rfl ?_
  exact fW_iret rfl (by decide) (by decide) dX10_thingRoom_9 (rP_i h (rg_min c2 (by decide)))
end MTH
