section MTH
def mX10_entry : fMt := (yX10_entry, cX10_entry, 6, some .int, { frames := 9, cells := 5, slots := 30, locals := 360 })
theorem miX10_entry : fMv mX10_entry 4 := ⟨⟨fM 1014 (by decide +kernel) rfl, fM 89 (by decide +kernel) rfl, ⟨by decide +kernel, by decide +kernel⟩, by decide +kernel⟩, fM 1012 (by decide +kernel) rfl, fM 1013 (by decide +kernel) rfl⟩
def f_X10_entry (a1 : Int) (a2 : Int) (a3 : Int) (a4 : Int) (M : fMem) : Option (Int × Int × fMem) := ((f_X10_needShut a1 a2 M).bind fun (r1 : Int) => (if r1 = 0 then ((f_X10_needWhat a4 4 M).bind fun (r2 : Int) => (if r2 = 0 then ((f_X10_refresh M).bind fun (r3 : fMem) => ((f_X10_at a1 a2 r3).bind fun (r5 : Int) => (if 0 ≤ r5 ∧ r5 < 19 then (if a3 < 0 then some (1, 0, r3) else (if a3 < (r3 (4 * psO r5.toNat + 151) 3) then (if a4 = 0 then ((f_X1_keyAt (4 * psO r5.toNat + 151) a3 r3).bind fun (r11 : Int) => some (0, r11, r3)) else (if a4 = 1 then ((f_X1_kindAt (4 * psO r5.toNat + 151) a3 r3).bind fun (r13 : Int) => some (0, r13, r3)) else (if a4 = 2 then ((f_X1_valueAt (4 * psO r5.toNat + 151) a3 r3).bind fun (r15 : Int) => some (0, r15, r3)) else ((f_X1_placeAt (4 * psO r5.toNat + 151) a3 r3).bind fun (r16 : Int) => some (0, r16, r3))))) else some (1, 0, r3))) else none))) else some (r2, 0, M))) else some (r1, 0, M)))
set_option maxRecDepth 100000 in
set_option maxHeartbeats 4000000 in
theorem s_X10_entry {G : fG} (hg : gbt G = true) {a1 : Int} (ga1 : rg a1) {a2 : Int} (ga2 : rg a2) {a3 : Int} (ga3 : rg a3) {a4 : Int} (ga4 : rg a4) {M : fMem} {q : Int × Int × fMem} (h : f_X10_entry a1 a2 a3 a4 M = some q) : fSp G mX10_entry [rv G 0, iv a1, iv a2, iv a3, iv a4] M (rT q) (xT q.1 q.2.2) := by
  refine fSp_of (by decide +kernel) (by decide +kernel) (fC1 rfl (fC1 rfl (fC1 rfl (fC1 rfl (fC1 rfl fC0))))) (Nat.le_of_ble_eq_true rfl) ?_
  show fW G mX10_entry (fEm G mX10_entry (rT q) (xT q.1 q.2.2)) 0 0 0 [some (rv G 0), some (iv a1), some (iv a2), some (iv a3), some (iv a4), none] [] M
  rw [f_X10_entry] at h
  refine fW_rg (fun hR => ?_)
  refine fW_aload_n 1 dX10_entry_0 rfl rfl ?_
  refine fW_iload_n 2 dX10_entry_1 rfl rfl ?_
  refine fW_iload_n 3 dX10_entry_2 rfl rfl ?_
  obtain ⟨r1, e1, h⟩ := fBd h
  refine fW_cU 3 18 (by decide +kernel) (fI_V (as := [iv a1, iv a2]) (rest := []) miX10_needShut hg clX10 rfl tc_0 wd_877 (fRoom_of rfl) rfl (Nat.le_of_ble_eq_true rfl) dX10_entry_3) (s_X10_needShut hg ga1 ga2 e1) rfl rfl rfl (by decide) (by decide) (fun cx => xU_T cx (fFf h cx)) (fun cx => ?_)
  replace h := fTt h cx
  refine fW_iload 8 dX10_entry_6 rfl rfl ?_
  refine fW_iconst 9 dX10_entry_8 rfl ?_
  obtain ⟨r2, e2, h⟩ := fBd h
  refine fW_cU 4 24 (by decide +kernel) (fI_S (as := [iv a4, iv 4]) (rest := []) miX10_needWhat rfl wd_910 (fRoom_of rfl) rfl (Nat.le_of_ble_eq_true rfl) dX10_entry_9) (s_X10_needWhat hg ga4 (by decide) e2) rfl rfl rfl (by decide) (by decide) (fun cx => xU_T cx (fFf h cx)) (fun cx => ?_)
  replace h := fTt h cx
  refine fW_aload_n 13 dX10_entry_12 rfl rfl ?_
  obtain ⟨r3, e3, h⟩ := fBd h
  refine fW_cV (fI_V (as := []) (rest := []) miX10_refresh hg clX10 rfl tc_0 wd_778 (fRoom_of rfl) rfl (Nat.le_of_ble_eq_true rfl) dX10_entry_13) (s_X10_refresh hg e3) rfl rfl rfl ?_
  refine fW_rg (fun hR4 => ?_)
  refine fW_aload_n 17 dX10_entry_16 rfl rfl ?_
  refine fW_getR 20 (r := 149) 6 hg clX10 (by decide) rfl tc_0 tf_10_6 wd_423 dX10_entry_17 rfl ?_
  refine fW_getR 23 (r := 150) 0 hg clX3 (by decide) rfl tc_149 tf_3_0 wd_363 dX10_entry_20 rfl ?_
  refine fW_iload_n 24 dX10_entry_23 rfl rfl ?_
  refine fW_iload_n 25 dX10_entry_24 rfl rfl ?_
  obtain ⟨r5, e5, h⟩ := fBd h
  refine fW_cP (fI_S (as := [iv a1, iv a2]) (rest := [rv G 150]) miX10_at rfl wd_661 (fRoom_of rfl) rfl (Nat.le_of_ble_eq_true rfl) dX10_entry_25) (s_X10_at hg ga1 ga2 e5) rfl rfl rfl (fun g5 => ?_)
  obtain ⟨c6, h⟩ := fS h
  have t7 := ta_14 (r := 4 * psO r5.toNat + 151) tc_150 c6 (by omega)
  refine fW_aald 29 2 hg tc_150 (by decide) (by decide) t7.1 t7.2.2 rfl dX10_entry_28 rfl ?_
  refine fW_astore 31 (ls' := [some (rv G 0), some (iv a1), some (iv a2), some (iv a3), some (iv a4), some (rv G (4 * psO r5.toNat + 151))]) dX10_entry_29 rfl rfl (by decide) ?_
  refine fW_iload_n 32 dX10_entry_31 rfl rfl ?_
  refine fW_if_lt 35 44 ga3 dX10_entry_32 rfl rfl (fun c8 => ?_) (fun c8 => ?_)
  · replace h := fTt h c8
    exact fW_throwW hg rfl th1 (text := _) (fStr_274) dX10_entry_44 dX10_entry_47 dX10_entry_48 dX10_entry_51 dX10_entry_54 (by decide) (Nat.le_of_ble_eq_true rfl) (by decide) (by decide) (xT_1 h)
  · replace h := fFf h c8
    refine fW_iload_n 36 dX10_entry_35 rfl rfl ?_
    refine fW_aload 38 dX10_entry_36 rfl rfl ?_
    refine fW_getI 41 3 (ji := 3) hg clX1 rfl (by decide) rfl t7.2.1 wd_347 dX10_entry_38 rfl ?_
    refine fW_icmp_lt 44 55 ga3 (hR4 (4 * psO r5.toNat + 151) 3) dX10_entry_41 rfl rfl (fun c9 => ?_) (fun c9 => ?_)
    · replace h := fTt h c9
      refine fW_iload 57 dX10_entry_55 rfl rfl ?_
      have gs := ga4
      by_cases c10 : a4 = 0
      · replace h := fTt h c10
        refine fW_tabIn 84 c10 (by decide) dX10_entry_57 (by decide) (by decide) rfl rfl ?_
        refine fW_aload 86 dX10_entry_84 rfl rfl ?_
        refine fW_iload_n 87 dX10_entry_86 rfl rfl ?_
        obtain ⟨r11, e11, h⟩ := fBd h
        refine fW_cP (fI_V (as := [iv a3]) (rest := []) miX1_keyAt hg clX1 rfl t7.2.1 wd_1016 (fRoom_of rfl) rfl (Nat.le_of_ble_eq_true rfl) dX10_entry_87) (s_X1_keyAt hg t7.2.1 ga3 e11) rfl rfl rfl (fun g11 => ?_)
        exact fW_iret rfl (by decide) (by decide) dX10_entry_90 (rT_i h g11)
      replace h := fFf h c10
      by_cases c12 : a4 = 1
      · replace h := fTt h c12
        refine fW_tabIn 91 c12 (by decide) dX10_entry_57 (by decide) (by decide) rfl rfl ?_
        refine fW_aload 93 dX10_entry_91 rfl rfl ?_
        refine fW_iload_n 94 dX10_entry_93 rfl rfl ?_
        obtain ⟨r13, e13, h⟩ := fBd h
        refine fW_cP (fI_V (as := [iv a3]) (rest := []) miX1_kindAt hg clX1 rfl t7.2.1 wd_1017 (fRoom_of rfl) rfl (Nat.le_of_ble_eq_true rfl) dX10_entry_94) (s_X1_kindAt hg t7.2.1 ga3 e13) rfl rfl rfl (fun g13 => ?_)
        exact fW_iret rfl (by decide) (by decide) dX10_entry_97 (rT_i h g13)
      replace h := fFf h c12
      by_cases c14 : a4 = 2
      · replace h := fTt h c14
        refine fW_tabIn 98 c14 (by decide) dX10_entry_57 (by decide) (by decide) rfl rfl ?_
        refine fW_aload 100 dX10_entry_98 rfl rfl ?_
        refine fW_iload_n 101 dX10_entry_100 rfl rfl ?_
        obtain ⟨r15, e15, h⟩ := fBd h
        refine fW_cP (fI_V (as := [iv a3]) (rest := []) miX1_valueAt hg clX1 rfl t7.2.1 wd_1026 (fRoom_of rfl) rfl (Nat.le_of_ble_eq_true rfl) dX10_entry_101) (s_X1_valueAt hg t7.2.1 ga3 e15) rfl rfl rfl (fun g15 => ?_)
        exact fW_iret rfl (by decide) (by decide) dX10_entry_104 (rT_i h g15)
      replace h := fFf h c14
      refine fW_tabOut 105 gs dX10_entry_57 (by omega) rfl ?_
      refine fW_aload 107 dX10_entry_105 rfl rfl ?_
      refine fW_iload_n 108 dX10_entry_107 rfl rfl ?_
      obtain ⟨r16, e16, h⟩ := fBd h
      refine fW_cP (fI_V (as := [iv a3]) (rest := []) miX1_placeAt hg clX1 rfl t7.2.1 wd_1027 (fRoom_of rfl) rfl (Nat.le_of_ble_eq_true rfl) dX10_entry_108) (s_X1_placeAt hg t7.2.1 ga3 e16) rfl rfl rfl (fun g16 => ?_)
      exact fW_iret rfl (by decide) (by decide) dX10_entry_111 (rT_i h g16)
    · replace h := fFf h c9
      exact fW_throwW hg rfl th1 (text := _) (fStr_274) dX10_entry_44 dX10_entry_47 dX10_entry_48 dX10_entry_51 dX10_entry_54 (by decide) (Nat.le_of_ble_eq_true rfl) (by decide) (by decide) (xT_1 h)
def mX10_keysNow : fMt := (yX10_keysNow, cX10_keysNow, 2, some .int, { frames := 3, cells := 0, slots := 0, locals := 120 })
theorem miX10_keysNow : fMv mX10_keysNow 1 := ⟨⟨fM 1038 (by decide +kernel) rfl, fM 89 (by decide +kernel) rfl, ⟨by decide +kernel, by decide +kernel⟩, by decide +kernel⟩, fM 1037 (by decide +kernel) rfl, fM 25 (by decide +kernel) rfl⟩
def f_X10_keysNow (p1 : Nat) (M : fMem) : Option (Int × fMem) := ((f_X2_read 232 p1 M).bind fun (r1 : fMem) => ((f_X2_keysThere 232 0 199 r1).bind fun (r3 : Int) => some (r3, r1)))
set_option maxRecDepth 100000 in
set_option maxHeartbeats 4000000 in
theorem s_X10_keysNow {G : fG} (hg : gbt G = true) {p1 : Nat} (hp1 : fTyp p1 7) {M : fMem} {q : Int × fMem} (h : f_X10_keysNow p1 M = some q) : fSp G mX10_keysNow [rv G 0, rv G p1] M (rP q.2 q.1) fNo := by
  refine fSp_of (by decide +kernel) (by decide +kernel) (fC1 rfl (fC1 rfl fC0)) (Nat.le_of_ble_eq_true rfl) ?_
  show fW G mX10_keysNow (fEm G mX10_keysNow (rP q.2 q.1) fNo) 0 0 0 [some (rv G 0), some (rv G p1)] [] M
  rw [f_X10_keysNow] at h
  refine fW_rg (fun hR => ?_)
  refine fW_aload_n 1 dX10_keysNow_0 rfl rfl ?_
  refine fW_getR 4 (r := 232) 8 hg clX10 (by decide) rfl tc_0 tf_10_8 wd_425 dX10_keysNow_1 rfl ?_
  refine fW_aload_n 5 dX10_keysNow_4 rfl rfl ?_
  obtain ⟨r1, e1, h⟩ := fBd h
  refine fW_cV (fI_V (as := [rv G p1]) (rest := []) miX2_read hg clX2 rfl tc_232 wd_626 (fRoom_of rfl) rfl (Nat.le_of_ble_eq_true rfl) dX10_keysNow_5) (s_X2_read hg tc_232 hp1 e1) rfl rfl rfl ?_
  refine fW_rg (fun hR2 => ?_)
  refine fW_aload_n 9 dX10_keysNow_8 rfl rfl ?_
  refine fW_getR 12 (r := 232) 8 hg clX10 (by decide) rfl tc_0 tf_10_8 wd_425 dX10_keysNow_9 rfl ?_
  refine fW_iconst 13 dX10_keysNow_12 rfl ?_
  refine fW_sipush 16 dX10_keysNow_13 rfl (by decide) ?_
  obtain ⟨r3, e3, h⟩ := fBd h
  refine fW_cP (fI_V (as := [iv 0, iv 199]) (rest := []) miX2_keysThere hg clX2 rfl tc_232 wd_650 (fRoom_of rfl) rfl (Nat.le_of_ble_eq_true rfl) dX10_keysNow_16) (s_X2_keysThere hg tc_232 (by decide) (by decide) e3) rfl rfl rfl (fun g3 => ?_)
  exact fW_iret rfl (by decide) (by decide) dX10_keysNow_19 (rI_i h g3)
def mX10_mostLooks : fMt := (yX10_mostLooks, cX10_mostLooks, 4, some .int, { frames := 6, cells := 0, slots := 0, locals := 240 })
theorem miX10_mostLooks : fMv mX10_mostLooks 1 := ⟨⟨fM 1056 (by decide +kernel) rfl, fM 89 (by decide +kernel) rfl, ⟨by decide +kernel, by decide +kernel⟩, by decide +kernel⟩, fM 1055 (by decide +kernel) rfl, fM 26 (by decide +kernel) rfl⟩
def L_X10_mostLooks_8  (k : Int → fMem → Option (Int × fMem)) : Nat → Int → Int → Int → fMem → Option (Int × fMem)
  | 0, _, _, _, _ => none
  | n + 1, v1, v2, v3, M => (if 200 ≤ v3 then k v2 M else (if 0 ≤ v1 ∧ v1 ≤ 1 then ((f_X10_looksFor v3 v1 M).bind fun (r5 : Int × fMem) => L_X10_mostLooks_8  k n v1 (max v2 r5.1) (v3 + 1) r5.2) else none))
set_option maxRecDepth 100000 in
set_option maxHeartbeats 4000000 in
theorem l_X10_mostLooks_8 {G : fG} (hg : gbt G = true)  {q : Int × fMem} {k : Int → fMem → Option (Int × fMem)} (hk : ∀ (v2 : Int) (M : fMem), rg v2 → k v2 M = some q → fW G mX10_mostLooks (fEm G mX10_mostLooks (rP q.2 q.1) fNo) 0 0 32 [some (rv G 0), none, some (iv v2), none] [] M) : ∀ (n : Nat) (v1 : Int) (v2 : Int) (v3 : Int) (M : fMem), rg v1 → rg v2 → rg v3 → L_X10_mostLooks_8 k n v1 v2 v3 M = some q → fW G mX10_mostLooks (fEm G mX10_mostLooks (rP q.2 q.1) fNo) 0 0 8 [some (rv G 0), some (iv v1), some (iv v2), some (iv v3)] [] M := by
  intro n
  induction n with
  | zero =>
    intro v1 v2 v3 M gv1 gv2 gv3 h
    rw [L_X10_mostLooks_8] at h
    exact absurd h (by simp)
  | succ n ih =>
    intro v1 v2 v3 M gv1 gv2 gv3 h
    rw [L_X10_mostLooks_8] at h
    refine fW_rg (fun hR => ?_)
    refine fW_iload_n 9 dX10_mostLooks_8 rfl rfl ?_
    refine fW_sipush 12 dX10_mostLooks_9 rfl (by decide) ?_
    refine fW_icmp_ge 15 32 gv3 (by decide) dX10_mostLooks_12 rfl rfl (fun c3 => ?_) (fun c3 => ?_)
    · replace h := fTt h c3
      exact fW_sb (hk v2 M gv2 h) ⟨rfl, rfl, trivial⟩
    · replace h := fFf h c3
      refine fW_iload_n 16 dX10_mostLooks_15 rfl rfl ?_
      refine fW_aload_n 17 dX10_mostLooks_16 rfl rfl ?_
      refine fW_iload_n 18 dX10_mostLooks_17 rfl rfl ?_
      refine fW_iload_n 19 dX10_mostLooks_18 rfl rfl ?_
      obtain ⟨c4, h⟩ := fS h
      obtain ⟨r5, e5, h⟩ := fBd h
      refine fW_cP (fI_V (as := [iv v3, iv v1]) (rest := [iv v2]) miX10_looksFor hg clX10 rfl tc_0 wd_823 (fRoom_of rfl) rfl (Nat.le_of_ble_eq_true rfl) dX10_mostLooks_19) (s_X10_looksFor hg gv3 c4 e5) rfl rfl rfl (fun g5 => ?_)
      refine fW_rg (fun hR6 => ?_)
      refine fW_mmax 25 gv2 g5 wd_1057 (by decide) (Nat.le_of_ble_eq_true rfl) (by decide) (by decide) dX10_mostLooks_22 rfl ?_
      refine fW_istore_n 26 (ls' := [some (rv G 0), some (iv v1), some (iv (max v2 r5.1)), some (iv v3)]) dX10_mostLooks_25 rfl rfl rfl (by decide) ?_
      refine fW_iinc 29 (ls' := [some (rv G 0), some (iv v1), some (iv (max v2 r5.1)), some (iv (v3 + 1))]) dX10_mostLooks_26 rfl rfl rfl (by decide) ?_
      refine fW_goto 8 dX10_mostLooks_29 rfl ?_
      exact fW_sb (ih v1 (max v2 r5.1) (v3 + 1) r5.2 gv1 (rg_max gv2 g5) (rg_succ' gv3 (by decide) c3) h) ⟨rfl, rfl, rfl, rfl, trivial⟩
def f_X10_mostLooks (a1 : Int) (M : fMem) : Option (Int × fMem) := ((f_X10_refresh M).bind fun (r1 : fMem) => L_X10_mostLooks_8 (fun (v2_7 : Int) (M_7 : fMem) => some (v2_7, M_7)) 20000 a1 0 0 r1)
set_option maxRecDepth 100000 in
set_option maxHeartbeats 4000000 in
theorem s_X10_mostLooks {G : fG} (hg : gbt G = true) {a1 : Int} (ga1 : 0 ≤ a1 ∧ a1 ≤ 1) {M : fMem} {q : Int × fMem} (h : f_X10_mostLooks a1 M = some q) : fSp G mX10_mostLooks [rv G 0, iv a1] M (rP q.2 q.1) fNo := by
  refine fSp_of (by decide +kernel) (by decide +kernel) (fC1 rfl (fC1 rfl fC0)) (Nat.le_of_ble_eq_true rfl) ?_
  show fW G mX10_mostLooks (fEm G mX10_mostLooks (rP q.2 q.1) fNo) 0 0 0 [some (rv G 0), some (iv a1), none, none] [] M
  rw [f_X10_mostLooks] at h
  refine fW_rg (fun hR => ?_)
  refine fW_aload_n 1 dX10_mostLooks_0 rfl rfl ?_
  obtain ⟨r1, e1, h⟩ := fBd h
  refine fW_cV (fI_V (as := []) (rest := []) miX10_refresh hg clX10 rfl tc_0 wd_778 (fRoom_of rfl) rfl (Nat.le_of_ble_eq_true rfl) dX10_mostLooks_1) (s_X10_refresh hg e1) rfl rfl rfl ?_
  refine fW_rg (fun hR2 => ?_)
  refine fW_iconst 5 dX10_mostLooks_4 rfl ?_
  refine fW_istore_n 6 (ls' := [some (rv G 0), some (iv a1), some (iv 0), none]) dX10_mostLooks_5 rfl rfl rfl (by decide) ?_
  refine fW_iconst 7 dX10_mostLooks_6 rfl ?_
  refine fW_istore_n 8 (ls' := [some (rv G 0), some (iv a1), some (iv 0), some (iv 0)]) dX10_mostLooks_7 rfl rfl rfl (by decide) ?_
  refine fW_sb (l_X10_mostLooks_8 hg ?_ 20000 a1 0 0 r1 (rg_z ga1) (by decide) (by decide) h) ⟨rfl, rfl, rfl, rfl, trivial⟩
  intro v2_7 M_7 gv2_7 h
  refine fW_rg (fun hR_7 => ?_)
  refine fW_iload_n 33 dX10_mostLooks_32 rfl rfl ?_
  exact fW_iret rfl (by decide) (by decide) dX10_mostLooks_33 (rI_i h gv2_7)
def mX10_count : fMt := (yX10_count, cX10_count, 2, some .int, { frames := 7, cells := 1, slots := 6, locals := 280 })
theorem miX10_count : fMv mX10_count 1 := ⟨⟨fM 1034 (by decide +kernel) rfl, fM 89 (by decide +kernel) rfl, ⟨by decide +kernel, by decide +kernel⟩, by decide +kernel⟩, fM 1032 (by decide +kernel) rfl, fM 1033 (by decide +kernel) rfl⟩
def f_X10_count (a1 : Int) (M : fMem) : Option (Int × Int × fMem) := ((f_X10_needWhat a1 16 M).bind fun (r1 : Int) => (if r1 = 0 then (if a1 = 0 then some (0, M 1 4, M) else (if a1 = 1 then some (0, M 1 5, M) else (if a1 = 2 then some (0, M 1 6, M) else (if a1 = 3 then some (0, M 1 7, M) else (if a1 = 4 then some (0, M 1 8, M) else (if a1 = 5 then some (0, M 1 9, M) else (if a1 = 6 then ((f_X10_keysNow 2 M).bind fun (r9 : Int × fMem) => some (0, r9.1, r9.2)) else (if a1 = 7 then ((f_X7_arrange 2 M).bind fun (r12 : Int × fMem) => some (0, r12.1, r12.2)) else (if a1 = 8 then ((f_X7_things 2 M).bind fun (r15 : Int) => some (0, r15, M)) else (if a1 = 9 then ((f_X7_deepest 2 M).bind fun (r17 : Int) => some (0, r17, M)) else (if a1 = 10 then some (0, M 1 2, M) else (if a1 = 11 then some (0, M 0 10, M) else (if a1 = 12 then ((f_X0_merging 1 M).bind fun (r21 : Int) => some (0, r21, M)) else (if a1 = 13 then some (0, M 145 1, M) else (if a1 = 14 then ((f_X10_mostLooks 0 M).bind fun (r24 : Int × fMem) => some (0, r24.1, r24.2)) else ((f_X10_mostLooks 1 M).bind fun (r26 : Int × fMem) => some (0, r26.1, r26.2))))))))))))))))) else some (r1, 0, M)))
set_option maxRecDepth 100000 in
set_option maxHeartbeats 4000000 in
theorem s_X10_count {G : fG} (hg : gbt G = true) {a1 : Int} (ga1 : rg a1) {M : fMem} {q : Int × Int × fMem} (h : f_X10_count a1 M = some q) : fSp G mX10_count [rv G 0, iv a1] M (rT q) (xT q.1 q.2.2) := by
  refine fSp_of (by decide +kernel) (by decide +kernel) (fC1 rfl (fC1 rfl fC0)) (Nat.le_of_ble_eq_true rfl) ?_
  show fW G mX10_count (fEm G mX10_count (rT q) (xT q.1 q.2.2)) 0 0 0 [some (rv G 0), some (iv a1)] [] M
  rw [f_X10_count] at h
  refine fW_rg (fun hR => ?_)
  refine fW_iload_n 1 dX10_count_0 rfl rfl ?_
  refine fW_bipush 3 dX10_count_1 rfl (by decide) ?_
  obtain ⟨r1, e1, h⟩ := fBd h
  refine fW_cU 1 6 (by decide +kernel) (fI_S (as := [iv a1, iv 16]) (rest := []) miX10_needWhat rfl wd_910 (fRoom_of rfl) rfl (Nat.le_of_ble_eq_true rfl) dX10_count_3) (s_X10_needWhat hg ga1 (by decide) e1) rfl rfl rfl (by decide) (by decide) (fun cx => xU_T cx (fFf h cx)) (fun cx => ?_)
  replace h := fTt h cx
  refine fW_iload_n 7 dX10_count_6 rfl rfl ?_
  have gs := ga1
  by_cases c2 : a1 = 0
  · replace h := fTt h c2
    refine fW_tabIn 80 c2 (by decide) dX10_count_7 (by decide) (by decide) rfl rfl ?_
    refine fW_aload_n 81 dX10_count_80 rfl rfl ?_
    refine fW_getR 84 (r := 1) 0 hg clX10 (by decide) rfl tc_0 tf_10_0 wd_417 dX10_count_81 rfl ?_
    refine fW_getI 87 4 (ji := 4) hg clX0 rfl (by decide) rfl tc_1 wd_255 dX10_count_84 rfl ?_
    exact fW_iret rfl (by decide) (by decide) dX10_count_87 (rT_i h (hR 1 4))
  replace h := fFf h c2
  by_cases c3 : a1 = 1
  · replace h := fTt h c3
    refine fW_tabIn 88 c3 (by decide) dX10_count_7 (by decide) (by decide) rfl rfl ?_
    refine fW_aload_n 89 dX10_count_88 rfl rfl ?_
    refine fW_getR 92 (r := 1) 0 hg clX10 (by decide) rfl tc_0 tf_10_0 wd_417 dX10_count_89 rfl ?_
    refine fW_getI 95 5 (ji := 5) hg clX0 rfl (by decide) rfl tc_1 wd_257 dX10_count_92 rfl ?_
    exact fW_iret rfl (by decide) (by decide) dX10_count_95 (rT_i h (hR 1 5))
  replace h := fFf h c3
  by_cases c4 : a1 = 2
  · replace h := fTt h c4
    refine fW_tabIn 96 c4 (by decide) dX10_count_7 (by decide) (by decide) rfl rfl ?_
    refine fW_aload_n 97 dX10_count_96 rfl rfl ?_
    refine fW_getR 100 (r := 1) 0 hg clX10 (by decide) rfl tc_0 tf_10_0 wd_417 dX10_count_97 rfl ?_
    refine fW_getI 103 6 (ji := 6) hg clX0 rfl (by decide) rfl tc_1 wd_259 dX10_count_100 rfl ?_
    exact fW_iret rfl (by decide) (by decide) dX10_count_103 (rT_i h (hR 1 6))
  replace h := fFf h c4
  by_cases c5 : a1 = 3
  · replace h := fTt h c5
    refine fW_tabIn 104 c5 (by decide) dX10_count_7 (by decide) (by decide) rfl rfl ?_
    refine fW_aload_n 105 dX10_count_104 rfl rfl ?_
    refine fW_getR 108 (r := 1) 0 hg clX10 (by decide) rfl tc_0 tf_10_0 wd_417 dX10_count_105 rfl ?_
    refine fW_getI 111 7 (ji := 7) hg clX0 rfl (by decide) rfl tc_1 wd_261 dX10_count_108 rfl ?_
    exact fW_iret rfl (by decide) (by decide) dX10_count_111 (rT_i h (hR 1 7))
  replace h := fFf h c5
  by_cases c6 : a1 = 4
  · replace h := fTt h c6
    refine fW_tabIn 112 c6 (by decide) dX10_count_7 (by decide) (by decide) rfl rfl ?_
    refine fW_aload_n 113 dX10_count_112 rfl rfl ?_
    refine fW_getR 116 (r := 1) 0 hg clX10 (by decide) rfl tc_0 tf_10_0 wd_417 dX10_count_113 rfl ?_
    refine fW_getI 119 8 (ji := 8) hg clX0 rfl (by decide) rfl tc_1 wd_263 dX10_count_116 rfl ?_
    exact fW_iret rfl (by decide) (by decide) dX10_count_119 (rT_i h (hR 1 8))
  replace h := fFf h c6
  by_cases c7 : a1 = 5
  · replace h := fTt h c7
    refine fW_tabIn 120 c7 (by decide) dX10_count_7 (by decide) (by decide) rfl rfl ?_
    refine fW_aload_n 121 dX10_count_120 rfl rfl ?_
    refine fW_getR 124 (r := 1) 0 hg clX10 (by decide) rfl tc_0 tf_10_0 wd_417 dX10_count_121 rfl ?_
    refine fW_getI 127 9 (ji := 9) hg clX0 rfl (by decide) rfl tc_1 wd_265 dX10_count_124 rfl ?_
    exact fW_iret rfl (by decide) (by decide) dX10_count_127 (rT_i h (hR 1 9))
  replace h := fFf h c7
  by_cases c8 : a1 = 6
  · replace h := fTt h c8
    refine fW_tabIn 128 c8 (by decide) dX10_count_7 (by decide) (by decide) rfl rfl ?_
    refine fW_aload_n 129 dX10_count_128 rfl rfl ?_
    refine fW_aload_n 130 dX10_count_129 rfl rfl ?_
    refine fW_getR 133 (r := 1) 0 hg clX10 (by decide) rfl tc_0 tf_10_0 wd_417 dX10_count_130 rfl ?_
    refine fW_getR 136 (r := 2) 0 hg clX0 (by decide) rfl tc_1 (tf_0_0 tc_1) wd_248 dX10_count_133 rfl ?_
    obtain ⟨r9, e9, h⟩ := fBd h
    refine fW_cP (fI_V (as := [rv G 2]) (rest := []) miX10_keysNow hg clX10 rfl tc_0 wd_1035 (fRoom_of rfl) rfl (Nat.le_of_ble_eq_true rfl) dX10_count_136) (s_X10_keysNow hg (tt_0_0 tc_1) e9) rfl rfl rfl (fun g9 => ?_)
    refine fW_rg (fun hR10 => ?_)
    exact fW_iret rfl (by decide) (by decide) dX10_count_139 (rT_i h g9)
  replace h := fFf h c8
  by_cases c11 : a1 = 7
  · replace h := fTt h c11
    refine fW_tabIn 140 c11 (by decide) dX10_count_7 (by decide) (by decide) rfl rfl ?_
    refine fW_aload_n 141 dX10_count_140 rfl rfl ?_
    refine fW_getR 144 (r := 1) 0 hg clX10 (by decide) rfl tc_0 tf_10_0 wd_417 dX10_count_141 rfl ?_
    refine fW_getR 147 (r := 2) 0 hg clX0 (by decide) rfl tc_1 (tf_0_0 tc_1) wd_248 dX10_count_144 rfl ?_
    obtain ⟨r12, e12, h⟩ := fBd h
    refine fW_cP (fI_V (as := []) (rest := []) miX7_arrange hg clX7 rfl (tt_0_0 tc_1) wd_596 (fRoom_of rfl) rfl (Nat.le_of_ble_eq_true rfl) dX10_count_147) (s_X7_arrange hg (tt_0_0 tc_1) e12) rfl rfl rfl (fun g12 => ?_)
    refine fW_rg (fun hR13 => ?_)
    exact fW_iret rfl (by decide) (by decide) dX10_count_150 (rT_i h g12)
  replace h := fFf h c11
  by_cases c14 : a1 = 8
  · replace h := fTt h c14
    refine fW_tabIn 151 c14 (by decide) dX10_count_7 (by decide) (by decide) rfl rfl ?_
    refine fW_aload_n 152 dX10_count_151 rfl rfl ?_
    refine fW_getR 155 (r := 1) 0 hg clX10 (by decide) rfl tc_0 tf_10_0 wd_417 dX10_count_152 rfl ?_
    refine fW_getR 158 (r := 2) 0 hg clX0 (by decide) rfl tc_1 (tf_0_0 tc_1) wd_248 dX10_count_155 rfl ?_
    obtain ⟨r15, e15, h⟩ := fBd h
    refine fW_cP (fI_V (as := []) (rest := []) miX7_things hg clX7 rfl (tt_0_0 tc_1) wd_1039 (fRoom_of rfl) rfl (Nat.le_of_ble_eq_true rfl) dX10_count_158) (s_X7_things hg (tt_0_0 tc_1) e15) rfl rfl rfl (fun g15 => ?_)
    exact fW_iret rfl (by decide) (by decide) dX10_count_161 (rT_i h g15)
  replace h := fFf h c14
  by_cases c16 : a1 = 9
  · replace h := fTt h c16
    refine fW_tabIn 162 c16 (by decide) dX10_count_7 (by decide) (by decide) rfl rfl ?_
    refine fW_aload_n 163 dX10_count_162 rfl rfl ?_
    refine fW_getR 166 (r := 1) 0 hg clX10 (by decide) rfl tc_0 tf_10_0 wd_417 dX10_count_163 rfl ?_
    refine fW_getR 169 (r := 2) 0 hg clX0 (by decide) rfl tc_1 (tf_0_0 tc_1) wd_248 dX10_count_166 rfl ?_
    obtain ⟨r17, e17, h⟩ := fBd h
    refine fW_cP (fI_V (as := []) (rest := []) miX7_deepest hg clX7 rfl (tt_0_0 tc_1) wd_1044 (fRoom_of rfl) rfl (Nat.le_of_ble_eq_true rfl) dX10_count_169) (s_X7_deepest hg (tt_0_0 tc_1) e17) rfl rfl rfl (fun g17 => ?_)
    exact fW_iret rfl (by decide) (by decide) dX10_count_172 (rT_i h g17)
  replace h := fFf h c16
  by_cases c18 : a1 = 10
  · replace h := fTt h c18
    refine fW_tabIn 173 c18 (by decide) dX10_count_7 (by decide) (by decide) rfl rfl ?_
    refine fW_aload_n 174 dX10_count_173 rfl rfl ?_
    refine fW_getR 177 (r := 1) 0 hg clX10 (by decide) rfl tc_0 tf_10_0 wd_417 dX10_count_174 rfl ?_
    refine fW_getI 180 2 (ji := 2) hg clX0 rfl (by decide) rfl tc_1 wd_252 dX10_count_177 rfl ?_
    exact fW_iret rfl (by decide) (by decide) dX10_count_180 (rT_i h (hR 1 2))
  replace h := fFf h c18
  by_cases c19 : a1 = 11
  · replace h := fTt h c19
    refine fW_tabIn 181 c19 (by decide) dX10_count_7 (by decide) (by decide) rfl rfl ?_
    refine fW_aload_n 182 dX10_count_181 rfl rfl ?_
    refine fW_getI 185 10 (ji := 10) hg clX10 rfl (by decide) rfl tc_0 wd_427 dX10_count_182 rfl ?_
    exact fW_iret rfl (by decide) (by decide) dX10_count_185 (rT_i h (hR 0 10))
  replace h := fFf h c19
  by_cases c20 : a1 = 12
  · replace h := fTt h c20
    refine fW_tabIn 186 c20 (by decide) dX10_count_7 (by decide) (by decide) rfl rfl ?_
    refine fW_aload_n 187 dX10_count_186 rfl rfl ?_
    refine fW_getR 190 (r := 1) 0 hg clX10 (by decide) rfl tc_0 tf_10_0 wd_417 dX10_count_187 rfl ?_
    obtain ⟨r21, e21, h⟩ := fBd h
    refine fW_cP (fI_V (as := []) (rest := []) miX0_merging hg clX0 rfl tc_1 wd_1049 (fRoom_of rfl) rfl (Nat.le_of_ble_eq_true rfl) dX10_count_190) (s_X0_merging hg tc_1 e21) rfl rfl rfl (fun g21 => ?_)
    exact fW_iret rfl (by decide) (by decide) dX10_count_193 (rT_i h g21)
  replace h := fFf h c20
  by_cases c22 : a1 = 13
  · replace h := fTt h c22
    refine fW_tabIn 194 c22 (by decide) dX10_count_7 (by decide) (by decide) rfl rfl ?_
    refine fW_aload_n 195 dX10_count_194 rfl rfl ?_
    refine fW_getR 198 (r := 145) 4 hg clX10 (by decide) rfl tc_0 tf_10_4 wd_421 dX10_count_195 rfl ?_
    refine fW_getI 201 1 (ji := 1) hg clX8 rfl (by decide) rfl tc_145 wd_297 dX10_count_198 rfl ?_
    exact fW_iret rfl (by decide) (by decide) dX10_count_201 (rT_i h (hR 145 1))
  replace h := fFf h c22
  by_cases c23 : a1 = 14
  · replace h := fTt h c23
    refine fW_tabIn 202 c23 (by decide) dX10_count_7 (by decide) (by decide) rfl rfl ?_
    refine fW_aload_n 203 dX10_count_202 rfl rfl ?_
    refine fW_iconst 204 dX10_count_203 rfl ?_
    obtain ⟨r24, e24, h⟩ := fBd h
    refine fW_cP (fI_V (as := [iv 0]) (rest := []) miX10_mostLooks hg clX10 rfl tc_0 wd_1053 (fRoom_of rfl) rfl (Nat.le_of_ble_eq_true rfl) dX10_count_204) (s_X10_mostLooks hg (by decide) e24) rfl rfl rfl (fun g24 => ?_)
    refine fW_rg (fun hR25 => ?_)
    exact fW_iret rfl (by decide) (by decide) dX10_count_207 (rT_i h g24)
  replace h := fFf h c23
  refine fW_tabOut 208 gs dX10_count_7 (by omega) rfl ?_
  refine fW_aload_n 209 dX10_count_208 rfl rfl ?_
  refine fW_iconst 210 dX10_count_209 rfl ?_
  obtain ⟨r26, e26, h⟩ := fBd h
  refine fW_cP (fI_V (as := [iv 1]) (rest := []) miX10_mostLooks hg clX10 rfl tc_0 wd_1053 (fRoom_of rfl) rfl (Nat.le_of_ble_eq_true rfl) dX10_count_210) (s_X10_mostLooks hg (by decide) e26) rfl rfl rfl (fun g26 => ?_)
  refine fW_rg (fun hR27 => ?_)
  exact fW_iret rfl (by decide) (by decide) dX10_count_213 (rT_i h g26)
def mX10_toll : fMt := (yX10_toll, cX10_toll, 2, some .int, { frames := 6, cells := 1, slots := 6, locals := 240 })
theorem miX10_toll : fMv mX10_toll 1 := ⟨⟨fM 1064 (by decide +kernel) rfl, fM 89 (by decide +kernel) rfl, ⟨by decide +kernel, by decide +kernel⟩, by decide +kernel⟩, fM 1062 (by decide +kernel) rfl, fM 1063 (by decide +kernel) rfl⟩
def f_X10_toll (a1 : Int) (M : fMem) : Option (Int × Int × fMem) := (if a1 < 0 then some (1, 0, M) else (if a1 < (M 147 2) then ((f_X9_stepsOf a1 M).bind fun (r3 : Int) => some (0, r3, M)) else some (1, 0, M)))
set_option maxRecDepth 100000 in
set_option maxHeartbeats 4000000 in
theorem s_X10_toll {G : fG} (hg : gbt G = true) {a1 : Int} (ga1 : rg a1) {M : fMem} {q : Int × Int × fMem} (h : f_X10_toll a1 M = some q) : fSp G mX10_toll [rv G 0, iv a1] M (rT q) (xT q.1 q.2.2) := by
  refine fSp_of (by decide +kernel) (by decide +kernel) (fC1 rfl (fC1 rfl fC0)) (Nat.le_of_ble_eq_true rfl) ?_
  show fW G mX10_toll (fEm G mX10_toll (rT q) (xT q.1 q.2.2)) 0 0 0 [some (rv G 0), some (iv a1)] [] M
  rw [f_X10_toll] at h
  refine fW_rg (fun hR => ?_)
  refine fW_iload_n 1 dX10_toll_0 rfl rfl ?_
  refine fW_if_lt 4 15 ga1 dX10_toll_1 rfl rfl (fun c1 => ?_) (fun c1 => ?_)
  · replace h := fTt h c1
    exact fW_throwW hg rfl th1 (text := _) (fStr_319) dX10_toll_15 dX10_toll_18 dX10_toll_19 dX10_toll_22 dX10_toll_25 (by decide) (Nat.le_of_ble_eq_true rfl) (by decide) (by decide) (xT_1 h)
  · replace h := fFf h c1
    refine fW_iload_n 5 dX10_toll_4 rfl rfl ?_
    refine fW_aload_n 6 dX10_toll_5 rfl rfl ?_
    refine fW_getR 9 (r := 147) 5 hg clX10 (by decide) rfl tc_0 tf_10_5 wd_422 dX10_toll_6 rfl ?_
    refine fW_getI 12 2 (ji := 2) hg clX9 rfl (by decide) rfl tc_147 wd_313 dX10_toll_9 rfl ?_
    refine fW_icmp_lt 15 26 ga1 (hR 147 2) dX10_toll_12 rfl rfl (fun c2 => ?_) (fun c2 => ?_)
    · replace h := fTt h c2
      refine fW_aload_n 27 dX10_toll_26 rfl rfl ?_
      refine fW_getR 30 (r := 147) 5 hg clX10 (by decide) rfl tc_0 tf_10_5 wd_422 dX10_toll_27 rfl ?_
      refine fW_iload_n 31 dX10_toll_30 rfl rfl ?_
      obtain ⟨r3, e3, h⟩ := fBd h
      refine fW_cP (fI_V (as := [iv a1]) (rest := []) miX9_stepsOf hg clX9 rfl tc_147 wd_1066 (fRoom_of rfl) rfl (Nat.le_of_ble_eq_true rfl) dX10_toll_31) (s_X9_stepsOf hg ga1 e3) rfl rfl rfl (fun g3 => ?_)
      exact fW_iret rfl (by decide) (by decide) dX10_toll_34 (rT_i h g3)
    · replace h := fFf h c2
      exact fW_throwW hg rfl th1 (text := _) (fStr_319) dX10_toll_15 dX10_toll_18 dX10_toll_19 dX10_toll_22 dX10_toll_25 (by decide) (Nat.le_of_ble_eq_true rfl) (by decide) (by decide) (xT_1 h)
def mX10_needActs : fMt := (yX10_needActs, cX10_needActs, 1, none, { frames := 6, cells := 1, slots := 6, locals := 240 })
theorem miX10_needActs : fMs mX10_needActs 1 := ⟨⟨fM 1080 (by decide +kernel) rfl, fM 89 (by decide +kernel) rfl, ⟨by decide +kernel, by decide +kernel⟩, by decide +kernel⟩, fM 1079 (by decide +kernel) rfl⟩
def f_X10_needActs (a1 : Int) (M : fMem) : Option (Int) := (if a1 < 0 then some (2 : Int) else (if a1 ≤ 64 then some (0 : Int) else some (2 : Int)))
set_option maxRecDepth 100000 in
set_option maxHeartbeats 4000000 in
theorem s_X10_needActs {G : fG} (hg : gbt G = true) {a1 : Int} (ga1 : rg a1) {M : fMem} {q : Int} (h : f_X10_needActs a1 M = some q) : fSp G mX10_needActs [iv a1] M (rU M q) (xT q M) := by
  refine fSp_of (by decide +kernel) (by decide +kernel) (fC1 rfl fC0) (Nat.le_of_ble_eq_true rfl) ?_
  show fW G mX10_needActs (fEm G mX10_needActs (rU M q) (xT q M)) 0 0 0 [some (iv a1)] [] M
  rw [f_X10_needActs] at h
  refine fW_rg (fun hR => ?_)
  refine fW_iload_n 1 dX10_needActs_0 rfl rfl ?_
  refine fW_if_lt 4 10 ga1 dX10_needActs_1 rfl rfl (fun c1 => ?_) (fun c1 => ?_)
  · replace h := fTt h c1
    exact fW_throwW hg rfl th2 (text := _) (fStr_427) dX10_needActs_10 dX10_needActs_13 dX10_needActs_14 dX10_needActs_17 dX10_needActs_20 (by decide) (Nat.le_of_ble_eq_true rfl) (by decide) (by decide) (xU_2 h)
  · replace h := fFf h c1
    refine fW_iload_n 5 dX10_needActs_4 rfl rfl ?_
    refine fW_bipush 7 dX10_needActs_5 rfl (by decide) ?_
    refine fW_icmp_le 10 21 ga1 (by decide) dX10_needActs_7 rfl rfl (fun c2 => ?_) (fun c2 => ?_)
    · replace h := fTt h c2
      exact fW_vret rfl (by decide) (by decide) dX10_needActs_21 (rU_i h)
    · replace h := fFf h c2
      exact fW_throwW hg rfl th2 (text := _) (fStr_427) dX10_needActs_10 dX10_needActs_13 dX10_needActs_14 dX10_needActs_17 dX10_needActs_20 (by decide) (Nat.le_of_ble_eq_true rfl) (by decide) (by decide) (xU_2 h)
def mX10_keyAhead : fMt := (yX10_keyAhead, cX10_keyAhead, 1, some .int, { frames := 0, cells := 0, slots := 0, locals := 0 })
theorem miX10_keyAhead : fMs mX10_keyAhead 1 := ⟨⟨fM 1111 (by decide +kernel) rfl, fM 89 (by decide +kernel) rfl, ⟨by decide +kernel, by decide +kernel⟩, by decide +kernel⟩, fM 1110 (by decide +kernel) rfl⟩
def f_X10_keyAhead (a1 : Int) (M : fMem) : Option (Int) := (if 0 ≤ (37 * a1) + 11 ∧ (37 * a1) + 11 < 2147483648 then (if -2147483648 ≤ ((37 * a1) + 11) % 200 ∧ ((37 * a1) + 11) % 200 < 2147483648 then some (((37 * a1) + 11) % 200) else none) else none)
set_option maxRecDepth 100000 in
set_option maxHeartbeats 4000000 in
theorem s_X10_keyAhead {G : fG}  {a1 : Int} (ga1 : rg a1) {M : fMem} {q : Int} (h : f_X10_keyAhead a1 M = some q) : fSp G mX10_keyAhead [iv a1] M (rP M q) fNo := by
  refine fSp_of (by decide +kernel) (by decide +kernel) (fC1 rfl fC0) (Nat.le_of_ble_eq_true rfl) ?_
  show fW G mX10_keyAhead (fEm G mX10_keyAhead (rP M q) fNo) 0 0 0 [some (iv a1)] [] M
  rw [f_X10_keyAhead] at h
  refine fW_rg (fun hR => ?_)
  refine fW_bipush 2 dX10_keyAhead_0 rfl (by decide) ?_
  refine fW_iload_n 3 dX10_keyAhead_2 rfl rfl ?_
  refine fW_imul 4 dX10_keyAhead_3 rfl ?_
  refine fW_bipush 6 dX10_keyAhead_4 rfl (by decide) ?_
  refine fW_iadd 7 dX10_keyAhead_6 rfl ?_
  refine fW_sipush 10 dX10_keyAhead_7 rfl (by decide) ?_
  obtain ⟨c1, h⟩ := fS h
  refine fW_irem 11 c1 (by decide) dX10_keyAhead_10 rfl ?_
  obtain ⟨c2, h⟩ := fS h
  exact fW_iret rfl (by decide) (by decide) dX10_keyAhead_11 (rP_i h c2)
def mX10_ahead : fMt := (yX10_ahead, cX10_ahead, 5, some .int, { frames := 7, cells := 2, slots := 12, locals := 280 })
theorem miX10_ahead : fMv mX10_ahead 2 := ⟨⟨fM 1077 (by decide +kernel) rfl, fM 89 (by decide +kernel) rfl, ⟨by decide +kernel, by decide +kernel⟩, by decide +kernel⟩, fM 1075 (by decide +kernel) rfl, fM 1076 (by decide +kernel) rfl⟩
def L_X10_ahead_25  (k : Int → Int → fMem → Option (Int × Int × fMem)) : Nat → Int → Int → Int → Int → fMem → Option (Int × Int × fMem)
  | 0, _, _, _, _, _ => none
  | n + 1, v1, v2, v3, v4, M => (if v1 ≤ v4 then k v2 v3 M else ((f_X10_keyAhead v4 M).bind fun (r6 : Int) => ((f_X0_act 72 r6 0 M).bind fun (r7 : Int × fMem) => L_X10_ahead_25  k n v1 v2 (max v3 r7.1) (v4 + 1) r7.2)))
set_option maxRecDepth 100000 in
set_option maxHeartbeats 4000000 in
theorem l_X10_ahead_25 {G : fG} (hg : gbt G = true)  {q : Int × Int × fMem} {k : Int → Int → fMem → Option (Int × Int × fMem)} (hk : ∀ (v2 : Int) (v3 : Int) (M : fMem), rg v2 → rg v3 → k v2 v3 M = some q → fW G mX10_ahead (fEm G mX10_ahead (rT q) (xT q.1 q.2.2)) 2 12 55 [some (rv G 0), none, some (iv v2), some (iv v3), none] [] M) : ∀ (n : Nat) (v1 : Int) (v2 : Int) (v3 : Int) (v4 : Int) (M : fMem), rg v1 → rg v2 → rg v3 → rg v4 → L_X10_ahead_25 k n v1 v2 v3 v4 M = some q → fW G mX10_ahead (fEm G mX10_ahead (rT q) (xT q.1 q.2.2)) 2 12 25 [some (rv G 0), some (iv v1), some (iv v2), some (iv v3), some (iv v4)] [] M := by
  intro n
  induction n with
  | zero =>
    intro v1 v2 v3 v4 M gv1 gv2 gv3 gv4 h
    rw [L_X10_ahead_25] at h
    exact absurd h (by simp)
  | succ n ih =>
    intro v1 v2 v3 v4 M gv1 gv2 gv3 gv4 h
    rw [L_X10_ahead_25] at h
    refine fW_rg (fun hR => ?_)
    refine fW_iload 27 dX10_ahead_25 rfl rfl ?_
    refine fW_iload_n 28 dX10_ahead_27 rfl rfl ?_
    refine fW_icmp_ge 31 55 gv4 gv1 dX10_ahead_28 rfl rfl (fun c5 => ?_) (fun c5 => ?_)
    · replace h := fTt h c5
      exact fW_sb (hk v2 v3 M gv2 gv3 h) ⟨rfl, rfl, rfl, trivial⟩
    · replace h := fFf h c5
      refine fW_iload_n 32 dX10_ahead_31 rfl rfl ?_
      refine fW_aload_n 33 dX10_ahead_32 rfl rfl ?_
      refine fW_getR 36 (r := 72) 1 hg clX10 (by decide) rfl tc_0 tf_10_1 wd_418 dX10_ahead_33 rfl ?_
      refine fW_iload 38 dX10_ahead_36 rfl rfl ?_
      obtain ⟨r6, e6, h⟩ := fBd h
      refine fW_cP (fI_S (as := [iv v4]) (rest := [rv G 72, iv v3]) miX10_keyAhead rfl wd_1109 (fRoom_of rfl) rfl (Nat.le_of_ble_eq_true rfl) dX10_ahead_38) (s_X10_keyAhead gv4 e6) rfl rfl rfl (fun g6 => ?_)
      refine fW_iconst 42 dX10_ahead_41 rfl ?_
      obtain ⟨r7, e7, h⟩ := fBd h
      refine fW_cP (fI_V (as := [iv r6, iv 0]) (rest := [iv v3]) miX0_act hg clX0 rfl tc_72 wd_477 (fRoom_of rfl) rfl (Nat.le_of_ble_eq_true rfl) dX10_ahead_42) (s_X0_act hg tc_72 g6 (by decide) e7) rfl rfl rfl (fun g7 => ?_)
      refine fW_rg (fun hR8 => ?_)
      refine fW_mmax 48 gv3 g7 wd_1057 (by decide) (Nat.le_of_ble_eq_true rfl) (by decide) (by decide) dX10_ahead_45 rfl ?_
      refine fW_istore_n 49 (ls' := [some (rv G 0), some (iv v1), some (iv v2), some (iv (max v3 r7.1)), some (iv v4)]) dX10_ahead_48 rfl rfl rfl (by decide) ?_
      refine fW_iinc 52 (ls' := [some (rv G 0), some (iv v1), some (iv v2), some (iv (max v3 r7.1)), some (iv (v4 + 1))]) dX10_ahead_49 rfl rfl rfl (by decide) ?_
      refine fW_goto 25 dX10_ahead_52 rfl ?_
      exact fW_sb (ih v1 v2 (max v3 r7.1) (v4 + 1) r7.2 gv1 gv2 (rg_max gv3 g7) (rg_succ' gv4 gv1 c5) h) ⟨rfl, rfl, rfl, rfl, rfl, trivial⟩
def f_X10_ahead (a1 : Int) (a2 : Int) (M : fMem) : Option (Int × Int × fMem) := ((f_X10_needWhat a2 5 M).bind fun (r1 : Int) => (if r1 = 0 then ((f_X10_needActs a1 M).bind fun (r2 : Int) => (if r2 = 0 then ((f_X0_copyFrom 72 1 M).bind fun (r3 : fMem) => L_X10_ahead_25 (fun (v2_9 : Int) (v3_9 : Int) (M_9 : fMem) => (if v2_9 = 0 then (if -2147483648 ≤ (M_9 72 5) - (M_9 1 5) ∧ (M_9 72 5) - (M_9 1 5) < 2147483648 then some (0, (M_9 72 5) - (M_9 1 5), M_9) else none) else (if v2_9 = 1 then (if -2147483648 ≤ (M_9 72 6) - (M_9 1 6) ∧ (M_9 72 6) - (M_9 1 6) < 2147483648 then some (0, (M_9 72 6) - (M_9 1 6), M_9) else none) else (if v2_9 = 2 then some (0, v3_9, M_9) else (if v2_9 = 3 then ((f_X7_arrange 73 M_9).bind fun (r16 : Int × fMem) => some (0, r16.1, r16.2)) else ((f_X10_keysNow 73 M_9).bind fun (r18 : Int × fMem) => some (0, r18.1, r18.2))))))) 20000 a1 a2 0 0 r3) else some (r2, 0, M))) else some (r1, 0, M)))
set_option maxRecDepth 100000 in
set_option maxHeartbeats 4000000 in
theorem s_X10_ahead {G : fG} (hg : gbt G = true) {a1 : Int} (ga1 : rg a1) {a2 : Int} (ga2 : rg a2) {M : fMem} {q : Int × Int × fMem} (h : f_X10_ahead a1 a2 M = some q) : fSp G mX10_ahead [rv G 0, iv a1, iv a2] M (rT q) (xT q.1 q.2.2) := by
  refine fSp_of (by decide +kernel) (by decide +kernel) (fC1 rfl (fC1 rfl (fC1 rfl fC0))) (Nat.le_of_ble_eq_true rfl) ?_
  show fW G mX10_ahead (fEm G mX10_ahead (rT q) (xT q.1 q.2.2)) 0 0 0 [some (rv G 0), some (iv a1), some (iv a2), none, none] [] M
  rw [f_X10_ahead] at h
  refine fW_rg (fun hR => ?_)
  refine fW_iload_n 1 dX10_ahead_0 rfl rfl ?_
  refine fW_iconst 2 dX10_ahead_1 rfl ?_
  obtain ⟨r1, e1, h⟩ := fBd h
  refine fW_cU 1 6 (by decide +kernel) (fI_S (as := [iv a2, iv 5]) (rest := []) miX10_needWhat rfl wd_910 (fRoom_of rfl) rfl (Nat.le_of_ble_eq_true rfl) dX10_ahead_2) (s_X10_needWhat hg ga2 (by decide) e1) rfl rfl rfl (by decide) (by decide) (fun cx => xU_T cx (fFf h cx)) (fun cx => ?_)
  replace h := fTt h cx
  refine fW_iload_n 6 dX10_ahead_5 rfl rfl ?_
  obtain ⟨r2, e2, h⟩ := fBd h
  refine fW_cU 2 12 (by decide +kernel) (fI_S (as := [iv a1]) (rest := []) miX10_needActs rfl wd_1078 (fRoom_of rfl) rfl (Nat.le_of_ble_eq_true rfl) dX10_ahead_6) (s_X10_needActs hg ga1 e2) rfl rfl rfl (by decide) (by decide) (fun cx => xU_T cx (fFf h cx)) (fun cx => ?_)
  replace h := fTt h cx
  refine fW_aload_n 10 dX10_ahead_9 rfl rfl ?_
  refine fW_getR 13 (r := 72) 1 hg clX10 (by decide) rfl tc_0 tf_10_1 wd_418 dX10_ahead_10 rfl ?_
  refine fW_aload_n 14 dX10_ahead_13 rfl rfl ?_
  refine fW_getR 17 (r := 1) 0 hg clX10 (by decide) rfl tc_0 tf_10_0 wd_417 dX10_ahead_14 rfl ?_
  obtain ⟨r3, e3, h⟩ := fBd h
  refine fW_cV (fI_V (as := [rv G 1]) (rest := []) miX0_copyFrom hg clX0 rfl tc_72 wd_1097 (fRoom_of rfl) rfl (Nat.le_of_ble_eq_true rfl) dX10_ahead_17) (s_X0_copyFrom hg tc_72 tc_1 e3) rfl rfl rfl ?_
  refine fW_rg (fun hR4 => ?_)
  refine fW_iconst 21 dX10_ahead_20 rfl ?_
  refine fW_istore_n 22 (ls' := [some (rv G 0), some (iv a1), some (iv a2), some (iv 0), none]) dX10_ahead_21 rfl rfl rfl (by decide) ?_
  refine fW_iconst 23 dX10_ahead_22 rfl ?_
  refine fW_istore 25 (ls' := [some (rv G 0), some (iv a1), some (iv a2), some (iv 0), some (iv 0)]) dX10_ahead_23 rfl rfl (by decide) ?_
  refine fW_sb (l_X10_ahead_25 hg ?_ 20000 a1 a2 0 0 r3 ga1 ga2 (by decide) (by decide) h) ⟨rfl, rfl, rfl, rfl, rfl, trivial⟩
  intro v2_9 v3_9 M_9 gv2_9 gv3_9 h
  refine fW_rg (fun hR_9 => ?_)
  refine fW_iload_n 56 dX10_ahead_55 rfl rfl ?_
  have gs := gv2_9
  by_cases c10 : v2_9 = 0
  · replace h := fTt h c10
    refine fW_tabIn 88 c10 (by decide) dX10_ahead_56 (by decide) (by decide) rfl rfl ?_
    refine fW_aload_n 89 dX10_ahead_88 rfl rfl ?_
    refine fW_getR 92 (r := 72) 1 hg clX10 (by decide) rfl tc_0 tf_10_1 wd_418 dX10_ahead_89 rfl ?_
    refine fW_getI 95 5 (ji := 5) hg clX0 rfl (by decide) rfl tc_72 wd_257 dX10_ahead_92 rfl ?_
    refine fW_aload_n 96 dX10_ahead_95 rfl rfl ?_
    refine fW_getR 99 (r := 1) 0 hg clX10 (by decide) rfl tc_0 tf_10_0 wd_417 dX10_ahead_96 rfl ?_
    refine fW_getI 102 5 (ji := 5) hg clX0 rfl (by decide) rfl tc_1 wd_257 dX10_ahead_99 rfl ?_
    refine fW_isub 103 dX10_ahead_102 rfl ?_
    obtain ⟨c11, h⟩ := fS h
    exact fW_iret rfl (by decide) (by decide) dX10_ahead_103 (rT_i h c11)
  replace h := fFf h c10
  by_cases c12 : v2_9 = 1
  · replace h := fTt h c12
    refine fW_tabIn 104 c12 (by decide) dX10_ahead_56 (by decide) (by decide) rfl rfl ?_
    refine fW_aload_n 105 dX10_ahead_104 rfl rfl ?_
    refine fW_getR 108 (r := 72) 1 hg clX10 (by decide) rfl tc_0 tf_10_1 wd_418 dX10_ahead_105 rfl ?_
    refine fW_getI 111 6 (ji := 6) hg clX0 rfl (by decide) rfl tc_72 wd_259 dX10_ahead_108 rfl ?_
    refine fW_aload_n 112 dX10_ahead_111 rfl rfl ?_
    refine fW_getR 115 (r := 1) 0 hg clX10 (by decide) rfl tc_0 tf_10_0 wd_417 dX10_ahead_112 rfl ?_
    refine fW_getI 118 6 (ji := 6) hg clX0 rfl (by decide) rfl tc_1 wd_259 dX10_ahead_115 rfl ?_
    refine fW_isub 119 dX10_ahead_118 rfl ?_
    obtain ⟨c13, h⟩ := fS h
    exact fW_iret rfl (by decide) (by decide) dX10_ahead_119 (rT_i h c13)
  replace h := fFf h c12
  by_cases c14 : v2_9 = 2
  · replace h := fTt h c14
    refine fW_tabIn 120 c14 (by decide) dX10_ahead_56 (by decide) (by decide) rfl rfl ?_
    refine fW_iload_n 121 dX10_ahead_120 rfl rfl ?_
    exact fW_iret rfl (by decide) (by decide) dX10_ahead_121 (rT_i h gv3_9)
  replace h := fFf h c14
  by_cases c15 : v2_9 = 3
  · replace h := fTt h c15
    refine fW_tabIn 122 c15 (by decide) dX10_ahead_56 (by decide) (by decide) rfl rfl ?_
    refine fW_aload_n 123 dX10_ahead_122 rfl rfl ?_
    refine fW_getR 126 (r := 72) 1 hg clX10 (by decide) rfl tc_0 tf_10_1 wd_418 dX10_ahead_123 rfl ?_
    refine fW_getR 129 (r := 73) 0 hg clX0 (by decide) rfl tc_72 (tf_0_0 tc_72) wd_248 dX10_ahead_126 rfl ?_
    obtain ⟨r16, e16, h⟩ := fBd h
    refine fW_cP (fI_V (as := []) (rest := []) miX7_arrange hg clX7 rfl (tt_0_0 tc_72) wd_596 (fRoom_of rfl) rfl (Nat.le_of_ble_eq_true rfl) dX10_ahead_129) (s_X7_arrange hg (tt_0_0 tc_72) e16) rfl rfl rfl (fun g16 => ?_)
    refine fW_rg (fun hR17 => ?_)
    exact fW_iret rfl (by decide) (by decide) dX10_ahead_132 (rT_i h g16)
  replace h := fFf h c15
  refine fW_tabOut 133 gs dX10_ahead_56 (by omega) rfl ?_
  refine fW_aload_n 134 dX10_ahead_133 rfl rfl ?_
  refine fW_aload_n 135 dX10_ahead_134 rfl rfl ?_
  refine fW_getR 138 (r := 72) 1 hg clX10 (by decide) rfl tc_0 tf_10_1 wd_418 dX10_ahead_135 rfl ?_
  refine fW_getR 141 (r := 73) 0 hg clX0 (by decide) rfl tc_72 (tf_0_0 tc_72) wd_248 dX10_ahead_138 rfl ?_
  obtain ⟨r18, e18, h⟩ := fBd h
  refine fW_cP (fI_V (as := [rv G 73]) (rest := []) miX10_keysNow hg clX10 rfl tc_0 wd_1035 (fRoom_of rfl) rfl (Nat.le_of_ble_eq_true rfl) dX10_ahead_141) (s_X10_keysNow hg (tt_0_0 tc_72) e18) rfl rfl rfl (fun g18 => ?_)
  refine fW_rg (fun hR19 => ?_)
  exact fW_iret rfl (by decide) (by decide) dX10_ahead_144 (rT_i h g18)
end MTH
