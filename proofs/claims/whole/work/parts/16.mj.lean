section MTH
def mX11_isShutRow : fMt := (yX11_isShutRow, cX11_isShutRow, 4, some .boolean, { frames := 3, cells := 0, slots := 0, locals := 120 })
theorem miX11_isShutRow : fMv mX11_isShutRow 3 := ⟨⟨fM 1490 (by decide +kernel) rfl, fM 101 (by decide +kernel) rfl, ⟨by decide +kernel, by decide +kernel⟩, by decide +kernel⟩, fM 1489 (by decide +kernel) rfl, fM 66 (by decide +kernel) rfl⟩
def f_X11_isShutRow (a1 : Int) (a2 : Int) (a3 : Int) (M : fMem) : Option (Int × fMem) := ((f_X11_isKey a1 M).bind fun (r1 : Int) => (if r1 = 0 then ((f_X11_right 0 1 M).bind fun (r3 : Int × fMem) => some (r3.1, r3.2)) else ((f_X11_isRow a2 a3 M).bind fun (r5 : Int) => (if r5 = 0 then ((f_X11_right 0 1 M).bind fun (r7 : Int × fMem) => some (r7.1, r7.2)) else ((f_X11_rowAt a2 a3 M).bind fun (r9 : Int) => ((f_X11_isShut r9 M).bind fun (r10 : Int) => (if r10 = 0 then ((f_X11_right 0 1 M).bind fun (r12 : Int × fMem) => some (r12.1, r12.2)) else ((f_X11_right 1 1 M).bind fun (r14 : Int × fMem) => some (r14.1, r14.2)))))))))
set_option maxRecDepth 100000 in
set_option maxHeartbeats 4000000 in
theorem s_X11_isShutRow {G : fG} (hg : gbt G = true) {a1 : Int} (ga1 : rg a1) {a2 : Int} (ga2 : rg a2) {a3 : Int} (ga3 : rg a3) {M : fMem} {q : Int × fMem} (h : f_X11_isShutRow a1 a2 a3 M = some q) : fSp G mX11_isShutRow [rv G 418, iv a1, iv a2, iv a3] M (rB q.2 q.1) fNo := by
  refine fSp_of (by decide +kernel) (by decide +kernel) (fC1 rfl (fC1 rfl (fC1 rfl (fC1 rfl fC0)))) (Nat.le_of_ble_eq_true rfl) ?_
  show fW G mX11_isShutRow (fEm G mX11_isShutRow (rB q.2 q.1) fNo) 0 0 0 [some (rv G 418), some (iv a1), some (iv a2), some (iv a3)] [] M
  rw [f_X11_isShutRow] at h
  refine fW_rg (fun hR => ?_)
  refine fW_aload_n 1 dX11_isShutRow_0 rfl rfl ?_
  refine fW_iload_n 2 dX11_isShutRow_1 rfl rfl ?_
  obtain ⟨r1, e1, h⟩ := fBd h
  refine fW_cB (fI_S (as := [iv a1]) (rest := [rv G 418]) miX11_isKey rfl wd_1275 (fRoom_of rfl) rfl (Nat.le_of_ble_eq_true rfl) dX11_isShutRow_2) (s_X11_isKey ga1 e1) rfl rfl rfl (fun g1 => ?_)
  refine fW_if_eq 8 32 (rg_z g1) dX11_isShutRow_5 rfl rfl (fun c2 => ?_) (fun c2 => ?_)
  · replace h := fTt h c2
    refine fW_iconst 33 dX11_isShutRow_32 rfl ?_
    refine fW_iconst 34 dX11_isShutRow_33 rfl ?_
    obtain ⟨r3, e3, h⟩ := fBd h
    refine fW_cB (fI_V (as := [iv 0, iv 1]) (rest := []) miX11_right hg clX11 rfl tc_418 wd_1396 (fRoom_of rfl) rfl (Nat.le_of_ble_eq_true rfl) dX11_isShutRow_34) (s_X11_right hg (by decide) (by decide) e3) rfl rfl rfl (fun g3 => ?_)
    refine fW_rg (fun hR4 => ?_)
    exact fW_zret rfl g3 (by decide) (by decide) dX11_isShutRow_37 (rBI_i h g3)
  · replace h := fFf h c2
    refine fW_iload_n 9 dX11_isShutRow_8 rfl rfl ?_
    refine fW_iload_n 10 dX11_isShutRow_9 rfl rfl ?_
    obtain ⟨r5, e5, h⟩ := fBd h
    refine fW_cB (fI_S (as := [iv a2, iv a3]) (rest := [rv G 418]) miX11_isRow rfl wd_1491 (fRoom_of rfl) rfl (Nat.le_of_ble_eq_true rfl) dX11_isShutRow_10) (s_X11_isRow ga2 ga3 e5) rfl rfl rfl (fun g5 => ?_)
    refine fW_if_eq 16 32 (rg_z g5) dX11_isShutRow_13 rfl rfl (fun c6 => ?_) (fun c6 => ?_)
    · replace h := fTt h c6
      refine fW_iconst 33 dX11_isShutRow_32 rfl ?_
      refine fW_iconst 34 dX11_isShutRow_33 rfl ?_
      obtain ⟨r7, e7, h⟩ := fBd h
      refine fW_cB (fI_V (as := [iv 0, iv 1]) (rest := []) miX11_right hg clX11 rfl tc_418 wd_1396 (fRoom_of rfl) rfl (Nat.le_of_ble_eq_true rfl) dX11_isShutRow_34) (s_X11_right hg (by decide) (by decide) e7) rfl rfl rfl (fun g7 => ?_)
      refine fW_rg (fun hR8 => ?_)
      exact fW_zret rfl g7 (by decide) (by decide) dX11_isShutRow_37 (rBI_i h g7)
    · replace h := fFf h c6
      refine fW_aload_n 17 dX11_isShutRow_16 rfl rfl ?_
      refine fW_iload_n 18 dX11_isShutRow_17 rfl rfl ?_
      refine fW_iload_n 19 dX11_isShutRow_18 rfl rfl ?_
      obtain ⟨r9, e9, h⟩ := fBd h
      refine fW_cP (fI_S (as := [iv a2, iv a3]) (rest := [rv G 418, rv G 418]) miX11_rowAt rfl wd_1289 (fRoom_of rfl) rfl (Nat.le_of_ble_eq_true rfl) dX11_isShutRow_19) (s_X11_rowAt ga2 ga3 e9) rfl rfl rfl (fun g9 => ?_)
      obtain ⟨r10, e10, h⟩ := fBd h
      refine fW_cB (fI_V (as := [iv r9]) (rest := [rv G 418]) miX11_isShut hg clX11 rfl tc_418 wd_1340 (fRoom_of rfl) rfl (Nat.le_of_ble_eq_true rfl) dX11_isShutRow_22) (s_X11_isShut hg g9 e10) rfl rfl rfl (fun g10 => ?_)
      refine fW_if_eq 28 32 (rg_z g10) dX11_isShutRow_25 rfl rfl (fun c11 => ?_) (fun c11 => ?_)
      · replace h := fTt h c11
        refine fW_iconst 33 dX11_isShutRow_32 rfl ?_
        refine fW_iconst 34 dX11_isShutRow_33 rfl ?_
        obtain ⟨r12, e12, h⟩ := fBd h
        refine fW_cB (fI_V (as := [iv 0, iv 1]) (rest := []) miX11_right hg clX11 rfl tc_418 wd_1396 (fRoom_of rfl) rfl (Nat.le_of_ble_eq_true rfl) dX11_isShutRow_34) (s_X11_right hg (by decide) (by decide) e12) rfl rfl rfl (fun g12 => ?_)
        refine fW_rg (fun hR13 => ?_)
        exact fW_zret rfl g12 (by decide) (by decide) dX11_isShutRow_37 (rBI_i h g12)
      · replace h := fFf h c11
        refine fW_iconst 29 dX11_isShutRow_28 rfl ?_
        refine fW_goto 33 dX11_isShutRow_29 rfl ?_
        refine fW_iconst 34 dX11_isShutRow_33 rfl ?_
        obtain ⟨r14, e14, h⟩ := fBd h
        refine fW_cB (fI_V (as := [iv 1, iv 1]) (rest := []) miX11_right hg clX11 rfl tc_418 wd_1396 (fRoom_of rfl) rfl (Nat.le_of_ble_eq_true rfl) dX11_isShutRow_34) (s_X11_right hg (by decide) (by decide) e14) rfl rfl rfl (fun g14 => ?_)
        refine fW_rg (fun hR15 => ?_)
        exact fW_zret rfl g14 (by decide) (by decide) dX11_isShutRow_37 (rBI_i h g14)
def mX11_falls : fMt := (yX11_falls, cX11_falls, 4, some .int, { frames := 6, cells := 0, slots := 0, locals := 240 })
theorem miX11_falls : fMv mX11_falls 3 := ⟨⟨fM 1486 (by decide +kernel) rfl, fM 101 (by decide +kernel) rfl, ⟨by decide +kernel, by decide +kernel⟩, by decide +kernel⟩, fM 1484 (by decide +kernel) rfl, fM 1485 (by decide +kernel) rfl⟩
def f_X11_falls (a1 : Int) (a2 : Int) (a3 : Int) (M : fMem) : Option (Int × fMem) := ((some (mset M 418 4 0)).bind fun (N1 : fMem) => ((f_X11_isShutRow a1 a2 a3 N1).bind fun (r2 : Int × fMem) => (if r2.1 = 0 then some (0, r2.2) else ((f_X11_comesTo a1 a2 a3 r2.2).bind fun (r5 : fMem) => ((f_X11_rowAt a2 a3 r5).bind fun (r7 : Int) => ((f_X11_fallsIn r7 a1 r5).bind fun (r8 : Int × fMem) => some (r8.1, r8.2)))))))
set_option maxRecDepth 100000 in
set_option maxHeartbeats 4000000 in
theorem s_X11_falls {G : fG} (hg : gbt G = true) {a1 : Int} (ga1 : rg a1) {a2 : Int} (ga2 : rg a2) {a3 : Int} (ga3 : rg a3) {M : fMem} {q : Int × fMem} (h : f_X11_falls a1 a2 a3 M = some q) : fSp G mX11_falls [rv G 418, iv a1, iv a2, iv a3] M (rP q.2 q.1) fNo := by
  refine fSp_of (by decide +kernel) (by decide +kernel) (fC1 rfl (fC1 rfl (fC1 rfl (fC1 rfl fC0)))) (Nat.le_of_ble_eq_true rfl) ?_
  show fW G mX11_falls (fEm G mX11_falls (rP q.2 q.1) fNo) 0 0 0 [some (rv G 418), some (iv a1), some (iv a2), some (iv a3)] [] M
  rw [f_X11_falls] at h
  refine fW_rg (fun hR => ?_)
  refine fW_aload_n 1 dX11_falls_0 rfl rfl ?_
  refine fW_iconst 2 dX11_falls_1 rfl ?_
  obtain ⟨N1, e1, h⟩ := fBd h
  replace e1 := Option.some.inj e1
  refine fW_putI 5 4 (ji := 4) hg clX11 rfl (by decide) rfl rfl rfl tc_418 (by decide) wd_1178 dX11_falls_2 rfl ?_
  rw [e1]
  refine fW_rg (fun hR1 => ?_)
  refine fW_aload_n 6 dX11_falls_5 rfl rfl ?_
  refine fW_iload_n 7 dX11_falls_6 rfl rfl ?_
  refine fW_iload_n 8 dX11_falls_7 rfl rfl ?_
  refine fW_iload_n 9 dX11_falls_8 rfl rfl ?_
  obtain ⟨r2, e2, h⟩ := fBd h
  refine fW_cB (fI_V (as := [iv a1, iv a2, iv a3]) (rest := []) miX11_isShutRow hg clX11 rfl tc_418 wd_1487 (fRoom_of rfl) rfl (Nat.le_of_ble_eq_true rfl) dX11_falls_9) (s_X11_isShutRow hg ga1 ga2 ga3 e2) rfl rfl rfl (fun g2 => ?_)
  refine fW_rg (fun hR3 => ?_)
  refine fW_if_ne 15 17 (rg_z g2) dX11_falls_12 rfl rfl (fun c4 => ?_) (fun c4 => ?_)
  · replace h := fFf h c4
    refine fW_aload_n 18 dX11_falls_17 rfl rfl ?_
    refine fW_iload_n 19 dX11_falls_18 rfl rfl ?_
    refine fW_iload_n 20 dX11_falls_19 rfl rfl ?_
    refine fW_iload_n 21 dX11_falls_20 rfl rfl ?_
    obtain ⟨r5, e5, h⟩ := fBd h
    refine fW_cV (fI_V (as := [iv a1, iv a2, iv a3]) (rest := []) miX11_comesTo hg clX11 rfl tc_418 wd_1497 (fRoom_of rfl) rfl (Nat.le_of_ble_eq_true rfl) dX11_falls_21) (s_X11_comesTo hg ga1 ga2 ga3 e5) rfl rfl rfl ?_
    refine fW_rg (fun hR6 => ?_)
    refine fW_aload_n 25 dX11_falls_24 rfl rfl ?_
    refine fW_iload_n 26 dX11_falls_25 rfl rfl ?_
    refine fW_iload_n 27 dX11_falls_26 rfl rfl ?_
    obtain ⟨r7, e7, h⟩ := fBd h
    refine fW_cP (fI_S (as := [iv a2, iv a3]) (rest := [rv G 418]) miX11_rowAt rfl wd_1289 (fRoom_of rfl) rfl (Nat.le_of_ble_eq_true rfl) dX11_falls_27) (s_X11_rowAt ga2 ga3 e7) rfl rfl rfl (fun g7 => ?_)
    refine fW_iload_n 31 dX11_falls_30 rfl rfl ?_
    obtain ⟨r8, e8, h⟩ := fBd h
    refine fW_cP (fI_V (as := [iv r7, iv a1]) (rest := []) miX11_fallsIn hg clX11 rfl tc_418 wd_1471 (fRoom_of rfl) rfl (Nat.le_of_ble_eq_true rfl) dX11_falls_31) (s_X11_fallsIn hg g7 ga1 e8) rfl rfl rfl (fun g8 => ?_)
    refine fW_rg (fun hR9 => ?_)
    exact fW_iret rfl (by decide) (by decide) dX11_falls_34 (rI_i h g8)
  · replace h := fTt h c4
    refine fW_iconst 16 dX11_falls_15 rfl ?_
    exact fW_iret rfl (by decide) (by decide) dX11_falls_16 (rI_i h (by decide))
def mX11_bounds_ : fMt := (yX11_bounds_, cX11_bounds_, 5, some .int, { frames := 6, cells := 0, slots := 0, locals := 240 })
theorem miX11_bounds_ : fMv mX11_bounds_ 4 := ⟨⟨fM 1504 (by decide +kernel) rfl, fM 101 (by decide +kernel) rfl, ⟨by decide +kernel, by decide +kernel⟩, by decide +kernel⟩, fM 1502 (by decide +kernel) rfl, fM 1503 (by decide +kernel) rfl⟩
def f_X11_bounds_ (a1 : Int) (a2 : Int) (a3 : Int) (a4 : Int) (M : fMem) : Option (Int × fMem) := ((some (mset M 418 4 0)).bind fun (N1 : fMem) => ((f_X11_isShutRow a1 a2 a3 N1).bind fun (r2 : Int × fMem) => (if r2.1 = 0 then some (0, r2.2) else ((f_X11_comesTo a1 a2 a3 r2.2).bind fun (r5 : fMem) => (if a4 = 0 then some (r5 418 14, r5) else some (r5 418 15, r5))))))
set_option maxRecDepth 100000 in
set_option maxHeartbeats 4000000 in
theorem s_X11_bounds_ {G : fG} (hg : gbt G = true) {a1 : Int} (ga1 : rg a1) {a2 : Int} (ga2 : rg a2) {a3 : Int} (ga3 : rg a3) {a4 : Int} (ga4 : 0 ≤ a4 ∧ a4 ≤ 1) {M : fMem} {q : Int × fMem} (h : f_X11_bounds_ a1 a2 a3 a4 M = some q) : fSp G mX11_bounds_ [rv G 418, iv a1, iv a2, iv a3, iv a4] M (rP q.2 q.1) fNo := by
  refine fSp_of (by decide +kernel) (by decide +kernel) (fC1 rfl (fC1 rfl (fC1 rfl (fC1 rfl (fC1 rfl fC0))))) (Nat.le_of_ble_eq_true rfl) ?_
  show fW G mX11_bounds_ (fEm G mX11_bounds_ (rP q.2 q.1) fNo) 0 0 0 [some (rv G 418), some (iv a1), some (iv a2), some (iv a3), some (iv a4)] [] M
  rw [f_X11_bounds_] at h
  refine fW_rg (fun hR => ?_)
  refine fW_aload_n 1 dX11_bounds__0 rfl rfl ?_
  refine fW_iconst 2 dX11_bounds__1 rfl ?_
  obtain ⟨N1, e1, h⟩ := fBd h
  replace e1 := Option.some.inj e1
  refine fW_putI 5 4 (ji := 4) hg clX11 rfl (by decide) rfl rfl rfl tc_418 (by decide) wd_1178 dX11_bounds__2 rfl ?_
  rw [e1]
  refine fW_rg (fun hR1 => ?_)
  refine fW_aload_n 6 dX11_bounds__5 rfl rfl ?_
  refine fW_iload_n 7 dX11_bounds__6 rfl rfl ?_
  refine fW_iload_n 8 dX11_bounds__7 rfl rfl ?_
  refine fW_iload_n 9 dX11_bounds__8 rfl rfl ?_
  obtain ⟨r2, e2, h⟩ := fBd h
  refine fW_cB (fI_V (as := [iv a1, iv a2, iv a3]) (rest := []) miX11_isShutRow hg clX11 rfl tc_418 wd_1487 (fRoom_of rfl) rfl (Nat.le_of_ble_eq_true rfl) dX11_bounds__9) (s_X11_isShutRow hg ga1 ga2 ga3 e2) rfl rfl rfl (fun g2 => ?_)
  refine fW_rg (fun hR3 => ?_)
  refine fW_if_ne 15 17 (rg_z g2) dX11_bounds__12 rfl rfl (fun c4 => ?_) (fun c4 => ?_)
  · replace h := fFf h c4
    refine fW_aload_n 18 dX11_bounds__17 rfl rfl ?_
    refine fW_iload_n 19 dX11_bounds__18 rfl rfl ?_
    refine fW_iload_n 20 dX11_bounds__19 rfl rfl ?_
    refine fW_iload_n 21 dX11_bounds__20 rfl rfl ?_
    obtain ⟨r5, e5, h⟩ := fBd h
    refine fW_cV (fI_V (as := [iv a1, iv a2, iv a3]) (rest := []) miX11_comesTo hg clX11 rfl tc_418 wd_1497 (fRoom_of rfl) rfl (Nat.le_of_ble_eq_true rfl) dX11_bounds__21) (s_X11_comesTo hg ga1 ga2 ga3 e5) rfl rfl rfl ?_
    refine fW_rg (fun hR6 => ?_)
    refine fW_iload 26 dX11_bounds__24 rfl rfl ?_
    refine fW_if_eq 29 36 (rg_z ga4) dX11_bounds__26 rfl rfl (fun c7 => ?_) (fun c7 => ?_)
    · replace h := fTt h c7
      refine fW_aload_n 37 dX11_bounds__36 rfl rfl ?_
      refine fW_getI 40 14 (ji := 14) hg clX11 rfl (by decide) rfl tc_418 wd_1188 dX11_bounds__37 rfl ?_
      exact fW_iret rfl (by decide) (by decide) dX11_bounds__40 (rI_i h (hR6 418 14))
    · replace h := fFf h c7
      refine fW_aload_n 30 dX11_bounds__29 rfl rfl ?_
      refine fW_getI 33 15 (ji := 15) hg clX11 rfl (by decide) rfl tc_418 wd_1189 dX11_bounds__30 rfl ?_
      refine fW_goto 40 dX11_bounds__33 rfl ?_
      exact fW_iret rfl (by decide) (by decide) dX11_bounds__40 (rI_i h (hR6 418 15))
  · replace h := fTt h c4
    refine fW_iconst 16 dX11_bounds__15 rfl ?_
    exact fW_iret rfl (by decide) (by decide) dX11_bounds__16 (rI_i h (by decide))
def mX11_mostLooks : fMt := (yX11_mostLooks, cX11_mostLooks, 5, some .int, { frames := 5, cells := 0, slots := 0, locals := 200 })
theorem miX11_mostLooks : fMv mX11_mostLooks 1 := ⟨⟨fM 1556 (by decide +kernel) rfl, fM 101 (by decide +kernel) rfl, ⟨by decide +kernel, by decide +kernel⟩, by decide +kernel⟩, fM 1555 (by decide +kernel) rfl, fM 75 (by decide +kernel) rfl⟩
def L_X11_mostLooks_9  (k : Int → fMem → Option (Int × fMem)) : Nat → Int → Int → fMem → Option (Int × fMem)
  | 0, _, _, _ => none
  | n + 1, v2, v3, M => (if 200 ≤ v3 then k v2 M else ((f_X11_looksFor v3 M).bind fun (r4 : Int × fMem) => (if r4.1 ≤ v2 then L_X11_mostLooks_9  k n v2 (v3 + 1) r4.2 else L_X11_mostLooks_9  k n r4.1 (v3 + 1) r4.2)))
set_option maxRecDepth 100000 in
set_option maxHeartbeats 4000000 in
theorem l_X11_mostLooks_9 {G : fG} (hg : gbt G = true)  {q : Int × fMem} {k : Int → fMem → Option (Int × fMem)} (hk : ∀ (v2 : Int) (M : fMem), rg v2 → k v2 M = some q → fW G mX11_mostLooks (fEm G mX11_mostLooks (rP q.2 q.1) fNo) 0 0 42 [some (rv G 418), none, some (iv v2), none, none] [] M) : ∀ (n : Nat) (v2 : Int) (v3 : Int) (M : fMem), rg v2 → rg v3 → L_X11_mostLooks_9 k n v2 v3 M = some q → fW G mX11_mostLooks (fEm G mX11_mostLooks (rP q.2 q.1) fNo) 0 0 9 [some (rv G 418), none, some (iv v2), some (iv v3), none] [] M := by
  intro n
  induction n with
  | zero =>
    intro v2 v3 M gv2 gv3 h
    rw [L_X11_mostLooks_9] at h
    exact absurd h (by simp)
  | succ n ih =>
    intro v2 v3 M gv2 gv3 h
    rw [L_X11_mostLooks_9] at h
    refine fW_rg (fun hR => ?_)
    refine fW_iload_n 10 dX11_mostLooks_9 rfl rfl ?_
    refine fW_sipush 13 dX11_mostLooks_10 rfl (by decide) ?_
    refine fW_icmp_ge 16 42 gv3 (by decide) dX11_mostLooks_13 rfl rfl (fun c3 => ?_) (fun c3 => ?_)
    · replace h := fTt h c3
      exact fW_sb (hk v2 M gv2 h) ⟨rfl, rfl, trivial⟩
    · replace h := fFf h c3
      refine fW_aload_n 17 dX11_mostLooks_16 rfl rfl ?_
      refine fW_iload_n 18 dX11_mostLooks_17 rfl rfl ?_
      obtain ⟨r4, e4, h⟩ := fBd h
      refine fW_cP (fI_V (as := [iv v3]) (rest := []) miX11_looksFor hg clX11 rfl tc_418 wd_1455 (fRoom_of rfl) rfl (Nat.le_of_ble_eq_true rfl) dX11_mostLooks_18) (s_X11_looksFor hg gv3 e4) rfl rfl rfl (fun g4 => ?_)
      refine fW_rg (fun hR5 => ?_)
      refine fW_istore 23 (ls' := [some (rv G 418), none, some (iv v2), some (iv v3), some (iv r4.1)]) dX11_mostLooks_21 rfl rfl (by decide) ?_
      refine fW_iload 25 dX11_mostLooks_23 rfl rfl ?_
      refine fW_iload_n 26 dX11_mostLooks_25 rfl rfl ?_
      refine fW_icmp_le 29 34 g4 gv2 dX11_mostLooks_26 rfl rfl (fun c6 => ?_) (fun c6 => ?_)
      · replace h := fTt h c6
        refine fW_iload_n 35 dX11_mostLooks_34 rfl rfl ?_
        refine fW_istore_n 36 (ls' := [some (rv G 418), none, some (iv v2), some (iv v3), some (iv r4.1)]) dX11_mostLooks_35 rfl rfl rfl (by decide) ?_
        refine fW_iinc 39 (ls' := [some (rv G 418), none, some (iv v2), some (iv (v3 + 1)), some (iv r4.1)]) dX11_mostLooks_36 rfl rfl rfl (by decide) ?_
        refine fW_goto 9 dX11_mostLooks_39 rfl ?_
        exact fW_sb (ih v2 (v3 + 1) r4.2 gv2 (rg_succ' gv3 (by decide) c3) h) ⟨rfl, rfl, rfl, trivial⟩
      · replace h := fFf h c6
        refine fW_iload 31 dX11_mostLooks_29 rfl rfl ?_
        refine fW_goto 35 dX11_mostLooks_31 rfl ?_
        refine fW_istore_n 36 (ls' := [some (rv G 418), none, some (iv r4.1), some (iv v3), some (iv r4.1)]) dX11_mostLooks_35 rfl rfl rfl (by decide) ?_
        refine fW_iinc 39 (ls' := [some (rv G 418), none, some (iv r4.1), some (iv (v3 + 1)), some (iv r4.1)]) dX11_mostLooks_36 rfl rfl rfl (by decide) ?_
        refine fW_goto 9 dX11_mostLooks_39 rfl ?_
        exact fW_sb (ih r4.1 (v3 + 1) r4.2 g4 (rg_succ' gv3 (by decide) c3) h) ⟨rfl, rfl, rfl, trivial⟩
def f_X11_mostLooks (a1 : Int) (M : fMem) : Option (Int × fMem) := ((f_X11_laysEntries a1 M).bind fun (r1 : fMem) => L_X11_mostLooks_9 (fun (v2_7 : Int) (M_7 : fMem) => some (v2_7, M_7)) 20000 0 0 r1)
set_option maxRecDepth 100000 in
set_option maxHeartbeats 4000000 in
theorem s_X11_mostLooks {G : fG} (hg : gbt G = true) {a1 : Int} (ga1 : 0 ≤ a1 ∧ a1 ≤ 1) {M : fMem} {q : Int × fMem} (h : f_X11_mostLooks a1 M = some q) : fSp G mX11_mostLooks [rv G 418, iv a1] M (rP q.2 q.1) fNo := by
  refine fSp_of (by decide +kernel) (by decide +kernel) (fC1 rfl (fC1 rfl fC0)) (Nat.le_of_ble_eq_true rfl) ?_
  show fW G mX11_mostLooks (fEm G mX11_mostLooks (rP q.2 q.1) fNo) 0 0 0 [some (rv G 418), some (iv a1), none, none, none] [] M
  rw [f_X11_mostLooks] at h
  refine fW_rg (fun hR => ?_)
  refine fW_aload_n 1 dX11_mostLooks_0 rfl rfl ?_
  refine fW_iload_n 2 dX11_mostLooks_1 rfl rfl ?_
  obtain ⟨r1, e1, h⟩ := fBd h
  refine fW_cV (fI_V (as := [iv a1]) (rest := []) miX11_laysEntries hg clX11 rfl tc_418 wd_1431 (fRoom_of rfl) rfl (Nat.le_of_ble_eq_true rfl) dX11_mostLooks_2) (s_X11_laysEntries hg ga1 e1) rfl rfl rfl ?_
  refine fW_rg (fun hR2 => ?_)
  refine fW_iconst 6 dX11_mostLooks_5 rfl ?_
  refine fW_istore_n 7 (ls' := [some (rv G 418), some (iv a1), some (iv 0), none, none]) dX11_mostLooks_6 rfl rfl rfl (by decide) ?_
  refine fW_iconst 8 dX11_mostLooks_7 rfl ?_
  refine fW_istore_n 9 (ls' := [some (rv G 418), some (iv a1), some (iv 0), some (iv 0), none]) dX11_mostLooks_8 rfl rfl rfl (by decide) ?_
  refine fW_sb (l_X11_mostLooks_9 hg ?_ 20000 0 0 r1 (by decide) (by decide) h) ⟨rfl, rfl, rfl, trivial⟩
  intro v2_7 M_7 gv2_7 h
  refine fW_rg (fun hR_7 => ?_)
  refine fW_iload_n 43 dX11_mostLooks_42 rfl rfl ?_
  exact fW_iret rfl (by decide) (by decide) dX11_mostLooks_43 (rI_i h gv2_7)
def mX11_thingsIn : fMt := (yX11_thingsIn, cX11_thingsIn, 4, some .int, { frames := 1, cells := 0, slots := 0, locals := 40 })
theorem miX11_thingsIn : fMv mX11_thingsIn 1 := ⟨⟨fM 1512 (by decide +kernel) rfl, fM 101 (by decide +kernel) rfl, ⟨by decide +kernel, by decide +kernel⟩, by decide +kernel⟩, fM 1511 (by decide +kernel) rfl, fM 68 (by decide +kernel) rfl⟩
def L_X11_thingsIn_4  (M : fMem) (k : Int → Option (Int)) : Nat → Int → Int → Int → Option (Int)
  | 0, _, _, _ => none
  | n + 1, v1, v2, v3 => ((f_X11_rowsOf v1 M).bind fun (r1 : Int) => (if r1 ≤ v3 then k v2 else ((f_X11_rowAt v1 v3 M).bind fun (r3 : Int) => ((f_X11_isShut r3 M).bind fun (r4 : Int) => (if r4 = 0 then (if -2147483648 ≤ v2 + 0 ∧ v2 + 0 < 2147483648 then L_X11_thingsIn_4 M k n v1 (v2 + 0) (v3 + 1) else none) else ((f_X11_rowAt v1 v3 M).bind fun (r7 : Int) => (if 0 ≤ 7600 + r7 ∧ 7600 + r7 < 7787 then (if -2147483648 ≤ v2 + (M 419 (7600 + r7)) ∧ v2 + (M 419 (7600 + r7)) < 2147483648 then L_X11_thingsIn_4 M k n v1 (v2 + (M 419 (7600 + r7))) (v3 + 1) else none) else none)))))))
set_option maxRecDepth 100000 in
set_option maxHeartbeats 4000000 in
theorem l_X11_thingsIn_4 {G : fG} (hg : gbt G = true)  {M : fMem} {q : Int} {k : Int → Option (Int)} (hk : ∀ (v2 : Int), rg v2 → k v2 = some q → fW G mX11_thingsIn (fEm G mX11_thingsIn (rP M q) fNo) 0 0 51 [some (rv G 418), none, some (iv v2), none] [] M) : ∀ (n : Nat) (v1 : Int) (v2 : Int) (v3 : Int), rg v1 → rg v2 → rg v3 → L_X11_thingsIn_4 M k n v1 v2 v3 = some q → fW G mX11_thingsIn (fEm G mX11_thingsIn (rP M q) fNo) 0 0 4 [some (rv G 418), some (iv v1), some (iv v2), some (iv v3)] [] M := by
  intro n
  induction n with
  | zero =>
    intro v1 v2 v3 gv1 gv2 gv3 h
    rw [L_X11_thingsIn_4] at h
    exact absurd h (by simp)
  | succ n ih =>
    intro v1 v2 v3 gv1 gv2 gv3 h
    rw [L_X11_thingsIn_4] at h
    refine fW_rg (fun hR => ?_)
    refine fW_iload_n 5 dX11_thingsIn_4 rfl rfl ?_
    refine fW_iload_n 6 dX11_thingsIn_5 rfl rfl ?_
    obtain ⟨r1, e1, h⟩ := fBd h
    refine fW_cP (fI_S (as := [iv v1]) (rest := [iv v3]) miX11_rowsOf rfl wd_1286 (fRoom_of rfl) rfl (Nat.le_of_ble_eq_true rfl) dX11_thingsIn_6) (s_X11_rowsOf gv1 e1) rfl rfl rfl (fun g1 => ?_)
    refine fW_icmp_ge 12 51 gv3 g1 dX11_thingsIn_9 rfl rfl (fun c2 => ?_) (fun c2 => ?_)
    · replace h := fTt h c2
      exact fW_sb (hk v2 gv2 h) ⟨rfl, rfl, trivial⟩
    · replace h := fFf h c2
      refine fW_iload_n 13 dX11_thingsIn_12 rfl rfl ?_
      refine fW_aload_n 14 dX11_thingsIn_13 rfl rfl ?_
      refine fW_iload_n 15 dX11_thingsIn_14 rfl rfl ?_
      refine fW_iload_n 16 dX11_thingsIn_15 rfl rfl ?_
      obtain ⟨r3, e3, h⟩ := fBd h
      refine fW_cP (fI_S (as := [iv v1, iv v3]) (rest := [rv G 418, iv v2]) miX11_rowAt rfl wd_1289 (fRoom_of rfl) rfl (Nat.le_of_ble_eq_true rfl) dX11_thingsIn_16) (s_X11_rowAt gv1 gv3 e3) rfl rfl rfl (fun g3 => ?_)
      obtain ⟨r4, e4, h⟩ := fBd h
      refine fW_cB (fI_V (as := [iv r3]) (rest := [iv v2]) miX11_isShut hg clX11 rfl tc_418 wd_1340 (fRoom_of rfl) rfl (Nat.le_of_ble_eq_true rfl) dX11_thingsIn_19) (s_X11_isShut hg g3 e4) rfl rfl rfl (fun g4 => ?_)
      refine fW_if_eq 25 42 (rg_z g4) dX11_thingsIn_22 rfl rfl (fun c5 => ?_) (fun c5 => ?_)
      · replace h := fTt h c5
        refine fW_iconst 43 dX11_thingsIn_42 rfl ?_
        refine fW_iadd 44 dX11_thingsIn_43 rfl ?_
        refine fW_istore_n 45 (ls' := [some (rv G 418), some (iv v1), some (iv (v2 + 0)), some (iv v3)]) dX11_thingsIn_44 rfl rfl rfl (by decide) ?_
        refine fW_iinc 48 (ls' := [some (rv G 418), some (iv v1), some (iv (v2 + 0)), some (iv (v3 + 1))]) dX11_thingsIn_45 rfl rfl rfl (by decide) ?_
        refine fW_goto 4 dX11_thingsIn_48 rfl ?_
        obtain ⟨c6, h⟩ := fS h
        exact fW_sb (ih v1 (v2 + 0) (v3 + 1) gv1 c6 (rg_succ' gv3 g1 c2) h) ⟨rfl, rfl, rfl, rfl, trivial⟩
      · replace h := fFf h c5
        refine fW_aload_n 26 dX11_thingsIn_25 rfl rfl ?_
        refine fW_getR 29 (r := 419) 0 hg clX11 (by decide) rfl tc_418 tf_11_0 wd_1174 dX11_thingsIn_26 rfl ?_
        refine fW_sipush 32 dX11_thingsIn_29 rfl (by decide) ?_
        refine fW_iload_n 33 dX11_thingsIn_32 rfl rfl ?_
        refine fW_iload_n 34 dX11_thingsIn_33 rfl rfl ?_
        obtain ⟨r7, e7, h⟩ := fBd h
        refine fW_cP (fI_S (as := [iv v1, iv v3]) (rest := [iv 7600, rv G 419, iv v2]) miX11_rowAt rfl wd_1289 (fRoom_of rfl) rfl (Nat.le_of_ble_eq_true rfl) dX11_thingsIn_34) (s_X11_rowAt gv1 gv3 e7) rfl rfl rfl (fun g7 => ?_)
        refine fW_iadd 38 dX11_thingsIn_37 rfl ?_
        obtain ⟨c8, h⟩ := fS h
        refine fW_iald 39 hg tc_419 ⟨c8.1, by rw [show Ln 419 = 7787 from rfl]; exact c8.2⟩ dX11_thingsIn_38 rfl ?_
        refine fW_goto 43 dX11_thingsIn_39 rfl ?_
        refine fW_iadd 44 dX11_thingsIn_43 rfl ?_
        refine fW_istore_n 45 (ls' := [some (rv G 418), some (iv v1), some (iv (v2 + (M 419 (7600 + r7)))), some (iv v3)]) dX11_thingsIn_44 rfl rfl rfl (by decide) ?_
        refine fW_iinc 48 (ls' := [some (rv G 418), some (iv v1), some (iv (v2 + (M 419 (7600 + r7)))), some (iv (v3 + 1))]) dX11_thingsIn_45 rfl rfl rfl (by decide) ?_
        refine fW_goto 4 dX11_thingsIn_48 rfl ?_
        obtain ⟨c9, h⟩ := fS h
        exact fW_sb (ih v1 (v2 + (M 419 (7600 + r7))) (v3 + 1) gv1 c9 (rg_succ' gv3 g1 c2) h) ⟨rfl, rfl, rfl, rfl, trivial⟩
def f_X11_thingsIn (a1 : Int) (M : fMem) : Option (Int) := L_X11_thingsIn_4 M (fun (v2_10 : Int) => some v2_10) 4 a1 0 0
set_option maxRecDepth 100000 in
set_option maxHeartbeats 4000000 in
theorem s_X11_thingsIn {G : fG} (hg : gbt G = true) {a1 : Int} (ga1 : rg a1) {M : fMem} {q : Int} (h : f_X11_thingsIn a1 M = some q) : fSp G mX11_thingsIn [rv G 418, iv a1] M (rP M q) fNo := by
  refine fSp_of (by decide +kernel) (by decide +kernel) (fC1 rfl (fC1 rfl fC0)) (Nat.le_of_ble_eq_true rfl) ?_
  show fW G mX11_thingsIn (fEm G mX11_thingsIn (rP M q) fNo) 0 0 0 [some (rv G 418), some (iv a1), none, none] [] M
  rw [f_X11_thingsIn] at h
  refine fW_rg (fun hR => ?_)
  refine fW_iconst 1 dX11_thingsIn_0 rfl ?_
  refine fW_istore_n 2 (ls' := [some (rv G 418), some (iv a1), some (iv 0), none]) dX11_thingsIn_1 rfl rfl rfl (by decide) ?_
  refine fW_iconst 3 dX11_thingsIn_2 rfl ?_
  refine fW_istore_n 4 (ls' := [some (rv G 418), some (iv a1), some (iv 0), some (iv 0)]) dX11_thingsIn_3 rfl rfl rfl (by decide) ?_
  refine fW_sb (l_X11_thingsIn_4 hg ?_ 4 a1 0 0 ga1 (by decide) (by decide) h) ⟨rfl, rfl, rfl, rfl, trivial⟩
  intro v2_10 gv2_10 h
  refine fW_iload_n 52 dX11_thingsIn_51 rfl rfl ?_
  exact fW_iret rfl (by decide) (by decide) dX11_thingsIn_52 (rP_i h gv2_10)
def mX11_level : fMt := (yX11_level, cX11_level, 4, some .int, { frames := 5, cells := 0, slots := 0, locals := 200 })
theorem miX11_level : fMv mX11_level 2 := ⟨⟨fM 1508 (by decide +kernel) rfl, fM 101 (by decide +kernel) rfl, ⟨by decide +kernel, by decide +kernel⟩, by decide +kernel⟩, fM 1506 (by decide +kernel) rfl, fM 1507 (by decide +kernel) rfl⟩
def j_X11_level_28  (v1 : Int) (v2 : Int) (x1 : Int) (M : fMem) : Option (Int × fMem) := (if 0 ≤ x1 ∧ x1 ≤ 1 then ((f_X11_right x1 1 M).bind fun (r5 : Int × fMem) => (if r5.1 = 0 then some (0, r5.2) else ((f_X11_leadOf v1 r5.2).bind fun (r8 : Int) => (if v2 = 0 then ((f_X11_shutMany v1 r5.2).bind fun (r10 : Int) => some (r10, r5.2)) else (if v2 = 1 then (if 0 ≤ 7657 + v1 ∧ 7657 + v1 < 7787 then some (r5.2 419 (7657 + v1), r5.2) else none) else (if v2 = 2 then ((f_X11_thingsIn v1 r5.2).bind fun (r14 : Int) => some (r14, r5.2)) else (if v2 = 3 then (if 0 ≤ 7720 + v1 ∧ 7720 + v1 < 7787 then some (r5.2 419 (7720 + v1), r5.2) else none) else (if v2 = 4 then (if 0 ≤ 7729 + v1 ∧ 7729 + v1 < 7787 then some (r5.2 419 (7729 + v1), r5.2) else none) else (if v2 = 5 then ((f_X11_leftOf v1 r5.2).bind fun (r20 : Int) => some (r20, r5.2)) else (if v2 = 6 then (if 0 ≤ 7657 + v1 ∧ 7657 + v1 < 7787 then (if 0 ≤ 7666 + v1 ∧ 7666 + v1 < 7787 then (if -2147483648 ≤ (r5.2 419 (7657 + v1)) * (r5.2 419 (7666 + v1)) ∧ (r5.2 419 (7657 + v1)) * (r5.2 419 (7666 + v1)) < 2147483648 then some ((r5.2 419 (7657 + v1)) * (r5.2 419 (7666 + v1)), r5.2) else none) else none) else none) else (if v2 = 7 then (if r8 = ((-1)) then some ((-1), r5.2) else (if -2147483648 ≤ r8 - (2 * v1) ∧ r8 - (2 * v1) < 2147483648 then some (r8 - (2 * v1), r5.2) else none)) else ((f_X11_laysEntries 0 r5.2).bind fun (r28 : fMem) => (if r8 = ((-1)) then some (0, r28) else ((f_X11_marksIn r8 r28).bind fun (r31 : Int) => some (r31, r28))))))))))))))) else none)
set_option maxRecDepth 100000 in
set_option maxHeartbeats 4000000 in
theorem i_X11_level_28 {G : fG} (hg : gbt G = true)  {v1 : Int} {v2 : Int} {x1 : Int} (gv1 : rg v1) (gv2 : rg v2) (gx1 : rg x1) {M : fMem} {q : Int × fMem} (h : j_X11_level_28 v1 v2 x1 M = some q) : fW G mX11_level (fEm G mX11_level (rP q.2 q.1) fNo) 0 0 28 [some (rv G 418), some (iv v1), some (iv v2), none] [iv x1, rv G 418] M := by
  rw [j_X11_level_28] at h
  refine fW_rg (fun hR => ?_)
  refine fW_iconst 29 dX11_level_28 rfl ?_
  obtain ⟨c4, h⟩ := fS h
  obtain ⟨r5, e5, h⟩ := fBd h
  refine fW_cB (fI_V (as := [iv x1, iv 1]) (rest := []) miX11_right hg clX11 rfl tc_418 wd_1396 (fRoom_of rfl) rfl (Nat.le_of_ble_eq_true rfl) dX11_level_29) (s_X11_right hg c4 (by decide) e5) rfl rfl rfl (fun g5 => ?_)
  refine fW_rg (fun hR6 => ?_)
  refine fW_if_ne 35 37 (rg_z g5) dX11_level_32 rfl rfl (fun c7 => ?_) (fun c7 => ?_)
  · replace h := fFf h c7
    refine fW_aload_n 38 dX11_level_37 rfl rfl ?_
    refine fW_iload_n 39 dX11_level_38 rfl rfl ?_
    obtain ⟨r8, e8, h⟩ := fBd h
    refine fW_cP (fI_V (as := [iv v1]) (rest := []) miX11_leadOf hg clX11 rfl tc_418 wd_1447 (fRoom_of rfl) rfl (Nat.le_of_ble_eq_true rfl) dX11_level_39) (s_X11_leadOf hg gv1 e8) rfl rfl rfl (fun g8 => ?_)
    refine fW_istore_n 43 (ls' := [some (rv G 418), some (iv v1), some (iv v2), some (iv r8)]) dX11_level_42 rfl rfl rfl (by decide) ?_
    refine fW_iload_n 44 dX11_level_43 rfl rfl ?_
    have gs := gv2
    by_cases c9 : v2 = 0
    · replace h := fTt h c9
      refine fW_tabIn 92 c9 (by decide) dX11_level_44 (by decide) (by decide) rfl rfl ?_
      refine fW_aload_n 93 dX11_level_92 rfl rfl ?_
      refine fW_iload_n 94 dX11_level_93 rfl rfl ?_
      obtain ⟨r10, e10, h⟩ := fBd h
      refine fW_cP (fI_V (as := [iv v1]) (rest := []) miX11_shutMany hg clX11 rfl tc_418 wd_1336 (fRoom_of rfl) rfl (Nat.le_of_ble_eq_true rfl) dX11_level_94) (s_X11_shutMany hg gv1 e10) rfl rfl rfl (fun g10 => ?_)
      exact fW_iret rfl (by decide) (by decide) dX11_level_97 (rI_i h g10)
    replace h := fFf h c9
    by_cases c11 : v2 = 1
    · replace h := fTt h c11
      refine fW_tabIn 98 c11 (by decide) dX11_level_44 (by decide) (by decide) rfl rfl ?_
      refine fW_aload_n 99 dX11_level_98 rfl rfl ?_
      refine fW_getR 102 (r := 419) 0 hg clX11 (by decide) rfl tc_418 tf_11_0 wd_1174 dX11_level_99 rfl ?_
      refine fW_sipush 105 dX11_level_102 rfl (by decide) ?_
      refine fW_iload_n 106 dX11_level_105 rfl rfl ?_
      refine fW_iadd 107 dX11_level_106 rfl ?_
      obtain ⟨c12, h⟩ := fS h
      refine fW_iald 108 hg tc_419 ⟨c12.1, by rw [show Ln 419 = 7787 from rfl]; exact c12.2⟩ dX11_level_107 rfl ?_
      exact fW_iret rfl (by decide) (by decide) dX11_level_108 (rI_i h (hR6 419 (7657 + v1)))
    replace h := fFf h c11
    by_cases c13 : v2 = 2
    · replace h := fTt h c13
      refine fW_tabIn 109 c13 (by decide) dX11_level_44 (by decide) (by decide) rfl rfl ?_
      refine fW_aload_n 110 dX11_level_109 rfl rfl ?_
      refine fW_iload_n 111 dX11_level_110 rfl rfl ?_
      obtain ⟨r14, e14, h⟩ := fBd h
      refine fW_cP (fI_V (as := [iv v1]) (rest := []) miX11_thingsIn hg clX11 rfl tc_418 wd_1509 (fRoom_of rfl) rfl (Nat.le_of_ble_eq_true rfl) dX11_level_111) (s_X11_thingsIn hg gv1 e14) rfl rfl rfl (fun g14 => ?_)
      exact fW_iret rfl (by decide) (by decide) dX11_level_114 (rI_i h g14)
    replace h := fFf h c13
    by_cases c15 : v2 = 3
    · replace h := fTt h c15
      refine fW_tabIn 115 c15 (by decide) dX11_level_44 (by decide) (by decide) rfl rfl ?_
      refine fW_aload_n 116 dX11_level_115 rfl rfl ?_
      refine fW_getR 119 (r := 419) 0 hg clX11 (by decide) rfl tc_418 tf_11_0 wd_1174 dX11_level_116 rfl ?_
      refine fW_sipush 122 dX11_level_119 rfl (by decide) ?_
      refine fW_iload_n 123 dX11_level_122 rfl rfl ?_
      refine fW_iadd 124 dX11_level_123 rfl ?_
      obtain ⟨c16, h⟩ := fS h
      refine fW_iald 125 hg tc_419 ⟨c16.1, by rw [show Ln 419 = 7787 from rfl]; exact c16.2⟩ dX11_level_124 rfl ?_
      exact fW_iret rfl (by decide) (by decide) dX11_level_125 (rI_i h (hR6 419 (7720 + v1)))
    replace h := fFf h c15
    by_cases c17 : v2 = 4
    · replace h := fTt h c17
      refine fW_tabIn 126 c17 (by decide) dX11_level_44 (by decide) (by decide) rfl rfl ?_
      refine fW_aload_n 127 dX11_level_126 rfl rfl ?_
      refine fW_getR 130 (r := 419) 0 hg clX11 (by decide) rfl tc_418 tf_11_0 wd_1174 dX11_level_127 rfl ?_
      refine fW_sipush 133 dX11_level_130 rfl (by decide) ?_
      refine fW_iload_n 134 dX11_level_133 rfl rfl ?_
      refine fW_iadd 135 dX11_level_134 rfl ?_
      obtain ⟨c18, h⟩ := fS h
      refine fW_iald 136 hg tc_419 ⟨c18.1, by rw [show Ln 419 = 7787 from rfl]; exact c18.2⟩ dX11_level_135 rfl ?_
      exact fW_iret rfl (by decide) (by decide) dX11_level_136 (rI_i h (hR6 419 (7729 + v1)))
    replace h := fFf h c17
    by_cases c19 : v2 = 5
    · replace h := fTt h c19
      refine fW_tabIn 137 c19 (by decide) dX11_level_44 (by decide) (by decide) rfl rfl ?_
      refine fW_aload_n 138 dX11_level_137 rfl rfl ?_
      refine fW_iload_n 139 dX11_level_138 rfl rfl ?_
      obtain ⟨r20, e20, h⟩ := fBd h
      refine fW_cP (fI_V (as := [iv v1]) (rest := []) miX11_leftOf hg clX11 rfl tc_418 wd_1312 (fRoom_of rfl) rfl (Nat.le_of_ble_eq_true rfl) dX11_level_139) (s_X11_leftOf hg gv1 e20) rfl rfl rfl (fun g20 => ?_)
      exact fW_iret rfl (by decide) (by decide) dX11_level_142 (rI_i h g20)
    replace h := fFf h c19
    by_cases c21 : v2 = 6
    · replace h := fTt h c21
      refine fW_tabIn 143 c21 (by decide) dX11_level_44 (by decide) (by decide) rfl rfl ?_
      refine fW_aload_n 144 dX11_level_143 rfl rfl ?_
      refine fW_getR 147 (r := 419) 0 hg clX11 (by decide) rfl tc_418 tf_11_0 wd_1174 dX11_level_144 rfl ?_
      refine fW_sipush 150 dX11_level_147 rfl (by decide) ?_
      refine fW_iload_n 151 dX11_level_150 rfl rfl ?_
      refine fW_iadd 152 dX11_level_151 rfl ?_
      obtain ⟨c22, h⟩ := fS h
      refine fW_iald 153 hg tc_419 ⟨c22.1, by rw [show Ln 419 = 7787 from rfl]; exact c22.2⟩ dX11_level_152 rfl ?_
      refine fW_aload_n 154 dX11_level_153 rfl rfl ?_
      refine fW_getR 157 (r := 419) 0 hg clX11 (by decide) rfl tc_418 tf_11_0 wd_1174 dX11_level_154 rfl ?_
      refine fW_sipush 160 dX11_level_157 rfl (by decide) ?_
      refine fW_iload_n 161 dX11_level_160 rfl rfl ?_
      refine fW_iadd 162 dX11_level_161 rfl ?_
      obtain ⟨c23, h⟩ := fS h
      refine fW_iald 163 hg tc_419 ⟨c23.1, by rw [show Ln 419 = 7787 from rfl]; exact c23.2⟩ dX11_level_162 rfl ?_
      refine fW_imul 164 dX11_level_163 rfl ?_
      obtain ⟨c24, h⟩ := fS h
      exact fW_iret rfl (by decide) (by decide) dX11_level_164 (rI_i h c24)
    replace h := fFf h c21
    by_cases c25 : v2 = 7
    · replace h := fTt h c25
      refine fW_tabIn 165 c25 (by decide) dX11_level_44 (by decide) (by decide) rfl rfl ?_
      refine fW_iload_n 166 dX11_level_165 rfl rfl ?_
      refine fW_iconst 167 dX11_level_166 rfl ?_
      refine fW_icmp_ne 170 174 g8 (by decide) dX11_level_167 rfl rfl (fun c26 => ?_) (fun c26 => ?_)
      · replace h := fFf h c26
        refine fW_iload_n 175 dX11_level_174 rfl rfl ?_
        refine fW_iconst 176 dX11_level_175 rfl ?_
        refine fW_iload_n 177 dX11_level_176 rfl rfl ?_
        refine fW_imul 178 dX11_level_177 rfl ?_
        refine fW_isub 179 dX11_level_178 rfl ?_
        obtain ⟨c27, h⟩ := fS h
        exact fW_iret rfl (by decide) (by decide) dX11_level_179 (rI_i h c27)
      · replace h := fTt h c26
        refine fW_iconst 171 dX11_level_170 rfl ?_
        refine fW_goto 179 dX11_level_171 rfl ?_
        exact fW_iret rfl (by decide) (by decide) dX11_level_179 (rI_i h (by decide))
    replace h := fFf h c25
    refine fW_tabOut 180 gs dX11_level_44 (by omega) rfl ?_
    refine fW_aload_n 181 dX11_level_180 rfl rfl ?_
    refine fW_iconst 182 dX11_level_181 rfl ?_
    obtain ⟨r28, e28, h⟩ := fBd h
    refine fW_cV (fI_V (as := [iv 0]) (rest := []) miX11_laysEntries hg clX11 rfl tc_418 wd_1431 (fRoom_of rfl) rfl (Nat.le_of_ble_eq_true rfl) dX11_level_182) (s_X11_laysEntries hg (by decide) e28) rfl rfl rfl ?_
    refine fW_rg (fun hR29 => ?_)
    refine fW_iload_n 186 dX11_level_185 rfl rfl ?_
    refine fW_iconst 187 dX11_level_186 rfl ?_
    refine fW_icmp_ne 190 194 g8 (by decide) dX11_level_187 rfl rfl (fun c30 => ?_) (fun c30 => ?_)
    · replace h := fFf h c30
      refine fW_aload_n 195 dX11_level_194 rfl rfl ?_
      refine fW_iload_n 196 dX11_level_195 rfl rfl ?_
      obtain ⟨r31, e31, h⟩ := fBd h
      refine fW_cP (fI_V (as := [iv r8]) (rest := []) miX11_marksIn hg clX11 rfl tc_418 wd_1513 (fRoom_of rfl) rfl (Nat.le_of_ble_eq_true rfl) dX11_level_196) (s_X11_marksIn hg g8 e31) rfl rfl rfl (fun g31 => ?_)
      exact fW_iret rfl (by decide) (by decide) dX11_level_199 (rI_i h g31)
    · replace h := fTt h c30
      refine fW_iconst 191 dX11_level_190 rfl ?_
      refine fW_goto 199 dX11_level_191 rfl ?_
      exact fW_iret rfl (by decide) (by decide) dX11_level_199 (rI_i h (by decide))
  · replace h := fTt h c7
    refine fW_iconst 36 dX11_level_35 rfl ?_
    exact fW_iret rfl (by decide) (by decide) dX11_level_36 (rI_i h (by decide))
def j_X11_level_27  (v1 : Int) (v2 : Int) (M : fMem) : Option (Int × fMem) := j_X11_level_28 v1 v2 0 M
set_option maxRecDepth 100000 in
set_option maxHeartbeats 4000000 in
theorem i_X11_level_27 {G : fG} (hg : gbt G = true)  {v1 : Int} {v2 : Int} (gv1 : rg v1) (gv2 : rg v2) {M : fMem} {q : Int × fMem} (h : j_X11_level_27 v1 v2 M = some q) : fW G mX11_level (fEm G mX11_level (rP q.2 q.1) fNo) 0 0 27 [some (rv G 418), some (iv v1), some (iv v2), none] [rv G 418] M := by
  rw [j_X11_level_27] at h
  refine fW_rg (fun hR => ?_)
  refine fW_iconst 28 dX11_level_27 rfl ?_
  exact fW_sb (i_X11_level_28 hg gv1 gv2 (by decide) h) ⟨rfl, rfl, rfl, trivial⟩
def f_X11_level (a1 : Int) (a2 : Int) (M : fMem) : Option (Int × fMem) := ((some (mset M 418 4 0)).bind fun (N1 : fMem) => ((f_X11_isLevel a1 N1).bind fun (r2 : Int) => (if r2 = 0 then j_X11_level_27 a1 a2 N1 else ((f_X11_isIn a2 0 8 N1).bind fun (r32 : Int) => (if r32 = 0 then j_X11_level_27 a1 a2 N1 else j_X11_level_28 a1 a2 1 N1)))))
set_option maxRecDepth 100000 in
set_option maxHeartbeats 4000000 in
theorem s_X11_level {G : fG} (hg : gbt G = true) {a1 : Int} (ga1 : rg a1) {a2 : Int} (ga2 : rg a2) {M : fMem} {q : Int × fMem} (h : f_X11_level a1 a2 M = some q) : fSp G mX11_level [rv G 418, iv a1, iv a2] M (rP q.2 q.1) fNo := by
  refine fSp_of (by decide +kernel) (by decide +kernel) (fC1 rfl (fC1 rfl (fC1 rfl fC0))) (Nat.le_of_ble_eq_true rfl) ?_
  show fW G mX11_level (fEm G mX11_level (rP q.2 q.1) fNo) 0 0 0 [some (rv G 418), some (iv a1), some (iv a2), none] [] M
  rw [f_X11_level] at h
  refine fW_rg (fun hR => ?_)
  refine fW_aload_n 1 dX11_level_0 rfl rfl ?_
  refine fW_iconst 2 dX11_level_1 rfl ?_
  obtain ⟨N1, e1, h⟩ := fBd h
  replace e1 := Option.some.inj e1
  refine fW_putI 5 4 (ji := 4) hg clX11 rfl (by decide) rfl rfl rfl tc_418 (by decide) wd_1178 dX11_level_2 rfl ?_
  rw [e1]
  refine fW_rg (fun hR1 => ?_)
  refine fW_aload_n 6 dX11_level_5 rfl rfl ?_
  refine fW_iload_n 7 dX11_level_6 rfl rfl ?_
  obtain ⟨r2, e2, h⟩ := fBd h
  refine fW_cB (fI_S (as := [iv a1]) (rest := [rv G 418]) miX11_isLevel rfl wd_1494 (fRoom_of rfl) rfl (Nat.le_of_ble_eq_true rfl) dX11_level_7) (s_X11_isLevel ga1 e2) rfl rfl rfl (fun g2 => ?_)
  refine fW_if_eq 13 27 (rg_z g2) dX11_level_10 rfl rfl (fun c3 => ?_) (fun c3 => ?_)
  · replace h := fTt h c3
    exact fW_sb (i_X11_level_27 hg ga1 ga2 h) ⟨rfl, rfl, rfl, trivial⟩
  · replace h := fFf h c3
    refine fW_iload_n 14 dX11_level_13 rfl rfl ?_
    refine fW_iconst 15 dX11_level_14 rfl ?_
    refine fW_bipush 17 dX11_level_15 rfl (by decide) ?_
    obtain ⟨r32, e32, h⟩ := fBd h
    refine fW_cB (fI_S (as := [iv a2, iv 0, iv 8]) (rest := [rv G 418]) miX11_isIn rfl wd_1272 (fRoom_of rfl) rfl (Nat.le_of_ble_eq_true rfl) dX11_level_17) (s_X11_isIn ga2 (by decide) (by decide) e32) rfl rfl rfl (fun g32 => ?_)
    refine fW_if_eq 23 27 (rg_z g32) dX11_level_20 rfl rfl (fun c33 => ?_) (fun c33 => ?_)
    · replace h := fTt h c33
      exact fW_sb (i_X11_level_27 hg ga1 ga2 h) ⟨rfl, rfl, rfl, trivial⟩
    · replace h := fFf h c33
      refine fW_iconst 24 dX11_level_23 rfl ?_
      refine fW_goto 28 dX11_level_24 rfl ?_
      exact fW_sb (i_X11_level_28 hg ga1 ga2 (by decide) h) ⟨rfl, rfl, rfl, trivial⟩
end MTH
