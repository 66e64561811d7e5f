section MTH
def mX11_thrown : fMt := (yX11_thrown, cX11_thrown, 1, some .int, { frames := 0, cells := 0, slots := 0, locals := 0 })
theorem miX11_thrown : fMv mX11_thrown 0 := ⟨⟨fM 1259 (by decide +kernel) rfl, fM 101 (by decide +kernel) rfl, ⟨by decide +kernel, by decide +kernel⟩, by decide +kernel⟩, fM 1257 (by decide +kernel) rfl, fM 1258 (by decide +kernel) rfl⟩
def f_X11_thrown  (M : fMem) : Option (Int) := some (M 418 4)
set_option maxRecDepth 100000 in
set_option maxHeartbeats 4000000 in
theorem s_X11_thrown {G : fG} (hg : gbt G = true)  {M : fMem} {q : Int} (h : f_X11_thrown M = some q) : fSp G mX11_thrown [rv G 418] M (rP M q) fNo := by
  refine fSp_of (by decide +kernel) (by decide +kernel) (fC1 rfl fC0) (Nat.le_of_ble_eq_true rfl) ?_
  show fW G mX11_thrown (fEm G mX11_thrown (rP M q) fNo) 0 0 0 [some (rv G 418)] [] M
  rw [f_X11_thrown] at h
  refine fW_rg (fun hR => ?_)
  refine fW_aload_n 1 dX11_thrown_0 rfl rfl ?_
  refine fW_getI 4 4 (ji := 4) hg clX11 rfl (by decide) rfl tc_418 wd_1178 dX11_thrown_1 rfl ?_
  exact fW_iret rfl (by decide) (by decide) dX11_thrown_4 (rP_i h (hR 418 4))
def mX11_right : fMt := (yX11_right, cX11_right, 3, some .boolean, { frames := 0, cells := 0, slots := 0, locals := 0 })
theorem miX11_right : fMv mX11_right 2 := ⟨⟨fM 1399 (by decide +kernel) rfl, fM 101 (by decide +kernel) rfl, ⟨by decide +kernel, by decide +kernel⟩, by decide +kernel⟩, fM 1398 (by decide +kernel) rfl, fM 51 (by decide +kernel) rfl⟩
def f_X11_right (a1 : Int) (a2 : Int) (M : fMem) : Option (Int × fMem) := (if (M 418 4) = 0 then (if a1 = 0 then ((some (mset M 418 4 a2)).bind fun (N5 : fMem) => (if (N5 418 4) = 0 then some (1, N5) else some (0, N5))) else (if (M 418 4) = 0 then some (1, M) else some (0, M))) else (if (M 418 4) = 0 then some (1, M) else some (0, M)))
set_option maxRecDepth 100000 in
set_option maxHeartbeats 4000000 in
theorem s_X11_right {G : fG} (hg : gbt G = true) {a1 : Int} (ga1 : 0 ≤ a1 ∧ a1 ≤ 1) {a2 : Int} (ga2 : rg a2) {M : fMem} {q : Int × fMem} (h : f_X11_right a1 a2 M = some q) : fSp G mX11_right [rv G 418, iv a1, iv a2] M (rB q.2 q.1) fNo := by
  refine fSp_of (by decide +kernel) (by decide +kernel) (fC1 rfl (fC1 rfl (fC1 rfl fC0))) (Nat.le_of_ble_eq_true rfl) ?_
  show fW G mX11_right (fEm G mX11_right (rB q.2 q.1) fNo) 0 0 0 [some (rv G 418), some (iv a1), some (iv a2)] [] M
  rw [f_X11_right] at h
  refine fW_rg (fun hR => ?_)
  refine fW_aload_n 1 dX11_right_0 rfl rfl ?_
  refine fW_getI 4 4 (ji := 4) hg clX11 rfl (by decide) rfl tc_418 wd_1178 dX11_right_1 rfl ?_
  refine fW_if_ne 7 16 (hR 418 4) dX11_right_4 rfl rfl (fun c1 => ?_) (fun c1 => ?_)
  · replace h := fFf h c1
    refine fW_aload_n 17 dX11_right_16 rfl rfl ?_
    refine fW_getI 20 4 (ji := 4) hg clX11 rfl (by decide) rfl tc_418 wd_1178 dX11_right_17 rfl ?_
    refine fW_if_ne 23 27 (hR 418 4) dX11_right_20 rfl rfl (fun c2 => ?_) (fun c2 => ?_)
    · replace h := fFf h c2
      refine fW_iconst 28 dX11_right_27 rfl ?_
      exact fW_zret rfl (by decide) (by decide) (by decide) dX11_right_28 (rBI_i h (by decide))
    · replace h := fTt h c2
      refine fW_iconst 24 dX11_right_23 rfl ?_
      refine fW_goto 28 dX11_right_24 rfl ?_
      exact fW_zret rfl (by decide) (by decide) (by decide) dX11_right_28 (rBI_i h (by decide))
  · replace h := fTt h c1
    refine fW_iload_n 8 dX11_right_7 rfl rfl ?_
    refine fW_if_ne 11 16 (rg_z ga1) dX11_right_8 rfl rfl (fun c3 => ?_) (fun c3 => ?_)
    · replace h := fFf h c3
      refine fW_aload_n 17 dX11_right_16 rfl rfl ?_
      refine fW_getI 20 4 (ji := 4) hg clX11 rfl (by decide) rfl tc_418 wd_1178 dX11_right_17 rfl ?_
      refine fW_if_ne 23 27 (hR 418 4) dX11_right_20 rfl rfl (fun c4 => ?_) (fun c4 => ?_)
      · replace h := fFf h c4
        refine fW_iconst 28 dX11_right_27 rfl ?_
        exact fW_zret rfl (by decide) (by decide) (by decide) dX11_right_28 (rBI_i h (by decide))
      · replace h := fTt h c4
        refine fW_iconst 24 dX11_right_23 rfl ?_
        refine fW_goto 28 dX11_right_24 rfl ?_
        exact fW_zret rfl (by decide) (by decide) (by decide) dX11_right_28 (rBI_i h (by decide))
    · replace h := fTt h c3
      refine fW_aload_n 12 dX11_right_11 rfl rfl ?_
      refine fW_iload_n 13 dX11_right_12 rfl rfl ?_
      obtain ⟨N5, e5, h⟩ := fBd h
      replace e5 := Option.some.inj e5
      refine fW_putI 16 4 (ji := 4) hg clX11 rfl (by decide) rfl rfl rfl tc_418 ga2 wd_1178 dX11_right_13 rfl ?_
      rw [e5]
      refine fW_rg (fun hR5 => ?_)
      refine fW_aload_n 17 dX11_right_16 rfl rfl ?_
      refine fW_getI 20 4 (ji := 4) hg clX11 rfl (by decide) rfl tc_418 wd_1178 dX11_right_17 rfl ?_
      refine fW_if_ne 23 27 (hR5 418 4) dX11_right_20 rfl rfl (fun c6 => ?_) (fun c6 => ?_)
      · replace h := fFf h c6
        refine fW_iconst 28 dX11_right_27 rfl ?_
        exact fW_zret rfl (by decide) (by decide) (by decide) dX11_right_28 (rBI_i h (by decide))
      · replace h := fTt h c6
        refine fW_iconst 24 dX11_right_23 rfl ?_
        refine fW_goto 28 dX11_right_24 rfl ?_
        exact fW_zret rfl (by decide) (by decide) (by decide) dX11_right_28 (rBI_i h (by decide))
def mX11_isIn : fMt := (yX11_isIn, cX11_isIn, 3, some .boolean, { frames := 0, cells := 0, slots := 0, locals := 0 })
theorem miX11_isIn : fMs mX11_isIn 3 := ⟨⟨fM 1274 (by decide +kernel) rfl, fM 101 (by decide +kernel) rfl, ⟨by decide +kernel, by decide +kernel⟩, by decide +kernel⟩, fM 1273 (by decide +kernel) rfl⟩
def f_X11_isIn (a1 : Int) (a2 : Int) (a3 : Int) (M : fMem) : Option (Int) := (if a1 < a2 then some 0 else (if a3 < a1 then some 0 else some 1))
set_option maxRecDepth 100000 in
set_option maxHeartbeats 4000000 in
theorem s_X11_isIn {G : fG}  {a1 : Int} (ga1 : rg a1) {a2 : Int} (ga2 : rg a2) {a3 : Int} (ga3 : rg a3) {M : fMem} {q : Int} (h : f_X11_isIn a1 a2 a3 M = some q) : fSp G mX11_isIn [iv a1, iv a2, iv a3] M (rB M q) fNo := by
  refine fSp_of (by decide +kernel) (by decide +kernel) (fC1 rfl (fC1 rfl (fC1 rfl fC0))) (Nat.le_of_ble_eq_true rfl) ?_
  show fW G mX11_isIn (fEm G mX11_isIn (rB M q) fNo) 0 0 0 [some (iv a1), some (iv a2), some (iv a3)] [] M
  rw [f_X11_isIn] at h
  refine fW_rg (fun hR => ?_)
  refine fW_iload_n 1 dX11_isIn_0 rfl rfl ?_
  refine fW_iload_n 2 dX11_isIn_1 rfl rfl ?_
  refine fW_icmp_lt 5 14 ga1 ga2 dX11_isIn_2 rfl rfl (fun c1 => ?_) (fun c1 => ?_)
  · replace h := fTt h c1
    refine fW_iconst 15 dX11_isIn_14 rfl ?_
    exact fW_zret rfl (by decide) (by decide) (by decide) dX11_isIn_15 (rB_i h (by decide))
  · replace h := fFf h c1
    refine fW_iload_n 6 dX11_isIn_5 rfl rfl ?_
    refine fW_iload_n 7 dX11_isIn_6 rfl rfl ?_
    refine fW_icmp_gt 10 14 ga1 ga3 dX11_isIn_7 rfl rfl (fun c2 => ?_) (fun c2 => ?_)
    · replace h := fTt h c2
      refine fW_iconst 15 dX11_isIn_14 rfl ?_
      exact fW_zret rfl (by decide) (by decide) (by decide) dX11_isIn_15 (rB_i h (by decide))
    · replace h := fFf h c2
      refine fW_iconst 11 dX11_isIn_10 rfl ?_
      refine fW_goto 15 dX11_isIn_11 rfl ?_
      exact fW_zret rfl (by decide) (by decide) (by decide) dX11_isIn_15 (rB_i h (by decide))
def mX11_isKey : fMt := (yX11_isKey, cX11_isKey, 1, some .boolean, { frames := 1, cells := 0, slots := 0, locals := 40 })
theorem miX11_isKey : fMs mX11_isKey 1 := ⟨⟨fM 1277 (by decide +kernel) rfl, fM 101 (by decide +kernel) rfl, ⟨by decide +kernel, by decide +kernel⟩, by decide +kernel⟩, fM 1276 (by decide +kernel) rfl⟩
def f_X11_isKey (a1 : Int) (M : fMem) : Option (Int) := ((f_X11_isIn a1 0 199 M).bind fun (r1 : Int) => some r1)
set_option maxRecDepth 100000 in
set_option maxHeartbeats 4000000 in
theorem s_X11_isKey {G : fG}  {a1 : Int} (ga1 : rg a1) {M : fMem} {q : Int} (h : f_X11_isKey a1 M = some q) : fSp G mX11_isKey [iv a1] M (rB M q) fNo := by
  refine fSp_of (by decide +kernel) (by decide +kernel) (fC1 rfl fC0) (Nat.le_of_ble_eq_true rfl) ?_
  show fW G mX11_isKey (fEm G mX11_isKey (rB M q) fNo) 0 0 0 [some (iv a1)] [] M
  rw [f_X11_isKey] at h
  refine fW_rg (fun hR => ?_)
  refine fW_iload_n 1 dX11_isKey_0 rfl rfl ?_
  refine fW_iconst 2 dX11_isKey_1 rfl ?_
  refine fW_sipush 5 dX11_isKey_2 rfl (by decide) ?_
  obtain ⟨r1, e1, h⟩ := fBd h
  refine fW_cB (fI_S (as := [iv a1, iv 0, iv 199]) (rest := []) miX11_isIn rfl wd_1272 (fRoom_of rfl) rfl (Nat.le_of_ble_eq_true rfl) dX11_isKey_5) (s_X11_isIn ga1 (by decide) (by decide) e1) rfl rfl rfl (fun g1 => ?_)
  exact fW_zret rfl g1 (by decide) (by decide) dX11_isKey_8 (rB_i h g1)
def mX11_isLevel : fMt := (yX11_isLevel, cX11_isLevel, 1, some .boolean, { frames := 1, cells := 0, slots := 0, locals := 40 })
theorem miX11_isLevel : fMs mX11_isLevel 1 := ⟨⟨fM 1496 (by decide +kernel) rfl, fM 101 (by decide +kernel) rfl, ⟨by decide +kernel, by decide +kernel⟩, by decide +kernel⟩, fM 1495 (by decide +kernel) rfl⟩
def f_X11_isLevel (a1 : Int) (M : fMem) : Option (Int) := ((f_X11_isIn a1 0 8 M).bind fun (r1 : Int) => some r1)
set_option maxRecDepth 100000 in
set_option maxHeartbeats 4000000 in
theorem s_X11_isLevel {G : fG}  {a1 : Int} (ga1 : rg a1) {M : fMem} {q : Int} (h : f_X11_isLevel a1 M = some q) : fSp G mX11_isLevel [iv a1] M (rB M q) fNo := by
  refine fSp_of (by decide +kernel) (by decide +kernel) (fC1 rfl fC0) (Nat.le_of_ble_eq_true rfl) ?_
  show fW G mX11_isLevel (fEm G mX11_isLevel (rB M q) fNo) 0 0 0 [some (iv a1)] [] M
  rw [f_X11_isLevel] at h
  refine fW_rg (fun hR => ?_)
  refine fW_iload_n 1 dX11_isLevel_0 rfl rfl ?_
  refine fW_iconst 2 dX11_isLevel_1 rfl ?_
  refine fW_bipush 4 dX11_isLevel_2 rfl (by decide) ?_
  obtain ⟨r1, e1, h⟩ := fBd h
  refine fW_cB (fI_S (as := [iv a1, iv 0, iv 8]) (rest := []) miX11_isIn rfl wd_1272 (fRoom_of rfl) rfl (Nat.le_of_ble_eq_true rfl) dX11_isLevel_4) (s_X11_isIn ga1 (by decide) (by decide) e1) rfl rfl rfl (fun g1 => ?_)
  exact fW_zret rfl g1 (by decide) (by decide) dX11_isLevel_7 (rB_i h g1)
def mX11_rowsOf : fMt := (yX11_rowsOf, cX11_rowsOf, 1, some .int, { frames := 0, cells := 0, slots := 0, locals := 0 })
theorem miX11_rowsOf : fMs mX11_rowsOf 1 := ⟨⟨fM 1288 (by decide +kernel) rfl, fM 101 (by decide +kernel) rfl, ⟨by decide +kernel, by decide +kernel⟩, by decide +kernel⟩, fM 1287 (by decide +kernel) rfl⟩
def f_X11_rowsOf (a1 : Int) (M : fMem) : Option (Int) := (if a1 = 8 then some 3 else some 2)
set_option maxRecDepth 100000 in
set_option maxHeartbeats 4000000 in
theorem s_X11_rowsOf {G : fG}  {a1 : Int} (ga1 : rg a1) {M : fMem} {q : Int} (h : f_X11_rowsOf a1 M = some q) : fSp G mX11_rowsOf [iv a1] M (rP M q) fNo := by
  refine fSp_of (by decide +kernel) (by decide +kernel) (fC1 rfl fC0) (Nat.le_of_ble_eq_true rfl) ?_
  show fW G mX11_rowsOf (fEm G mX11_rowsOf (rP M q) fNo) 0 0 0 [some (iv a1)] [] M
  rw [f_X11_rowsOf] at h
  refine fW_rg (fun hR => ?_)
  refine fW_iload_n 1 dX11_rowsOf_0 rfl rfl ?_
  refine fW_bipush 3 dX11_rowsOf_1 rfl (by decide) ?_
  refine fW_icmp_ne 6 10 ga1 (by decide) dX11_rowsOf_3 rfl rfl (fun c1 => ?_) (fun c1 => ?_)
  · replace h := fFf h c1
    refine fW_iconst 11 dX11_rowsOf_10 rfl ?_
    exact fW_iret rfl (by decide) (by decide) dX11_rowsOf_11 (rP_i h (by decide))
  · replace h := fTt h c1
    refine fW_iconst 7 dX11_rowsOf_6 rfl ?_
    refine fW_goto 11 dX11_rowsOf_7 rfl ?_
    exact fW_iret rfl (by decide) (by decide) dX11_rowsOf_11 (rP_i h (by decide))
def mX11_rowAt : fMt := (yX11_rowAt, cX11_rowAt, 2, some .int, { frames := 0, cells := 0, slots := 0, locals := 0 })
theorem miX11_rowAt : fMs mX11_rowAt 2 := ⟨⟨fM 1291 (by decide +kernel) rfl, fM 101 (by decide +kernel) rfl, ⟨by decide +kernel, by decide +kernel⟩, by decide +kernel⟩, fM 1290 (by decide +kernel) rfl⟩
def f_X11_rowAt (a1 : Int) (a2 : Int) (M : fMem) : Option (Int) := (if -2147483648 ≤ (2 * a1) + a2 ∧ (2 * a1) + a2 < 2147483648 then some ((2 * a1) + a2) else none)
set_option maxRecDepth 100000 in
set_option maxHeartbeats 4000000 in
theorem s_X11_rowAt {G : fG}  {a1 : Int} (ga1 : rg a1) {a2 : Int} (ga2 : rg a2) {M : fMem} {q : Int} (h : f_X11_rowAt a1 a2 M = some q) : fSp G mX11_rowAt [iv a1, iv a2] M (rP M q) fNo := by
  refine fSp_of (by decide +kernel) (by decide +kernel) (fC1 rfl (fC1 rfl fC0)) (Nat.le_of_ble_eq_true rfl) ?_
  show fW G mX11_rowAt (fEm G mX11_rowAt (rP M q) fNo) 0 0 0 [some (iv a1), some (iv a2)] [] M
  rw [f_X11_rowAt] at h
  refine fW_rg (fun hR => ?_)
  refine fW_iconst 1 dX11_rowAt_0 rfl ?_
  refine fW_iload_n 2 dX11_rowAt_1 rfl rfl ?_
  refine fW_imul 3 dX11_rowAt_2 rfl ?_
  refine fW_iload_n 4 dX11_rowAt_3 rfl rfl ?_
  refine fW_iadd 5 dX11_rowAt_4 rfl ?_
  obtain ⟨c1, h⟩ := fS h
  exact fW_iret rfl (by decide) (by decide) dX11_rowAt_5 (rP_i h c1)
def mX11_isRow : fMt := (yX11_isRow, cX11_isRow, 2, some .boolean, { frames := 2, cells := 0, slots := 0, locals := 80 })
theorem miX11_isRow : fMs mX11_isRow 2 := ⟨⟨fM 1493 (by decide +kernel) rfl, fM 101 (by decide +kernel) rfl, ⟨by decide +kernel, by decide +kernel⟩, by decide +kernel⟩, fM 1492 (by decide +kernel) rfl⟩
def f_X11_isRow (a1 : Int) (a2 : Int) (M : fMem) : Option (Int) := ((f_X11_isLevel a1 M).bind fun (r1 : Int) => (if r1 = 0 then some 0 else ((f_X11_rowsOf a1 M).bind fun (r3 : Int) => (if -2147483648 ≤ r3 - 1 ∧ r3 - 1 < 2147483648 then ((f_X11_isIn a2 0 (r3 - 1) M).bind fun (r5 : Int) => (if r5 = 0 then some 0 else some 1)) else none))))
set_option maxRecDepth 100000 in
set_option maxHeartbeats 4000000 in
theorem s_X11_isRow {G : fG}  {a1 : Int} (ga1 : rg a1) {a2 : Int} (ga2 : rg a2) {M : fMem} {q : Int} (h : f_X11_isRow a1 a2 M = some q) : fSp G mX11_isRow [iv a1, iv a2] M (rB M q) fNo := by
  refine fSp_of (by decide +kernel) (by decide +kernel) (fC1 rfl (fC1 rfl fC0)) (Nat.le_of_ble_eq_true rfl) ?_
  show fW G mX11_isRow (fEm G mX11_isRow (rB M q) fNo) 0 0 0 [some (iv a1), some (iv a2)] [] M
  rw [f_X11_isRow] at h
  refine fW_rg (fun hR => ?_)
  refine fW_iload_n 1 dX11_isRow_0 rfl rfl ?_
  obtain ⟨r1, e1, h⟩ := fBd h
  refine fW_cB (fI_S (as := [iv a1]) (rest := []) miX11_isLevel rfl wd_1494 (fRoom_of rfl) rfl (Nat.le_of_ble_eq_true rfl) dX11_isRow_1) (s_X11_isLevel ga1 e1) rfl rfl rfl (fun g1 => ?_)
  refine fW_if_eq 7 25 (rg_z g1) dX11_isRow_4 rfl rfl (fun c2 => ?_) (fun c2 => ?_)
  · replace h := fTt h c2
    refine fW_iconst 26 dX11_isRow_25 rfl ?_
    exact fW_zret rfl (by decide) (by decide) (by decide) dX11_isRow_26 (rB_i h (by decide))
  · replace h := fFf h c2
    refine fW_iload_n 8 dX11_isRow_7 rfl rfl ?_
    refine fW_iconst 9 dX11_isRow_8 rfl ?_
    refine fW_iload_n 10 dX11_isRow_9 rfl rfl ?_
    obtain ⟨r3, e3, h⟩ := fBd h
    refine fW_cP (fI_S (as := [iv a1]) (rest := [iv 0, iv a2]) miX11_rowsOf rfl wd_1286 (fRoom_of rfl) rfl (Nat.le_of_ble_eq_true rfl) dX11_isRow_10) (s_X11_rowsOf ga1 e3) rfl rfl rfl (fun g3 => ?_)
    refine fW_iconst 14 dX11_isRow_13 rfl ?_
    refine fW_isub 15 dX11_isRow_14 rfl ?_
    obtain ⟨c4, h⟩ := fS h
    obtain ⟨r5, e5, h⟩ := fBd h
    refine fW_cB (fI_S (as := [iv a2, iv 0, iv (r3 - 1)]) (rest := []) miX11_isIn rfl wd_1272 (fRoom_of rfl) rfl (Nat.le_of_ble_eq_true rfl) dX11_isRow_15) (s_X11_isIn ga2 (by decide) c4 e5) rfl rfl rfl (fun g5 => ?_)
    refine fW_if_eq 21 25 (rg_z g5) dX11_isRow_18 rfl rfl (fun c6 => ?_) (fun c6 => ?_)
    · replace h := fTt h c6
      refine fW_iconst 26 dX11_isRow_25 rfl ?_
      exact fW_zret rfl (by decide) (by decide) (by decide) dX11_isRow_26 (rB_i h (by decide))
    · replace h := fFf h c6
      refine fW_iconst 22 dX11_isRow_21 rfl ?_
      refine fW_goto 26 dX11_isRow_22 rfl ?_
      exact fW_zret rfl (by decide) (by decide) (by decide) dX11_isRow_26 (rB_i h (by decide))
def mX11_levelOf : fMt := (yX11_levelOf, cX11_levelOf, 1, some .int, { frames := 0, cells := 0, slots := 0, locals := 0 })
theorem miX11_levelOf : fMs mX11_levelOf 1 := ⟨⟨fM 1414 (by decide +kernel) rfl, fM 101 (by decide +kernel) rfl, ⟨by decide +kernel, by decide +kernel⟩, by decide +kernel⟩, fM 1413 (by decide +kernel) rfl⟩
def f_X11_levelOf (a1 : Int) (M : fMem) : Option (Int) := (if 0 ≤ a1 then (if -2147483648 ≤ a1 / 2 ∧ a1 / 2 < 2147483648 then (if 8 ≤ (a1 / 2) then some 8 else some (a1 / 2)) else none) else none)
set_option maxRecDepth 100000 in
set_option maxHeartbeats 4000000 in
theorem s_X11_levelOf {G : fG}  {a1 : Int} (ga1 : rg a1) {M : fMem} {q : Int} (h : f_X11_levelOf a1 M = some q) : fSp G mX11_levelOf [iv a1] M (rP M q) fNo := by
  refine fSp_of (by decide +kernel) (by decide +kernel) (fC1 rfl fC0) (Nat.le_of_ble_eq_true rfl) ?_
  show fW G mX11_levelOf (fEm G mX11_levelOf (rP M q) fNo) 0 0 0 [some (iv a1)] [] M
  rw [f_X11_levelOf] at h
  refine fW_rg (fun hR => ?_)
  refine fW_iload_n 1 dX11_levelOf_0 rfl rfl ?_
  refine fW_iconst 2 dX11_levelOf_1 rfl ?_
  obtain ⟨c1, h⟩ := fS h
  refine fW_idiv 3 ⟨c1, ga1.2⟩ (by decide) dX11_levelOf_2 rfl ?_
  refine fW_bipush 5 dX11_levelOf_3 rfl (by decide) ?_
  obtain ⟨c2, h⟩ := fS h
  refine fW_icmp_ge 8 14 c2 (by decide) dX11_levelOf_5 rfl rfl (fun c3 => ?_) (fun c3 => ?_)
  · replace h := fTt h c3
    refine fW_bipush 16 dX11_levelOf_14 rfl (by decide) ?_
    exact fW_iret rfl (by decide) (by decide) dX11_levelOf_16 (rP_i h (by decide))
  · replace h := fFf h c3
    refine fW_iload_n 9 dX11_levelOf_8 rfl rfl ?_
    refine fW_iconst 10 dX11_levelOf_9 rfl ?_
    refine fW_idiv 11 ⟨c1, ga1.2⟩ (by decide) dX11_levelOf_10 rfl ?_
    refine fW_goto 16 dX11_levelOf_11 rfl ?_
    exact fW_iret rfl (by decide) (by decide) dX11_levelOf_16 (rP_i h c2)
def mX11_isShut : fMt := (yX11_isShut, cX11_isShut, 2, some .boolean, { frames := 0, cells := 0, slots := 0, locals := 0 })
theorem miX11_isShut : fMv mX11_isShut 1 := ⟨⟨fM 1343 (by decide +kernel) rfl, fM 101 (by decide +kernel) rfl, ⟨by decide +kernel, by decide +kernel⟩, by decide +kernel⟩, fM 1342 (by decide +kernel) rfl, fM 44 (by decide +kernel) rfl⟩
def f_X11_isShut (a1 : Int) (M : fMem) : Option (Int) := (if 0 ≤ 7619 + a1 ∧ 7619 + a1 < 7787 then (if (M 419 (7619 + a1)) = 2 then some 1 else some 0) else none)
set_option maxRecDepth 100000 in
set_option maxHeartbeats 4000000 in
theorem s_X11_isShut {G : fG} (hg : gbt G = true) {a1 : Int} (ga1 : rg a1) {M : fMem} {q : Int} (h : f_X11_isShut a1 M = some q) : fSp G mX11_isShut [rv G 418, iv a1] M (rB M q) fNo := by
  refine fSp_of (by decide +kernel) (by decide +kernel) (fC1 rfl (fC1 rfl fC0)) (Nat.le_of_ble_eq_true rfl) ?_
  show fW G mX11_isShut (fEm G mX11_isShut (rB M q) fNo) 0 0 0 [some (rv G 418), some (iv a1)] [] M
  rw [f_X11_isShut] at h
  refine fW_rg (fun hR => ?_)
  refine fW_aload_n 1 dX11_isShut_0 rfl rfl ?_
  refine fW_getR 4 (r := 419) 0 hg clX11 (by decide) rfl tc_418 tf_11_0 wd_1174 dX11_isShut_1 rfl ?_
  refine fW_sipush 7 dX11_isShut_4 rfl (by decide) ?_
  refine fW_iload_n 8 dX11_isShut_7 rfl rfl ?_
  refine fW_iadd 9 dX11_isShut_8 rfl ?_
  obtain ⟨c1, h⟩ := fS h
  refine fW_iald 10 hg tc_419 ⟨c1.1, by rw [show Ln 419 = 7787 from rfl]; exact c1.2⟩ dX11_isShut_9 rfl ?_
  refine fW_iconst 11 dX11_isShut_10 rfl ?_
  refine fW_icmp_ne 14 18 (hR 419 (7619 + a1)) (by decide) dX11_isShut_11 rfl rfl (fun c2 => ?_) (fun c2 => ?_)
  · replace h := fFf h c2
    refine fW_iconst 19 dX11_isShut_18 rfl ?_
    exact fW_zret rfl (by decide) (by decide) (by decide) dX11_isShut_19 (rB_i h (by decide))
  · replace h := fTt h c2
    refine fW_iconst 15 dX11_isShut_14 rfl ?_
    refine fW_goto 19 dX11_isShut_15 rfl ?_
    exact fW_zret rfl (by decide) (by decide) (by decide) dX11_isShut_19 (rB_i h (by decide))
def mX11_keyAt : fMt := (yX11_keyAt, cX11_keyAt, 3, some .int, { frames := 0, cells := 0, slots := 0, locals := 0 })
theorem miX11_keyAt : fMv mX11_keyAt 2 := ⟨⟨fM 1303 (by decide +kernel) rfl, fM 101 (by decide +kernel) rfl, ⟨by decide +kernel, by decide +kernel⟩, by decide +kernel⟩, fM 1302 (by decide +kernel) rfl, fM 34 (by decide +kernel) rfl⟩
def f_X11_keyAt (a1 : Int) (a2 : Int) (M : fMem) : Option (Int) := (if 0 ≤ (200 * a1) + a2 ∧ (200 * a1) + a2 < 7787 then some (M 419 ((200 * a1) + a2)) else none)
set_option maxRecDepth 100000 in
set_option maxHeartbeats 4000000 in
theorem s_X11_keyAt {G : fG} (hg : gbt G = true) {a1 : Int} (ga1 : rg a1) {a2 : Int} (ga2 : rg a2) {M : fMem} {q : Int} (h : f_X11_keyAt a1 a2 M = some q) : fSp G mX11_keyAt [rv G 418, iv a1, iv a2] M (rP M q) fNo := by
  refine fSp_of (by decide +kernel) (by decide +kernel) (fC1 rfl (fC1 rfl (fC1 rfl fC0))) (Nat.le_of_ble_eq_true rfl) ?_
  show fW G mX11_keyAt (fEm G mX11_keyAt (rP M q) fNo) 0 0 0 [some (rv G 418), some (iv a1), some (iv a2)] [] M
  rw [f_X11_keyAt] at h
  refine fW_rg (fun hR => ?_)
  refine fW_aload_n 1 dX11_keyAt_0 rfl rfl ?_
  refine fW_getR 4 (r := 419) 0 hg clX11 (by decide) rfl tc_418 tf_11_0 wd_1174 dX11_keyAt_1 rfl ?_
  refine fW_sipush 7 dX11_keyAt_4 rfl (by decide) ?_
  refine fW_iload_n 8 dX11_keyAt_7 rfl rfl ?_
  refine fW_imul 9 dX11_keyAt_8 rfl ?_
  refine fW_iload_n 10 dX11_keyAt_9 rfl rfl ?_
  refine fW_iadd 11 dX11_keyAt_10 rfl ?_
  obtain ⟨c1, h⟩ := fS h
  refine fW_iald 12 hg tc_419 ⟨c1.1, by rw [show Ln 419 = 7787 from rfl]; exact c1.2⟩ dX11_keyAt_11 rfl ?_
  exact fW_iret rfl (by decide) (by decide) dX11_keyAt_12 (rP_i h (hR 419 ((200 * a1) + a2)))
def mX11_valueAt : fMt := (yX11_valueAt, cX11_valueAt, 3, some .int, { frames := 0, cells := 0, slots := 0, locals := 0 })
theorem miX11_valueAt : fMv mX11_valueAt 2 := ⟨⟨fM 1311 (by decide +kernel) rfl, fM 101 (by decide +kernel) rfl, ⟨by decide +kernel, by decide +kernel⟩, by decide +kernel⟩, fM 1310 (by decide +kernel) rfl, fM 36 (by decide +kernel) rfl⟩
def f_X11_valueAt (a1 : Int) (a2 : Int) (M : fMem) : Option (Int) := (if 0 ≤ (3800 + (200 * a1)) + a2 ∧ (3800 + (200 * a1)) + a2 < 7787 then some (M 419 ((3800 + (200 * a1)) + a2)) else none)
set_option maxRecDepth 100000 in
set_option maxHeartbeats 4000000 in
theorem s_X11_valueAt {G : fG} (hg : gbt G = true) {a1 : Int} (ga1 : rg a1) {a2 : Int} (ga2 : rg a2) {M : fMem} {q : Int} (h : f_X11_valueAt a1 a2 M = some q) : fSp G mX11_valueAt [rv G 418, iv a1, iv a2] M (rP M q) fNo := by
  refine fSp_of (by decide +kernel) (by decide +kernel) (fC1 rfl (fC1 rfl (fC1 rfl fC0))) (Nat.le_of_ble_eq_true rfl) ?_
  show fW G mX11_valueAt (fEm G mX11_valueAt (rP M q) fNo) 0 0 0 [some (rv G 418), some (iv a1), some (iv a2)] [] M
  rw [f_X11_valueAt] at h
  refine fW_rg (fun hR => ?_)
  refine fW_aload_n 1 dX11_valueAt_0 rfl rfl ?_
  refine fW_getR 4 (r := 419) 0 hg clX11 (by decide) rfl tc_418 tf_11_0 wd_1174 dX11_valueAt_1 rfl ?_
  refine fW_sipush 7 dX11_valueAt_4 rfl (by decide) ?_
  refine fW_sipush 10 dX11_valueAt_7 rfl (by decide) ?_
  refine fW_iload_n 11 dX11_valueAt_10 rfl rfl ?_
  refine fW_imul 12 dX11_valueAt_11 rfl ?_
  refine fW_iadd 13 dX11_valueAt_12 rfl ?_
  refine fW_iload_n 14 dX11_valueAt_13 rfl rfl ?_
  refine fW_iadd 15 dX11_valueAt_14 rfl ?_
  obtain ⟨c1, h⟩ := fS h
  refine fW_iald 16 hg tc_419 ⟨c1.1, by rw [show Ln 419 = 7787 from rfl]; exact c1.2⟩ dX11_valueAt_15 rfl ?_
  exact fW_iret rfl (by decide) (by decide) dX11_valueAt_16 (rP_i h (hR 419 ((3800 + (200 * a1)) + a2)))
def mX11_shutMany : fMt := (yX11_shutMany, cX11_shutMany, 4, some .int, { frames := 1, cells := 0, slots := 0, locals := 40 })
theorem miX11_shutMany : fMv mX11_shutMany 1 := ⟨⟨fM 1339 (by decide +kernel) rfl, fM 101 (by decide +kernel) rfl, ⟨by decide +kernel, by decide +kernel⟩, by decide +kernel⟩, fM 1338 (by decide +kernel) rfl, fM 43 (by decide +kernel) rfl⟩
def L_X11_shutMany_4  (M : fMem) (k : Int → Option (Int)) : Nat → Int → Int → Int → Option (Int)
  | 0, _, _, _ => none
  | n + 1, v1, v2, v3 => ((f_X11_rowsOf v1 M).bind fun (r1 : Int) => (if r1 ≤ v3 then k v2 else ((f_X11_rowAt v1 v3 M).bind fun (r3 : Int) => ((f_X11_isShut r3 M).bind fun (r4 : Int) => (if r4 = 0 then (if -2147483648 ≤ v2 + 0 ∧ v2 + 0 < 2147483648 then L_X11_shutMany_4 M k n v1 (v2 + 0) (v3 + 1) else none) else (if -2147483648 ≤ v2 + 1 ∧ v2 + 1 < 2147483648 then L_X11_shutMany_4 M k n v1 (v2 + 1) (v3 + 1) else none))))))
set_option maxRecDepth 100000 in
set_option maxHeartbeats 4000000 in
theorem l_X11_shutMany_4 {G : fG} (hg : gbt G = true)  {M : fMem} {q : Int} {k : Int → Option (Int)} (hk : ∀ (v2 : Int), rg v2 → k v2 = some q → fW G mX11_shutMany (fEm G mX11_shutMany (rP M q) fNo) 0 0 38 [some (rv G 418), none, some (iv v2), none] [] M) : ∀ (n : Nat) (v1 : Int) (v2 : Int) (v3 : Int), rg v1 → rg v2 → rg v3 → L_X11_shutMany_4 M k n v1 v2 v3 = some q → fW G mX11_shutMany (fEm G mX11_shutMany (rP M q) fNo) 0 0 4 [some (rv G 418), some (iv v1), some (iv v2), some (iv v3)] [] M := by
  intro n
  induction n with
  | zero =>
    intro v1 v2 v3 gv1 gv2 gv3 h
    rw [L_X11_shutMany_4] at h
    exact absurd h (by simp)
  | succ n ih =>
    intro v1 v2 v3 gv1 gv2 gv3 h
    rw [L_X11_shutMany_4] at h
    refine fW_rg (fun hR => ?_)
    refine fW_iload_n 5 dX11_shutMany_4 rfl rfl ?_
    refine fW_iload_n 6 dX11_shutMany_5 rfl rfl ?_
    obtain ⟨r1, e1, h⟩ := fBd h
    refine fW_cP (fI_S (as := [iv v1]) (rest := [iv v3]) miX11_rowsOf rfl wd_1286 (fRoom_of rfl) rfl (Nat.le_of_ble_eq_true rfl) dX11_shutMany_6) (s_X11_rowsOf gv1 e1) rfl rfl rfl (fun g1 => ?_)
    refine fW_icmp_ge 12 38 gv3 g1 dX11_shutMany_9 rfl rfl (fun c2 => ?_) (fun c2 => ?_)
    · replace h := fTt h c2
      exact fW_sb (hk v2 gv2 h) ⟨rfl, rfl, trivial⟩
    · replace h := fFf h c2
      refine fW_iload_n 13 dX11_shutMany_12 rfl rfl ?_
      refine fW_aload_n 14 dX11_shutMany_13 rfl rfl ?_
      refine fW_iload_n 15 dX11_shutMany_14 rfl rfl ?_
      refine fW_iload_n 16 dX11_shutMany_15 rfl rfl ?_
      obtain ⟨r3, e3, h⟩ := fBd h
      refine fW_cP (fI_S (as := [iv v1, iv v3]) (rest := [rv G 418, iv v2]) miX11_rowAt rfl wd_1289 (fRoom_of rfl) rfl (Nat.le_of_ble_eq_true rfl) dX11_shutMany_16) (s_X11_rowAt gv1 gv3 e3) rfl rfl rfl (fun g3 => ?_)
      obtain ⟨r4, e4, h⟩ := fBd h
      refine fW_cB (fI_V (as := [iv r3]) (rest := [iv v2]) miX11_isShut hg clX11 rfl tc_418 wd_1340 (fRoom_of rfl) rfl (Nat.le_of_ble_eq_true rfl) dX11_shutMany_19) (s_X11_isShut hg g3 e4) rfl rfl rfl (fun g4 => ?_)
      refine fW_if_eq 25 29 (rg_z g4) dX11_shutMany_22 rfl rfl (fun c5 => ?_) (fun c5 => ?_)
      · replace h := fTt h c5
        refine fW_iconst 30 dX11_shutMany_29 rfl ?_
        refine fW_iadd 31 dX11_shutMany_30 rfl ?_
        refine fW_istore_n 32 (ls' := [some (rv G 418), some (iv v1), some (iv (v2 + 0)), some (iv v3)]) dX11_shutMany_31 rfl rfl rfl (by decide) ?_
        refine fW_iinc 35 (ls' := [some (rv G 418), some (iv v1), some (iv (v2 + 0)), some (iv (v3 + 1))]) dX11_shutMany_32 rfl rfl rfl (by decide) ?_
        refine fW_goto 4 dX11_shutMany_35 rfl ?_
        obtain ⟨c6, h⟩ := fS h
        exact fW_sb (ih v1 (v2 + 0) (v3 + 1) gv1 c6 (rg_succ' gv3 g1 c2) h) ⟨rfl, rfl, rfl, rfl, trivial⟩
      · replace h := fFf h c5
        refine fW_iconst 26 dX11_shutMany_25 rfl ?_
        refine fW_goto 30 dX11_shutMany_26 rfl ?_
        refine fW_iadd 31 dX11_shutMany_30 rfl ?_
        refine fW_istore_n 32 (ls' := [some (rv G 418), some (iv v1), some (iv (v2 + 1)), some (iv v3)]) dX11_shutMany_31 rfl rfl rfl (by decide) ?_
        refine fW_iinc 35 (ls' := [some (rv G 418), some (iv v1), some (iv (v2 + 1)), some (iv (v3 + 1))]) dX11_shutMany_32 rfl rfl rfl (by decide) ?_
        refine fW_goto 4 dX11_shutMany_35 rfl ?_
        obtain ⟨c7, h⟩ := fS h
        exact fW_sb (ih v1 (v2 + 1) (v3 + 1) gv1 c7 (rg_succ' gv3 g1 c2) h) ⟨rfl, rfl, rfl, rfl, trivial⟩
def f_X11_shutMany (a1 : Int) (M : fMem) : Option (Int) := L_X11_shutMany_4 M (fun (v2_8 : Int) => some v2_8) 4 a1 0 0
set_option maxRecDepth 100000 in
set_option maxHeartbeats 4000000 in
theorem s_X11_shutMany {G : fG} (hg : gbt G = true) {a1 : Int} (ga1 : rg a1) {M : fMem} {q : Int} (h : f_X11_shutMany a1 M = some q) : fSp G mX11_shutMany [rv G 418, iv a1] M (rP M q) fNo := by
  refine fSp_of (by decide +kernel) (by decide +kernel) (fC1 rfl (fC1 rfl fC0)) (Nat.le_of_ble_eq_true rfl) ?_
  show fW G mX11_shutMany (fEm G mX11_shutMany (rP M q) fNo) 0 0 0 [some (rv G 418), some (iv a1), none, none] [] M
  rw [f_X11_shutMany] at h
  refine fW_rg (fun hR => ?_)
  refine fW_iconst 1 dX11_shutMany_0 rfl ?_
  refine fW_istore_n 2 (ls' := [some (rv G 418), some (iv a1), some (iv 0), none]) dX11_shutMany_1 rfl rfl rfl (by decide) ?_
  refine fW_iconst 3 dX11_shutMany_2 rfl ?_
  refine fW_istore_n 4 (ls' := [some (rv G 418), some (iv a1), some (iv 0), some (iv 0)]) dX11_shutMany_3 rfl rfl rfl (by decide) ?_
  refine fW_sb (l_X11_shutMany_4 hg ?_ 4 a1 0 0 ga1 (by decide) (by decide) h) ⟨rfl, rfl, rfl, rfl, trivial⟩
  intro v2_8 gv2_8 h
  refine fW_iload_n 39 dX11_shutMany_38 rfl rfl ?_
  exact fW_iret rfl (by decide) (by decide) dX11_shutMany_39 (rP_i h gv2_8)
def mX11_firstFree : fMt := (yX11_firstFree, cX11_firstFree, 3, some .int, { frames := 1, cells := 0, slots := 0, locals := 40 })
theorem miX11_firstFree : fMv mX11_firstFree 1 := ⟨⟨fM 1285 (by decide +kernel) rfl, fM 101 (by decide +kernel) rfl, ⟨by decide +kernel, by decide +kernel⟩, by decide +kernel⟩, fM 1284 (by decide +kernel) rfl, fM 31 (by decide +kernel) rfl⟩
def L_X11_firstFree_2  (M : fMem) (k : Option (Int)) : Nat → Int → Int → Option (Int)
  | 0, _, _ => none
  | n + 1, v1, v2 => ((f_X11_rowsOf v1 M).bind fun (r1 : Int) => (if r1 ≤ v2 then k else ((f_X11_rowAt v1 v2 M).bind fun (r3 : Int) => (if 0 ≤ 7619 + r3 ∧ 7619 + r3 < 7787 then (if (M 419 (7619 + r3)) = 0 then ((f_X11_rowAt v1 v2 M).bind fun (r6 : Int) => some r6) else L_X11_firstFree_2 M k n v1 (v2 + 1)) else none))))
set_option maxRecDepth 100000 in
set_option maxHeartbeats 4000000 in
theorem l_X11_firstFree_2 {G : fG} (hg : gbt G = true)  {M : fMem} {q : Int} {k : Option (Int)} (hk : k = some q → fW G mX11_firstFree (fEm G mX11_firstFree (rP M q) fNo) 0 0 39 [some (rv G 418), none, none] [] M) : ∀ (n : Nat) (v1 : Int) (v2 : Int), rg v1 → rg v2 → L_X11_firstFree_2 M k n v1 v2 = some q → fW G mX11_firstFree (fEm G mX11_firstFree (rP M q) fNo) 0 0 2 [some (rv G 418), some (iv v1), some (iv v2)] [] M := by
  intro n
  induction n with
  | zero =>
    intro v1 v2 gv1 gv2 h
    rw [L_X11_firstFree_2] at h
    exact absurd h (by simp)
  | succ n ih =>
    intro v1 v2 gv1 gv2 h
    rw [L_X11_firstFree_2] at h
    refine fW_rg (fun hR => ?_)
    refine fW_iload_n 3 dX11_firstFree_2 rfl rfl ?_
    refine fW_iload_n 4 dX11_firstFree_3 rfl rfl ?_
    obtain ⟨r1, e1, h⟩ := fBd h
    refine fW_cP (fI_S (as := [iv v1]) (rest := [iv v2]) miX11_rowsOf rfl wd_1286 (fRoom_of rfl) rfl (Nat.le_of_ble_eq_true rfl) dX11_firstFree_4) (s_X11_rowsOf gv1 e1) rfl rfl rfl (fun g1 => ?_)
    refine fW_icmp_ge 10 39 gv2 g1 dX11_firstFree_7 rfl rfl (fun c2 => ?_) (fun c2 => ?_)
    · replace h := fTt h c2
      exact fW_sb (hk h) ⟨rfl, trivial⟩
    · replace h := fFf h c2
      refine fW_aload_n 11 dX11_firstFree_10 rfl rfl ?_
      refine fW_getR 14 (r := 419) 0 hg clX11 (by decide) rfl tc_418 tf_11_0 wd_1174 dX11_firstFree_11 rfl ?_
      refine fW_sipush 17 dX11_firstFree_14 rfl (by decide) ?_
      refine fW_iload_n 18 dX11_firstFree_17 rfl rfl ?_
      refine fW_iload_n 19 dX11_firstFree_18 rfl rfl ?_
      obtain ⟨r3, e3, h⟩ := fBd h
      refine fW_cP (fI_S (as := [iv v1, iv v2]) (rest := [iv 7619, rv G 419]) miX11_rowAt rfl wd_1289 (fRoom_of rfl) rfl (Nat.le_of_ble_eq_true rfl) dX11_firstFree_19) (s_X11_rowAt gv1 gv2 e3) rfl rfl rfl (fun g3 => ?_)
      refine fW_iadd 23 dX11_firstFree_22 rfl ?_
      obtain ⟨c4, h⟩ := fS h
      refine fW_iald 24 hg tc_419 ⟨c4.1, by rw [show Ln 419 = 7787 from rfl]; exact c4.2⟩ dX11_firstFree_23 rfl ?_
      refine fW_if_ne 27 33 (hR 419 (7619 + r3)) dX11_firstFree_24 rfl rfl (fun c5 => ?_) (fun c5 => ?_)
      · replace h := fFf h c5
        refine fW_iinc 36 (ls' := [some (rv G 418), some (iv v1), some (iv (v2 + 1))]) dX11_firstFree_33 rfl rfl rfl (by decide) ?_
        refine fW_goto 2 dX11_firstFree_36 rfl ?_
        exact fW_sb (ih v1 (v2 + 1) gv1 (rg_succ' gv2 g1 c2) h) ⟨rfl, rfl, rfl, trivial⟩
      · replace h := fTt h c5
        refine fW_iload_n 28 dX11_firstFree_27 rfl rfl ?_
        refine fW_iload_n 29 dX11_firstFree_28 rfl rfl ?_
        obtain ⟨r6, e6, h⟩ := fBd h
        refine fW_cP (fI_S (as := [iv v1, iv v2]) (rest := []) miX11_rowAt rfl wd_1289 (fRoom_of rfl) rfl (Nat.le_of_ble_eq_true rfl) dX11_firstFree_29) (s_X11_rowAt gv1 gv2 e6) rfl rfl rfl (fun g6 => ?_)
        exact fW_iret rfl (by decide) (by decide) dX11_firstFree_32 (rP_i h g6)
def f_X11_firstFree (a1 : Int) (M : fMem) : Option (Int) := L_X11_firstFree_2 M (some ((-1))) 4 a1 0
set_option maxRecDepth 100000 in
set_option maxHeartbeats 4000000 in
theorem s_X11_firstFree {G : fG} (hg : gbt G = true) {a1 : Int} (ga1 : rg a1) {M : fMem} {q : Int} (h : f_X11_firstFree a1 M = some q) : fSp G mX11_firstFree [rv G 418, iv a1] M (rP M q) fNo := by
  refine fSp_of (by decide +kernel) (by decide +kernel) (fC1 rfl (fC1 rfl fC0)) (Nat.le_of_ble_eq_true rfl) ?_
  show fW G mX11_firstFree (fEm G mX11_firstFree (rP M q) fNo) 0 0 0 [some (rv G 418), some (iv a1), none] [] M
  rw [f_X11_firstFree] at h
  refine fW_rg (fun hR => ?_)
  refine fW_iconst 1 dX11_firstFree_0 rfl ?_
  refine fW_istore_n 2 (ls' := [some (rv G 418), some (iv a1), some (iv 0)]) dX11_firstFree_1 rfl rfl rfl (by decide) ?_
  refine fW_sb (l_X11_firstFree_2 hg ?_ 4 a1 0 ga1 (by decide) h) ⟨rfl, rfl, rfl, trivial⟩
  intro  h
  refine fW_iconst 40 dX11_firstFree_39 rfl ?_
  exact fW_iret rfl (by decide) (by decide) dX11_firstFree_40 (rP_i h (by decide))
def mX11_youngerMany : fMt := (yX11_youngerMany, cX11_youngerMany, 6, some .int, { frames := 1, cells := 0, slots := 0, locals := 40 })
theorem miX11_youngerMany : fMv mX11_youngerMany 2 := ⟨⟨fM 1355 (by decide +kernel) rfl, fM 101 (by decide +kernel) rfl, ⟨by decide +kernel, by decide +kernel⟩, by decide +kernel⟩, fM 1354 (by decide +kernel) rfl, fM 47 (by decide +kernel) rfl⟩
def L_X11_youngerMany_5  (M : fMem) (k : Int → Option (Int)) : Nat → Int → Int → Int → Int → Option (Int)
  | 0, _, _, _, _ => none
  | n + 1, v1, v2, v3, v4 => ((f_X11_rowsOf v1 M).bind fun (r1 : Int) => (if r1 ≤ v4 then k v3 else ((f_X11_rowAt v1 v4 M).bind fun (r3 : Int) => ((f_X11_isShut r3 M).bind fun (r4 : Int) => (if r4 = 0 then (if -2147483648 ≤ v3 + 0 ∧ v3 + 0 < 2147483648 then L_X11_youngerMany_5 M k n v1 v2 (v3 + 0) (v4 + 1) else none) else (if 0 ≤ 7638 + r3 ∧ 7638 + r3 < 7787 then (if 0 ≤ 7638 + v2 ∧ 7638 + v2 < 7787 then (if (M 419 (7638 + r3)) ≤ (M 419 (7638 + v2)) then (if -2147483648 ≤ v3 + 0 ∧ v3 + 0 < 2147483648 then L_X11_youngerMany_5 M k n v1 v2 (v3 + 0) (v4 + 1) else none) else (if -2147483648 ≤ v3 + 1 ∧ v3 + 1 < 2147483648 then L_X11_youngerMany_5 M k n v1 v2 (v3 + 1) (v4 + 1) else none)) else none) else none))))))
set_option maxRecDepth 100000 in
set_option maxHeartbeats 4000000 in
theorem l_X11_youngerMany_5 {G : fG} (hg : gbt G = true)  {M : fMem} {q : Int} {k : Int → Option (Int)} (hk : ∀ (v3 : Int), rg v3 → k v3 = some q → fW G mX11_youngerMany (fEm G mX11_youngerMany (rP M q) fNo) 0 0 69 [some (rv G 418), none, none, some (iv v3), none, none] [] M) : ∀ (n : Nat) (v1 : Int) (v2 : Int) (v3 : Int) (v4 : Int), rg v1 → rg v2 → rg v3 → rg v4 → L_X11_youngerMany_5 M k n v1 v2 v3 v4 = some q → fW G mX11_youngerMany (fEm G mX11_youngerMany (rP M q) fNo) 0 0 5 [some (rv G 418), some (iv v1), some (iv v2), some (iv v3), some (iv v4), none] [] M := by
  intro n
  induction n with
  | zero =>
    intro v1 v2 v3 v4 gv1 gv2 gv3 gv4 h
    rw [L_X11_youngerMany_5] at h
    exact absurd h (by simp)
  | succ n ih =>
    intro v1 v2 v3 v4 gv1 gv2 gv3 gv4 h
    rw [L_X11_youngerMany_5] at h
    refine fW_rg (fun hR => ?_)
    refine fW_iload 7 dX11_youngerMany_5 rfl rfl ?_
    refine fW_iload_n 8 dX11_youngerMany_7 rfl rfl ?_
    obtain ⟨r1, e1, h⟩ := fBd h
    refine fW_cP (fI_S (as := [iv v1]) (rest := [iv v4]) miX11_rowsOf rfl wd_1286 (fRoom_of rfl) rfl (Nat.le_of_ble_eq_true rfl) dX11_youngerMany_8) (s_X11_rowsOf gv1 e1) rfl rfl rfl (fun g1 => ?_)
    refine fW_icmp_ge 14 69 gv4 g1 dX11_youngerMany_11 rfl rfl (fun c2 => ?_) (fun c2 => ?_)
    · replace h := fTt h c2
      exact fW_sb (hk v3 gv3 h) ⟨rfl, rfl, trivial⟩
    · replace h := fFf h c2
      refine fW_iload_n 15 dX11_youngerMany_14 rfl rfl ?_
      refine fW_iload 17 dX11_youngerMany_15 rfl rfl ?_
      obtain ⟨r3, e3, h⟩ := fBd h
      refine fW_cP (fI_S (as := [iv v1, iv v4]) (rest := []) miX11_rowAt rfl wd_1289 (fRoom_of rfl) rfl (Nat.le_of_ble_eq_true rfl) dX11_youngerMany_17) (s_X11_rowAt gv1 gv4 e3) rfl rfl rfl (fun g3 => ?_)
      refine fW_istore 22 (ls' := [some (rv G 418), some (iv v1), some (iv v2), some (iv v3), some (iv v4), some (iv r3)]) dX11_youngerMany_20 rfl rfl (by decide) ?_
      refine fW_iload_n 23 dX11_youngerMany_22 rfl rfl ?_
      refine fW_aload_n 24 dX11_youngerMany_23 rfl rfl ?_
      refine fW_iload 26 dX11_youngerMany_24 rfl rfl ?_
      obtain ⟨r4, e4, h⟩ := fBd h
      refine fW_cB (fI_V (as := [iv r3]) (rest := [iv v3]) miX11_isShut hg clX11 rfl tc_418 wd_1340 (fRoom_of rfl) rfl (Nat.le_of_ble_eq_true rfl) dX11_youngerMany_26) (s_X11_isShut hg g3 e4) rfl rfl rfl (fun g4 => ?_)
      refine fW_if_eq 32 60 (rg_z g4) dX11_youngerMany_29 rfl rfl (fun c5 => ?_) (fun c5 => ?_)
      · replace h := fTt h c5
        refine fW_iconst 61 dX11_youngerMany_60 rfl ?_
        refine fW_iadd 62 dX11_youngerMany_61 rfl ?_
        refine fW_istore_n 63 (ls' := [some (rv G 418), some (iv v1), some (iv v2), some (iv (v3 + 0)), some (iv v4), some (iv r3)]) dX11_youngerMany_62 rfl rfl rfl (by decide) ?_
        refine fW_iinc 66 (ls' := [some (rv G 418), some (iv v1), some (iv v2), some (iv (v3 + 0)), some (iv (v4 + 1)), some (iv r3)]) dX11_youngerMany_63 rfl rfl rfl (by decide) ?_
        refine fW_goto 5 dX11_youngerMany_66 rfl ?_
        obtain ⟨c6, h⟩ := fS h
        exact fW_sb (ih v1 v2 (v3 + 0) (v4 + 1) gv1 gv2 c6 (rg_succ' gv4 g1 c2) h) ⟨rfl, rfl, rfl, rfl, rfl, trivial⟩
      · replace h := fFf h c5
        refine fW_aload_n 33 dX11_youngerMany_32 rfl rfl ?_
        refine fW_getR 36 (r := 419) 0 hg clX11 (by decide) rfl tc_418 tf_11_0 wd_1174 dX11_youngerMany_33 rfl ?_
        refine fW_sipush 39 dX11_youngerMany_36 rfl (by decide) ?_
        refine fW_iload 41 dX11_youngerMany_39 rfl rfl ?_
        refine fW_iadd 42 dX11_youngerMany_41 rfl ?_
        obtain ⟨c7, h⟩ := fS h
        refine fW_iald 43 hg tc_419 ⟨c7.1, by rw [show Ln 419 = 7787 from rfl]; exact c7.2⟩ dX11_youngerMany_42 rfl ?_
        refine fW_aload_n 44 dX11_youngerMany_43 rfl rfl ?_
        refine fW_getR 47 (r := 419) 0 hg clX11 (by decide) rfl tc_418 tf_11_0 wd_1174 dX11_youngerMany_44 rfl ?_
        refine fW_sipush 50 dX11_youngerMany_47 rfl (by decide) ?_
        refine fW_iload_n 51 dX11_youngerMany_50 rfl rfl ?_
        refine fW_iadd 52 dX11_youngerMany_51 rfl ?_
        obtain ⟨c8, h⟩ := fS h
        refine fW_iald 53 hg tc_419 ⟨c8.1, by rw [show Ln 419 = 7787 from rfl]; exact c8.2⟩ dX11_youngerMany_52 rfl ?_
        refine fW_icmp_le 56 60 (hR 419 (7638 + r3)) (hR 419 (7638 + v2)) dX11_youngerMany_53 rfl rfl (fun c9 => ?_) (fun c9 => ?_)
        · replace h := fTt h c9
          refine fW_iconst 61 dX11_youngerMany_60 rfl ?_
          refine fW_iadd 62 dX11_youngerMany_61 rfl ?_
          refine fW_istore_n 63 (ls' := [some (rv G 418), some (iv v1), some (iv v2), some (iv (v3 + 0)), some (iv v4), some (iv r3)]) dX11_youngerMany_62 rfl rfl rfl (by decide) ?_
          refine fW_iinc 66 (ls' := [some (rv G 418), some (iv v1), some (iv v2), some (iv (v3 + 0)), some (iv (v4 + 1)), some (iv r3)]) dX11_youngerMany_63 rfl rfl rfl (by decide) ?_
          refine fW_goto 5 dX11_youngerMany_66 rfl ?_
          obtain ⟨c10, h⟩ := fS h
          exact fW_sb (ih v1 v2 (v3 + 0) (v4 + 1) gv1 gv2 c10 (rg_succ' gv4 g1 c2) h) ⟨rfl, rfl, rfl, rfl, rfl, trivial⟩
        · replace h := fFf h c9
          refine fW_iconst 57 dX11_youngerMany_56 rfl ?_
          refine fW_goto 61 dX11_youngerMany_57 rfl ?_
          refine fW_iadd 62 dX11_youngerMany_61 rfl ?_
          refine fW_istore_n 63 (ls' := [some (rv G 418), some (iv v1), some (iv v2), some (iv (v3 + 1)), some (iv v4), some (iv r3)]) dX11_youngerMany_62 rfl rfl rfl (by decide) ?_
          refine fW_iinc 66 (ls' := [some (rv G 418), some (iv v1), some (iv v2), some (iv (v3 + 1)), some (iv (v4 + 1)), some (iv r3)]) dX11_youngerMany_63 rfl rfl rfl (by decide) ?_
          refine fW_goto 5 dX11_youngerMany_66 rfl ?_
          obtain ⟨c11, h⟩ := fS h
          exact fW_sb (ih v1 v2 (v3 + 1) (v4 + 1) gv1 gv2 c11 (rg_succ' gv4 g1 c2) h) ⟨rfl, rfl, rfl, rfl, rfl, trivial⟩
def f_X11_youngerMany (a1 : Int) (a2 : Int) (M : fMem) : Option (Int) := L_X11_youngerMany_5 M (fun (v3_12 : Int) => some v3_12) 4 a1 a2 0 0
set_option maxRecDepth 100000 in
set_option maxHeartbeats 4000000 in
theorem s_X11_youngerMany {G : fG} (hg : gbt G = true) {a1 : Int} (ga1 : rg a1) {a2 : Int} (ga2 : rg a2) {M : fMem} {q : Int} (h : f_X11_youngerMany a1 a2 M = some q) : fSp G mX11_youngerMany [rv G 418, iv a1, iv a2] M (rP M q) fNo := by
  refine fSp_of (by decide +kernel) (by decide +kernel) (fC1 rfl (fC1 rfl (fC1 rfl fC0))) (Nat.le_of_ble_eq_true rfl) ?_
  show fW G mX11_youngerMany (fEm G mX11_youngerMany (rP M q) fNo) 0 0 0 [some (rv G 418), some (iv a1), some (iv a2), none, none, none] [] M
  rw [f_X11_youngerMany] at h
  refine fW_rg (fun hR => ?_)
  refine fW_iconst 1 dX11_youngerMany_0 rfl ?_
  refine fW_istore_n 2 (ls' := [some (rv G 418), some (iv a1), some (iv a2), some (iv 0), none, none]) dX11_youngerMany_1 rfl rfl rfl (by decide) ?_
  refine fW_iconst 3 dX11_youngerMany_2 rfl ?_
  refine fW_istore 5 (ls' := [some (rv G 418), some (iv a1), some (iv a2), some (iv 0), some (iv 0), none]) dX11_youngerMany_3 rfl rfl (by decide) ?_
  refine fW_sb (l_X11_youngerMany_5 hg ?_ 4 a1 a2 0 0 ga1 ga2 (by decide) (by decide) h) ⟨rfl, rfl, rfl, rfl, rfl, trivial⟩
  intro v3_12 gv3_12 h
  refine fW_iload_n 70 dX11_youngerMany_69 rfl rfl ?_
  exact fW_iret rfl (by decide) (by decide) dX11_youngerMany_70 (rP_i h gv3_12)
end MTH
