section MTH
def mX10_batch : fMt := (yX10_batch, cX10_batch, 6, some .int, { frames := 7, cells := 0, slots := 0, locals := 280 })
theorem miX10_batch : fMv mX10_batch 1 := ⟨⟨fM 465 (by decide +kernel) rfl, fM 89 (by decide +kernel) rfl, ⟨by decide +kernel, by decide +kernel⟩, by decide +kernel⟩, fM 463 (by decide +kernel) rfl, fM 464 (by decide +kernel) rfl⟩
def L_X10_batch_27  (k : Int → fMem → Option (Int × fMem)) : Nat → Int → Int → Int → fMem → Option (Int × fMem)
  | 0, _, _, _, _ => none
  | n + 1, v1, v2, v3, M => (if -2147483648 ≤ v3 + 1 ∧ v3 + 1 < 2147483648 then (if v1 ≤ (v3 + 1) then k v2 M else ((f_X8_byteAt v3 M).bind fun (r8 : Int) => ((f_X8_byteAt (v3 + 1) M).bind fun (r9 : Int) => ((f_X10_isKey r8 M).bind fun (r10 : Int) => (if r10 = 0 then (if -2147483648 ≤ v3 + 2 ∧ v3 + 2 < 2147483648 then L_X10_batch_27  k n v1 v2 (v3 + 2) M else none) else (if r9 = 255 then ((f_X10_takeAct r8 ((-1)) M).bind fun (r18 : Int × fMem) => (if -2147483648 ≤ v2 + 1 ∧ v2 + 1 < 2147483648 then (if -2147483648 ≤ v3 + 2 ∧ v3 + 2 < 2147483648 then L_X10_batch_27  k n v1 (v2 + 1) (v3 + 2) r18.2 else none) else none)) else ((f_X10_takeAct r8 r9 M).bind fun (r14 : Int × fMem) => (if -2147483648 ≤ v2 + 1 ∧ v2 + 1 < 2147483648 then (if -2147483648 ≤ v3 + 2 ∧ v3 + 2 < 2147483648 then L_X10_batch_27  k n v1 (v2 + 1) (v3 + 2) r14.2 else none) else none)))))))) else none)
set_option maxRecDepth 100000 in
set_option maxHeartbeats 4000000 in
theorem l_X10_batch_27 {G : fG} (hg : gbt G = true)  {q : Int × fMem} {k : Int → fMem → Option (Int × fMem)} (hk : ∀ (v2 : Int) (M : fMem), rg v2 → k v2 M = some q → fW G mX10_batch (fEm G mX10_batch (rP q.2 q.1) fNo) 0 0 94 [some (rv G 0), none, some (iv v2), none, none, none] [] M) : ∀ (n : Nat) (v1 : Int) (v2 : Int) (v3 : Int) (M : fMem), rg v1 → rg v2 → rg v3 → L_X10_batch_27 k n v1 v2 v3 M = some q → fW G mX10_batch (fEm G mX10_batch (rP q.2 q.1) fNo) 0 0 27 [some (rv G 0), some (iv v1), some (iv v2), some (iv v3), none, none] [] M := by
  intro n
  induction n with
  | zero =>
    intro v1 v2 v3 M gv1 gv2 gv3 h
    rw [L_X10_batch_27] at h
    exact absurd h (by simp)
  | succ n ih =>
    intro v1 v2 v3 M gv1 gv2 gv3 h
    rw [L_X10_batch_27] at h
    refine fW_rg (fun hR => ?_)
    refine fW_iload_n 28 dX10_batch_27 rfl rfl ?_
    refine fW_iconst 29 dX10_batch_28 rfl ?_
    refine fW_iadd 30 dX10_batch_29 rfl ?_
    refine fW_iload_n 31 dX10_batch_30 rfl rfl ?_
    obtain ⟨c6, h⟩ := fS h
    refine fW_icmp_ge 34 94 c6 gv1 dX10_batch_31 rfl rfl (fun c7 => ?_) (fun c7 => ?_)
    · replace h := fTt h c7
      exact fW_sb (hk v2 M gv2 h) ⟨rfl, rfl, trivial⟩
    · replace h := fFf h c7
      refine fW_aload_n 35 dX10_batch_34 rfl rfl ?_
      refine fW_getR 38 (r := 145) 4 hg clX10 (by decide) rfl tc_0 tf_10_4 wd_421 dX10_batch_35 rfl ?_
      refine fW_iload_n 39 dX10_batch_38 rfl rfl ?_
      obtain ⟨r8, e8, h⟩ := fBd h
      refine fW_cP (fI_V (as := [iv v3]) (rest := []) miX8_byteAt hg clX8 rfl tc_145 wd_466 (fRoom_of rfl) rfl (Nat.le_of_ble_eq_true rfl) dX10_batch_39) (s_X8_byteAt hg gv3 e8) rfl rfl rfl (fun g8 => ?_)
      refine fW_istore 44 (ls' := [some (rv G 0), some (iv v1), some (iv v2), some (iv v3), some (iv r8), none]) dX10_batch_42 rfl rfl (by decide) ?_
      refine fW_aload_n 45 dX10_batch_44 rfl rfl ?_
      refine fW_getR 48 (r := 145) 4 hg clX10 (by decide) rfl tc_0 tf_10_4 wd_421 dX10_batch_45 rfl ?_
      refine fW_iload_n 49 dX10_batch_48 rfl rfl ?_
      refine fW_iconst 50 dX10_batch_49 rfl ?_
      refine fW_iadd 51 dX10_batch_50 rfl ?_
      obtain ⟨r9, e9, h⟩ := fBd h
      refine fW_cP (fI_V (as := [iv (v3 + 1)]) (rest := []) miX8_byteAt hg clX8 rfl tc_145 wd_466 (fRoom_of rfl) rfl (Nat.le_of_ble_eq_true rfl) dX10_batch_51) (s_X8_byteAt hg c6 e9) rfl rfl rfl (fun g9 => ?_)
      refine fW_istore 56 (ls' := [some (rv G 0), some (iv v1), some (iv v2), some (iv v3), some (iv r8), some (iv r9)]) dX10_batch_54 rfl rfl (by decide) ?_
      refine fW_iload 58 dX10_batch_56 rfl rfl ?_
      obtain ⟨r10, e10, h⟩ := fBd h
      refine fW_cB (fI_S (as := [iv r8]) (rest := []) miX10_isKey rfl wd_470 (fRoom_of rfl) rfl (Nat.le_of_ble_eq_true rfl) dX10_batch_58) (s_X10_isKey g8 e10) rfl rfl rfl (fun g10 => ?_)
      refine fW_if_eq 64 88 (rg_z g10) dX10_batch_61 rfl rfl (fun c11 => ?_) (fun c11 => ?_)
      · replace h := fTt h c11
        refine fW_iinc 91 (ls' := [some (rv G 0), some (iv v1), some (iv v2), some (iv (v3 + 2)), some (iv r8), some (iv r9)]) dX10_batch_88 rfl rfl rfl (by decide) ?_
        refine fW_goto 27 dX10_batch_91 rfl ?_
        obtain ⟨c12, h⟩ := fS h
        exact fW_sb (ih v1 v2 (v3 + 2) M gv1 gv2 c12 h) ⟨rfl, rfl, rfl, rfl, trivial⟩
      · replace h := fFf h c11
        refine fW_aload_n 65 dX10_batch_64 rfl rfl ?_
        refine fW_iload 67 dX10_batch_65 rfl rfl ?_
        refine fW_iload 69 dX10_batch_67 rfl rfl ?_
        refine fW_sipush 72 dX10_batch_69 rfl (by decide) ?_
        refine fW_icmp_ne 75 79 g9 (by decide) dX10_batch_72 rfl rfl (fun c13 => ?_) (fun c13 => ?_)
        · replace h := fFf h c13
          refine fW_iload 81 dX10_batch_79 rfl rfl ?_
          obtain ⟨r14, e14, h⟩ := fBd h
          refine fW_cP (fI_V (as := [iv r8, iv r9]) (rest := []) miX10_takeAct hg clX10 rfl tc_0 wd_473 (fRoom_of rfl) rfl (Nat.le_of_ble_eq_true rfl) dX10_batch_81) (s_X10_takeAct hg g8 g9 e14) rfl rfl rfl (fun g14 => ?_)
          refine fW_rg (fun hR15 => ?_)
          refine fW_pop 85 dX10_batch_84 rfl rfl ?_
          refine fW_iinc 88 (ls' := [some (rv G 0), some (iv v1), some (iv (v2 + 1)), some (iv v3), some (iv r8), some (iv r9)]) dX10_batch_85 rfl rfl rfl (by decide) ?_
          refine fW_iinc 91 (ls' := [some (rv G 0), some (iv v1), some (iv (v2 + 1)), some (iv (v3 + 2)), some (iv r8), some (iv r9)]) dX10_batch_88 rfl rfl rfl (by decide) ?_
          refine fW_goto 27 dX10_batch_91 rfl ?_
          obtain ⟨c16, h⟩ := fS h
          obtain ⟨c17, h⟩ := fS h
          exact fW_sb (ih v1 (v2 + 1) (v3 + 2) r14.2 gv1 c16 c17 h) ⟨rfl, rfl, rfl, rfl, trivial⟩
        · replace h := fTt h c13
          refine fW_iconst 76 dX10_batch_75 rfl ?_
          refine fW_goto 81 dX10_batch_76 rfl ?_
          obtain ⟨r18, e18, h⟩ := fBd h
          refine fW_cP (fI_V (as := [iv r8, iv ((-1))]) (rest := []) miX10_takeAct hg clX10 rfl tc_0 wd_473 (fRoom_of rfl) rfl (Nat.le_of_ble_eq_true rfl) dX10_batch_81) (s_X10_takeAct hg g8 (by decide) e18) rfl rfl rfl (fun g18 => ?_)
          refine fW_rg (fun hR19 => ?_)
          refine fW_pop 85 dX10_batch_84 rfl rfl ?_
          refine fW_iinc 88 (ls' := [some (rv G 0), some (iv v1), some (iv (v2 + 1)), some (iv v3), some (iv r8), some (iv r9)]) dX10_batch_85 rfl rfl rfl (by decide) ?_
          refine fW_iinc 91 (ls' := [some (rv G 0), some (iv v1), some (iv (v2 + 1)), some (iv (v3 + 2)), some (iv r8), some (iv r9)]) dX10_batch_88 rfl rfl rfl (by decide) ?_
          refine fW_goto 27 dX10_batch_91 rfl ?_
          obtain ⟨c20, h⟩ := fS h
          obtain ⟨c21, h⟩ := fS h
          exact fW_sb (ih v1 (v2 + 1) (v3 + 2) r18.2 gv1 c20 c21 h) ⟨rfl, rfl, rfl, rfl, trivial⟩
def f_X10_batch (a1 : Int) (M : fMem) : Option (Int × fMem) := (if a1 < 0 then some ((-1), M) else (if 0 ≤ a1 then (if -2147483648 ≤ a1 % 2 ∧ a1 % 2 < 2147483648 then (if (a1 % 2) = 0 then (if a1 ≤ (M 145 1) then L_X10_batch_27 (fun (v2_22 : Int) (M_22 : fMem) => ((f_X8_clear M_22).bind fun (r23 : fMem) => some (v2_22, r23))) 20000 a1 0 0 M else some ((-1), M)) else some ((-1), M)) else none) else none))
set_option maxRecDepth 100000 in
set_option maxHeartbeats 4000000 in
theorem s_X10_batch {G : fG} (hg : gbt G = true) {a1 : Int} (ga1 : rg a1) {M : fMem} {q : Int × fMem} (h : f_X10_batch a1 M = some q) : fSp G mX10_batch [rv G 0, iv a1] M (rP q.2 q.1) fNo := by
  refine fSp_of (by decide +kernel) (by decide +kernel) (fC1 rfl (fC1 rfl fC0)) (Nat.le_of_ble_eq_true rfl) ?_
  show fW G mX10_batch (fEm G mX10_batch (rP q.2 q.1) fNo) 0 0 0 [some (rv G 0), some (iv a1), none, none, none, none] [] M
  rw [f_X10_batch] at h
  refine fW_rg (fun hR => ?_)
  refine fW_iload_n 1 dX10_batch_0 rfl rfl ?_
  refine fW_if_lt 4 21 ga1 dX10_batch_1 rfl rfl (fun c1 => ?_) (fun c1 => ?_)
  · replace h := fTt h c1
    refine fW_iconst 22 dX10_batch_21 rfl ?_
    exact fW_iret rfl (by decide) (by decide) dX10_batch_22 (rI_i h (by decide))
  · replace h := fFf h c1
    refine fW_iload_n 5 dX10_batch_4 rfl rfl ?_
    refine fW_iconst 6 dX10_batch_5 rfl ?_
    obtain ⟨c2, h⟩ := fS h
    refine fW_irem 7 ⟨c2, ga1.2⟩ (by decide) dX10_batch_6 rfl ?_
    obtain ⟨c3, h⟩ := fS h
    refine fW_if_ne 10 21 c3 dX10_batch_7 rfl rfl (fun c4 => ?_) (fun c4 => ?_)
    · replace h := fFf h c4
      refine fW_iconst 22 dX10_batch_21 rfl ?_
      exact fW_iret rfl (by decide) (by decide) dX10_batch_22 (rI_i h (by decide))
    · replace h := fTt h c4
      refine fW_iload_n 11 dX10_batch_10 rfl rfl ?_
      refine fW_aload_n 12 dX10_batch_11 rfl rfl ?_
      refine fW_getR 15 (r := 145) 4 hg clX10 (by decide) rfl tc_0 tf_10_4 wd_421 dX10_batch_12 rfl ?_
      refine fW_getI 18 1 (ji := 1) hg clX8 rfl (by decide) rfl tc_145 wd_297 dX10_batch_15 rfl ?_
      refine fW_icmp_le 21 23 ga1 (hR 145 1) dX10_batch_18 rfl rfl (fun c5 => ?_) (fun c5 => ?_)
      · replace h := fTt h c5
        refine fW_iconst 24 dX10_batch_23 rfl ?_
        refine fW_istore_n 25 (ls' := [some (rv G 0), some (iv a1), some (iv 0), none, none, none]) dX10_batch_24 rfl rfl rfl (by decide) ?_
        refine fW_iconst 26 dX10_batch_25 rfl ?_
        refine fW_istore_n 27 (ls' := [some (rv G 0), some (iv a1), some (iv 0), some (iv 0), none, none]) dX10_batch_26 rfl rfl rfl (by decide) ?_
        refine fW_sb (l_X10_batch_27 hg ?_ 20000 a1 0 0 M ga1 (by decide) (by decide) h) ⟨rfl, rfl, rfl, rfl, trivial⟩
        intro v2_22 M_22 gv2_22 h
        refine fW_rg (fun hR_22 => ?_)
        refine fW_aload_n 95 dX10_batch_94 rfl rfl ?_
        refine fW_getR 98 (r := 145) 4 hg clX10 (by decide) rfl tc_0 tf_10_4 wd_421 dX10_batch_95 rfl ?_
        obtain ⟨r23, e23, h⟩ := fBd h
        refine fW_cV (fI_V (as := []) (rest := []) miX8_clear hg clX8 rfl tc_145 wd_567 (fRoom_of rfl) rfl (Nat.le_of_ble_eq_true rfl) dX10_batch_98) (s_X8_clear hg e23) rfl rfl rfl ?_
        refine fW_rg (fun hR24 => ?_)
        refine fW_iload_n 102 dX10_batch_101 rfl rfl ?_
        exact fW_iret rfl (by decide) (by decide) dX10_batch_102 (rI_i h gv2_22)
      · replace h := fFf h c5
        refine fW_iconst 22 dX10_batch_21 rfl ?_
        exact fW_iret rfl (by decide) (by decide) dX10_batch_22 (rI_i h (by decide))
def mX10_put : fMt := (yX10_put, cX10_put, 3, some .int, { frames := 7, cells := 0, slots := 0, locals := 280 })
theorem miX10_put : fMv mX10_put 2 := ⟨⟨fM 574 (by decide +kernel) rfl, fM 89 (by decide +kernel) rfl, ⟨by decide +kernel, by decide +kernel⟩, by decide +kernel⟩, fM 572 (by decide +kernel) rfl, fM 573 (by decide +kernel) rfl⟩
def f_X10_put (a1 : Int) (a2 : Int) (M : fMem) : Option (Int × fMem) := ((f_X10_isKey a1 M).bind fun (r1 : Int) => (if r1 = 0 then some ((-1), M) else (if a2 < 0 then some ((-1), M) else (if a2 < 1000 then ((f_X10_takeAct a1 a2 M).bind fun (r5 : Int × fMem) => some (r5.1, r5.2)) else some ((-1), M)))))
set_option maxRecDepth 100000 in
set_option maxHeartbeats 4000000 in
theorem s_X10_put {G : fG} (hg : gbt G = true) {a1 : Int} (ga1 : rg a1) {a2 : Int} (ga2 : rg a2) {M : fMem} {q : Int × fMem} (h : f_X10_put a1 a2 M = some q) : fSp G mX10_put [rv G 0, iv a1, iv a2] M (rP q.2 q.1) fNo := by
  refine fSp_of (by decide +kernel) (by decide +kernel) (fC1 rfl (fC1 rfl (fC1 rfl fC0))) (Nat.le_of_ble_eq_true rfl) ?_
  show fW G mX10_put (fEm G mX10_put (rP q.2 q.1) fNo) 0 0 0 [some (rv G 0), some (iv a1), some (iv a2)] [] M
  rw [f_X10_put] at h
  refine fW_rg (fun hR => ?_)
  refine fW_iload_n 1 dX10_put_0 rfl rfl ?_
  obtain ⟨r1, e1, h⟩ := fBd h
  refine fW_cB (fI_S (as := [iv a1]) (rest := []) miX10_isKey rfl wd_470 (fRoom_of rfl) rfl (Nat.le_of_ble_eq_true rfl) dX10_put_1) (s_X10_isKey ga1 e1) rfl rfl rfl (fun g1 => ?_)
  refine fW_if_eq 7 18 (rg_z g1) dX10_put_4 rfl rfl (fun c2 => ?_) (fun c2 => ?_)
  · replace h := fTt h c2
    refine fW_iconst 19 dX10_put_18 rfl ?_
    exact fW_iret rfl (by decide) (by decide) dX10_put_19 (rI_i h (by decide))
  · replace h := fFf h c2
    refine fW_iload_n 8 dX10_put_7 rfl rfl ?_
    refine fW_if_lt 11 18 ga2 dX10_put_8 rfl rfl (fun c3 => ?_) (fun c3 => ?_)
    · replace h := fTt h c3
      refine fW_iconst 19 dX10_put_18 rfl ?_
      exact fW_iret rfl (by decide) (by decide) dX10_put_19 (rI_i h (by decide))
    · replace h := fFf h c3
      refine fW_iload_n 12 dX10_put_11 rfl rfl ?_
      refine fW_sipush 15 dX10_put_12 rfl (by decide) ?_
      refine fW_icmp_lt 18 20 ga2 (by decide) dX10_put_15 rfl rfl (fun c4 => ?_) (fun c4 => ?_)
      · replace h := fTt h c4
        refine fW_aload_n 21 dX10_put_20 rfl rfl ?_
        refine fW_iload_n 22 dX10_put_21 rfl rfl ?_
        refine fW_iload_n 23 dX10_put_22 rfl rfl ?_
        obtain ⟨r5, e5, h⟩ := fBd h
        refine fW_cP (fI_V (as := [iv a1, iv a2]) (rest := []) miX10_takeAct hg clX10 rfl tc_0 wd_473 (fRoom_of rfl) rfl (Nat.le_of_ble_eq_true rfl) dX10_put_23) (s_X10_takeAct hg ga1 ga2 e5) rfl rfl rfl (fun g5 => ?_)
        refine fW_rg (fun hR6 => ?_)
        exact fW_iret rfl (by decide) (by decide) dX10_put_26 (rI_i h g5)
      · replace h := fFf h c4
        refine fW_iconst 19 dX10_put_18 rfl ?_
        exact fW_iret rfl (by decide) (by decide) dX10_put_19 (rI_i h (by decide))
def mX10_drop : fMt := (yX10_drop, cX10_drop, 2, some .int, { frames := 7, cells := 0, slots := 0, locals := 280 })
theorem miX10_drop : fMv mX10_drop 1 := ⟨⟨fM 578 (by decide +kernel) rfl, fM 89 (by decide +kernel) rfl, ⟨by decide +kernel, by decide +kernel⟩, by decide +kernel⟩, fM 576 (by decide +kernel) rfl, fM 577 (by decide +kernel) rfl⟩
def f_X10_drop (a1 : Int) (M : fMem) : Option (Int × fMem) := ((f_X10_isKey a1 M).bind fun (r1 : Int) => (if r1 = 0 then some ((-1), M) else ((f_X10_takeAct a1 ((-1)) M).bind fun (r3 : Int × fMem) => some (r3.1, r3.2))))
set_option maxRecDepth 100000 in
set_option maxHeartbeats 4000000 in
theorem s_X10_drop {G : fG} (hg : gbt G = true) {a1 : Int} (ga1 : rg a1) {M : fMem} {q : Int × fMem} (h : f_X10_drop a1 M = some q) : fSp G mX10_drop [rv G 0, iv a1] M (rP q.2 q.1) fNo := by
  refine fSp_of (by decide +kernel) (by decide +kernel) (fC1 rfl (fC1 rfl fC0)) (Nat.le_of_ble_eq_true rfl) ?_
  show fW G mX10_drop (fEm G mX10_drop (rP q.2 q.1) fNo) 0 0 0 [some (rv G 0), some (iv a1)] [] M
  rw [f_X10_drop] at h
  refine fW_rg (fun hR => ?_)
  refine fW_iload_n 1 dX10_drop_0 rfl rfl ?_
  obtain ⟨r1, e1, h⟩ := fBd h
  refine fW_cB (fI_S (as := [iv a1]) (rest := []) miX10_isKey rfl wd_470 (fRoom_of rfl) rfl (Nat.le_of_ble_eq_true rfl) dX10_drop_1) (s_X10_isKey ga1 e1) rfl rfl rfl (fun g1 => ?_)
  refine fW_if_eq 7 16 (rg_z g1) dX10_drop_4 rfl rfl (fun c2 => ?_) (fun c2 => ?_)
  · replace h := fTt h c2
    refine fW_iconst 17 dX10_drop_16 rfl ?_
    exact fW_iret rfl (by decide) (by decide) dX10_drop_17 (rI_i h (by decide))
  · replace h := fFf h c2
    refine fW_aload_n 8 dX10_drop_7 rfl rfl ?_
    refine fW_iload_n 9 dX10_drop_8 rfl rfl ?_
    refine fW_iconst 10 dX10_drop_9 rfl ?_
    obtain ⟨r3, e3, h⟩ := fBd h
    refine fW_cP (fI_V (as := [iv a1, iv ((-1))]) (rest := []) miX10_takeAct hg clX10 rfl tc_0 wd_473 (fRoom_of rfl) rfl (Nat.le_of_ble_eq_true rfl) dX10_drop_10) (s_X10_takeAct hg ga1 (by decide) e3) rfl rfl rfl (fun g3 => ?_)
    refine fW_rg (fun hR4 => ?_)
    refine fW_goto 17 dX10_drop_13 rfl ?_
    exact fW_iret rfl (by decide) (by decide) dX10_drop_17 (rI_i h g3)
def mX10_steps : fMt := (yX10_steps, cX10_steps, 2, some .int, { frames := 5, cells := 0, slots := 0, locals := 200 })
theorem miX10_steps : fMv mX10_steps 1 := ⟨⟨fM 582 (by decide +kernel) rfl, fM 89 (by decide +kernel) rfl, ⟨by decide +kernel, by decide +kernel⟩, by decide +kernel⟩, fM 580 (by decide +kernel) rfl, fM 581 (by decide +kernel) rfl⟩
def f_X10_steps (a1 : Int) (M : fMem) : Option (Int × fMem) := (if a1 < 0 then some ((-1), M) else (if a1 ≤ 1000 then ((some (mset M 0 11 1)).bind fun (N3 : fMem) => ((f_X0_takeSteps 1 a1 N3).bind fun (r4 : Int × fMem) => some (r4.1, r4.2))) else some ((-1), M)))
set_option maxRecDepth 100000 in
set_option maxHeartbeats 4000000 in
theorem s_X10_steps {G : fG} (hg : gbt G = true) {a1 : Int} (ga1 : rg a1) {M : fMem} {q : Int × fMem} (h : f_X10_steps a1 M = some q) : fSp G mX10_steps [rv G 0, iv a1] M (rP q.2 q.1) fNo := by
  refine fSp_of (by decide +kernel) (by decide +kernel) (fC1 rfl (fC1 rfl fC0)) (Nat.le_of_ble_eq_true rfl) ?_
  show fW G mX10_steps (fEm G mX10_steps (rP q.2 q.1) fNo) 0 0 0 [some (rv G 0), some (iv a1)] [] M
  rw [f_X10_steps] at h
  refine fW_rg (fun hR => ?_)
  refine fW_iload_n 1 dX10_steps_0 rfl rfl ?_
  refine fW_if_lt 4 11 ga1 dX10_steps_1 rfl rfl (fun c1 => ?_) (fun c1 => ?_)
  · replace h := fTt h c1
    refine fW_iconst 12 dX10_steps_11 rfl ?_
    exact fW_iret rfl (by decide) (by decide) dX10_steps_12 (rI_i h (by decide))
  · replace h := fFf h c1
    refine fW_iload_n 5 dX10_steps_4 rfl rfl ?_
    refine fW_sipush 8 dX10_steps_5 rfl (by decide) ?_
    refine fW_icmp_le 11 13 ga1 (by decide) dX10_steps_8 rfl rfl (fun c2 => ?_) (fun c2 => ?_)
    · replace h := fTt h c2
      refine fW_aload_n 14 dX10_steps_13 rfl rfl ?_
      refine fW_iconst 15 dX10_steps_14 rfl ?_
      obtain ⟨N3, e3, h⟩ := fBd h
      replace e3 := Option.some.inj e3
      refine fW_putZ 18 11 (ji := 11) hg clX10 rfl (by decide) rfl rfl rfl tc_0 (by decide) wd_428 dX10_steps_15 rfl ?_
      rw [e3]
      refine fW_rg (fun hR3 => ?_)
      refine fW_aload_n 19 dX10_steps_18 rfl rfl ?_
      refine fW_getR 22 (r := 1) 0 hg clX10 (by decide) rfl tc_0 tf_10_0 wd_417 dX10_steps_19 rfl ?_
      refine fW_iload_n 23 dX10_steps_22 rfl rfl ?_
      obtain ⟨r4, e4, h⟩ := fBd h
      refine fW_cP (fI_V (as := [iv a1]) (rest := []) miX0_takeSteps hg clX0 rfl tc_1 wd_583 (fRoom_of rfl) rfl (Nat.le_of_ble_eq_true rfl) dX10_steps_23) (s_X0_takeSteps hg tc_1 ga1 e4) rfl rfl rfl (fun g4 => ?_)
      refine fW_rg (fun hR5 => ?_)
      exact fW_iret rfl (by decide) (by decide) dX10_steps_26 (rI_i h g4)
    · replace h := fFf h c2
      refine fW_iconst 12 dX10_steps_11 rfl ?_
      exact fW_iret rfl (by decide) (by decide) dX10_steps_12 (rI_i h (by decide))
def mX10_budget : fMt := (yX10_budget, cX10_budget, 3, some .int, { frames := 0, cells := 0, slots := 0, locals := 0 })
theorem miX10_budget : fMv mX10_budget 1 := ⟨⟨fM 587 (by decide +kernel) rfl, fM 89 (by decide +kernel) rfl, ⟨by decide +kernel, by decide +kernel⟩, by decide +kernel⟩, fM 585 (by decide +kernel) rfl, fM 586 (by decide +kernel) rfl⟩
def f_X10_budget (a1 : Int) (M : fMem) : Option (Int × fMem) := (if a1 < 0 then some ((-1), M) else (if a1 ≤ 40 then ((some (mset M 1 2 a1)).bind fun (N3 : fMem) => some (M 1 2, N3)) else some ((-1), M)))
set_option maxRecDepth 100000 in
set_option maxHeartbeats 4000000 in
theorem s_X10_budget {G : fG} (hg : gbt G = true) {a1 : Int} (ga1 : rg a1) {M : fMem} {q : Int × fMem} (h : f_X10_budget a1 M = some q) : fSp G mX10_budget [rv G 0, iv a1] M (rP q.2 q.1) fNo := by
  refine fSp_of (by decide +kernel) (by decide +kernel) (fC1 rfl (fC1 rfl fC0)) (Nat.le_of_ble_eq_true rfl) ?_
  show fW G mX10_budget (fEm G mX10_budget (rP q.2 q.1) fNo) 0 0 0 [some (rv G 0), some (iv a1), none] [] M
  rw [f_X10_budget] at h
  refine fW_rg (fun hR => ?_)
  refine fW_iload_n 1 dX10_budget_0 rfl rfl ?_
  refine fW_if_lt 4 10 ga1 dX10_budget_1 rfl rfl (fun c1 => ?_) (fun c1 => ?_)
  · replace h := fTt h c1
    refine fW_iconst 11 dX10_budget_10 rfl ?_
    exact fW_iret rfl (by decide) (by decide) dX10_budget_11 (rI_i h (by decide))
  · replace h := fFf h c1
    refine fW_iload_n 5 dX10_budget_4 rfl rfl ?_
    refine fW_bipush 7 dX10_budget_5 rfl (by decide) ?_
    refine fW_icmp_le 10 12 ga1 (by decide) dX10_budget_7 rfl rfl (fun c2 => ?_) (fun c2 => ?_)
    · replace h := fTt h c2
      refine fW_aload_n 13 dX10_budget_12 rfl rfl ?_
      refine fW_getR 16 (r := 1) 0 hg clX10 (by decide) rfl tc_0 tf_10_0 wd_417 dX10_budget_13 rfl ?_
      refine fW_getI 19 2 (ji := 2) hg clX0 rfl (by decide) rfl tc_1 wd_252 dX10_budget_16 rfl ?_
      refine fW_istore_n 20 (ls' := [some (rv G 0), some (iv a1), some (iv (M 1 2))]) dX10_budget_19 rfl rfl rfl (by decide) ?_
      refine fW_aload_n 21 dX10_budget_20 rfl rfl ?_
      refine fW_getR 24 (r := 1) 0 hg clX10 (by decide) rfl tc_0 tf_10_0 wd_417 dX10_budget_21 rfl ?_
      refine fW_iload_n 25 dX10_budget_24 rfl rfl ?_
      obtain ⟨N3, e3, h⟩ := fBd h
      replace e3 := Option.some.inj e3
      refine fW_putI 28 2 (ji := 2) hg clX0 rfl (by decide) rfl rfl rfl tc_1 ga1 wd_252 dX10_budget_25 rfl ?_
      rw [e3]
      refine fW_rg (fun hR3 => ?_)
      refine fW_iload_n 29 dX10_budget_28 rfl rfl ?_
      exact fW_iret rfl (by decide) (by decide) dX10_budget_29 (rI_i h (hR 1 2))
    · replace h := fFf h c2
      refine fW_iconst 11 dX10_budget_10 rfl ?_
      exact fW_iret rfl (by decide) (by decide) dX10_budget_11 (rI_i h (by decide))
def mX10_stride : fMt := (yX10_stride, cX10_stride, 3, some .int, { frames := 0, cells := 0, slots := 0, locals := 0 })
theorem miX10_stride : fMv mX10_stride 1 := ⟨⟨fM 591 (by decide +kernel) rfl, fM 89 (by decide +kernel) rfl, ⟨by decide +kernel, by decide +kernel⟩, by decide +kernel⟩, fM 589 (by decide +kernel) rfl, fM 590 (by decide +kernel) rfl⟩
def f_X10_stride (a1 : Int) (M : fMem) : Option (Int × fMem) := (if a1 < 2 then some ((-1), M) else (if a1 ≤ 8 then ((some (mset M 0 10 a1)).bind fun (N3 : fMem) => ((some (mset N3 0 11 1)).bind fun (N4 : fMem) => some (M 0 10, N4))) else some ((-1), M)))
set_option maxRecDepth 100000 in
set_option maxHeartbeats 4000000 in
theorem s_X10_stride {G : fG} (hg : gbt G = true) {a1 : Int} (ga1 : rg a1) {M : fMem} {q : Int × fMem} (h : f_X10_stride a1 M = some q) : fSp G mX10_stride [rv G 0, iv a1] M (rP q.2 q.1) fNo := by
  refine fSp_of (by decide +kernel) (by decide +kernel) (fC1 rfl (fC1 rfl fC0)) (Nat.le_of_ble_eq_true rfl) ?_
  show fW G mX10_stride (fEm G mX10_stride (rP q.2 q.1) fNo) 0 0 0 [some (rv G 0), some (iv a1), none] [] M
  rw [f_X10_stride] at h
  refine fW_rg (fun hR => ?_)
  refine fW_iload_n 1 dX10_stride_0 rfl rfl ?_
  refine fW_iconst 2 dX10_stride_1 rfl ?_
  refine fW_icmp_lt 5 11 ga1 (by decide) dX10_stride_2 rfl rfl (fun c1 => ?_) (fun c1 => ?_)
  · replace h := fTt h c1
    refine fW_iconst 12 dX10_stride_11 rfl ?_
    exact fW_iret rfl (by decide) (by decide) dX10_stride_12 (rI_i h (by decide))
  · replace h := fFf h c1
    refine fW_iload_n 6 dX10_stride_5 rfl rfl ?_
    refine fW_bipush 8 dX10_stride_6 rfl (by decide) ?_
    refine fW_icmp_le 11 13 ga1 (by decide) dX10_stride_8 rfl rfl (fun c2 => ?_) (fun c2 => ?_)
    · replace h := fTt h c2
      refine fW_aload_n 14 dX10_stride_13 rfl rfl ?_
      refine fW_getI 17 10 (ji := 10) hg clX10 rfl (by decide) rfl tc_0 wd_427 dX10_stride_14 rfl ?_
      refine fW_istore_n 18 (ls' := [some (rv G 0), some (iv a1), some (iv (M 0 10))]) dX10_stride_17 rfl rfl rfl (by decide) ?_
      refine fW_aload_n 19 dX10_stride_18 rfl rfl ?_
      refine fW_iload_n 20 dX10_stride_19 rfl rfl ?_
      obtain ⟨N3, e3, h⟩ := fBd h
      replace e3 := Option.some.inj e3
      refine fW_putI 23 10 (ji := 10) hg clX10 rfl (by decide) rfl rfl rfl tc_0 ga1 wd_427 dX10_stride_20 rfl ?_
      rw [e3]
      refine fW_rg (fun hR3 => ?_)
      refine fW_aload_n 24 dX10_stride_23 rfl rfl ?_
      refine fW_iconst 25 dX10_stride_24 rfl ?_
      obtain ⟨N4, e4, h⟩ := fBd h
      replace e4 := Option.some.inj e4
      refine fW_putZ 28 11 (ji := 11) hg clX10 rfl (by decide) rfl rfl rfl tc_0 (by decide) wd_428 dX10_stride_25 rfl ?_
      rw [e4]
      refine fW_rg (fun hR4 => ?_)
      refine fW_iload_n 29 dX10_stride_28 rfl rfl ?_
      exact fW_iret rfl (by decide) (by decide) dX10_stride_29 (rI_i h (hR 0 10))
    · replace h := fFf h c2
      refine fW_iconst 12 dX10_stride_11 rfl ?_
      exact fW_iret rfl (by decide) (by decide) dX10_stride_12 (rI_i h (by decide))
def mX10_find : fMt := (yX10_find, cX10_find, 2, some .int, { frames := 4, cells := 0, slots := 0, locals := 160 })
theorem miX10_find : fMv mX10_find 1 := ⟨⟨fM 595 (by decide +kernel) rfl, fM 89 (by decide +kernel) rfl, ⟨by decide +kernel, by decide +kernel⟩, by decide +kernel⟩, fM 593 (by decide +kernel) rfl, fM 594 (by decide +kernel) rfl⟩
def f_X10_find (a1 : Int) (M : fMem) : Option (Int × fMem) := ((f_X10_isKey a1 M).bind fun (r1 : Int) => (if r1 = 0 then some ((-1), M) else ((f_X7_arrange 2 M).bind fun (r3 : Int × fMem) => ((f_X7_valueOf 2 a1 r3.2).bind fun (r5 : Int) => some (r5, r3.2)))))
set_option maxRecDepth 100000 in
set_option maxHeartbeats 4000000 in
theorem s_X10_find {G : fG} (hg : gbt G = true) {a1 : Int} (ga1 : rg a1) {M : fMem} {q : Int × fMem} (h : f_X10_find a1 M = some q) : fSp G mX10_find [rv G 0, iv a1] M (rP q.2 q.1) fNo := by
  refine fSp_of (by decide +kernel) (by decide +kernel) (fC1 rfl (fC1 rfl fC0)) (Nat.le_of_ble_eq_true rfl) ?_
  show fW G mX10_find (fEm G mX10_find (rP q.2 q.1) fNo) 0 0 0 [some (rv G 0), some (iv a1)] [] M
  rw [f_X10_find] at h
  refine fW_rg (fun hR => ?_)
  refine fW_iload_n 1 dX10_find_0 rfl rfl ?_
  obtain ⟨r1, e1, h⟩ := fBd h
  refine fW_cB (fI_S (as := [iv a1]) (rest := []) miX10_isKey rfl wd_470 (fRoom_of rfl) rfl (Nat.le_of_ble_eq_true rfl) dX10_find_1) (s_X10_isKey ga1 e1) rfl rfl rfl (fun g1 => ?_)
  refine fW_if_ne 7 9 (rg_z g1) dX10_find_4 rfl rfl (fun c2 => ?_) (fun c2 => ?_)
  · replace h := fFf h c2
    refine fW_aload_n 10 dX10_find_9 rfl rfl ?_
    refine fW_getR 13 (r := 1) 0 hg clX10 (by decide) rfl tc_0 tf_10_0 wd_417 dX10_find_10 rfl ?_
    refine fW_getR 16 (r := 2) 0 hg clX0 (by decide) rfl tc_1 (tf_0_0 tc_1) wd_248 dX10_find_13 rfl ?_
    obtain ⟨r3, e3, h⟩ := fBd h
    refine fW_cP (fI_V (as := []) (rest := []) miX7_arrange hg clX7 rfl (tt_0_0 tc_1) wd_596 (fRoom_of rfl) rfl (Nat.le_of_ble_eq_true rfl) dX10_find_16) (s_X7_arrange hg (tt_0_0 tc_1) e3) rfl rfl rfl (fun g3 => ?_)
    refine fW_rg (fun hR4 => ?_)
    refine fW_pop 20 dX10_find_19 rfl rfl ?_
    refine fW_aload_n 21 dX10_find_20 rfl rfl ?_
    refine fW_getR 24 (r := 1) 0 hg clX10 (by decide) rfl tc_0 tf_10_0 wd_417 dX10_find_21 rfl ?_
    refine fW_getR 27 (r := 2) 0 hg clX0 (by decide) rfl tc_1 (tf_0_0 tc_1) wd_248 dX10_find_24 rfl ?_
    refine fW_iload_n 28 dX10_find_27 rfl rfl ?_
    obtain ⟨r5, e5, h⟩ := fBd h
    refine fW_cP (fI_V (as := [iv a1]) (rest := []) miX7_valueOf hg clX7 rfl (tt_0_0 tc_1) wd_608 (fRoom_of rfl) rfl (Nat.le_of_ble_eq_true rfl) dX10_find_28) (s_X7_valueOf hg (tt_0_0 tc_1) ga1 e5) rfl rfl rfl (fun g5 => ?_)
    exact fW_iret rfl (by decide) (by decide) dX10_find_31 (rI_i h g5)
  · replace h := fTt h c2
    refine fW_iconst 8 dX10_find_7 rfl ?_
    exact fW_iret rfl (by decide) (by decide) dX10_find_8 (rI_i h (by decide))
def mX10_needKey : fMt := (yX10_needKey, cX10_needKey, 1, none, { frames := 6, cells := 1, slots := 6, locals := 240 })
theorem miX10_needKey : fMs mX10_needKey 1 := ⟨⟨fM 710 (by decide +kernel) rfl, fM 89 (by decide +kernel) rfl, ⟨by decide +kernel, by decide +kernel⟩, by decide +kernel⟩, fM 709 (by decide +kernel) rfl⟩
def f_X10_needKey (a1 : Int) (M : fMem) : Option (Int) := ((f_X10_isKey a1 M).bind fun (r1 : Int) => (if r1 = 0 then some (1 : Int) else some (0 : Int)))
set_option maxRecDepth 100000 in
set_option maxHeartbeats 4000000 in
theorem s_X10_needKey {G : fG} (hg : gbt G = true) {a1 : Int} (ga1 : rg a1) {M : fMem} {q : Int} (h : f_X10_needKey a1 M = some q) : fSp G mX10_needKey [iv a1] M (rU M q) (xT q M) := by
  refine fSp_of (by decide +kernel) (by decide +kernel) (fC1 rfl fC0) (Nat.le_of_ble_eq_true rfl) ?_
  show fW G mX10_needKey (fEm G mX10_needKey (rU M q) (xT q M)) 0 0 0 [some (iv a1)] [] M
  rw [f_X10_needKey] at h
  refine fW_rg (fun hR => ?_)
  refine fW_iload_n 1 dX10_needKey_0 rfl rfl ?_
  obtain ⟨r1, e1, h⟩ := fBd h
  refine fW_cB (fI_S (as := [iv a1]) (rest := []) miX10_isKey rfl wd_470 (fRoom_of rfl) rfl (Nat.le_of_ble_eq_true rfl) dX10_needKey_1) (s_X10_isKey ga1 e1) rfl rfl rfl (fun g1 => ?_)
  refine fW_if_ne 7 18 (rg_z g1) dX10_needKey_4 rfl rfl (fun c2 => ?_) (fun c2 => ?_)
  · replace h := fFf h c2
    exact fW_vret rfl (by decide) (by decide) dX10_needKey_18 (rU_i h)
  · replace h := fTt h c2
    exact fW_throwW hg rfl th1 (text := _) (fStr_411) dX10_needKey_7 dX10_needKey_10 dX10_needKey_11 dX10_needKey_14 dX10_needKey_17 (by decide) (Nat.le_of_ble_eq_true rfl) (by decide) (by decide) (xU_1 h)
def mX10_refresh : fMt := (yX10_refresh, cX10_refresh, 1, none, { frames := 4, cells := 0, slots := 0, locals := 160 })
theorem miX10_refresh : fMv mX10_refresh 0 := ⟨⟨fM 781 (by decide +kernel) rfl, fM 89 (by decide +kernel) rfl, ⟨by decide +kernel, by decide +kernel⟩, by decide +kernel⟩, fM 780 (by decide +kernel) rfl, fM 12 (by decide +kernel) rfl⟩
def f_X10_refresh  (M : fMem) : Option (fMem) := (if (M 0 11) = 0 then some M else ((f_X7_arrange 2 M).bind fun (r2 : Int × fMem) => ((f_X3_build 2 (r2.2 0 10) r2.2).bind fun (r4 : fMem) => ((some (mset r4 0 11 0)).bind fun (N6 : fMem) => some N6))))
set_option maxRecDepth 100000 in
set_option maxHeartbeats 4000000 in
theorem s_X10_refresh {G : fG} (hg : gbt G = true)  {M : fMem} {q : fMem} (h : f_X10_refresh M = some q) : fSp G mX10_refresh [rv G 0] M (rV q) fNo := by
  refine fSp_of (by decide +kernel) (by decide +kernel) (fC1 rfl fC0) (Nat.le_of_ble_eq_true rfl) ?_
  show fW G mX10_refresh (fEm G mX10_refresh (rV q) fNo) 0 0 0 [some (rv G 0)] [] M
  rw [f_X10_refresh] at h
  refine fW_rg (fun hR => ?_)
  refine fW_aload_n 1 dX10_refresh_0 rfl rfl ?_
  refine fW_getI 4 11 (ji := 11) hg clX10 rfl (by decide) rfl tc_0 wd_428 dX10_refresh_1 rfl ?_
  refine fW_if_eq 7 41 (hR 0 11) dX10_refresh_4 rfl rfl (fun c1 => ?_) (fun c1 => ?_)
  · replace h := fTt h c1
    exact fW_vret rfl (by decide) (by decide) dX10_refresh_41 (rV_i h)
  · replace h := fFf h c1
    refine fW_aload_n 8 dX10_refresh_7 rfl rfl ?_
    refine fW_getR 11 (r := 1) 0 hg clX10 (by decide) rfl tc_0 tf_10_0 wd_417 dX10_refresh_8 rfl ?_
    refine fW_getR 14 (r := 2) 0 hg clX0 (by decide) rfl tc_1 (tf_0_0 tc_1) wd_248 dX10_refresh_11 rfl ?_
    obtain ⟨r2, e2, h⟩ := fBd h
    refine fW_cP (fI_V (as := []) (rest := []) miX7_arrange hg clX7 rfl (tt_0_0 tc_1) wd_596 (fRoom_of rfl) rfl (Nat.le_of_ble_eq_true rfl) dX10_refresh_14) (s_X7_arrange hg (tt_0_0 tc_1) e2) rfl rfl rfl (fun g2 => ?_)
    refine fW_rg (fun hR3 => ?_)
    refine fW_pop 18 dX10_refresh_17 rfl rfl ?_
    refine fW_aload_n 19 dX10_refresh_18 rfl rfl ?_
    refine fW_getR 22 (r := 149) 6 hg clX10 (by decide) rfl tc_0 tf_10_6 wd_423 dX10_refresh_19 rfl ?_
    refine fW_aload_n 23 dX10_refresh_22 rfl rfl ?_
    refine fW_getR 26 (r := 1) 0 hg clX10 (by decide) rfl tc_0 tf_10_0 wd_417 dX10_refresh_23 rfl ?_
    refine fW_getR 29 (r := 2) 0 hg clX0 (by decide) rfl tc_1 (tf_0_0 tc_1) wd_248 dX10_refresh_26 rfl ?_
    refine fW_aload_n 30 dX10_refresh_29 rfl rfl ?_
    refine fW_getI 33 10 (ji := 10) hg clX10 rfl (by decide) rfl tc_0 wd_427 dX10_refresh_30 rfl ?_
    obtain ⟨r4, e4, h⟩ := fBd h
    refine fW_cV (fI_V (as := [rv G 2, iv (r2.2 0 10)]) (rest := []) miX3_build hg clX3 rfl tc_149 wd_782 (fRoom_of rfl) rfl (Nat.le_of_ble_eq_true rfl) dX10_refresh_33) (s_X3_build hg (tt_0_0 tc_1) (hR3 0 10) e4) rfl rfl rfl ?_
    refine fW_rg (fun hR5 => ?_)
    refine fW_aload_n 37 dX10_refresh_36 rfl rfl ?_
    refine fW_iconst 38 dX10_refresh_37 rfl ?_
    obtain ⟨N6, e6, h⟩ := fBd h
    replace e6 := Option.some.inj e6
    refine fW_putZ 41 11 (ji := 11) hg clX10 rfl (by decide) rfl rfl rfl tc_0 (by decide) wd_428 dX10_refresh_38 rfl ?_
    rw [e6]
    refine fW_rg (fun hR6 => ?_)
    exact fW_vret rfl (by decide) (by decide) dX10_refresh_41 (rV_i h)
def mX10_looksFor : fMt := (yX10_looksFor, cX10_looksFor, 3, some .int, { frames := 5, cells := 0, slots := 0, locals := 200 })
theorem miX10_looksFor : fMv mX10_looksFor 2 := ⟨⟨fM 826 (by decide +kernel) rfl, fM 89 (by decide +kernel) rfl, ⟨by decide +kernel, by decide +kernel⟩, by decide +kernel⟩, fM 825 (by decide +kernel) rfl, fM 16 (by decide +kernel) rfl⟩
def f_X10_looksFor (a1 : Int) (a2 : Int) (M : fMem) : Option (Int × fMem) := (if a2 = 0 then ((f_X5_follow 2 a1 M).bind fun (r2 : fMem) => some (r2 227 5, r2)) else ((f_X5_followPlain 2 a1 M).bind fun (r4 : fMem) => some (r4 227 5, r4)))
set_option maxRecDepth 100000 in
set_option maxHeartbeats 4000000 in
theorem s_X10_looksFor {G : fG} (hg : gbt G = true) {a1 : Int} (ga1 : rg a1) {a2 : Int} (ga2 : 0 ≤ a2 ∧ a2 ≤ 1) {M : fMem} {q : Int × fMem} (h : f_X10_looksFor a1 a2 M = some q) : fSp G mX10_looksFor [rv G 0, iv a1, iv a2] M (rP q.2 q.1) fNo := by
  refine fSp_of (by decide +kernel) (by decide +kernel) (fC1 rfl (fC1 rfl (fC1 rfl fC0))) (Nat.le_of_ble_eq_true rfl) ?_
  show fW G mX10_looksFor (fEm G mX10_looksFor (rP q.2 q.1) fNo) 0 0 0 [some (rv G 0), some (iv a1), some (iv a2)] [] M
  rw [f_X10_looksFor] at h
  refine fW_rg (fun hR => ?_)
  refine fW_iload_n 1 dX10_looksFor_0 rfl rfl ?_
  refine fW_if_eq 4 22 (rg_z ga2) dX10_looksFor_1 rfl rfl (fun c1 => ?_) (fun c1 => ?_)
  · replace h := fTt h c1
    refine fW_aload_n 23 dX10_looksFor_22 rfl rfl ?_
    refine fW_getR 26 (r := 227) 7 hg clX10 (by decide) rfl tc_0 tf_10_7 wd_424 dX10_looksFor_23 rfl ?_
    refine fW_aload_n 27 dX10_looksFor_26 rfl rfl ?_
    refine fW_getR 30 (r := 1) 0 hg clX10 (by decide) rfl tc_0 tf_10_0 wd_417 dX10_looksFor_27 rfl ?_
    refine fW_getR 33 (r := 2) 0 hg clX0 (by decide) rfl tc_1 (tf_0_0 tc_1) wd_248 dX10_looksFor_30 rfl ?_
    refine fW_aload_n 34 dX10_looksFor_33 rfl rfl ?_
    refine fW_getR 37 (r := 149) 6 hg clX10 (by decide) rfl tc_0 tf_10_6 wd_423 dX10_looksFor_34 rfl ?_
    refine fW_iload_n 38 dX10_looksFor_37 rfl rfl ?_
    obtain ⟨r2, e2, h⟩ := fBd h
    refine fW_cV (fI_V (as := [rv G 2, rv G 149, iv a1]) (rest := []) miX5_follow hg clX5 rfl tc_227 wd_841 (fRoom_of rfl) rfl (Nat.le_of_ble_eq_true rfl) dX10_looksFor_38) (s_X5_follow hg (tt_0_0 tc_1) ga1 e2) rfl rfl rfl ?_
    refine fW_rg (fun hR3 => ?_)
    refine fW_aload_n 42 dX10_looksFor_41 rfl rfl ?_
    refine fW_getR 45 (r := 227) 7 hg clX10 (by decide) rfl tc_0 tf_10_7 wd_424 dX10_looksFor_42 rfl ?_
    refine fW_getI 48 5 (ji := 5) hg clX5 rfl (by decide) rfl tc_227 wd_384 dX10_looksFor_45 rfl ?_
    exact fW_iret rfl (by decide) (by decide) dX10_looksFor_48 (rI_i h (hR3 227 5))
  · replace h := fFf h c1
    refine fW_aload_n 5 dX10_looksFor_4 rfl rfl ?_
    refine fW_getR 8 (r := 227) 7 hg clX10 (by decide) rfl tc_0 tf_10_7 wd_424 dX10_looksFor_5 rfl ?_
    refine fW_aload_n 9 dX10_looksFor_8 rfl rfl ?_
    refine fW_getR 12 (r := 1) 0 hg clX10 (by decide) rfl tc_0 tf_10_0 wd_417 dX10_looksFor_9 rfl ?_
    refine fW_getR 15 (r := 2) 0 hg clX0 (by decide) rfl tc_1 (tf_0_0 tc_1) wd_248 dX10_looksFor_12 rfl ?_
    refine fW_iload_n 16 dX10_looksFor_15 rfl rfl ?_
    obtain ⟨r4, e4, h⟩ := fBd h
    refine fW_cV (fI_V (as := [rv G 2, iv a1]) (rest := []) miX5_followPlain hg clX5 rfl tc_227 wd_827 (fRoom_of rfl) rfl (Nat.le_of_ble_eq_true rfl) dX10_looksFor_16) (s_X5_followPlain hg (tt_0_0 tc_1) ga1 e4) rfl rfl rfl ?_
    refine fW_rg (fun hR5 => ?_)
    refine fW_goto 41 dX10_looksFor_19 rfl ?_
    refine fW_aload_n 42 dX10_looksFor_41 rfl rfl ?_
    refine fW_getR 45 (r := 227) 7 hg clX10 (by decide) rfl tc_0 tf_10_7 wd_424 dX10_looksFor_42 rfl ?_
    refine fW_getI 48 5 (ji := 5) hg clX5 rfl (by decide) rfl tc_227 wd_384 dX10_looksFor_45 rfl ?_
    exact fW_iret rfl (by decide) (by decide) dX10_looksFor_48 (rI_i h (hR5 227 5))
def mX10_looks : fMt := (yX10_looks, cX10_looks, 3, some .int, { frames := 7, cells := 1, slots := 6, locals := 280 })
theorem miX10_looks : fMv mX10_looks 2 := ⟨⟨fM 707 (by decide +kernel) rfl, fM 89 (by decide +kernel) rfl, ⟨by decide +kernel, by decide +kernel⟩, by decide +kernel⟩, fM 705 (by decide +kernel) rfl, fM 706 (by decide +kernel) rfl⟩
def f_X10_looks (a1 : Int) (a2 : Int) (M : fMem) : Option (Int × Int × fMem) := ((f_X10_needKey a1 M).bind fun (r1 : Int) => (if r1 = 0 then ((f_X10_refresh M).bind fun (r2 : fMem) => ((f_X10_looksFor a1 a2 r2).bind fun (r4 : Int × fMem) => some (0, r4.1, r4.2))) else some (r1, 0, M)))
set_option maxRecDepth 100000 in
set_option maxHeartbeats 4000000 in
theorem s_X10_looks {G : fG} (hg : gbt G = true) {a1 : Int} (ga1 : rg a1) {a2 : Int} (ga2 : 0 ≤ a2 ∧ a2 ≤ 1) {M : fMem} {q : Int × Int × fMem} (h : f_X10_looks a1 a2 M = some q) : fSp G mX10_looks [rv G 0, iv a1, iv a2] M (rT q) (xT q.1 q.2.2) := by
  refine fSp_of (by decide +kernel) (by decide +kernel) (fC1 rfl (fC1 rfl (fC1 rfl fC0))) (Nat.le_of_ble_eq_true rfl) ?_
  show fW G mX10_looks (fEm G mX10_looks (rT q) (xT q.1 q.2.2)) 0 0 0 [some (rv G 0), some (iv a1), some (iv a2)] [] M
  rw [f_X10_looks] at h
  refine fW_rg (fun hR => ?_)
  refine fW_iload_n 1 dX10_looks_0 rfl rfl ?_
  obtain ⟨r1, e1, h⟩ := fBd h
  refine fW_cU 1 6 (by decide +kernel) (fI_S (as := [iv a1]) (rest := []) miX10_needKey rfl wd_708 (fRoom_of rfl) rfl (Nat.le_of_ble_eq_true rfl) dX10_looks_1) (s_X10_needKey hg ga1 e1) rfl rfl rfl (by decide) (by decide) (fun cx => xU_T cx (fFf h cx)) (fun cx => ?_)
  replace h := fTt h cx
  refine fW_aload_n 5 dX10_looks_4 rfl rfl ?_
  obtain ⟨r2, e2, h⟩ := fBd h
  refine fW_cV (fI_V (as := []) (rest := []) miX10_refresh hg clX10 rfl tc_0 wd_778 (fRoom_of rfl) rfl (Nat.le_of_ble_eq_true rfl) dX10_looks_5) (s_X10_refresh hg e2) rfl rfl rfl ?_
  refine fW_rg (fun hR3 => ?_)
  refine fW_aload_n 9 dX10_looks_8 rfl rfl ?_
  refine fW_iload_n 10 dX10_looks_9 rfl rfl ?_
  refine fW_iload_n 11 dX10_looks_10 rfl rfl ?_
  obtain ⟨r4, e4, h⟩ := fBd h
  refine fW_cP (fI_V (as := [iv a1, iv a2]) (rest := []) miX10_looksFor hg clX10 rfl tc_0 wd_823 (fRoom_of rfl) rfl (Nat.le_of_ble_eq_true rfl) dX10_looks_11) (s_X10_looksFor hg ga1 ga2 e4) rfl rfl rfl (fun g4 => ?_)
  refine fW_rg (fun hR5 => ?_)
  exact fW_iret rfl (by decide) (by decide) dX10_looks_14 (rT_i h g4)
def mX10_needLevel : fMt := (yX10_needLevel, cX10_needLevel, 1, none, { frames := 6, cells := 1, slots := 6, locals := 240 })
theorem miX10_needLevel : fMs mX10_needLevel 1 := ⟨⟨fM 886 (by decide +kernel) rfl, fM 89 (by decide +kernel) rfl, ⟨by decide +kernel, by decide +kernel⟩, by decide +kernel⟩, fM 885 (by decide +kernel) rfl⟩
def f_X10_needLevel (a1 : Int) (M : fMem) : Option (Int) := (if a1 < 0 then some (1 : Int) else (if a1 < 9 then some (0 : Int) else some (1 : Int)))
set_option maxRecDepth 100000 in
set_option maxHeartbeats 4000000 in
theorem s_X10_needLevel {G : fG} (hg : gbt G = true) {a1 : Int} (ga1 : rg a1) {M : fMem} {q : Int} (h : f_X10_needLevel a1 M = some q) : fSp G mX10_needLevel [iv a1] M (rU M q) (xT q M) := by
  refine fSp_of (by decide +kernel) (by decide +kernel) (fC1 rfl fC0) (Nat.le_of_ble_eq_true rfl) ?_
  show fW G mX10_needLevel (fEm G mX10_needLevel (rU M q) (xT q M)) 0 0 0 [some (iv a1)] [] M
  rw [f_X10_needLevel] at h
  refine fW_rg (fun hR => ?_)
  refine fW_iload_n 1 dX10_needLevel_0 rfl rfl ?_
  refine fW_if_lt 4 10 ga1 dX10_needLevel_1 rfl rfl (fun c1 => ?_) (fun c1 => ?_)
  · replace h := fTt h c1
    exact fW_throwW hg rfl th1 (text := _) (fStr_413) dX10_needLevel_10 dX10_needLevel_13 dX10_needLevel_14 dX10_needLevel_17 dX10_needLevel_20 (by decide) (Nat.le_of_ble_eq_true rfl) (by decide) (by decide) (xU_1 h)
  · replace h := fFf h c1
    refine fW_iload_n 5 dX10_needLevel_4 rfl rfl ?_
    refine fW_bipush 7 dX10_needLevel_5 rfl (by decide) ?_
    refine fW_icmp_lt 10 21 ga1 (by decide) dX10_needLevel_7 rfl rfl (fun c2 => ?_) (fun c2 => ?_)
    · replace h := fTt h c2
      exact fW_vret rfl (by decide) (by decide) dX10_needLevel_21 (rU_i h)
    · replace h := fFf h c2
      exact fW_throwW hg rfl th1 (text := _) (fStr_413) dX10_needLevel_10 dX10_needLevel_13 dX10_needLevel_14 dX10_needLevel_17 dX10_needLevel_20 (by decide) (Nat.le_of_ble_eq_true rfl) (by decide) (by decide) (xU_1 h)
def mX10_needRow : fMt := (yX10_needRow, cX10_needRow, 2, none, { frames := 7, cells := 2, slots := 12, locals := 280 })
theorem miX10_needRow : fMs mX10_needRow 2 := ⟨⟨fM 883 (by decide +kernel) rfl, fM 89 (by decide +kernel) rfl, ⟨by decide +kernel, by decide +kernel⟩, by decide +kernel⟩, fM 882 (by decide +kernel) rfl⟩
def f_X10_needRow (a1 : Int) (a2 : Int) (M : fMem) : Option (Int) := ((f_X10_needLevel a1 M).bind fun (r1 : Int) => (if r1 = 0 then (if a2 < 0 then some (1 : Int) else (if 0 ≤ a1 ∧ a1 < 9 then (if -2147483648 ≤ (ER a1) - (FR a1) ∧ (ER a1) - (FR a1) < 2147483648 then (if a2 < ((ER a1) - (FR a1)) then some (0 : Int) else some (1 : Int)) else none) else none)) else some r1))
set_option maxRecDepth 100000 in
set_option maxHeartbeats 4000000 in
theorem s_X10_needRow {G : fG} (hg : gbt G = true) {a1 : Int} (ga1 : rg a1) {a2 : Int} (ga2 : rg a2) {M : fMem} {q : Int} (h : f_X10_needRow a1 a2 M = some q) : fSp G mX10_needRow [iv a1, iv a2] M (rU M q) (xT q M) := by
  refine fSp_of (by decide +kernel) (by decide +kernel) (fC1 rfl (fC1 rfl fC0)) (Nat.le_of_ble_eq_true rfl) ?_
  show fW G mX10_needRow (fEm G mX10_needRow (rU M q) (xT q M)) 0 0 0 [some (iv a1), some (iv a2)] [] M
  rw [f_X10_needRow] at h
  refine fW_rg (fun hR => ?_)
  refine fW_iload_n 1 dX10_needRow_0 rfl rfl ?_
  obtain ⟨r1, e1, h⟩ := fBd h
  refine fW_cU 1 6 (by decide +kernel) (fI_S (as := [iv a1]) (rest := []) miX10_needLevel rfl wd_884 (fRoom_of rfl) rfl (Nat.le_of_ble_eq_true rfl) dX10_needRow_1) (s_X10_needLevel hg ga1 e1) rfl rfl rfl (by decide) (by decide) (fun cx => xU_U cx (fFf h cx)) (fun cx => ?_)
  replace h := fTt h cx
  refine fW_iload_n 5 dX10_needRow_4 rfl rfl ?_
  refine fW_if_lt 8 23 ga2 dX10_needRow_5 rfl rfl (fun c2 => ?_) (fun c2 => ?_)
  · replace h := fTt h c2
    exact fW_throwW hg rfl th1 (text := _) (fStr_421) dX10_needRow_23 dX10_needRow_26 dX10_needRow_27 dX10_needRow_30 dX10_needRow_33 (by decide) (Nat.le_of_ble_eq_true rfl) (by decide) (by decide) (xU_1 h)
  · replace h := fFf h c2
    refine fW_iload_n 9 dX10_needRow_8 rfl rfl ?_
    refine fW_gets 12 1 (by decide) wd_888 dX10_needRow_9 rfl ?_
    refine fW_iload_n 13 dX10_needRow_12 rfl rfl ?_
    obtain ⟨c3, h⟩ := fS h
    refine fW_sald 14 1 (by decide) c3 dX10_needRow_13 rfl ?_
    rw [show SV 1 a1 = ER a1 from rfl]
    refine fW_gets 17 0 (by decide) wd_664 dX10_needRow_14 rfl ?_
    refine fW_iload_n 18 dX10_needRow_17 rfl rfl ?_
    refine fW_sald 19 0 (by decide) c3 dX10_needRow_18 rfl ?_
    rw [show SV 0 a1 = FR a1 from rfl]
    refine fW_isub 20 dX10_needRow_19 rfl ?_
    obtain ⟨c4, h⟩ := fS h
    refine fW_icmp_lt 23 34 ga2 c4 dX10_needRow_20 rfl rfl (fun c5 => ?_) (fun c5 => ?_)
    · replace h := fTt h c5
      exact fW_vret rfl (by decide) (by decide) dX10_needRow_34 (rU_i h)
    · replace h := fFf h c5
      exact fW_throwW hg rfl th1 (text := _) (fStr_421) dX10_needRow_23 dX10_needRow_26 dX10_needRow_27 dX10_needRow_30 dX10_needRow_33 (by decide) (Nat.le_of_ble_eq_true rfl) (by decide) (by decide) (xU_1 h)
def mX10_at : fMt := (yX10_at, cX10_at, 2, some .int, { frames := 0, cells := 0, slots := 0, locals := 0 })
theorem miX10_at : fMs mX10_at 2 := ⟨⟨fM 663 (by decide +kernel) rfl, fM 89 (by decide +kernel) rfl, ⟨by decide +kernel, by decide +kernel⟩, by decide +kernel⟩, fM 662 (by decide +kernel) rfl⟩
def f_X10_at (a1 : Int) (a2 : Int) (M : fMem) : Option (Int) := (if 0 ≤ a1 ∧ a1 < 9 then (if -2147483648 ≤ (FR a1) + a2 ∧ (FR a1) + a2 < 2147483648 then some ((FR a1) + a2) else none) else none)
set_option maxRecDepth 100000 in
set_option maxHeartbeats 4000000 in
theorem s_X10_at {G : fG} (hg : gbt G = true) {a1 : Int} (ga1 : rg a1) {a2 : Int} (ga2 : rg a2) {M : fMem} {q : Int} (h : f_X10_at a1 a2 M = some q) : fSp G mX10_at [iv a1, iv a2] M (rP M q) fNo := by
  refine fSp_of (by decide +kernel) (by decide +kernel) (fC1 rfl (fC1 rfl fC0)) (Nat.le_of_ble_eq_true rfl) ?_
  show fW G mX10_at (fEm G mX10_at (rP M q) fNo) 0 0 0 [some (iv a1), some (iv a2)] [] M
  rw [f_X10_at] at h
  refine fW_rg (fun hR => ?_)
  refine fW_gets 3 0 (by decide) wd_664 dX10_at_0 rfl ?_
  refine fW_iload_n 4 dX10_at_3 rfl rfl ?_
  obtain ⟨c1, h⟩ := fS h
  refine fW_sald 5 0 (by decide) c1 dX10_at_4 rfl ?_
  rw [show SV 0 a1 = FR a1 from rfl]
  refine fW_iload_n 6 dX10_at_5 rfl rfl ?_
  refine fW_iadd 7 dX10_at_6 rfl ?_
  obtain ⟨c2, h⟩ := fS h
  exact fW_iret rfl (by decide) (by decide) dX10_at_7 (rP_i h c2)
end MTH
