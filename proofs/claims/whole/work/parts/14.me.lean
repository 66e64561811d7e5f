section MTH
def mX1_append : fMt := (yX1_append, cX1_append, 4, none, { frames := 0, cells := 0, slots := 0, locals := 0 })
theorem miX1_append : fMv mX1_append 3 := ⟨⟨fM 817 (by decide +kernel) rfl, fM 98 (by decide +kernel) rfl, ⟨by decide +kernel, by decide +kernel⟩, by decide +kernel⟩, fM 815 (by decide +kernel) rfl, fM 816 (by decide +kernel) rfl⟩
def f_X1_append (o : Nat) (a1 : Int) (a2 : Int) (a3 : Int) (M : fMem) : Option (fMem) := (if (Ln (o + 1)) ≤ (M o 3) then some M else (if 0 ≤ M o 3 ∧ M o 3 < Ln (o + 1) then (if 0 ≤ (mset M (o + 1) (M o 3) a1) o 3 ∧ (mset M (o + 1) (M o 3) a1) o 3 < Ln (o + 2) then (if 0 ≤ (mset (mset M (o + 1) (M o 3) a1) (o + 2) ((mset M (o + 1) (M o 3) a1) o 3) a2) o 3 ∧ (mset (mset M (o + 1) (M o 3) a1) (o + 2) ((mset M (o + 1) (M o 3) a1) o 3) a2) o 3 < Ln (o + 3) then (if -2147483648 ≤ ((mset (mset (mset M (o + 1) (M o 3) a1) (o + 2) ((mset M (o + 1) (M o 3) a1) o 3) a2) (o + 3) ((mset (mset M (o + 1) (M o 3) a1) (o + 2) ((mset M (o + 1) (M o 3) a1) o 3) a2) o 3) a3) o 3) + 1 ∧ ((mset (mset (mset M (o + 1) (M o 3) a1) (o + 2) ((mset M (o + 1) (M o 3) a1) o 3) a2) (o + 3) ((mset (mset M (o + 1) (M o 3) a1) (o + 2) ((mset M (o + 1) (M o 3) a1) o 3) a2) o 3) a3) o 3) + 1 < 2147483648 then (if a3 = ((-1)) then (if -2147483648 ≤ ((mset (mset (mset (mset M (o + 1) (M o 3) a1) (o + 2) ((mset M (o + 1) (M o 3) a1) o 3) a2) (o + 3) ((mset (mset M (o + 1) (M o 3) a1) (o + 2) ((mset M (o + 1) (M o 3) a1) o 3) a2) o 3) a3) o 3 (((mset (mset (mset M (o + 1) (M o 3) a1) (o + 2) ((mset M (o + 1) (M o 3) a1) o 3) a2) (o + 3) ((mset (mset M (o + 1) (M o 3) a1) (o + 2) ((mset M (o + 1) (M o 3) a1) o 3) a2) o 3) a3) o 3) + 1)) o 4) + 0 ∧ ((mset (mset (mset (mset M (o + 1) (M o 3) a1) (o + 2) ((mset M (o + 1) (M o 3) a1) o 3) a2) (o + 3) ((mset (mset M (o + 1) (M o 3) a1) (o + 2) ((mset M (o + 1) (M o 3) a1) o 3) a2) o 3) a3) o 3 (((mset (mset (mset M (o + 1) (M o 3) a1) (o + 2) ((mset M (o + 1) (M o 3) a1) o 3) a2) (o + 3) ((mset (mset M (o + 1) (M o 3) a1) (o + 2) ((mset M (o + 1) (M o 3) a1) o 3) a2) o 3) a3) o 3) + 1)) o 4) + 0 < 2147483648 then some (mset (mset (mset (mset (mset M (o + 1) (M o 3) a1) (o + 2) ((mset M (o + 1) (M o 3) a1) o 3) a2) (o + 3) ((mset (mset M (o + 1) (M o 3) a1) (o + 2) ((mset M (o + 1) (M o 3) a1) o 3) a2) o 3) a3) o 3 (((mset (mset (mset M (o + 1) (M o 3) a1) (o + 2) ((mset M (o + 1) (M o 3) a1) o 3) a2) (o + 3) ((mset (mset M (o + 1) (M o 3) a1) (o + 2) ((mset M (o + 1) (M o 3) a1) o 3) a2) o 3) a3) o 3) + 1)) o 4 (((mset (mset (mset (mset M (o + 1) (M o 3) a1) (o + 2) ((mset M (o + 1) (M o 3) a1) o 3) a2) (o + 3) ((mset (mset M (o + 1) (M o 3) a1) (o + 2) ((mset M (o + 1) (M o 3) a1) o 3) a2) o 3) a3) o 3 (((mset (mset (mset M (o + 1) (M o 3) a1) (o + 2) ((mset M (o + 1) (M o 3) a1) o 3) a2) (o + 3) ((mset (mset M (o + 1) (M o 3) a1) (o + 2) ((mset M (o + 1) (M o 3) a1) o 3) a2) o 3) a3) o 3) + 1)) o 4) + 0)) else none) else (if -2147483648 ≤ ((mset (mset (mset (mset M (o + 1) (M o 3) a1) (o + 2) ((mset M (o + 1) (M o 3) a1) o 3) a2) (o + 3) ((mset (mset M (o + 1) (M o 3) a1) (o + 2) ((mset M (o + 1) (M o 3) a1) o 3) a2) o 3) a3) o 3 (((mset (mset (mset M (o + 1) (M o 3) a1) (o + 2) ((mset M (o + 1) (M o 3) a1) o 3) a2) (o + 3) ((mset (mset M (o + 1) (M o 3) a1) (o + 2) ((mset M (o + 1) (M o 3) a1) o 3) a2) o 3) a3) o 3) + 1)) o 4) + 1 ∧ ((mset (mset (mset (mset M (o + 1) (M o 3) a1) (o + 2) ((mset M (o + 1) (M o 3) a1) o 3) a2) (o + 3) ((mset (mset M (o + 1) (M o 3) a1) (o + 2) ((mset M (o + 1) (M o 3) a1) o 3) a2) o 3) a3) o 3 (((mset (mset (mset M (o + 1) (M o 3) a1) (o + 2) ((mset M (o + 1) (M o 3) a1) o 3) a2) (o + 3) ((mset (mset M (o + 1) (M o 3) a1) (o + 2) ((mset M (o + 1) (M o 3) a1) o 3) a2) o 3) a3) o 3) + 1)) o 4) + 1 < 2147483648 then some (mset (mset (mset (mset (mset M (o + 1) (M o 3) a1) (o + 2) ((mset M (o + 1) (M o 3) a1) o 3) a2) (o + 3) ((mset (mset M (o + 1) (M o 3) a1) (o + 2) ((mset M (o + 1) (M o 3) a1) o 3) a2) o 3) a3) o 3 (((mset (mset (mset M (o + 1) (M o 3) a1) (o + 2) ((mset M (o + 1) (M o 3) a1) o 3) a2) (o + 3) ((mset (mset M (o + 1) (M o 3) a1) (o + 2) ((mset M (o + 1) (M o 3) a1) o 3) a2) o 3) a3) o 3) + 1)) o 4 (((mset (mset (mset (mset M (o + 1) (M o 3) a1) (o + 2) ((mset M (o + 1) (M o 3) a1) o 3) a2) (o + 3) ((mset (mset M (o + 1) (M o 3) a1) (o + 2) ((mset M (o + 1) (M o 3) a1) o 3) a2) o 3) a3) o 3 (((mset (mset (mset M (o + 1) (M o 3) a1) (o + 2) ((mset M (o + 1) (M o 3) a1) o 3) a2) (o + 3) ((mset (mset M (o + 1) (M o 3) a1) (o + 2) ((mset M (o + 1) (M o 3) a1) o 3) a2) o 3) a3) o 3) + 1)) o 4) + 1)) else none)) else none) else none) else none) else none))
set_option maxRecDepth 100000 in
set_option maxHeartbeats 4000000 in
theorem s_X1_append {G : fG} (hg : gbt G = true) {o : Nat} (ho : fTyp o 1) {a1 : Int} (ga1 : rg a1) {a2 : Int} (ga2 : rg a2) {a3 : Int} (ga3 : rg a3) {M : fMem} {q : fMem} (h : f_X1_append o a1 a2 a3 M = some q) : fSp G mX1_append [rv G o, iv a1, iv a2, iv a3] M (rV q) fNo := by
  refine fSp_of (by decide +kernel) (by decide +kernel) (fC1 rfl (fC1 rfl (fC1 rfl (fC1 rfl fC0)))) (Nat.le_of_ble_eq_true rfl) ?_
  show fW G mX1_append (fEm G mX1_append (rV q) fNo) 0 0 0 [some (rv G o), some (iv a1), some (iv a2), some (iv a3)] [] M
  rw [f_X1_append] at h
  refine fW_rg (fun hR => ?_)
  refine fW_aload_n 1 dX1_append_0 rfl rfl ?_
  refine fW_getI 4 3 (ji := 3) hg clX1 rfl (by decide) rfl ho wd_344 dX1_append_1 rfl ?_
  refine fW_aload_n 5 dX1_append_4 rfl rfl ?_
  refine fW_getR 8 (r := o + 1) 0 hg clX1 (by decide) rfl ho (tf_1_0 ho) wd_340 dX1_append_5 rfl ?_
  refine fW_alen 9 hg (tt_1_0 ho) dX1_append_8 rfl ?_
  refine fW_icmp_ge 12 71 (hR o 3) (rg_ln (o + 1)) dX1_append_9 rfl rfl (fun c1 => ?_) (fun c1 => ?_)
  · replace h := fTt h c1
    exact fW_vret rfl (by decide) (by decide) dX1_append_71 (rV_i h)
  · replace h := fFf h c1
    refine fW_aload_n 13 dX1_append_12 rfl rfl ?_
    refine fW_getR 16 (r := o + 1) 0 hg clX1 (by decide) rfl ho (tf_1_0 ho) wd_340 dX1_append_13 rfl ?_
    refine fW_aload_n 17 dX1_append_16 rfl rfl ?_
    refine fW_getI 20 3 (ji := 3) hg clX1 rfl (by decide) rfl ho wd_344 dX1_append_17 rfl ?_
    refine fW_iload_n 21 dX1_append_20 rfl rfl ?_
    obtain ⟨c2, h⟩ := fS h
    refine fW_iast 22 hg (tt_1_0 ho) c2 ga1 dX1_append_21 rfl ?_
    refine fW_rg (fun hR3 => ?_)
    refine fW_aload_n 23 dX1_append_22 rfl rfl ?_
    refine fW_getR 26 (r := o + 2) 1 hg clX1 (by decide) rfl ho (tf_1_1 ho) wd_342 dX1_append_23 rfl ?_
    refine fW_aload_n 27 dX1_append_26 rfl rfl ?_
    refine fW_getI 30 3 (ji := 3) hg clX1 rfl (by decide) rfl ho wd_344 dX1_append_27 rfl ?_
    refine fW_iload_n 31 dX1_append_30 rfl rfl ?_
    obtain ⟨c4, h⟩ := fS h
    refine fW_iast 32 hg (tt_1_1 ho) c4 ga2 dX1_append_31 rfl ?_
    refine fW_rg (fun hR5 => ?_)
    refine fW_aload_n 33 dX1_append_32 rfl rfl ?_
    refine fW_getR 36 (r := o + 3) 2 hg clX1 (by decide) rfl ho (tf_1_2 ho) wd_343 dX1_append_33 rfl ?_
    refine fW_aload_n 37 dX1_append_36 rfl rfl ?_
    refine fW_getI 40 3 (ji := 3) hg clX1 rfl (by decide) rfl ho wd_344 dX1_append_37 rfl ?_
    refine fW_iload_n 41 dX1_append_40 rfl rfl ?_
    obtain ⟨c6, h⟩ := fS h
    refine fW_iast 42 hg (tt_1_2 ho) c6 ga3 dX1_append_41 rfl ?_
    refine fW_rg (fun hR7 => ?_)
    refine fW_aload_n 43 dX1_append_42 rfl rfl ?_
    refine fW_dup 44 dX1_append_43 rfl rfl ?_
    refine fW_getI 47 3 (ji := 3) hg clX1 rfl (by decide) rfl ho wd_344 dX1_append_44 rfl ?_
    refine fW_iconst 48 dX1_append_47 rfl ?_
    refine fW_iadd 49 dX1_append_48 rfl ?_
    obtain ⟨c8, h⟩ := fS h
    refine fW_putI 52 3 (ji := 3) hg clX1 rfl (by decide) rfl rfl rfl ho c8 wd_344 dX1_append_49 rfl ?_
    refine fW_rg (fun hR9 => ?_)
    refine fW_aload_n 53 dX1_append_52 rfl rfl ?_
    refine fW_dup 54 dX1_append_53 rfl rfl ?_
    refine fW_getI 57 4 (ji := 4) hg clX1 rfl (by decide) rfl ho wd_348 dX1_append_54 rfl ?_
    refine fW_iload_n 58 dX1_append_57 rfl rfl ?_
    refine fW_iconst 59 dX1_append_58 rfl ?_
    refine fW_icmp_ne 62 66 ga3 (by decide) dX1_append_59 rfl rfl (fun c10 => ?_) (fun c10 => ?_)
    · replace h := fFf h c10
      refine fW_iconst 67 dX1_append_66 rfl ?_
      refine fW_iadd 68 dX1_append_67 rfl ?_
      obtain ⟨c11, h⟩ := fS h
      refine fW_putI 71 4 (ji := 4) hg clX1 rfl (by decide) rfl rfl rfl ho c11 wd_348 dX1_append_68 rfl ?_
      refine fW_rg (fun hR12 => ?_)
      exact fW_vret rfl (by decide) (by decide) dX1_append_71 (rV_i h)
    · replace h := fTt h c10
      refine fW_iconst 63 dX1_append_62 rfl ?_
      refine fW_goto 67 dX1_append_63 rfl ?_
      refine fW_iadd 68 dX1_append_67 rfl ?_
      obtain ⟨c13, h⟩ := fS h
      refine fW_putI 71 4 (ji := 4) hg clX1 rfl (by decide) rfl rfl rfl ho c13 wd_348 dX1_append_68 rfl ?_
      refine fW_rg (fun hR14 => ?_)
      exact fW_vret rfl (by decide) (by decide) dX1_append_71 (rV_i h)
def mX1_keyAt : fMt := (yX1_keyAt, cX1_keyAt, 2, some .int, { frames := 0, cells := 0, slots := 0, locals := 0 })
theorem miX1_keyAt : fMv mX1_keyAt 1 := ⟨⟨fM 812 (by decide +kernel) rfl, fM 98 (by decide +kernel) rfl, ⟨by decide +kernel, by decide +kernel⟩, by decide +kernel⟩, fM 810 (by decide +kernel) rfl, fM 811 (by decide +kernel) rfl⟩
def f_X1_keyAt (o : Nat) (a1 : Int) (M : fMem) : Option (Int) := (if a1 < 0 then some 200 else (if (M o 3) ≤ a1 then some 200 else (if 0 ≤ a1 ∧ a1 < Ln (o + 1) then some (M (o + 1) a1) else none)))
set_option maxRecDepth 100000 in
set_option maxHeartbeats 4000000 in
theorem s_X1_keyAt {G : fG} (hg : gbt G = true) {o : Nat} (ho : fTyp o 1) {a1 : Int} (ga1 : rg a1) {M : fMem} {q : Int} (h : f_X1_keyAt o a1 M = some q) : fSp G mX1_keyAt [rv G o, iv a1] M (rP M q) fNo := by
  refine fSp_of (by decide +kernel) (by decide +kernel) (fC1 rfl (fC1 rfl fC0)) (Nat.le_of_ble_eq_true rfl) ?_
  show fW G mX1_keyAt (fEm G mX1_keyAt (rP M q) fNo) 0 0 0 [some (rv G o), some (iv a1)] [] M
  rw [f_X1_keyAt] at h
  refine fW_rg (fun hR => ?_)
  refine fW_iload_n 1 dX1_keyAt_0 rfl rfl ?_
  refine fW_if_lt 4 21 ga1 dX1_keyAt_1 rfl rfl (fun c1 => ?_) (fun c1 => ?_)
  · replace h := fTt h c1
    refine fW_sipush 24 dX1_keyAt_21 rfl (by decide) ?_
    exact fW_iret rfl (by decide) (by decide) dX1_keyAt_24 (rP_i h (by decide))
  · replace h := fFf h c1
    refine fW_iload_n 5 dX1_keyAt_4 rfl rfl ?_
    refine fW_aload_n 6 dX1_keyAt_5 rfl rfl ?_
    refine fW_getI 9 3 (ji := 3) hg clX1 rfl (by decide) rfl ho wd_344 dX1_keyAt_6 rfl ?_
    refine fW_icmp_ge 12 21 ga1 (hR o 3) dX1_keyAt_9 rfl rfl (fun c2 => ?_) (fun c2 => ?_)
    · replace h := fTt h c2
      refine fW_sipush 24 dX1_keyAt_21 rfl (by decide) ?_
      exact fW_iret rfl (by decide) (by decide) dX1_keyAt_24 (rP_i h (by decide))
    · replace h := fFf h c2
      refine fW_aload_n 13 dX1_keyAt_12 rfl rfl ?_
      refine fW_getR 16 (r := o + 1) 0 hg clX1 (by decide) rfl ho (tf_1_0 ho) wd_340 dX1_keyAt_13 rfl ?_
      refine fW_iload_n 17 dX1_keyAt_16 rfl rfl ?_
      obtain ⟨c3, h⟩ := fS h
      refine fW_iald 18 hg (tt_1_0 ho) c3 dX1_keyAt_17 rfl ?_
      refine fW_goto 24 dX1_keyAt_18 rfl ?_
      exact fW_iret rfl (by decide) (by decide) dX1_keyAt_24 (rP_i h (hR (o + 1) a1))
def mX1_valueAt : fMt := (yX1_valueAt, cX1_valueAt, 2, some .int, { frames := 0, cells := 0, slots := 0, locals := 0 })
theorem miX1_valueAt : fMv mX1_valueAt 1 := ⟨⟨fM 1025 (by decide +kernel) rfl, fM 98 (by decide +kernel) rfl, ⟨by decide +kernel, by decide +kernel⟩, by decide +kernel⟩, fM 1023 (by decide +kernel) rfl, fM 1024 (by decide +kernel) rfl⟩
def f_X1_valueAt (o : Nat) (a1 : Int) (M : fMem) : Option (Int) := (if a1 < 0 then some ((-1)) else (if (M o 3) ≤ a1 then some ((-1)) else (if 0 ≤ a1 ∧ a1 < Ln (o + 2) then some (M (o + 2) a1) else none)))
set_option maxRecDepth 100000 in
set_option maxHeartbeats 4000000 in
theorem s_X1_valueAt {G : fG} (hg : gbt G = true) {o : Nat} (ho : fTyp o 1) {a1 : Int} (ga1 : rg a1) {M : fMem} {q : Int} (h : f_X1_valueAt o a1 M = some q) : fSp G mX1_valueAt [rv G o, iv a1] M (rP M q) fNo := by
  refine fSp_of (by decide +kernel) (by decide +kernel) (fC1 rfl (fC1 rfl fC0)) (Nat.le_of_ble_eq_true rfl) ?_
  show fW G mX1_valueAt (fEm G mX1_valueAt (rP M q) fNo) 0 0 0 [some (rv G o), some (iv a1)] [] M
  rw [f_X1_valueAt] at h
  refine fW_rg (fun hR => ?_)
  refine fW_iload_n 1 dX1_valueAt_0 rfl rfl ?_
  refine fW_if_lt 4 21 ga1 dX1_valueAt_1 rfl rfl (fun c1 => ?_) (fun c1 => ?_)
  · replace h := fTt h c1
    refine fW_iconst 22 dX1_valueAt_21 rfl ?_
    exact fW_iret rfl (by decide) (by decide) dX1_valueAt_22 (rP_i h (by decide))
  · replace h := fFf h c1
    refine fW_iload_n 5 dX1_valueAt_4 rfl rfl ?_
    refine fW_aload_n 6 dX1_valueAt_5 rfl rfl ?_
    refine fW_getI 9 3 (ji := 3) hg clX1 rfl (by decide) rfl ho wd_344 dX1_valueAt_6 rfl ?_
    refine fW_icmp_ge 12 21 ga1 (hR o 3) dX1_valueAt_9 rfl rfl (fun c2 => ?_) (fun c2 => ?_)
    · replace h := fTt h c2
      refine fW_iconst 22 dX1_valueAt_21 rfl ?_
      exact fW_iret rfl (by decide) (by decide) dX1_valueAt_22 (rP_i h (by decide))
    · replace h := fFf h c2
      refine fW_aload_n 13 dX1_valueAt_12 rfl rfl ?_
      refine fW_getR 16 (r := o + 2) 1 hg clX1 (by decide) rfl ho (tf_1_1 ho) wd_342 dX1_valueAt_13 rfl ?_
      refine fW_iload_n 17 dX1_valueAt_16 rfl rfl ?_
      obtain ⟨c3, h⟩ := fS h
      refine fW_iald 18 hg (tt_1_1 ho) c3 dX1_valueAt_17 rfl ?_
      refine fW_goto 22 dX1_valueAt_18 rfl ?_
      exact fW_iret rfl (by decide) (by decide) dX1_valueAt_22 (rP_i h (hR (o + 2) a1))
def mX1_placeAt : fMt := (yX1_placeAt, cX1_placeAt, 2, some .int, { frames := 0, cells := 0, slots := 0, locals := 0 })
theorem miX1_placeAt : fMv mX1_placeAt 1 := ⟨⟨fM 869 (by decide +kernel) rfl, fM 98 (by decide +kernel) rfl, ⟨by decide +kernel, by decide +kernel⟩, by decide +kernel⟩, fM 867 (by decide +kernel) rfl, fM 868 (by decide +kernel) rfl⟩
def f_X1_placeAt (o : Nat) (a1 : Int) (M : fMem) : Option (Int) := (if a1 < 0 then some ((-1)) else (if (M o 3) ≤ a1 then some ((-1)) else (if 0 ≤ a1 ∧ a1 < Ln (o + 3) then some (M (o + 3) a1) else none)))
set_option maxRecDepth 100000 in
set_option maxHeartbeats 4000000 in
theorem s_X1_placeAt {G : fG} (hg : gbt G = true) {o : Nat} (ho : fTyp o 1) {a1 : Int} (ga1 : rg a1) {M : fMem} {q : Int} (h : f_X1_placeAt o a1 M = some q) : fSp G mX1_placeAt [rv G o, iv a1] M (rP M q) fNo := by
  refine fSp_of (by decide +kernel) (by decide +kernel) (fC1 rfl (fC1 rfl fC0)) (Nat.le_of_ble_eq_true rfl) ?_
  show fW G mX1_placeAt (fEm G mX1_placeAt (rP M q) fNo) 0 0 0 [some (rv G o), some (iv a1)] [] M
  rw [f_X1_placeAt] at h
  refine fW_rg (fun hR => ?_)
  refine fW_iload_n 1 dX1_placeAt_0 rfl rfl ?_
  refine fW_if_lt 4 21 ga1 dX1_placeAt_1 rfl rfl (fun c1 => ?_) (fun c1 => ?_)
  · replace h := fTt h c1
    refine fW_iconst 22 dX1_placeAt_21 rfl ?_
    exact fW_iret rfl (by decide) (by decide) dX1_placeAt_22 (rP_i h (by decide))
  · replace h := fFf h c1
    refine fW_iload_n 5 dX1_placeAt_4 rfl rfl ?_
    refine fW_aload_n 6 dX1_placeAt_5 rfl rfl ?_
    refine fW_getI 9 3 (ji := 3) hg clX1 rfl (by decide) rfl ho wd_344 dX1_placeAt_6 rfl ?_
    refine fW_icmp_ge 12 21 ga1 (hR o 3) dX1_placeAt_9 rfl rfl (fun c2 => ?_) (fun c2 => ?_)
    · replace h := fTt h c2
      refine fW_iconst 22 dX1_placeAt_21 rfl ?_
      exact fW_iret rfl (by decide) (by decide) dX1_placeAt_22 (rP_i h (by decide))
    · replace h := fFf h c2
      refine fW_aload_n 13 dX1_placeAt_12 rfl rfl ?_
      refine fW_getR 16 (r := o + 3) 2 hg clX1 (by decide) rfl ho (tf_1_2 ho) wd_343 dX1_placeAt_13 rfl ?_
      refine fW_iload_n 17 dX1_placeAt_16 rfl rfl ?_
      obtain ⟨c3, h⟩ := fS h
      refine fW_iald 18 hg (tt_1_2 ho) c3 dX1_placeAt_17 rfl ?_
      refine fW_goto 22 dX1_placeAt_18 rfl ?_
      exact fW_iret rfl (by decide) (by decide) dX1_placeAt_22 (rP_i h (hR (o + 3) a1))
def mX1_kindAt : fMt := (yX1_kindAt, cX1_kindAt, 2, some .int, { frames := 1, cells := 0, slots := 0, locals := 40 })
theorem miX1_kindAt : fMv mX1_kindAt 1 := ⟨⟨fM 1020 (by decide +kernel) rfl, fM 98 (by decide +kernel) rfl, ⟨by decide +kernel, by decide +kernel⟩, by decide +kernel⟩, fM 1018 (by decide +kernel) rfl, fM 1019 (by decide +kernel) rfl⟩
def f_X1_kindAt (o : Nat) (a1 : Int) (M : fMem) : Option (Int) := ((f_X1_placeAt o a1 M).bind fun (r1 : Int) => (if r1 = ((-1)) then ((f_X1_valueAt o a1 M).bind fun (r3 : Int) => (if r3 = ((-1)) then some 1 else some 0)) else some 2))
set_option maxRecDepth 100000 in
set_option maxHeartbeats 4000000 in
theorem s_X1_kindAt {G : fG} (hg : gbt G = true) {o : Nat} (ho : fTyp o 1) {a1 : Int} (ga1 : rg a1) {M : fMem} {q : Int} (h : f_X1_kindAt o a1 M = some q) : fSp G mX1_kindAt [rv G o, iv a1] M (rP M q) fNo := by
  refine fSp_of (by decide +kernel) (by decide +kernel) (fC1 rfl (fC1 rfl fC0)) (Nat.le_of_ble_eq_true rfl) ?_
  show fW G mX1_kindAt (fEm G mX1_kindAt (rP M q) fNo) 0 0 0 [some (rv G o), some (iv a1)] [] M
  rw [f_X1_kindAt] at h
  refine fW_rg (fun hR => ?_)
  refine fW_aload_n 1 dX1_kindAt_0 rfl rfl ?_
  refine fW_iload_n 2 dX1_kindAt_1 rfl rfl ?_
  obtain ⟨r1, e1, h⟩ := fBd h
  refine fW_cP (fI_V (as := [iv a1]) (rest := []) miX1_placeAt hg clX1 rfl ho wd_1021 (fRoom_of rfl) rfl (Nat.le_of_ble_eq_true rfl) dX1_kindAt_2) (s_X1_placeAt hg ho ga1 e1) rfl rfl rfl (fun g1 => ?_)
  refine fW_iconst 6 dX1_kindAt_5 rfl ?_
  refine fW_icmp_eq 9 11 g1 (by decide) dX1_kindAt_6 rfl rfl (fun c2 => ?_) (fun c2 => ?_)
  · replace h := fTt h c2
    refine fW_aload_n 12 dX1_kindAt_11 rfl rfl ?_
    refine fW_iload_n 13 dX1_kindAt_12 rfl rfl ?_
    obtain ⟨r3, e3, h⟩ := fBd h
    refine fW_cP (fI_V (as := [iv a1]) (rest := []) miX1_valueAt hg clX1 rfl ho wd_1022 (fRoom_of rfl) rfl (Nat.le_of_ble_eq_true rfl) dX1_kindAt_13) (s_X1_valueAt hg ho ga1 e3) rfl rfl rfl (fun g3 => ?_)
    refine fW_iconst 17 dX1_kindAt_16 rfl ?_
    refine fW_icmp_ne 20 24 g3 (by decide) dX1_kindAt_17 rfl rfl (fun c4 => ?_) (fun c4 => ?_)
    · replace h := fFf h c4
      refine fW_iconst 25 dX1_kindAt_24 rfl ?_
      exact fW_iret rfl (by decide) (by decide) dX1_kindAt_25 (rP_i h (by decide))
    · replace h := fTt h c4
      refine fW_iconst 21 dX1_kindAt_20 rfl ?_
      refine fW_goto 25 dX1_kindAt_21 rfl ?_
      exact fW_iret rfl (by decide) (by decide) dX1_kindAt_25 (rP_i h (by decide))
  · replace h := fFf h c2
    refine fW_iconst 10 dX1_kindAt_9 rfl ?_
    exact fW_iret rfl (by decide) (by decide) dX1_kindAt_10 (rP_i h (by decide))
def mX1_lastMark : fMt := (yX1_lastMark, cX1_lastMark, 4, some .int, { frames := 1, cells := 0, slots := 0, locals := 40 })
theorem miX1_lastMark : fMv mX1_lastMark 2 := ⟨⟨fM 859 (by decide +kernel) rfl, fM 98 (by decide +kernel) rfl, ⟨by decide +kernel, by decide +kernel⟩, by decide +kernel⟩, fM 857 (by decide +kernel) rfl, fM 858 (by decide +kernel) rfl⟩
def L_X1_lastMark_11 (o : Nat) (M : fMem) (k : Option (Int)) : Nat → Int → Int → Option (Int)
  | 0, _, _ => none
  | n + 1, v1, v3 => (if v3 < 0 then k else (if 0 ≤ v3 ∧ v3 < Ln (o + 3) then (if (M (o + 3) v3) = ((-1)) then L_X1_lastMark_11 o M k n v1 (v3 + -1) else (if 0 ≤ v3 ∧ v3 < Ln (o + 2) then (if (M (o + 2) v3) = v1 then (if 0 ≤ v3 ∧ v3 < Ln (o + 3) then some (M (o + 3) v3) else none) else L_X1_lastMark_11 o M k n v1 (v3 + -1)) else none)) else none))
set_option maxRecDepth 100000 in
set_option maxHeartbeats 4000000 in
theorem l_X1_lastMark_11 {G : fG} (hg : gbt G = true) {o : Nat} (ho : fTyp o 1) {M : fMem} {q : Int} {k : Option (Int)} (hk : k = some q → fW G mX1_lastMark (fEm G mX1_lastMark (rP M q) fNo) 0 0 48 [some (rv G o), none, none, none] [] M) : ∀ (n : Nat) (v1 : Int) (v3 : Int), rg v1 → rg v3 → L_X1_lastMark_11 o M k n v1 v3 = some q → fW G mX1_lastMark (fEm G mX1_lastMark (rP M q) fNo) 0 0 11 [some (rv G o), some (iv v1), none, some (iv v3)] [] M := by
  intro n
  induction n with
  | zero =>
    intro v1 v3 gv1 gv3 h
    rw [L_X1_lastMark_11] at h
    exact absurd h (by simp)
  | succ n ih =>
    intro v1 v3 gv1 gv3 h
    rw [L_X1_lastMark_11] at h
    refine fW_rg (fun hR => ?_)
    refine fW_iload_n 12 dX1_lastMark_11 rfl rfl ?_
    refine fW_if_lt 15 48 gv3 dX1_lastMark_12 rfl rfl (fun c2 => ?_) (fun c2 => ?_)
    · replace h := fTt h c2
      exact fW_sb (hk h) ⟨rfl, trivial⟩
    · replace h := fFf h c2
      refine fW_aload_n 16 dX1_lastMark_15 rfl rfl ?_
      refine fW_getR 19 (r := o + 3) 2 hg clX1 (by decide) rfl ho (tf_1_2 ho) wd_343 dX1_lastMark_16 rfl ?_
      refine fW_iload_n 20 dX1_lastMark_19 rfl rfl ?_
      obtain ⟨c3, h⟩ := fS h
      refine fW_iald 21 hg (tt_1_2 ho) c3 dX1_lastMark_20 rfl ?_
      refine fW_iconst 22 dX1_lastMark_21 rfl ?_
      refine fW_icmp_eq 25 42 (hR (o + 3) v3) (by decide) dX1_lastMark_22 rfl rfl (fun c4 => ?_) (fun c4 => ?_)
      · replace h := fTt h c4
        refine fW_iinc 45 (ls' := [some (rv G o), some (iv v1), none, some (iv (v3 + -1))]) dX1_lastMark_42 rfl rfl rfl (by decide) ?_
        refine fW_goto 11 dX1_lastMark_45 rfl ?_
        exact fW_sb (ih v1 (v3 + -1) gv1 (rg_pred0' gv3 c2) h) ⟨rfl, rfl, rfl, trivial⟩
      · replace h := fFf h c4
        refine fW_aload_n 26 dX1_lastMark_25 rfl rfl ?_
        refine fW_getR 29 (r := o + 2) 1 hg clX1 (by decide) rfl ho (tf_1_1 ho) wd_342 dX1_lastMark_26 rfl ?_
        refine fW_iload_n 30 dX1_lastMark_29 rfl rfl ?_
        obtain ⟨c5, h⟩ := fS h
        refine fW_iald 31 hg (tt_1_1 ho) c5 dX1_lastMark_30 rfl ?_
        refine fW_iload_n 32 dX1_lastMark_31 rfl rfl ?_
        refine fW_icmp_ne 35 42 (hR (o + 2) v3) gv1 dX1_lastMark_32 rfl rfl (fun c6 => ?_) (fun c6 => ?_)
        · replace h := fFf h c6
          refine fW_iinc 45 (ls' := [some (rv G o), some (iv v1), none, some (iv (v3 + -1))]) dX1_lastMark_42 rfl rfl rfl (by decide) ?_
          refine fW_goto 11 dX1_lastMark_45 rfl ?_
          exact fW_sb (ih v1 (v3 + -1) gv1 (rg_pred0' gv3 c2) h) ⟨rfl, rfl, rfl, trivial⟩
        · replace h := fTt h c6
          refine fW_aload_n 36 dX1_lastMark_35 rfl rfl ?_
          refine fW_getR 39 (r := o + 3) 2 hg clX1 (by decide) rfl ho (tf_1_2 ho) wd_343 dX1_lastMark_36 rfl ?_
          refine fW_iload_n 40 dX1_lastMark_39 rfl rfl ?_
          obtain ⟨c7, h⟩ := fS h
          refine fW_iald 41 hg (tt_1_2 ho) c7 dX1_lastMark_40 rfl ?_
          exact fW_iret rfl (by decide) (by decide) dX1_lastMark_41 (rP_i h (hR (o + 3) v3))
def f_X1_lastMark (o : Nat) (a1 : Int) (a2 : Int) (M : fMem) : Option (Int) := (if -2147483648 ≤ (min a2 (M o 3)) - 1 ∧ (min a2 (M o 3)) - 1 < 2147483648 then L_X1_lastMark_11 o M (some ((-1))) 20000 a1 ((min a2 (M o 3)) - 1) else none)
set_option maxRecDepth 100000 in
set_option maxHeartbeats 4000000 in
theorem s_X1_lastMark {G : fG} (hg : gbt G = true) {o : Nat} (ho : fTyp o 1) {a1 : Int} (ga1 : rg a1) {a2 : Int} (ga2 : rg a2) {M : fMem} {q : Int} (h : f_X1_lastMark o a1 a2 M = some q) : fSp G mX1_lastMark [rv G o, iv a1, iv a2] M (rP M q) fNo := by
  refine fSp_of (by decide +kernel) (by decide +kernel) (fC1 rfl (fC1 rfl (fC1 rfl fC0))) (Nat.le_of_ble_eq_true rfl) ?_
  show fW G mX1_lastMark (fEm G mX1_lastMark (rP M q) fNo) 0 0 0 [some (rv G o), some (iv a1), some (iv a2), none] [] M
  rw [f_X1_lastMark] at h
  refine fW_rg (fun hR => ?_)
  refine fW_iload_n 1 dX1_lastMark_0 rfl rfl ?_
  refine fW_aload_n 2 dX1_lastMark_1 rfl rfl ?_
  refine fW_getI 5 3 (ji := 3) hg clX1 rfl (by decide) rfl ho wd_344 dX1_lastMark_2 rfl ?_
  refine fW_mmin 8 ga2 (hR o 3) wd_860 (by decide) (Nat.le_of_ble_eq_true rfl) (by decide) (by decide) dX1_lastMark_5 rfl ?_
  refine fW_iconst 9 dX1_lastMark_8 rfl ?_
  refine fW_isub 10 dX1_lastMark_9 rfl ?_
  refine fW_istore_n 11 (ls' := [some (rv G o), some (iv a1), some (iv a2), some (iv ((min a2 (M o 3)) - 1))]) dX1_lastMark_10 rfl rfl rfl (by decide) ?_
  obtain ⟨c1, h⟩ := fS h
  refine fW_sb (l_X1_lastMark_11 hg ho ?_ 20000 a1 ((min a2 (M o 3)) - 1) ga1 c1 h) ⟨rfl, rfl, rfl, trivial⟩
  intro  h
  refine fW_iconst 49 dX1_lastMark_48 rfl ?_
  exact fW_iret rfl (by decide) (by decide) dX1_lastMark_49 (rP_i h (by decide))
def mX1_firstMark : fMt := (yX1_firstMark, cX1_firstMark, 4, some .int, { frames := 1, cells := 0, slots := 0, locals := 40 })
theorem miX1_firstMark : fMv mX1_firstMark 2 := ⟨⟨fM 864 (by decide +kernel) rfl, fM 98 (by decide +kernel) rfl, ⟨by decide +kernel, by decide +kernel⟩, by decide +kernel⟩, fM 862 (by decide +kernel) rfl, fM 863 (by decide +kernel) rfl⟩
def L_X1_firstMark_6 (o : Nat) (M : fMem) (k : Option (Int)) : Nat → Int → Int → Option (Int)
  | 0, _, _ => none
  | n + 1, v1, v3 => (if (M o 3) ≤ v3 then k else (if 0 ≤ v3 ∧ v3 < Ln (o + 3) then (if (M (o + 3) v3) = ((-1)) then L_X1_firstMark_6 o M k n v1 (v3 + 1) else (if 0 ≤ v3 ∧ v3 < Ln (o + 2) then (if (M (o + 2) v3) = v1 then (if 0 ≤ v3 ∧ v3 < Ln (o + 3) then some (M (o + 3) v3) else none) else L_X1_firstMark_6 o M k n v1 (v3 + 1)) else none)) else none))
set_option maxRecDepth 100000 in
set_option maxHeartbeats 4000000 in
theorem l_X1_firstMark_6 {G : fG} (hg : gbt G = true) {o : Nat} (ho : fTyp o 1) {M : fMem} {q : Int} {k : Option (Int)} (hk : k = some q → fW G mX1_firstMark (fEm G mX1_firstMark (rP M q) fNo) 0 0 47 [some (rv G o), none, none, none] [] M) : ∀ (n : Nat) (v1 : Int) (v3 : Int), rg v1 → rg v3 → L_X1_firstMark_6 o M k n v1 v3 = some q → fW G mX1_firstMark (fEm G mX1_firstMark (rP M q) fNo) 0 0 6 [some (rv G o), some (iv v1), none, some (iv v3)] [] M := by
  intro n
  induction n with
  | zero =>
    intro v1 v3 gv1 gv3 h
    rw [L_X1_firstMark_6] at h
    exact absurd h (by simp)
  | succ n ih =>
    intro v1 v3 gv1 gv3 h
    rw [L_X1_firstMark_6] at h
    refine fW_rg (fun hR => ?_)
    refine fW_iload_n 7 dX1_firstMark_6 rfl rfl ?_
    refine fW_aload_n 8 dX1_firstMark_7 rfl rfl ?_
    refine fW_getI 11 3 (ji := 3) hg clX1 rfl (by decide) rfl ho wd_344 dX1_firstMark_8 rfl ?_
    refine fW_icmp_ge 14 47 gv3 (hR o 3) dX1_firstMark_11 rfl rfl (fun c1 => ?_) (fun c1 => ?_)
    · replace h := fTt h c1
      exact fW_sb (hk h) ⟨rfl, trivial⟩
    · replace h := fFf h c1
      refine fW_aload_n 15 dX1_firstMark_14 rfl rfl ?_
      refine fW_getR 18 (r := o + 3) 2 hg clX1 (by decide) rfl ho (tf_1_2 ho) wd_343 dX1_firstMark_15 rfl ?_
      refine fW_iload_n 19 dX1_firstMark_18 rfl rfl ?_
      obtain ⟨c2, h⟩ := fS h
      refine fW_iald 20 hg (tt_1_2 ho) c2 dX1_firstMark_19 rfl ?_
      refine fW_iconst 21 dX1_firstMark_20 rfl ?_
      refine fW_icmp_eq 24 41 (hR (o + 3) v3) (by decide) dX1_firstMark_21 rfl rfl (fun c3 => ?_) (fun c3 => ?_)
      · replace h := fTt h c3
        refine fW_iinc 44 (ls' := [some (rv G o), some (iv v1), none, some (iv (v3 + 1))]) dX1_firstMark_41 rfl rfl rfl (by decide) ?_
        refine fW_goto 6 dX1_firstMark_44 rfl ?_
        exact fW_sb (ih v1 (v3 + 1) gv1 (rg_succ' gv3 (hR o 3) c1) h) ⟨rfl, rfl, rfl, trivial⟩
      · replace h := fFf h c3
        refine fW_aload_n 25 dX1_firstMark_24 rfl rfl ?_
        refine fW_getR 28 (r := o + 2) 1 hg clX1 (by decide) rfl ho (tf_1_1 ho) wd_342 dX1_firstMark_25 rfl ?_
        refine fW_iload_n 29 dX1_firstMark_28 rfl rfl ?_
        obtain ⟨c4, h⟩ := fS h
        refine fW_iald 30 hg (tt_1_1 ho) c4 dX1_firstMark_29 rfl ?_
        refine fW_iload_n 31 dX1_firstMark_30 rfl rfl ?_
        refine fW_icmp_ne 34 41 (hR (o + 2) v3) gv1 dX1_firstMark_31 rfl rfl (fun c5 => ?_) (fun c5 => ?_)
        · replace h := fFf h c5
          refine fW_iinc 44 (ls' := [some (rv G o), some (iv v1), none, some (iv (v3 + 1))]) dX1_firstMark_41 rfl rfl rfl (by decide) ?_
          refine fW_goto 6 dX1_firstMark_44 rfl ?_
          exact fW_sb (ih v1 (v3 + 1) gv1 (rg_succ' gv3 (hR o 3) c1) h) ⟨rfl, rfl, rfl, trivial⟩
        · replace h := fTt h c5
          refine fW_aload_n 35 dX1_firstMark_34 rfl rfl ?_
          refine fW_getR 38 (r := o + 3) 2 hg clX1 (by decide) rfl ho (tf_1_2 ho) wd_343 dX1_firstMark_35 rfl ?_
          refine fW_iload_n 39 dX1_firstMark_38 rfl rfl ?_
          obtain ⟨c6, h⟩ := fS h
          refine fW_iald 40 hg (tt_1_2 ho) c6 dX1_firstMark_39 rfl ?_
          exact fW_iret rfl (by decide) (by decide) dX1_firstMark_40 (rP_i h (hR (o + 3) v3))
def f_X1_firstMark (o : Nat) (a1 : Int) (a2 : Int) (M : fMem) : Option (Int) := L_X1_firstMark_6 o M (some ((-1))) 20000 a1 (max a2 0)
set_option maxRecDepth 100000 in
set_option maxHeartbeats 4000000 in
theorem s_X1_firstMark {G : fG} (hg : gbt G = true) {o : Nat} (ho : fTyp o 1) {a1 : Int} (ga1 : rg a1) {a2 : Int} (ga2 : rg a2) {M : fMem} {q : Int} (h : f_X1_firstMark o a1 a2 M = some q) : fSp G mX1_firstMark [rv G o, iv a1, iv a2] M (rP M q) fNo := by
  refine fSp_of (by decide +kernel) (by decide +kernel) (fC1 rfl (fC1 rfl (fC1 rfl fC0))) (Nat.le_of_ble_eq_true rfl) ?_
  show fW G mX1_firstMark (fEm G mX1_firstMark (rP M q) fNo) 0 0 0 [some (rv G o), some (iv a1), some (iv a2), none] [] M
  rw [f_X1_firstMark] at h
  refine fW_rg (fun hR => ?_)
  refine fW_iload_n 1 dX1_firstMark_0 rfl rfl ?_
  refine fW_iconst 2 dX1_firstMark_1 rfl ?_
  refine fW_mmax 5 ga2 (by decide) wd_339 (by decide) (Nat.le_of_ble_eq_true rfl) (by decide) (by decide) dX1_firstMark_2 rfl ?_
  refine fW_istore_n 6 (ls' := [some (rv G o), some (iv a1), some (iv a2), some (iv (max a2 0))]) dX1_firstMark_5 rfl rfl rfl (by decide) ?_
  refine fW_sb (l_X1_firstMark_6 hg ho ?_ 20000 a1 (max a2 0) ga1 (rg_max ga2 (by decide)) h) ⟨rfl, rfl, rfl, trivial⟩
  intro  h
  refine fW_iconst 48 dX1_firstMark_47 rfl ?_
  exact fW_iret rfl (by decide) (by decide) dX1_firstMark_48 (rP_i h (by decide))
def mAF_fill : fMt := (⟨"java/util/Arrays", "fill", "([II)V"⟩, prog_22_method_103_code, 4, none, { frames := 0, cells := 0, slots := 0, locals := 0 })
theorem dAF_fill_0 : decode prog_22_method_103_code 0 = .ok (.iconst 0, 1) := by decide +kernel
theorem dAF_fill_1 : decode prog_22_method_103_code 1 = .ok (.istore_n 2, 1) := by decide +kernel
theorem dAF_fill_2 : decode prog_22_method_103_code 2 = .ok (.aload_n 0, 1) := by decide +kernel
theorem dAF_fill_3 : decode prog_22_method_103_code 3 = .ok (.arraylength, 1) := by decide +kernel
theorem dAF_fill_4 : decode prog_22_method_103_code 4 = .ok (.istore_n 3, 1) := by decide +kernel
theorem dAF_fill_5 : decode prog_22_method_103_code 5 = .ok (.iload_n 2, 1) := by decide +kernel
theorem dAF_fill_6 : decode prog_22_method_103_code 6 = .ok (.iload_n 3, 1) := by decide +kernel
theorem dAF_fill_7 : decode prog_22_method_103_code 7 = .ok (.if_icmp .ge 13, 3) := by decide +kernel
theorem dAF_fill_10 : decode prog_22_method_103_code 10 = .ok (.aload_n 0, 1) := by decide +kernel
theorem dAF_fill_11 : decode prog_22_method_103_code 11 = .ok (.iload_n 2, 1) := by decide +kernel
theorem dAF_fill_12 : decode prog_22_method_103_code 12 = .ok (.iload_n 1, 1) := by decide +kernel
theorem dAF_fill_13 : decode prog_22_method_103_code 13 = .ok (.iastore, 1) := by decide +kernel
theorem dAF_fill_14 : decode prog_22_method_103_code 14 = .ok (.iinc 2 1, 3) := by decide +kernel
theorem dAF_fill_17 : decode prog_22_method_103_code 17 = .ok (.goto (-12), 3) := by decide +kernel
theorem dAF_fill_20 : decode prog_22_method_103_code 20 = .ok (.return_, 1) := by decide +kernel
theorem miAF_fill : fMs mAF_fill 2 := ⟨⟨fM 632 (by decide +kernel) rfl, fM 106 (by decide +kernel) rfl, ⟨by decide +kernel, by decide +kernel⟩, by decide +kernel⟩, fM 631 (by decide +kernel) rfl⟩
def L_AF_fill_5  (k : fMem → Option (fMem)) : Nat → Nat → Int → Int → Int → fMem → Option (fMem)
  | 0, _, _, _, _, _ => none
  | n + 1, w0, v1, v2, v3, M => (if v3 ≤ v2 then k  M else (if 0 ≤ v2 ∧ v2 < Ln w0 then L_AF_fill_5  k n w0 v1 (v2 + 1) v3 (mset M w0 v2 v1) else none))
set_option maxRecDepth 100000 in
set_option maxHeartbeats 4000000 in
theorem l_AF_fill_5 {G : fG} (hg : gbt G = true)  {q : fMem} {k : fMem → Option (fMem)} (hk : ∀ (M : fMem), k M = some q → fW G mAF_fill (fEm G mAF_fill (rV q) fNo) 0 0 20 [none, none, none, none] [] M) : ∀ (n : Nat) (w0 : Nat) (v1 : Int) (v2 : Int) (v3 : Int) (M : fMem), fTyp w0 12 → rg v1 → rg v2 → rg v3 → L_AF_fill_5 k n w0 v1 v2 v3 M = some q → fW G mAF_fill (fEm G mAF_fill (rV q) fNo) 0 0 5 [some (rv G w0), some (iv v1), some (iv v2), some (iv v3)] [] M := by
  intro n
  induction n with
  | zero =>
    intro w0 v1 v2 v3 M tw0 gv1 gv2 gv3 h
    rw [L_AF_fill_5] at h
    exact absurd h (by simp)
  | succ n ih =>
    intro w0 v1 v2 v3 M tw0 gv1 gv2 gv3 h
    rw [L_AF_fill_5] at h
    refine fW_rg (fun hR => ?_)
    refine fW_iload_n 6 dAF_fill_5 rfl rfl ?_
    refine fW_iload_n 7 dAF_fill_6 rfl rfl ?_
    refine fW_icmp_ge 10 20 gv2 gv3 dAF_fill_7 rfl rfl (fun c1 => ?_) (fun c1 => ?_)
    · replace h := fTt h c1
      exact fW_sb (hk M h) trivial
    · replace h := fFf h c1
      refine fW_aload_n 11 dAF_fill_10 rfl rfl ?_
      refine fW_iload_n 12 dAF_fill_11 rfl rfl ?_
      refine fW_iload_n 13 dAF_fill_12 rfl rfl ?_
      obtain ⟨c2, h⟩ := fS h
      refine fW_iast 14 hg tw0 c2 gv1 dAF_fill_13 rfl ?_
      refine fW_rg (fun hR3 => ?_)
      refine fW_iinc 17 (ls' := [some (rv G w0), some (iv v1), some (iv (v2 + 1)), some (iv v3)]) dAF_fill_14 rfl rfl rfl (by decide) ?_
      refine fW_goto 5 dAF_fill_17 rfl ?_
      exact fW_sb (ih w0 v1 (v2 + 1) v3 (mset M w0 v2 v1) tw0 gv1 (rg_succ' gv2 gv3 c1) gv3 h) ⟨rfl, rfl, rfl, rfl, trivial⟩
def f_AF_fill (p1 : Nat) (a2 : Int) (M : fMem) : Option (fMem) := L_AF_fill_5 (fun  (M_4 : fMem) => some M_4) 20000 p1 a2 0 (Ln p1) M
set_option maxRecDepth 100000 in
set_option maxHeartbeats 4000000 in
theorem s_AF_fill {G : fG} (hg : gbt G = true) {p1 : Nat} (hp1 : fTyp p1 12) {a2 : Int} (ga2 : rg a2) {M : fMem} {q : fMem} (h : f_AF_fill p1 a2 M = some q) : fSp G mAF_fill [rv G p1, iv a2] M (rV q) fNo := by
  refine fSp_of (by decide +kernel) (by decide +kernel) (fC1 rfl (fC1 rfl fC0)) (Nat.le_of_ble_eq_true rfl) ?_
  show fW G mAF_fill (fEm G mAF_fill (rV q) fNo) 0 0 0 [some (rv G p1), some (iv a2), none, none] [] M
  rw [f_AF_fill] at h
  refine fW_rg (fun hR => ?_)
  refine fW_iconst 1 dAF_fill_0 rfl ?_
  refine fW_istore_n 2 (ls' := [some (rv G p1), some (iv a2), some (iv 0), none]) dAF_fill_1 rfl rfl rfl (by decide) ?_
  refine fW_aload_n 3 dAF_fill_2 rfl rfl ?_
  refine fW_alen 4 hg hp1 dAF_fill_3 rfl ?_
  refine fW_istore_n 5 (ls' := [some (rv G p1), some (iv a2), some (iv 0), some (iv (Ln p1))]) dAF_fill_4 rfl rfl rfl (by decide) ?_
  refine fW_sb (l_AF_fill_5 hg ?_ 20000 p1 a2 0 (Ln p1) M hp1 ga2 (by decide) (rg_ln p1) h) ⟨rfl, rfl, rfl, rfl, trivial⟩
  intro M_4 h
  refine fW_rg (fun hR_4 => ?_)
  exact fW_vret rfl (by decide) (by decide) dAF_fill_20 (rV_i h)
def mX6_isShut : fMt := (yX6_isShut, cX6_isShut, 1, some .boolean, { frames := 0, cells := 0, slots := 0, locals := 0 })
theorem miX6_isShut : fMv mX6_isShut 0 := ⟨⟨fM 603 (by decide +kernel) rfl, fM 92 (by decide +kernel) rfl, ⟨by decide +kernel, by decide +kernel⟩, by decide +kernel⟩, fM 601 (by decide +kernel) rfl, fM 602 (by decide +kernel) rfl⟩
def f_X6_isShut (o : Nat) (M : fMem) : Option (Int) := (if (M o 2) = 2 then some 1 else some 0)
set_option maxRecDepth 100000 in
set_option maxHeartbeats 4000000 in
theorem s_X6_isShut {G : fG} (hg : gbt G = true) {o : Nat} (ho : fTyp o 6) {M : fMem} {q : Int} (h : f_X6_isShut o M = some q) : fSp G mX6_isShut [rv G o] M (rB M q) fNo := by
  refine fSp_of (by decide +kernel) (by decide +kernel) (fC1 rfl fC0) (Nat.le_of_ble_eq_true rfl) ?_
  show fW G mX6_isShut (fEm G mX6_isShut (rB M q) fNo) 0 0 0 [some (rv G o)] [] M
  rw [f_X6_isShut] at h
  refine fW_rg (fun hR => ?_)
  refine fW_aload_n 1 dX6_isShut_0 rfl rfl ?_
  refine fW_getI 4 2 (ji := 2) hg clX6 rfl (by decide) rfl ho wd_150 dX6_isShut_1 rfl ?_
  refine fW_iconst 5 dX6_isShut_4 rfl ?_
  refine fW_icmp_ne 8 12 (hR o 2) (by decide) dX6_isShut_5 rfl rfl (fun c1 => ?_) (fun c1 => ?_)
  · replace h := fFf h c1
    refine fW_iconst 13 dX6_isShut_12 rfl ?_
    exact fW_zret rfl (by decide) (by decide) (by decide) dX6_isShut_13 (rB_i h (by decide))
  · replace h := fTt h c1
    refine fW_iconst 9 dX6_isShut_8 rfl ?_
    refine fW_goto 13 dX6_isShut_9 rfl ?_
    exact fW_zret rfl (by decide) (by decide) (by decide) dX6_isShut_13 (rB_i h (by decide))
def mX7_insert : fMt := (yX7_insert, cX7_insert, 4, none, { frames := 0, cells := 0, slots := 0, locals := 0 })
theorem miX7_insert : fMv mX7_insert 2 := ⟨⟨fM 607 (by decide +kernel) rfl, fM 91 (by decide +kernel) rfl, ⟨by decide +kernel, by decide +kernel⟩, by decide +kernel⟩, fM 606 (by decide +kernel) rfl, fM 8 (by decide +kernel) rfl⟩
def L_X7_insert_5 (o : Nat) (k : Int → Int → fMem → Option (fMem)) : Nat → Int → Int → Int → fMem → Option (fMem)
  | 0, _, _, _, _ => none
  | n + 1, v1, v2, v3, M => (if v3 ≤ v2 then k v1 v3 M else (if 0 ≤ v3 - 1 ∧ v3 - 1 < 19 then (if 0 ≤ M (o + 2) (v3 - 1) ∧ M (o + 2) (v3 - 1) < 19 then (if 0 ≤ v1 ∧ v1 < 19 then (if (M (o + 3 * v1.toNat + 3) 5) ≤ (M (o + 3 * (M (o + 2) (v3 - 1)).toNat + 3) 5) then k v1 v3 M else (if 0 ≤ v3 - 1 ∧ v3 - 1 < 19 then (if 0 ≤ v3 ∧ v3 < 19 then L_X7_insert_5 o k n v1 v2 (v3 + -1) (mset M (o + 2) v3 (M (o + 2) (v3 - 1))) else none) else none)) else none) else none) else none))
set_option maxRecDepth 100000 in
set_option maxHeartbeats 4000000 in
theorem l_X7_insert_5 {G : fG} (hg : gbt G = true) {o : Nat} (ho : fTyp o 7) {q : fMem} {k : Int → Int → fMem → Option (fMem)} (hk : ∀ (v1 : Int) (v3 : Int) (M : fMem), rg v1 → rg v3 → k v1 v3 M = some q → fW G mX7_insert (fEm G mX7_insert (rV q) fNo) 0 0 58 [some (rv G o), some (iv v1), none, some (iv v3)] [] M) : ∀ (n : Nat) (v1 : Int) (v2 : Int) (v3 : Int) (M : fMem), rg v1 → rg v2 → rg v3 → L_X7_insert_5 o k n v1 v2 v3 M = some q → fW G mX7_insert (fEm G mX7_insert (rV q) fNo) 0 0 5 [some (rv G o), some (iv v1), some (iv v2), some (iv v3)] [] M := by
  intro n
  induction n with
  | zero =>
    intro v1 v2 v3 M gv1 gv2 gv3 h
    rw [L_X7_insert_5] at h
    exact absurd h (by simp)
  | succ n ih =>
    intro v1 v2 v3 M gv1 gv2 gv3 h
    rw [L_X7_insert_5] at h
    refine fW_rg (fun hR => ?_)
    refine fW_iload_n 6 dX7_insert_5 rfl rfl ?_
    refine fW_iload_n 7 dX7_insert_6 rfl rfl ?_
    refine fW_icmp_le 10 58 gv3 gv2 dX7_insert_7 rfl rfl (fun c1 => ?_) (fun c1 => ?_)
    · replace h := fTt h c1
      exact fW_sb (hk v1 v3 M gv1 gv3 h) ⟨rfl, rfl, rfl, trivial⟩
    · replace h := fFf h c1
      refine fW_aload_n 11 dX7_insert_10 rfl rfl ?_
      refine fW_getR 14 (r := o + 1) 0 hg clX7 (by decide) rfl ho (tf_7_0 ho) wd_180 dX7_insert_11 rfl ?_
      refine fW_aload_n 15 dX7_insert_14 rfl rfl ?_
      refine fW_getR 18 (r := o + 2) 1 hg clX7 (by decide) rfl ho (tf_7_1 ho) wd_186 dX7_insert_15 rfl ?_
      refine fW_iload_n 19 dX7_insert_18 rfl rfl ?_
      refine fW_iconst 20 dX7_insert_19 rfl ?_
      refine fW_isub 21 dX7_insert_20 rfl ?_
      obtain ⟨c2, h⟩ := fS h
      refine fW_iald 22 hg (tt_7_1 ho) ⟨c2.1, by rw [lf_7_1 ho]; exact c2.2⟩ dX7_insert_21 rfl ?_
      obtain ⟨c3, h⟩ := fS h
      have t4 := ta_16 (r := o + 3 * (M (o + 2) (v3 - 1)).toNat + 3) (tt_7_0 ho) c3 (by omega)
      refine fW_aald 23 4 hg (tt_7_0 ho) (by decide) (by decide) t4.1 t4.2.2 rfl dX7_insert_22 rfl ?_
      refine fW_getI 26 5 (ji := 5) hg clX6 rfl (by decide) rfl t4.2.1 wd_164 dX7_insert_23 rfl ?_
      refine fW_aload_n 27 dX7_insert_26 rfl rfl ?_
      refine fW_getR 30 (r := o + 1) 0 hg clX7 (by decide) rfl ho (tf_7_0 ho) wd_180 dX7_insert_27 rfl ?_
      refine fW_iload_n 31 dX7_insert_30 rfl rfl ?_
      obtain ⟨c5, h⟩ := fS h
      have t6 := ta_16 (r := o + 3 * v1.toNat + 3) (tt_7_0 ho) c5 (by omega)
      refine fW_aald 32 4 hg (tt_7_0 ho) (by decide) (by decide) t6.1 t6.2.2 rfl dX7_insert_31 rfl ?_
      refine fW_getI 35 5 (ji := 5) hg clX6 rfl (by decide) rfl t6.2.1 wd_164 dX7_insert_32 rfl ?_
      refine fW_icmp_ge 38 58 (hR (o + 3 * (M (o + 2) (v3 - 1)).toNat + 3) 5) (hR (o + 3 * v1.toNat + 3) 5) dX7_insert_35 rfl rfl (fun c7 => ?_) (fun c7 => ?_)
      · replace h := fTt h c7
        exact fW_sb (hk v1 v3 M gv1 gv3 h) ⟨rfl, rfl, rfl, trivial⟩
      · replace h := fFf h c7
        refine fW_aload_n 39 dX7_insert_38 rfl rfl ?_
        refine fW_getR 42 (r := o + 2) 1 hg clX7 (by decide) rfl ho (tf_7_1 ho) wd_186 dX7_insert_39 rfl ?_
        refine fW_iload_n 43 dX7_insert_42 rfl rfl ?_
        refine fW_aload_n 44 dX7_insert_43 rfl rfl ?_
        refine fW_getR 47 (r := o + 2) 1 hg clX7 (by decide) rfl ho (tf_7_1 ho) wd_186 dX7_insert_44 rfl ?_
        refine fW_iload_n 48 dX7_insert_47 rfl rfl ?_
        refine fW_iconst 49 dX7_insert_48 rfl ?_
        refine fW_isub 50 dX7_insert_49 rfl ?_
        obtain ⟨c8, h⟩ := fS h
        refine fW_iald 51 hg (tt_7_1 ho) ⟨c8.1, by rw [lf_7_1 ho]; exact c8.2⟩ dX7_insert_50 rfl ?_
        obtain ⟨c9, h⟩ := fS h
        refine fW_iast 52 hg (tt_7_1 ho) ⟨c9.1, by rw [lf_7_1 ho]; exact c9.2⟩ (hR (o + 2) (v3 - 1)) dX7_insert_51 rfl ?_
        refine fW_rg (fun hR10 => ?_)
        refine fW_iinc 55 (ls' := [some (rv G o), some (iv v1), some (iv v2), some (iv (v3 + -1))]) dX7_insert_52 rfl rfl rfl (by decide) ?_
        refine fW_goto 5 dX7_insert_55 rfl ?_
        exact fW_sb (ih v1 v2 (v3 + -1) (mset M (o + 2) v3 (M (o + 2) (v3 - 1))) gv1 gv2 (rg_pred' gv3 gv2 c1) h) ⟨rfl, rfl, rfl, rfl, trivial⟩
def j_X7_insert_58 (o : Nat) (v1 : Int) (v3 : Int) (M : fMem) : Option (fMem) := (if 0 ≤ v3 ∧ v3 < 19 then (if -2147483648 ≤ ((mset M (o + 2) v3 v1) o 2) + 1 ∧ ((mset M (o + 2) v3 v1) o 2) + 1 < 2147483648 then some (mset (mset M (o + 2) v3 v1) o 2 (((mset M (o + 2) v3 v1) o 2) + 1)) else none) else none)
set_option maxRecDepth 100000 in
set_option maxHeartbeats 4000000 in
theorem i_X7_insert_58 {G : fG} (hg : gbt G = true) {o : Nat} (ho : fTyp o 7) {v1 : Int} {v3 : Int} (gv1 : rg v1) (gv3 : rg v3) {M : fMem} {q : fMem} (h : j_X7_insert_58 o v1 v3 M = some q) : fW G mX7_insert (fEm G mX7_insert (rV q) fNo) 0 0 58 [some (rv G o), some (iv v1), none, some (iv v3)] [] M := by
  rw [j_X7_insert_58] at h
  refine fW_rg (fun hR => ?_)
  refine fW_aload_n 59 dX7_insert_58 rfl rfl ?_
  refine fW_getR 62 (r := o + 2) 1 hg clX7 (by decide) rfl ho (tf_7_1 ho) wd_186 dX7_insert_59 rfl ?_
  refine fW_iload_n 63 dX7_insert_62 rfl rfl ?_
  refine fW_iload_n 64 dX7_insert_63 rfl rfl ?_
  obtain ⟨c12, h⟩ := fS h
  refine fW_iast 65 hg (tt_7_1 ho) ⟨c12.1, by rw [lf_7_1 ho]; exact c12.2⟩ gv1 dX7_insert_64 rfl ?_
  refine fW_rg (fun hR13 => ?_)
  refine fW_aload_n 66 dX7_insert_65 rfl rfl ?_
  refine fW_dup 67 dX7_insert_66 rfl rfl ?_
  refine fW_getI 70 2 (ji := 2) hg clX7 rfl (by decide) rfl ho wd_190 dX7_insert_67 rfl ?_
  refine fW_iconst 71 dX7_insert_70 rfl ?_
  refine fW_iadd 72 dX7_insert_71 rfl ?_
  obtain ⟨c14, h⟩ := fS h
  refine fW_putI 75 2 (ji := 2) hg clX7 rfl (by decide) rfl rfl rfl ho c14 wd_190 dX7_insert_72 rfl ?_
  refine fW_rg (fun hR15 => ?_)
  exact fW_vret rfl (by decide) (by decide) dX7_insert_75 (rV_i h)
def f_X7_insert (o : Nat) (a1 : Int) (a2 : Int) (M : fMem) : Option (fMem) := L_X7_insert_5 o (fun (v1_11 : Int) (v3_11 : Int) (M_11 : fMem) => j_X7_insert_58 o v1_11 v3_11 M_11) 20000 a1 a2 (M o 2) M
set_option maxRecDepth 100000 in
set_option maxHeartbeats 4000000 in
theorem s_X7_insert {G : fG} (hg : gbt G = true) {o : Nat} (ho : fTyp o 7) {a1 : Int} (ga1 : rg a1) {a2 : Int} (ga2 : rg a2) {M : fMem} {q : fMem} (h : f_X7_insert o a1 a2 M = some q) : fSp G mX7_insert [rv G o, iv a1, iv a2] M (rV q) fNo := by
  refine fSp_of (by decide +kernel) (by decide +kernel) (fC1 rfl (fC1 rfl (fC1 rfl fC0))) (Nat.le_of_ble_eq_true rfl) ?_
  show fW G mX7_insert (fEm G mX7_insert (rV q) fNo) 0 0 0 [some (rv G o), some (iv a1), some (iv a2), none] [] M
  rw [f_X7_insert] at h
  refine fW_rg (fun hR => ?_)
  refine fW_aload_n 1 dX7_insert_0 rfl rfl ?_
  refine fW_getI 4 2 (ji := 2) hg clX7 rfl (by decide) rfl ho wd_190 dX7_insert_1 rfl ?_
  refine fW_istore_n 5 (ls' := [some (rv G o), some (iv a1), some (iv a2), some (iv (M o 2))]) dX7_insert_4 rfl rfl rfl (by decide) ?_
  refine fW_sb (l_X7_insert_5 hg ho ?_ 20000 a1 a2 (M o 2) M ga1 ga2 (hR o 2) h) ⟨rfl, rfl, rfl, rfl, trivial⟩
  intro v1_11 v3_11 M_11 gv1_11 gv3_11 h
  refine fW_rg (fun hR_11 => ?_)
  exact fW_sb (i_X7_insert_58 hg ho gv1_11 gv3_11 h) ⟨rfl, rfl, rfl, trivial⟩
end MTH
