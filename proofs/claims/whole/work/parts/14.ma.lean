section MTH
def mX7_firstFree : fMt := (yX7_firstFree, cX7_firstFree, 3, some .int, { frames := 0, cells := 0, slots := 0, locals := 0 })
theorem miX7_firstFree : fMv mX7_firstFree 1 := ⟨⟨fM 489 (by decide +kernel) rfl, fM 91 (by decide +kernel) rfl, ⟨by decide +kernel, by decide +kernel⟩, by decide +kernel⟩, fM 487 (by decide +kernel) rfl, fM 488 (by decide +kernel) rfl⟩
def L_X7_firstFree_6 (o : Nat) (M : fMem) (k : Option (Int)) : Nat → Int → Int → Option (Int)
  | 0, _, _ => none
  | n + 1, v1, v2 => (if 0 ≤ v1 ∧ v1 < 9 then (if (ER v1) ≤ v2 then k else (if 0 ≤ v2 ∧ v2 < 19 then (if (M (o + 3 * v2.toNat + 3) 2) = 0 then some v2 else L_X7_firstFree_6 o M k n v1 (v2 + 1)) else none)) else none)
set_option maxRecDepth 100000 in
set_option maxHeartbeats 4000000 in
theorem l_X7_firstFree_6 {G : fG} (hg : gbt G = true) {o : Nat} (ho : fTyp o 7) {M : fMem} {q : Int} {k : Option (Int)} (hk : k = some q → fW G mX7_firstFree (fEm G mX7_firstFree (rP M q) fNo) 0 0 35 [some (rv G o), none, none] [] M) : ∀ (n : Nat) (v1 : Int) (v2 : Int), rg v1 → rg v2 → L_X7_firstFree_6 o M k n v1 v2 = some q → fW G mX7_firstFree (fEm G mX7_firstFree (rP M q) fNo) 0 0 6 [some (rv G o), some (iv v1), some (iv v2)] [] M := by
  intro n
  induction n with
  | zero =>
    intro v1 v2 gv1 gv2 h
    rw [L_X7_firstFree_6] at h
    exact absurd h (by simp)
  | succ n ih =>
    intro v1 v2 gv1 gv2 h
    rw [L_X7_firstFree_6] at h
    refine fW_rg (fun hR => ?_)
    refine fW_iload_n 7 dX7_firstFree_6 rfl rfl ?_
    refine fW_getsN 10 (host := "RowStore") 1 (by decide) (by decide +kernel) dX7_firstFree_7 rfl ?_
    refine fW_iload_n 11 dX7_firstFree_10 rfl rfl ?_
    obtain ⟨c2, h⟩ := fS h
    refine fW_sald 12 1 (by decide) c2 dX7_firstFree_11 rfl ?_
    rw [show SV 1 v1 = ER v1 from rfl]
    refine fW_icmp_ge 15 35 gv2 (rg_ER c2) dX7_firstFree_12 rfl rfl (fun c3 => ?_) (fun c3 => ?_)
    · replace h := fTt h c3
      exact fW_sb (hk h) ⟨rfl, trivial⟩
    · replace h := fFf h c3
      refine fW_aload_n 16 dX7_firstFree_15 rfl rfl ?_
      refine fW_getR 19 (r := o + 1) 0 hg clX7 (by decide) rfl ho (tf_7_0 ho) wd_180 dX7_firstFree_16 rfl ?_
      refine fW_iload_n 20 dX7_firstFree_19 rfl rfl ?_
      obtain ⟨c4, h⟩ := fS h
      have t5 := ta_16 (r := o + 3 * v2.toNat + 3) (tt_7_0 ho) c4 (by omega)
      refine fW_aald 21 4 hg (tt_7_0 ho) (by decide) (by decide) t5.1 t5.2.2 rfl dX7_firstFree_20 rfl ?_
      refine fW_getI 24 2 (ji := 2) hg clX6 rfl (by decide) rfl t5.2.1 wd_152 dX7_firstFree_21 rfl ?_
      refine fW_if_ne 27 29 (hR (o + 3 * v2.toNat + 3) 2) dX7_firstFree_24 rfl rfl (fun c6 => ?_) (fun c6 => ?_)
      · replace h := fFf h c6
        refine fW_iinc 32 (ls' := [some (rv G o), some (iv v1), some (iv (v2 + 1))]) dX7_firstFree_29 rfl rfl rfl (by decide) ?_
        refine fW_goto 6 dX7_firstFree_32 rfl ?_
        exact fW_sb (ih v1 (v2 + 1) gv1 (rg_succ' gv2 (rg_ER c2) c3) h) ⟨rfl, rfl, rfl, trivial⟩
      · replace h := fTt h c6
        refine fW_iload_n 28 dX7_firstFree_27 rfl rfl ?_
        exact fW_iret rfl (by decide) (by decide) dX7_firstFree_28 (rP_i h gv2)
def f_X7_firstFree (o : Nat) (a1 : Int) (M : fMem) : Option (Int) := (if 0 ≤ a1 ∧ a1 < 9 then L_X7_firstFree_6 o M (some ((-1))) 4 a1 (FR a1) else none)
set_option maxRecDepth 100000 in
set_option maxHeartbeats 4000000 in
theorem s_X7_firstFree {G : fG} (hg : gbt G = true) {o : Nat} (ho : fTyp o 7) {a1 : Int} (ga1 : rg a1) {M : fMem} {q : Int} (h : f_X7_firstFree o a1 M = some q) : fSp G mX7_firstFree [rv G o, iv a1] M (rP M q) fNo := by
  refine fSp_of (by decide +kernel) (by decide +kernel) (fC1 rfl (fC1 rfl fC0)) (Nat.le_of_ble_eq_true rfl) ?_
  show fW G mX7_firstFree (fEm G mX7_firstFree (rP M q) fNo) 0 0 0 [some (rv G o), some (iv a1), none] [] M
  rw [f_X7_firstFree] at h
  refine fW_rg (fun hR => ?_)
  refine fW_getsN 3 (host := "RowStore") 0 (by decide) (by decide +kernel) dX7_firstFree_0 rfl ?_
  refine fW_iload_n 4 dX7_firstFree_3 rfl rfl ?_
  obtain ⟨c1, h⟩ := fS h
  refine fW_sald 5 0 (by decide) c1 dX7_firstFree_4 rfl ?_
  rw [show SV 0 a1 = FR a1 from rfl]
  refine fW_istore_n 6 (ls' := [some (rv G o), some (iv a1), some (iv (FR a1))]) dX7_firstFree_5 rfl rfl rfl (by decide) ?_
  refine fW_sb (l_X7_firstFree_6 hg ho ?_ 4 a1 (FR a1) ga1 (rg_FR c1) h) ⟨rfl, rfl, rfl, trivial⟩
  intro  h
  refine fW_iconst 36 dX7_firstFree_35 rfl ?_
  exact fW_iret rfl (by decide) (by decide) dX7_firstFree_36 (rP_i h (by decide))
def mX6_keyAt : fMt := (yX6_keyAt, cX6_keyAt, 2, some .int, { frames := 0, cells := 0, slots := 0, locals := 0 })
theorem miX6_keyAt : fMv mX6_keyAt 1 := ⟨⟨fM 503 (by decide +kernel) rfl, fM 92 (by decide +kernel) rfl, ⟨by decide +kernel, by decide +kernel⟩, by decide +kernel⟩, fM 501 (by decide +kernel) rfl, fM 502 (by decide +kernel) rfl⟩
def f_X6_keyAt (o : Nat) (a1 : Int) (M : fMem) : Option (Int) := (if a1 < 0 then some 200 else (if (M o 3) ≤ a1 then some 200 else (if 0 ≤ a1 ∧ a1 < Ln (o + 1) then some (M (o + 1) a1) else none)))
set_option maxRecDepth 100000 in
set_option maxHeartbeats 4000000 in
theorem s_X6_keyAt {G : fG} (hg : gbt G = true) {o : Nat} (ho : fTyp o 6) {a1 : Int} (ga1 : rg a1) {M : fMem} {q : Int} (h : f_X6_keyAt o a1 M = some q) : fSp G mX6_keyAt [rv G o, iv a1] M (rP M q) fNo := by
  refine fSp_of (by decide +kernel) (by decide +kernel) (fC1 rfl (fC1 rfl fC0)) (Nat.le_of_ble_eq_true rfl) ?_
  show fW G mX6_keyAt (fEm G mX6_keyAt (rP M q) fNo) 0 0 0 [some (rv G o), some (iv a1)] [] M
  rw [f_X6_keyAt] at h
  refine fW_rg (fun hR => ?_)
  refine fW_iload_n 1 dX6_keyAt_0 rfl rfl ?_
  refine fW_if_lt 4 21 ga1 dX6_keyAt_1 rfl rfl (fun c1 => ?_) (fun c1 => ?_)
  · replace h := fTt h c1
    refine fW_sipush 24 dX6_keyAt_21 rfl (by decide) ?_
    exact fW_iret rfl (by decide) (by decide) dX6_keyAt_24 (rP_i h (by decide))
  · replace h := fFf h c1
    refine fW_iload_n 5 dX6_keyAt_4 rfl rfl ?_
    refine fW_aload_n 6 dX6_keyAt_5 rfl rfl ?_
    refine fW_getI 9 3 (ji := 3) hg clX6 rfl (by decide) rfl ho wd_154 dX6_keyAt_6 rfl ?_
    refine fW_icmp_ge 12 21 ga1 (hR o 3) dX6_keyAt_9 rfl rfl (fun c2 => ?_) (fun c2 => ?_)
    · replace h := fTt h c2
      refine fW_sipush 24 dX6_keyAt_21 rfl (by decide) ?_
      exact fW_iret rfl (by decide) (by decide) dX6_keyAt_24 (rP_i h (by decide))
    · replace h := fFf h c2
      refine fW_aload_n 13 dX6_keyAt_12 rfl rfl ?_
      refine fW_getR 16 (r := o + 1) 0 hg clX6 (by decide) rfl ho (tf_6_0 ho) wd_147 dX6_keyAt_13 rfl ?_
      refine fW_iload_n 17 dX6_keyAt_16 rfl rfl ?_
      obtain ⟨c3, h⟩ := fS h
      refine fW_iald 18 hg (tt_6_0 ho) c3 dX6_keyAt_17 rfl ?_
      refine fW_goto 24 dX6_keyAt_18 rfl ?_
      exact fW_iret rfl (by decide) (by decide) dX6_keyAt_24 (rP_i h (hR (o + 1) a1))
def mX6_valueAt : fMt := (yX6_valueAt, cX6_valueAt, 2, some .int, { frames := 0, cells := 0, slots := 0, locals := 0 })
theorem miX6_valueAt : fMv mX6_valueAt 1 := ⟨⟨fM 507 (by decide +kernel) rfl, fM 92 (by decide +kernel) rfl, ⟨by decide +kernel, by decide +kernel⟩, by decide +kernel⟩, fM 505 (by decide +kernel) rfl, fM 506 (by decide +kernel) rfl⟩
def f_X6_valueAt (o : Nat) (a1 : Int) (M : fMem) : Option (Int) := (if a1 < 0 then some ((-1)) else (if (M o 3) ≤ a1 then some ((-1)) else (if 0 ≤ a1 ∧ a1 < Ln (o + 2) then some (M (o + 2) a1) else none)))
set_option maxRecDepth 100000 in
set_option maxHeartbeats 4000000 in
theorem s_X6_valueAt {G : fG} (hg : gbt G = true) {o : Nat} (ho : fTyp o 6) {a1 : Int} (ga1 : rg a1) {M : fMem} {q : Int} (h : f_X6_valueAt o a1 M = some q) : fSp G mX6_valueAt [rv G o, iv a1] M (rP M q) fNo := by
  refine fSp_of (by decide +kernel) (by decide +kernel) (fC1 rfl (fC1 rfl fC0)) (Nat.le_of_ble_eq_true rfl) ?_
  show fW G mX6_valueAt (fEm G mX6_valueAt (rP M q) fNo) 0 0 0 [some (rv G o), some (iv a1)] [] M
  rw [f_X6_valueAt] at h
  refine fW_rg (fun hR => ?_)
  refine fW_iload_n 1 dX6_valueAt_0 rfl rfl ?_
  refine fW_if_lt 4 21 ga1 dX6_valueAt_1 rfl rfl (fun c1 => ?_) (fun c1 => ?_)
  · replace h := fTt h c1
    refine fW_iconst 22 dX6_valueAt_21 rfl ?_
    exact fW_iret rfl (by decide) (by decide) dX6_valueAt_22 (rP_i h (by decide))
  · replace h := fFf h c1
    refine fW_iload_n 5 dX6_valueAt_4 rfl rfl ?_
    refine fW_aload_n 6 dX6_valueAt_5 rfl rfl ?_
    refine fW_getI 9 3 (ji := 3) hg clX6 rfl (by decide) rfl ho wd_154 dX6_valueAt_6 rfl ?_
    refine fW_icmp_ge 12 21 ga1 (hR o 3) dX6_valueAt_9 rfl rfl (fun c2 => ?_) (fun c2 => ?_)
    · replace h := fTt h c2
      refine fW_iconst 22 dX6_valueAt_21 rfl ?_
      exact fW_iret rfl (by decide) (by decide) dX6_valueAt_22 (rP_i h (by decide))
    · replace h := fFf h c2
      refine fW_aload_n 13 dX6_valueAt_12 rfl rfl ?_
      refine fW_getR 16 (r := o + 2) 1 hg clX6 (by decide) rfl ho (tf_6_1 ho) wd_149 dX6_valueAt_13 rfl ?_
      refine fW_iload_n 17 dX6_valueAt_16 rfl rfl ?_
      obtain ⟨c3, h⟩ := fS h
      refine fW_iald 18 hg (tt_6_1 ho) c3 dX6_valueAt_17 rfl ?_
      refine fW_goto 22 dX6_valueAt_18 rfl ?_
      exact fW_iret rfl (by decide) (by decide) dX6_valueAt_22 (rP_i h (hR (o + 2) a1))
def mX6_append : fMt := (yX6_append, cX6_append, 3, none, { frames := 0, cells := 0, slots := 0, locals := 0 })
theorem miX6_append : fMv mX6_append 2 := ⟨⟨fM 515 (by decide +kernel) rfl, fM 92 (by decide +kernel) rfl, ⟨by decide +kernel, by decide +kernel⟩, by decide +kernel⟩, fM 513 (by decide +kernel) rfl, fM 514 (by decide +kernel) rfl⟩
def f_X6_append (o : Nat) (a1 : Int) (a2 : Int) (M : fMem) : Option (fMem) := (if (Ln (o + 1)) ≤ (M o 3) then some M else (if 0 ≤ M o 3 ∧ M o 3 < Ln (o + 1) then ((some (mset M (o + 1) (M o 3) a1)).bind fun (N3 : fMem) => (if 0 ≤ N3 o 3 ∧ N3 o 3 < Ln (o + 2) then ((some (mset N3 (o + 2) (N3 o 3) a2)).bind fun (N5 : fMem) => (if -2147483648 ≤ (N5 o 3) + 1 ∧ (N5 o 3) + 1 < 2147483648 then ((some (mset N5 o 3 ((N5 o 3) + 1))).bind fun (N7 : fMem) => (if a2 = ((-1)) then (if -2147483648 ≤ (N7 o 4) + 1 ∧ (N7 o 4) + 1 < 2147483648 then ((some (mset N7 o 4 ((N7 o 4) + 1))).bind fun (N12 : fMem) => some N12) else none) else (if -2147483648 ≤ (N7 o 4) + 0 ∧ (N7 o 4) + 0 < 2147483648 then ((some (mset N7 o 4 ((N7 o 4) + 0))).bind fun (N10 : fMem) => some N10) else none))) else none)) else none)) else none))
set_option maxRecDepth 100000 in
set_option maxHeartbeats 4000000 in
theorem s_X6_append {G : fG} (hg : gbt G = true) {o : Nat} (ho : fTyp o 6) {a1 : Int} (ga1 : rg a1) {a2 : Int} (ga2 : rg a2) {M : fMem} {q : fMem} (h : f_X6_append o a1 a2 M = some q) : fSp G mX6_append [rv G o, iv a1, iv a2] M (rV q) fNo := by
  refine fSp_of (by decide +kernel) (by decide +kernel) (fC1 rfl (fC1 rfl (fC1 rfl fC0))) (Nat.le_of_ble_eq_true rfl) ?_
  show fW G mX6_append (fEm G mX6_append (rV q) fNo) 0 0 0 [some (rv G o), some (iv a1), some (iv a2)] [] M
  rw [f_X6_append] at h
  refine fW_rg (fun hR => ?_)
  refine fW_aload_n 1 dX6_append_0 rfl rfl ?_
  refine fW_getI 4 3 (ji := 3) hg clX6 rfl (by decide) rfl ho wd_154 dX6_append_1 rfl ?_
  refine fW_aload_n 5 dX6_append_4 rfl rfl ?_
  refine fW_getR 8 (r := o + 1) 0 hg clX6 (by decide) rfl ho (tf_6_0 ho) wd_147 dX6_append_5 rfl ?_
  refine fW_alen 9 hg (tt_6_0 ho) dX6_append_8 rfl ?_
  refine fW_icmp_ge 12 61 (hR o 3) (rg_ln (o + 1)) dX6_append_9 rfl rfl (fun c1 => ?_) (fun c1 => ?_)
  · replace h := fTt h c1
    exact fW_vret rfl (by decide) (by decide) dX6_append_61 (rV_i h)
  · replace h := fFf h c1
    refine fW_aload_n 13 dX6_append_12 rfl rfl ?_
    refine fW_getR 16 (r := o + 1) 0 hg clX6 (by decide) rfl ho (tf_6_0 ho) wd_147 dX6_append_13 rfl ?_
    refine fW_aload_n 17 dX6_append_16 rfl rfl ?_
    refine fW_getI 20 3 (ji := 3) hg clX6 rfl (by decide) rfl ho wd_154 dX6_append_17 rfl ?_
    refine fW_iload_n 21 dX6_append_20 rfl rfl ?_
    obtain ⟨c2, h⟩ := fS h
    obtain ⟨N3, e3, h⟩ := fBd h
    replace e3 := Option.some.inj e3
    refine fW_iast 22 hg (tt_6_0 ho) c2 ga1 dX6_append_21 rfl ?_
    rw [e3]
    refine fW_rg (fun hR3 => ?_)
    refine fW_aload_n 23 dX6_append_22 rfl rfl ?_
    refine fW_getR 26 (r := o + 2) 1 hg clX6 (by decide) rfl ho (tf_6_1 ho) wd_149 dX6_append_23 rfl ?_
    refine fW_aload_n 27 dX6_append_26 rfl rfl ?_
    refine fW_getI 30 3 (ji := 3) hg clX6 rfl (by decide) rfl ho wd_154 dX6_append_27 rfl ?_
    refine fW_iload_n 31 dX6_append_30 rfl rfl ?_
    obtain ⟨c4, h⟩ := fS h
    obtain ⟨N5, e5, h⟩ := fBd h
    replace e5 := Option.some.inj e5
    refine fW_iast 32 hg (tt_6_1 ho) c4 ga2 dX6_append_31 rfl ?_
    rw [e5]
    refine fW_rg (fun hR5 => ?_)
    refine fW_aload_n 33 dX6_append_32 rfl rfl ?_
    refine fW_dup 34 dX6_append_33 rfl rfl ?_
    refine fW_getI 37 3 (ji := 3) hg clX6 rfl (by decide) rfl ho wd_154 dX6_append_34 rfl ?_
    refine fW_iconst 38 dX6_append_37 rfl ?_
    refine fW_iadd 39 dX6_append_38 rfl ?_
    obtain ⟨c6, h⟩ := fS h
    obtain ⟨N7, e7, h⟩ := fBd h
    replace e7 := Option.some.inj e7
    refine fW_putI 42 3 (ji := 3) hg clX6 rfl (by decide) rfl rfl rfl ho c6 wd_154 dX6_append_39 rfl ?_
    rw [e7]
    refine fW_rg (fun hR7 => ?_)
    refine fW_aload_n 43 dX6_append_42 rfl rfl ?_
    refine fW_dup 44 dX6_append_43 rfl rfl ?_
    refine fW_getI 47 4 (ji := 4) hg clX6 rfl (by decide) rfl ho wd_161 dX6_append_44 rfl ?_
    refine fW_iload_n 48 dX6_append_47 rfl rfl ?_
    refine fW_iconst 49 dX6_append_48 rfl ?_
    refine fW_icmp_ne 52 56 ga2 (by decide) dX6_append_49 rfl rfl (fun c8 => ?_) (fun c8 => ?_)
    · replace h := fFf h c8
      refine fW_iconst 57 dX6_append_56 rfl ?_
      refine fW_iadd 58 dX6_append_57 rfl ?_
      obtain ⟨c9, h⟩ := fS h
      obtain ⟨N10, e10, h⟩ := fBd h
      replace e10 := Option.some.inj e10
      refine fW_putI 61 4 (ji := 4) hg clX6 rfl (by decide) rfl rfl rfl ho c9 wd_161 dX6_append_58 rfl ?_
      rw [e10]
      refine fW_rg (fun hR10 => ?_)
      exact fW_vret rfl (by decide) (by decide) dX6_append_61 (rV_i h)
    · replace h := fTt h c8
      refine fW_iconst 53 dX6_append_52 rfl ?_
      refine fW_goto 57 dX6_append_53 rfl ?_
      refine fW_iadd 58 dX6_append_57 rfl ?_
      obtain ⟨c11, h⟩ := fS h
      obtain ⟨N12, e12, h⟩ := fBd h
      replace e12 := Option.some.inj e12
      refine fW_putI 61 4 (ji := 4) hg clX6 rfl (by decide) rfl rfl rfl ho c11 wd_161 dX6_append_58 rfl ?_
      rw [e12]
      refine fW_rg (fun hR12 => ?_)
      exact fW_vret rfl (by decide) (by decide) dX6_append_61 (rV_i h)
def mX0_moveOn : fMt := (yX0_moveOn, cX0_moveOn, 4, none, { frames := 1, cells := 0, slots := 0, locals := 40 })
theorem miX0_moveOn : fMv mX0_moveOn 3 := ⟨⟨fM 511 (by decide +kernel) rfl, fM 90 (by decide +kernel) rfl, ⟨by decide +kernel, by decide +kernel⟩, by decide +kernel⟩, fM 510 (by decide +kernel) rfl, fM 4 (by decide +kernel) rfl⟩
def j_X0_moveOn_25 (o : Nat) (w1 : Nat) (v2 : Int) (v3 : Int) (M : fMem) : Option (fMem) := (if 0 ≤ M w1 4 ∧ M w1 4 < 19 then ((f_X6_append (o + 3 * (M w1 4).toNat + 4) v2 v3 M).bind fun (r4 : fMem) => (if -2147483648 ≤ (r4 w1 8) + 1 ∧ (r4 w1 8) + 1 < 2147483648 then ((some (mset r4 w1 8 ((r4 w1 8) + 1))).bind fun (N7 : fMem) => some N7) else none)) else none)
set_option maxRecDepth 100000 in
set_option maxHeartbeats 4000000 in
theorem i_X0_moveOn_25 {G : fG} (hg : gbt G = true) {o : Nat} (ho : fTyp o 0) {w1 : Nat} {v2 : Int} {v3 : Int} (tw1 : fTyp w1 4) (gv2 : rg v2) (gv3 : rg v3) {M : fMem} {q : fMem} (h : j_X0_moveOn_25 o w1 v2 v3 M = some q) : fW G mX0_moveOn (fEm G mX0_moveOn (rV q) fNo) 0 0 25 [some (rv G o), some (rv G w1), some (iv v2), some (iv v3)] [] M := by
  rw [j_X0_moveOn_25] at h
  refine fW_rg (fun hR => ?_)
  refine fW_aload_n 26 dX0_moveOn_25 rfl rfl ?_
  refine fW_getR 29 (r := o + 1) 0 hg clX0 (by decide) rfl ho (tf_0_0 ho) wd_247 dX0_moveOn_26 rfl ?_
  refine fW_getR 32 (r := o + 2) 0 hg clX7 (by decide) rfl (tt_0_0 ho) (tf_7_0 (tt_0_0 ho)) wd_183 dX0_moveOn_29 rfl ?_
  refine fW_aload_n 33 dX0_moveOn_32 rfl rfl ?_
  refine fW_getI 36 4 (ji := 4) hg clX4 rfl (by decide) rfl tw1 wd_217 dX0_moveOn_33 rfl ?_
  obtain ⟨c2, h⟩ := fS h
  have t3 := ta_16 (r := o + 3 * (M w1 4).toNat + 4) (tt_7_0 (tt_0_0 ho)) c2 (by omega)
  refine fW_aald 37 4 hg (tt_7_0 (tt_0_0 ho)) (by decide) (by decide) t3.1 t3.2.2 rfl dX0_moveOn_36 rfl ?_
  refine fW_iload_n 38 dX0_moveOn_37 rfl rfl ?_
  refine fW_iload_n 39 dX0_moveOn_38 rfl rfl ?_
  obtain ⟨r4, e4, h⟩ := fBd h
  refine fW_cV (fI_V (as := [iv v2, iv v3]) (rest := []) miX6_append hg clX6 rfl t3.2.1 wd_512 (fRoom_of rfl) rfl (Nat.le_of_ble_eq_true rfl) dX0_moveOn_39) (s_X6_append hg t3.2.1 gv2 gv3 e4) rfl rfl rfl ?_
  refine fW_rg (fun hR5 => ?_)
  refine fW_aload_n 43 dX0_moveOn_42 rfl rfl ?_
  refine fW_dup 44 dX0_moveOn_43 rfl rfl ?_
  refine fW_getI 47 8 (ji := 8) hg clX4 rfl (by decide) rfl tw1 wd_226 dX0_moveOn_44 rfl ?_
  refine fW_iconst 48 dX0_moveOn_47 rfl ?_
  refine fW_iadd 49 dX0_moveOn_48 rfl ?_
  obtain ⟨c6, h⟩ := fS h
  obtain ⟨N7, e7, h⟩ := fBd h
  replace e7 := Option.some.inj e7
  refine fW_putI 52 8 (ji := 8) hg clX4 rfl (by decide) rfl rfl rfl tw1 c6 wd_226 dX0_moveOn_49 rfl ?_
  rw [e7]
  refine fW_rg (fun hR7 => ?_)
  exact fW_vret rfl (by decide) (by decide) dX0_moveOn_52 (rV_i h)
def f_X0_moveOn (o : Nat) (p1 : Nat) (a2 : Int) (a3 : Int) (M : fMem) : Option (fMem) := (if a3 = ((-1)) then (if (M p1 1) = 0 then j_X0_moveOn_25 o p1 a2 a3 M else (if -2147483648 ≤ (M o 9) + 1 ∧ (M o 9) + 1 < 2147483648 then ((some (mset M o 9 ((M o 9) + 1))).bind fun (N10 : fMem) => some N10) else none)) else j_X0_moveOn_25 o p1 a2 a3 M)
set_option maxRecDepth 100000 in
set_option maxHeartbeats 4000000 in
theorem s_X0_moveOn {G : fG} (hg : gbt G = true) {o : Nat} (ho : fTyp o 0) {p1 : Nat} (hp1 : fTyp p1 4) {a2 : Int} (ga2 : rg a2) {a3 : Int} (ga3 : rg a3) {M : fMem} {q : fMem} (h : f_X0_moveOn o p1 a2 a3 M = some q) : fSp G mX0_moveOn [rv G o, rv G p1, iv a2, iv a3] M (rV q) fNo := by
  refine fSp_of (by decide +kernel) (by decide +kernel) (fC1 rfl (fC1 rfl (fC1 rfl (fC1 rfl fC0)))) (Nat.le_of_ble_eq_true rfl) ?_
  show fW G mX0_moveOn (fEm G mX0_moveOn (rV q) fNo) 0 0 0 [some (rv G o), some (rv G p1), some (iv a2), some (iv a3)] [] M
  rw [f_X0_moveOn] at h
  refine fW_rg (fun hR => ?_)
  refine fW_iload_n 1 dX0_moveOn_0 rfl rfl ?_
  refine fW_iconst 2 dX0_moveOn_1 rfl ?_
  refine fW_icmp_ne 5 25 ga3 (by decide) dX0_moveOn_2 rfl rfl (fun c1 => ?_) (fun c1 => ?_)
  · replace h := fFf h c1
    exact fW_sb (i_X0_moveOn_25 hg ho hp1 ga2 ga3 h) ⟨rfl, rfl, rfl, rfl, trivial⟩
  · replace h := fTt h c1
    refine fW_aload_n 6 dX0_moveOn_5 rfl rfl ?_
    refine fW_getI 9 1 (ji := 1) hg clX4 rfl (by decide) rfl hp1 wd_210 dX0_moveOn_6 rfl ?_
    refine fW_if_eq 12 25 (hR p1 1) dX0_moveOn_9 rfl rfl (fun c8 => ?_) (fun c8 => ?_)
    · replace h := fTt h c8
      exact fW_sb (i_X0_moveOn_25 hg ho hp1 ga2 ga3 h) ⟨rfl, rfl, rfl, rfl, trivial⟩
    · replace h := fFf h c8
      refine fW_aload_n 13 dX0_moveOn_12 rfl rfl ?_
      refine fW_dup 14 dX0_moveOn_13 rfl rfl ?_
      refine fW_getI 17 9 (ji := 9) hg clX0 rfl (by decide) rfl ho wd_264 dX0_moveOn_14 rfl ?_
      refine fW_iconst 18 dX0_moveOn_17 rfl ?_
      refine fW_iadd 19 dX0_moveOn_18 rfl ?_
      obtain ⟨c9, h⟩ := fS h
      obtain ⟨N10, e10, h⟩ := fBd h
      replace e10 := Option.some.inj e10
      refine fW_putI 22 9 (ji := 9) hg clX0 rfl (by decide) rfl rfl rfl ho c9 wd_264 dX0_moveOn_19 rfl ?_
      rw [e10]
      refine fW_rg (fun hR10 => ?_)
      refine fW_goto 52 dX0_moveOn_22 rfl ?_
      exact fW_vret rfl (by decide) (by decide) dX0_moveOn_52 (rV_i h)
def mX0_stepOf : fMt := (yX0_stepOf, cX0_stepOf, 6, none, { frames := 2, cells := 0, slots := 0, locals := 80 })
theorem miX0_stepOf : fMv mX0_stepOf 1 := ⟨⟨fM 499 (by decide +kernel) rfl, fM 90 (by decide +kernel) rfl, ⟨by decide +kernel, by decide +kernel⟩, by decide +kernel⟩, fM 498 (by decide +kernel) rfl, fM 3 (by decide +kernel) rfl⟩
def j_X0_stepOf_113 (o : Nat) (v4 : Int) (v5 : Int) (M : fMem) : Option (fMem) := (if v5 = v4 then (if -2147483648 ≤ (M o 8) + 1 ∧ (M o 8) + 1 < 2147483648 then ((some (mset M o 8 ((M o 8) + 1))).bind fun (N14 : fMem) => some N14) else none) else some M)
set_option maxRecDepth 100000 in
set_option maxHeartbeats 4000000 in
theorem i_X0_stepOf_113 {G : fG} (hg : gbt G = true) {o : Nat} (ho : fTyp o 0) {v4 : Int} {v5 : Int} (gv4 : rg v4) (gv5 : rg v5) {M : fMem} {q : fMem} (h : j_X0_stepOf_113 o v4 v5 M = some q) : fW G mX0_stepOf (fEm G mX0_stepOf (rV q) fNo) 0 0 113 [some (rv G o), none, none, none, some (iv v4), some (iv v5)] [] M := by
  rw [j_X0_stepOf_113] at h
  refine fW_rg (fun hR => ?_)
  refine fW_iload 115 dX0_stepOf_113 rfl rfl ?_
  refine fW_iload 117 dX0_stepOf_115 rfl rfl ?_
  refine fW_icmp_ne 120 130 gv5 gv4 dX0_stepOf_117 rfl rfl (fun c12 => ?_) (fun c12 => ?_)
  · replace h := fFf h c12
    exact fW_vret rfl (by decide) (by decide) dX0_stepOf_130 (rV_i h)
  · replace h := fTt h c12
    refine fW_aload_n 121 dX0_stepOf_120 rfl rfl ?_
    refine fW_dup 122 dX0_stepOf_121 rfl rfl ?_
    refine fW_getI 125 8 (ji := 8) hg clX0 rfl (by decide) rfl ho wd_262 dX0_stepOf_122 rfl ?_
    refine fW_iconst 126 dX0_stepOf_125 rfl ?_
    refine fW_iadd 127 dX0_stepOf_126 rfl ?_
    obtain ⟨c13, h⟩ := fS h
    obtain ⟨N14, e14, h⟩ := fBd h
    replace e14 := Option.some.inj e14
    refine fW_putI 130 8 (ji := 8) hg clX0 rfl (by decide) rfl rfl rfl ho c13 wd_262 dX0_stepOf_127 rfl ?_
    rw [e14]
    refine fW_rg (fun hR14 => ?_)
    exact fW_vret rfl (by decide) (by decide) dX0_stepOf_130 (rV_i h)
def j_X0_stepOf_96 (o : Nat) (w1 : Nat) (v4 : Int) (v5 : Int) (M : fMem) : Option (fMem) := (if v4 < v5 then j_X0_stepOf_113 o v4 v5 M else (if -2147483648 ≤ (M w1 6) + 1 ∧ (M w1 6) + 1 < 2147483648 then ((some (mset M w1 6 ((M w1 6) + 1))).bind fun (N16 : fMem) => j_X0_stepOf_113 o v4 v5 N16) else none))
set_option maxRecDepth 100000 in
set_option maxHeartbeats 4000000 in
theorem i_X0_stepOf_96 {G : fG} (hg : gbt G = true) {o : Nat} (ho : fTyp o 0) {w1 : Nat} {v4 : Int} {v5 : Int} (tw1 : fTyp w1 4) (gv4 : rg v4) (gv5 : rg v5) {M : fMem} {q : fMem} (h : j_X0_stepOf_96 o w1 v4 v5 M = some q) : fW G mX0_stepOf (fEm G mX0_stepOf (rV q) fNo) 0 0 96 [some (rv G o), some (rv G w1), none, none, some (iv v4), some (iv v5)] [] M := by
  rw [j_X0_stepOf_96] at h
  refine fW_rg (fun hR => ?_)
  refine fW_iload 98 dX0_stepOf_96 rfl rfl ?_
  refine fW_iload 100 dX0_stepOf_98 rfl rfl ?_
  refine fW_icmp_gt 103 113 gv5 gv4 dX0_stepOf_100 rfl rfl (fun c11 => ?_) (fun c11 => ?_)
  · replace h := fTt h c11
    exact fW_sb (i_X0_stepOf_113 hg ho gv4 gv5 h) ⟨rfl, rfl, rfl, trivial⟩
  · replace h := fFf h c11
    refine fW_aload_n 104 dX0_stepOf_103 rfl rfl ?_
    refine fW_dup 105 dX0_stepOf_104 rfl rfl ?_
    refine fW_getI 108 6 (ji := 6) hg clX4 rfl (by decide) rfl tw1 wd_221 dX0_stepOf_105 rfl ?_
    refine fW_iconst 109 dX0_stepOf_108 rfl ?_
    refine fW_iadd 110 dX0_stepOf_109 rfl ?_
    obtain ⟨c15, h⟩ := fS h
    obtain ⟨N16, e16, h⟩ := fBd h
    replace e16 := Option.some.inj e16
    refine fW_putI 113 6 (ji := 6) hg clX4 rfl (by decide) rfl rfl rfl tw1 c15 wd_221 dX0_stepOf_110 rfl ?_
    rw [e16]
    refine fW_rg (fun hR16 => ?_)
    exact fW_sb (i_X0_stepOf_113 hg ho gv4 gv5 h) ⟨rfl, rfl, rfl, trivial⟩
def f_X0_stepOf (o : Nat) (p1 : Nat) (M : fMem) : Option (fMem) := (if 0 ≤ M p1 2 ∧ M p1 2 < 19 then (if 0 ≤ M p1 3 ∧ M p1 3 < 19 then ((f_X6_keyAt (o + 3 * (M p1 2).toNat + 4) (M p1 5) M).bind fun (r5 : Int) => ((f_X6_keyAt (o + 3 * (M p1 3).toNat + 4) (M p1 6) M).bind fun (r6 : Int) => (if r6 < r5 then ((f_X6_valueAt (o + 3 * (M p1 3).toNat + 4) (M p1 6) M).bind fun (r8 : Int) => ((f_X0_moveOn o p1 r6 r8 M).bind fun (r9 : fMem) => j_X0_stepOf_96 o p1 r5 r6 r9)) else ((f_X6_valueAt (o + 3 * (M p1 2).toNat + 4) (M p1 5) M).bind fun (r17 : Int) => ((f_X0_moveOn o p1 r5 r17 M).bind fun (r18 : fMem) => (if -2147483648 ≤ (r18 p1 5) + 1 ∧ (r18 p1 5) + 1 < 2147483648 then ((some (mset r18 p1 5 ((r18 p1 5) + 1))).bind fun (N21 : fMem) => j_X0_stepOf_96 o p1 r5 r6 N21) else none)))))) else none) else none)
set_option maxRecDepth 100000 in
set_option maxHeartbeats 4000000 in
theorem s_X0_stepOf {G : fG} (hg : gbt G = true) {o : Nat} (ho : fTyp o 0) {p1 : Nat} (hp1 : fTyp p1 4) {M : fMem} {q : fMem} (h : f_X0_stepOf o p1 M = some q) : fSp G mX0_stepOf [rv G o, rv G p1] M (rV q) fNo := by
  refine fSp_of (by decide +kernel) (by decide +kernel) (fC1 rfl (fC1 rfl fC0)) (Nat.le_of_ble_eq_true rfl) ?_
  show fW G mX0_stepOf (fEm G mX0_stepOf (rV q) fNo) 0 0 0 [some (rv G o), some (rv G p1), none, none, none, none] [] M
  rw [f_X0_stepOf] at h
  refine fW_rg (fun hR => ?_)
  refine fW_aload_n 1 dX0_stepOf_0 rfl rfl ?_
  refine fW_getR 4 (r := o + 1) 0 hg clX0 (by decide) rfl ho (tf_0_0 ho) wd_247 dX0_stepOf_1 rfl ?_
  refine fW_getR 7 (r := o + 2) 0 hg clX7 (by decide) rfl (tt_0_0 ho) (tf_7_0 (tt_0_0 ho)) wd_183 dX0_stepOf_4 rfl ?_
  refine fW_aload_n 8 dX0_stepOf_7 rfl rfl ?_
  refine fW_getI 11 2 (ji := 2) hg clX4 rfl (by decide) rfl hp1 wd_213 dX0_stepOf_8 rfl ?_
  obtain ⟨c1, h⟩ := fS h
  have t2 := ta_16 (r := o + 3 * (M p1 2).toNat + 4) (tt_7_0 (tt_0_0 ho)) c1 (by omega)
  refine fW_aald 12 4 hg (tt_7_0 (tt_0_0 ho)) (by decide) (by decide) t2.1 t2.2.2 rfl dX0_stepOf_11 rfl ?_
  refine fW_astore_n 13 (ls' := [some (rv G o), some (rv G p1), some (rv G (o + 3 * (M p1 2).toNat + 4)), none, none, none]) dX0_stepOf_12 rfl rfl rfl (by decide) ?_
  refine fW_aload_n 14 dX0_stepOf_13 rfl rfl ?_
  refine fW_getR 17 (r := o + 1) 0 hg clX0 (by decide) rfl ho (tf_0_0 ho) wd_247 dX0_stepOf_14 rfl ?_
  refine fW_getR 20 (r := o + 2) 0 hg clX7 (by decide) rfl (tt_0_0 ho) (tf_7_0 (tt_0_0 ho)) wd_183 dX0_stepOf_17 rfl ?_
  refine fW_aload_n 21 dX0_stepOf_20 rfl rfl ?_
  refine fW_getI 24 3 (ji := 3) hg clX4 rfl (by decide) rfl hp1 wd_215 dX0_stepOf_21 rfl ?_
  obtain ⟨c3, h⟩ := fS h
  have t4 := ta_16 (r := o + 3 * (M p1 3).toNat + 4) (tt_7_0 (tt_0_0 ho)) c3 (by omega)
  refine fW_aald 25 4 hg (tt_7_0 (tt_0_0 ho)) (by decide) (by decide) t4.1 t4.2.2 rfl dX0_stepOf_24 rfl ?_
  refine fW_astore_n 26 (ls' := [some (rv G o), some (rv G p1), some (rv G (o + 3 * (M p1 2).toNat + 4)), some (rv G (o + 3 * (M p1 3).toNat + 4)), none, none]) dX0_stepOf_25 rfl rfl rfl (by decide) ?_
  refine fW_aload_n 27 dX0_stepOf_26 rfl rfl ?_
  refine fW_aload_n 28 dX0_stepOf_27 rfl rfl ?_
  refine fW_getI 31 5 (ji := 5) hg clX4 rfl (by decide) rfl hp1 wd_219 dX0_stepOf_28 rfl ?_
  obtain ⟨r5, e5, h⟩ := fBd h
  refine fW_cP (fI_V (as := [iv (M p1 5)]) (rest := []) miX6_keyAt hg clX6 rfl t2.2.1 wd_500 (fRoom_of rfl) rfl (Nat.le_of_ble_eq_true rfl) dX0_stepOf_31) (s_X6_keyAt hg t2.2.1 (hR p1 5) e5) rfl rfl rfl (fun g5 => ?_)
  refine fW_istore 36 (ls' := [some (rv G o), some (rv G p1), some (rv G (o + 3 * (M p1 2).toNat + 4)), some (rv G (o + 3 * (M p1 3).toNat + 4)), some (iv r5), none]) dX0_stepOf_34 rfl rfl (by decide) ?_
  refine fW_aload_n 37 dX0_stepOf_36 rfl rfl ?_
  refine fW_aload_n 38 dX0_stepOf_37 rfl rfl ?_
  refine fW_getI 41 6 (ji := 6) hg clX4 rfl (by decide) rfl hp1 wd_221 dX0_stepOf_38 rfl ?_
  obtain ⟨r6, e6, h⟩ := fBd h
  refine fW_cP (fI_V (as := [iv (M p1 6)]) (rest := []) miX6_keyAt hg clX6 rfl t4.2.1 wd_500 (fRoom_of rfl) rfl (Nat.le_of_ble_eq_true rfl) dX0_stepOf_41) (s_X6_keyAt hg t4.2.1 (hR p1 6) e6) rfl rfl rfl (fun g6 => ?_)
  refine fW_istore 46 (ls' := [some (rv G o), some (rv G p1), some (rv G (o + 3 * (M p1 2).toNat + 4)), some (rv G (o + 3 * (M p1 3).toNat + 4)), some (iv r5), some (iv r6)]) dX0_stepOf_44 rfl rfl (by decide) ?_
  refine fW_iload 48 dX0_stepOf_46 rfl rfl ?_
  refine fW_iload 50 dX0_stepOf_48 rfl rfl ?_
  refine fW_icmp_gt 53 81 g5 g6 dX0_stepOf_50 rfl rfl (fun c7 => ?_) (fun c7 => ?_)
  · replace h := fTt h c7
    refine fW_aload_n 82 dX0_stepOf_81 rfl rfl ?_
    refine fW_aload_n 83 dX0_stepOf_82 rfl rfl ?_
    refine fW_iload 85 dX0_stepOf_83 rfl rfl ?_
    refine fW_aload_n 86 dX0_stepOf_85 rfl rfl ?_
    refine fW_aload_n 87 dX0_stepOf_86 rfl rfl ?_
    refine fW_getI 90 6 (ji := 6) hg clX4 rfl (by decide) rfl hp1 wd_221 dX0_stepOf_87 rfl ?_
    obtain ⟨r8, e8, h⟩ := fBd h
    refine fW_cP (fI_V (as := [iv (M p1 6)]) (rest := [iv r6, rv G p1, rv G o]) miX6_valueAt hg clX6 rfl t4.2.1 wd_504 (fRoom_of rfl) rfl (Nat.le_of_ble_eq_true rfl) dX0_stepOf_90) (s_X6_valueAt hg t4.2.1 (hR p1 6) e8) rfl rfl rfl (fun g8 => ?_)
    obtain ⟨r9, e9, h⟩ := fBd h
    refine fW_cV (fI_V (as := [rv G p1, iv r6, iv r8]) (rest := []) miX0_moveOn hg clX0 rfl ho wd_508 (fRoom_of rfl) rfl (Nat.le_of_ble_eq_true rfl) dX0_stepOf_93) (s_X0_moveOn hg ho hp1 g6 g8 e9) rfl rfl rfl ?_
    refine fW_rg (fun hR10 => ?_)
    exact fW_sb (i_X0_stepOf_96 hg ho hp1 g5 g6 h) ⟨rfl, rfl, rfl, rfl, trivial⟩
  · replace h := fFf h c7
    refine fW_aload_n 54 dX0_stepOf_53 rfl rfl ?_
    refine fW_aload_n 55 dX0_stepOf_54 rfl rfl ?_
    refine fW_iload 57 dX0_stepOf_55 rfl rfl ?_
    refine fW_aload_n 58 dX0_stepOf_57 rfl rfl ?_
    refine fW_aload_n 59 dX0_stepOf_58 rfl rfl ?_
    refine fW_getI 62 5 (ji := 5) hg clX4 rfl (by decide) rfl hp1 wd_219 dX0_stepOf_59 rfl ?_
    obtain ⟨r17, e17, h⟩ := fBd h
    refine fW_cP (fI_V (as := [iv (M p1 5)]) (rest := [iv r5, rv G p1, rv G o]) miX6_valueAt hg clX6 rfl t2.2.1 wd_504 (fRoom_of rfl) rfl (Nat.le_of_ble_eq_true rfl) dX0_stepOf_62) (s_X6_valueAt hg t2.2.1 (hR p1 5) e17) rfl rfl rfl (fun g17 => ?_)
    obtain ⟨r18, e18, h⟩ := fBd h
    refine fW_cV (fI_V (as := [rv G p1, iv r5, iv r17]) (rest := []) miX0_moveOn hg clX0 rfl ho wd_508 (fRoom_of rfl) rfl (Nat.le_of_ble_eq_true rfl) dX0_stepOf_65) (s_X0_moveOn hg ho hp1 g5 g17 e18) rfl rfl rfl ?_
    refine fW_rg (fun hR19 => ?_)
    refine fW_aload_n 69 dX0_stepOf_68 rfl rfl ?_
    refine fW_dup 70 dX0_stepOf_69 rfl rfl ?_
    refine fW_getI 73 5 (ji := 5) hg clX4 rfl (by decide) rfl hp1 wd_219 dX0_stepOf_70 rfl ?_
    refine fW_iconst 74 dX0_stepOf_73 rfl ?_
    refine fW_iadd 75 dX0_stepOf_74 rfl ?_
    obtain ⟨c20, h⟩ := fS h
    obtain ⟨N21, e21, h⟩ := fBd h
    replace e21 := Option.some.inj e21
    refine fW_putI 78 5 (ji := 5) hg clX4 rfl (by decide) rfl rfl rfl hp1 c20 wd_219 dX0_stepOf_75 rfl ?_
    rw [e21]
    refine fW_rg (fun hR21 => ?_)
    refine fW_goto 96 dX0_stepOf_78 rfl ?_
    exact fW_sb (i_X0_stepOf_96 hg ho hp1 g5 g6 h) ⟨rfl, rfl, rfl, rfl, trivial⟩
def mX0_leftOf : fMt := (yX0_leftOf, cX0_leftOf, 3, some .int, { frames := 0, cells := 0, slots := 0, locals := 0 })
theorem miX0_leftOf : fMv mX0_leftOf 1 := ⟨⟨fM 519 (by decide +kernel) rfl, fM 90 (by decide +kernel) rfl, ⟨by decide +kernel, by decide +kernel⟩, by decide +kernel⟩, fM 517 (by decide +kernel) rfl, fM 518 (by decide +kernel) rfl⟩
def f_X0_leftOf (o : Nat) (a1 : Int) (M : fMem) : Option (Int) := (if 0 ≤ a1 ∧ a1 < 9 then (if (M (o + a1.toNat + 62) 0) = 0 then some 0 else (if 0 ≤ M (o + a1.toNat + 62) 2 ∧ M (o + a1.toNat + 62) 2 < 19 then (if 0 ≤ M (o + a1.toNat + 62) 3 ∧ M (o + a1.toNat + 62) 3 < 19 then (if -2147483648 ≤ (((M (o + 3 * (M (o + a1.toNat + 62) 2).toNat + 4) 3) - (M (o + a1.toNat + 62) 5)) + (M (o + 3 * (M (o + a1.toNat + 62) 3).toNat + 4) 3)) - (M (o + a1.toNat + 62) 6) ∧ (((M (o + 3 * (M (o + a1.toNat + 62) 2).toNat + 4) 3) - (M (o + a1.toNat + 62) 5)) + (M (o + 3 * (M (o + a1.toNat + 62) 3).toNat + 4) 3)) - (M (o + a1.toNat + 62) 6) < 2147483648 then some ((((M (o + 3 * (M (o + a1.toNat + 62) 2).toNat + 4) 3) - (M (o + a1.toNat + 62) 5)) + (M (o + 3 * (M (o + a1.toNat + 62) 3).toNat + 4) 3)) - (M (o + a1.toNat + 62) 6)) else none) else none) else none)) else none)
set_option maxRecDepth 100000 in
set_option maxHeartbeats 4000000 in
theorem s_X0_leftOf {G : fG} (hg : gbt G = true) {o : Nat} (ho : fTyp o 0) {a1 : Int} (ga1 : rg a1) {M : fMem} {q : Int} (h : f_X0_leftOf o a1 M = some q) : fSp G mX0_leftOf [rv G o, iv a1] M (rP M q) fNo := by
  refine fSp_of (by decide +kernel) (by decide +kernel) (fC1 rfl (fC1 rfl fC0)) (Nat.le_of_ble_eq_true rfl) ?_
  show fW G mX0_leftOf (fEm G mX0_leftOf (rP M q) fNo) 0 0 0 [some (rv G o), some (iv a1), none] [] M
  rw [f_X0_leftOf] at h
  refine fW_rg (fun hR => ?_)
  refine fW_aload_n 1 dX0_leftOf_0 rfl rfl ?_
  refine fW_getR 4 (r := o + 61) 1 hg clX0 (by decide) rfl ho (tf_0_1 ho) wd_249 dX0_leftOf_1 rfl ?_
  refine fW_iload_n 5 dX0_leftOf_4 rfl rfl ?_
  obtain ⟨c1, h⟩ := fS h
  have t2 := ta_15 (r := o + a1.toNat + 62) (tt_0_1 ho) c1 (by omega)
  refine fW_aald 6 3 hg (tt_0_1 ho) (by decide) (by decide) t2.1 t2.2.2 rfl dX0_leftOf_5 rfl ?_
  refine fW_astore_n 7 (ls' := [some (rv G o), some (iv a1), some (rv G (o + a1.toNat + 62))]) dX0_leftOf_6 rfl rfl rfl (by decide) ?_
  refine fW_aload_n 8 dX0_leftOf_7 rfl rfl ?_
  refine fW_getI 11 0 (ji := 0) hg clX4 rfl (by decide) rfl t2.2.1 wd_207 dX0_leftOf_8 rfl ?_
  refine fW_if_ne 14 16 (hR (o + a1.toNat + 62) 0) dX0_leftOf_11 rfl rfl (fun c3 => ?_) (fun c3 => ?_)
  · replace h := fFf h c3
    refine fW_aload_n 17 dX0_leftOf_16 rfl rfl ?_
    refine fW_getR 20 (r := o + 1) 0 hg clX0 (by decide) rfl ho (tf_0_0 ho) wd_247 dX0_leftOf_17 rfl ?_
    refine fW_getR 23 (r := o + 2) 0 hg clX7 (by decide) rfl (tt_0_0 ho) (tf_7_0 (tt_0_0 ho)) wd_183 dX0_leftOf_20 rfl ?_
    refine fW_aload_n 24 dX0_leftOf_23 rfl rfl ?_
    refine fW_getI 27 2 (ji := 2) hg clX4 rfl (by decide) rfl t2.2.1 wd_213 dX0_leftOf_24 rfl ?_
    obtain ⟨c4, h⟩ := fS h
    have t5 := ta_16 (r := o + 3 * (M (o + a1.toNat + 62) 2).toNat + 4) (tt_7_0 (tt_0_0 ho)) c4 (by omega)
    refine fW_aald 28 4 hg (tt_7_0 (tt_0_0 ho)) (by decide) (by decide) t5.1 t5.2.2 rfl dX0_leftOf_27 rfl ?_
    refine fW_getI 31 3 (ji := 3) hg clX6 rfl (by decide) rfl t5.2.1 wd_159 dX0_leftOf_28 rfl ?_
    refine fW_aload_n 32 dX0_leftOf_31 rfl rfl ?_
    refine fW_getI 35 5 (ji := 5) hg clX4 rfl (by decide) rfl t2.2.1 wd_219 dX0_leftOf_32 rfl ?_
    refine fW_isub 36 dX0_leftOf_35 rfl ?_
    refine fW_aload_n 37 dX0_leftOf_36 rfl rfl ?_
    refine fW_getR 40 (r := o + 1) 0 hg clX0 (by decide) rfl ho (tf_0_0 ho) wd_247 dX0_leftOf_37 rfl ?_
    refine fW_getR 43 (r := o + 2) 0 hg clX7 (by decide) rfl (tt_0_0 ho) (tf_7_0 (tt_0_0 ho)) wd_183 dX0_leftOf_40 rfl ?_
    refine fW_aload_n 44 dX0_leftOf_43 rfl rfl ?_
    refine fW_getI 47 3 (ji := 3) hg clX4 rfl (by decide) rfl t2.2.1 wd_215 dX0_leftOf_44 rfl ?_
    obtain ⟨c6, h⟩ := fS h
    have t7 := ta_16 (r := o + 3 * (M (o + a1.toNat + 62) 3).toNat + 4) (tt_7_0 (tt_0_0 ho)) c6 (by omega)
    refine fW_aald 48 4 hg (tt_7_0 (tt_0_0 ho)) (by decide) (by decide) t7.1 t7.2.2 rfl dX0_leftOf_47 rfl ?_
    refine fW_getI 51 3 (ji := 3) hg clX6 rfl (by decide) rfl t7.2.1 wd_159 dX0_leftOf_48 rfl ?_
    refine fW_iadd 52 dX0_leftOf_51 rfl ?_
    refine fW_aload_n 53 dX0_leftOf_52 rfl rfl ?_
    refine fW_getI 56 6 (ji := 6) hg clX4 rfl (by decide) rfl t2.2.1 wd_221 dX0_leftOf_53 rfl ?_
    refine fW_isub 57 dX0_leftOf_56 rfl ?_
    obtain ⟨c8, h⟩ := fS h
    exact fW_iret rfl (by decide) (by decide) dX0_leftOf_57 (rP_i h c8)
  · replace h := fTt h c3
    refine fW_iconst 15 dX0_leftOf_14 rfl ?_
    exact fW_iret rfl (by decide) (by decide) dX0_leftOf_15 (rP_i h (by decide))
def mX6_clear : fMt := (yX6_clear, cX6_clear, 2, none, { frames := 0, cells := 0, slots := 0, locals := 0 })
theorem miX6_clear : fMv mX6_clear 1 := ⟨⟨fM 527 (by decide +kernel) rfl, fM 92 (by decide +kernel) rfl, ⟨by decide +kernel, by decide +kernel⟩, by decide +kernel⟩, fM 525 (by decide +kernel) rfl, fM 526 (by decide +kernel) rfl⟩
def f_X6_clear (o : Nat) (a1 : Int) (M : fMem) : Option (fMem) := ((some (mset M o 2 a1)).bind fun (N1 : fMem) => ((some (mset N1 o 3 0)).bind fun (N2 : fMem) => ((some (mset N2 o 4 0)).bind fun (N3 : fMem) => some N3)))
set_option maxRecDepth 100000 in
set_option maxHeartbeats 4000000 in
theorem s_X6_clear {G : fG} (hg : gbt G = true) {o : Nat} (ho : fTyp o 6) {a1 : Int} (ga1 : rg a1) {M : fMem} {q : fMem} (h : f_X6_clear o a1 M = some q) : fSp G mX6_clear [rv G o, iv a1] M (rV q) fNo := by
  refine fSp_of (by decide +kernel) (by decide +kernel) (fC1 rfl (fC1 rfl fC0)) (Nat.le_of_ble_eq_true rfl) ?_
  show fW G mX6_clear (fEm G mX6_clear (rV q) fNo) 0 0 0 [some (rv G o), some (iv a1)] [] M
  rw [f_X6_clear] at h
  refine fW_rg (fun hR => ?_)
  refine fW_aload_n 1 dX6_clear_0 rfl rfl ?_
  refine fW_iload_n 2 dX6_clear_1 rfl rfl ?_
  obtain ⟨N1, e1, h⟩ := fBd h
  replace e1 := Option.some.inj e1
  refine fW_putI 5 2 (ji := 2) hg clX6 rfl (by decide) rfl rfl rfl ho ga1 wd_150 dX6_clear_2 rfl ?_
  rw [e1]
  refine fW_rg (fun hR1 => ?_)
  refine fW_aload_n 6 dX6_clear_5 rfl rfl ?_
  refine fW_iconst 7 dX6_clear_6 rfl ?_
  obtain ⟨N2, e2, h⟩ := fBd h
  replace e2 := Option.some.inj e2
  refine fW_putI 10 3 (ji := 3) hg clX6 rfl (by decide) rfl rfl rfl ho (by decide) wd_154 dX6_clear_7 rfl ?_
  rw [e2]
  refine fW_rg (fun hR2 => ?_)
  refine fW_aload_n 11 dX6_clear_10 rfl rfl ?_
  refine fW_iconst 12 dX6_clear_11 rfl ?_
  obtain ⟨N3, e3, h⟩ := fBd h
  replace e3 := Option.some.inj e3
  refine fW_putI 15 4 (ji := 4) hg clX6 rfl (by decide) rfl rfl rfl ho (by decide) wd_161 dX6_clear_12 rfl ?_
  rw [e3]
  refine fW_rg (fun hR3 => ?_)
  exact fW_vret rfl (by decide) (by decide) dX6_clear_15 (rV_i h)
def mX0_shut : fMt := (yX0_shut, cX0_shut, 2, none, { frames := 0, cells := 0, slots := 0, locals := 0 })
theorem miX0_shut : fMv mX0_shut 1 := ⟨⟨fM 531 (by decide +kernel) rfl, fM 90 (by decide +kernel) rfl, ⟨by decide +kernel, by decide +kernel⟩, by decide +kernel⟩, fM 529 (by decide +kernel) rfl, fM 530 (by decide +kernel) rfl⟩
def f_X0_shut (o : Nat) (p1 : Nat) (M : fMem) : Option (fMem) := (if -2147483648 ≤ (M o 3) + 1 ∧ (M o 3) + 1 < 2147483648 then ((some (mset M o 3 ((M o 3) + 1))).bind fun (N2 : fMem) => ((some (mset N2 p1 5 (N2 o 3))).bind fun (N3 : fMem) => ((some (mset N3 p1 2 2)).bind fun (N4 : fMem) => some N4))) else none)
set_option maxRecDepth 100000 in
set_option maxHeartbeats 4000000 in
theorem s_X0_shut {G : fG} (hg : gbt G = true) {o : Nat} (ho : fTyp o 0) {p1 : Nat} (hp1 : fTyp p1 6) {M : fMem} {q : fMem} (h : f_X0_shut o p1 M = some q) : fSp G mX0_shut [rv G o, rv G p1] M (rV q) fNo := by
  refine fSp_of (by decide +kernel) (by decide +kernel) (fC1 rfl (fC1 rfl fC0)) (Nat.le_of_ble_eq_true rfl) ?_
  show fW G mX0_shut (fEm G mX0_shut (rV q) fNo) 0 0 0 [some (rv G o), some (rv G p1)] [] M
  rw [f_X0_shut] at h
  refine fW_rg (fun hR => ?_)
  refine fW_aload_n 1 dX0_shut_0 rfl rfl ?_
  refine fW_dup 2 dX0_shut_1 rfl rfl ?_
  refine fW_getI 5 3 (ji := 3) hg clX0 rfl (by decide) rfl ho wd_253 dX0_shut_2 rfl ?_
  refine fW_iconst 6 dX0_shut_5 rfl ?_
  refine fW_iadd 7 dX0_shut_6 rfl ?_
  obtain ⟨c1, h⟩ := fS h
  obtain ⟨N2, e2, h⟩ := fBd h
  replace e2 := Option.some.inj e2
  refine fW_putI 10 3 (ji := 3) hg clX0 rfl (by decide) rfl rfl rfl ho c1 wd_253 dX0_shut_7 rfl ?_
  rw [e2]
  refine fW_rg (fun hR2 => ?_)
  refine fW_aload_n 11 dX0_shut_10 rfl rfl ?_
  refine fW_aload_n 12 dX0_shut_11 rfl rfl ?_
  refine fW_getI 15 3 (ji := 3) hg clX0 rfl (by decide) rfl ho wd_253 dX0_shut_12 rfl ?_
  obtain ⟨N3, e3, h⟩ := fBd h
  replace e3 := Option.some.inj e3
  refine fW_putI 18 5 (ji := 5) hg clX6 rfl (by decide) rfl rfl rfl hp1 (hR2 o 3) wd_165 dX0_shut_15 rfl ?_
  rw [e3]
  refine fW_rg (fun hR3 => ?_)
  refine fW_aload_n 19 dX0_shut_18 rfl rfl ?_
  refine fW_iconst 20 dX0_shut_19 rfl ?_
  obtain ⟨N4, e4, h⟩ := fBd h
  replace e4 := Option.some.inj e4
  refine fW_putI 23 2 (ji := 2) hg clX6 rfl (by decide) rfl rfl rfl hp1 (by decide) wd_151 dX0_shut_20 rfl ?_
  rw [e4]
  refine fW_rg (fun hR4 => ?_)
  exact fW_vret rfl (by decide) (by decide) dX0_shut_23 (rV_i h)
end MTH
