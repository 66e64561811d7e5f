section MTH
def mX7_arrange : fMt := (yX7_arrange, cX7_arrange, 4, some .int, { frames := 1, cells := 0, slots := 0, locals := 40 })
theorem miX7_arrange : fMv mX7_arrange 0 := ⟨⟨fM 599 (by decide +kernel) rfl, fM 91 (by decide +kernel) rfl, ⟨by decide +kernel, by decide +kernel⟩, by decide +kernel⟩, fM 597 (by decide +kernel) rfl, fM 598 (by decide +kernel) rfl⟩
def L_X7_arrange_24 (o : Nat) (k : Int → fMem → Option (Int × fMem)) : Nat → Int → Int → Int → fMem → Option (Int × fMem)
  | 0, _, _, _, _ => none
  | n + 1, v1, v2, v3, M => (if 0 ≤ v1 ∧ v1 < 9 then (if (ER v1) ≤ v3 then k v1 M else (if 0 ≤ v3 ∧ v3 < 19 then ((f_X6_isShut (o + 3 * v3.toNat + 3) M).bind fun (r8 : Int) => (if r8 = 0 then L_X7_arrange_24 o k n v1 v2 (v3 + 1) M else ((f_X7_insert o v3 v2 M).bind fun (r10 : fMem) => L_X7_arrange_24 o k n v1 v2 (v3 + 1) r10))) else none)) else none)
set_option maxRecDepth 100000 in
set_option maxHeartbeats 4000000 in
theorem l_X7_arrange_24 {G : fG} (hg : gbt G = true) {o : Nat} (ho : fTyp o 7) {q : Int × fMem} {k : Int → fMem → Option (Int × fMem)} (hk : ∀ (v1 : Int) (M : fMem), rg v1 → k v1 M = some q → fW G mX7_arrange (fEm G mX7_arrange (rP q.2 q.1) fNo) 0 0 57 [some (rv G o), some (iv v1), none, none] [] M) : ∀ (n : Nat) (v1 : Int) (v2 : Int) (v3 : Int) (M : fMem), rg v1 → rg v2 → rg v3 → L_X7_arrange_24 o k n v1 v2 v3 M = some q → fW G mX7_arrange (fEm G mX7_arrange (rP q.2 q.1) fNo) 0 0 24 [some (rv G o), some (iv v1), some (iv v2), some (iv v3)] [] M := by
  intro n
  induction n with
  | zero =>
    intro v1 v2 v3 M gv1 gv2 gv3 h
    rw [L_X7_arrange_24] at h
    exact absurd h (by simp)
  | succ n ih =>
    intro v1 v2 v3 M gv1 gv2 gv3 h
    rw [L_X7_arrange_24] at h
    refine fW_rg (fun hR => ?_)
    refine fW_iload_n 25 dX7_arrange_24 rfl rfl ?_
    refine fW_getsN 28 (host := "RowStore") 1 (by decide) (by decide +kernel) dX7_arrange_25 rfl ?_
    refine fW_iload_n 29 dX7_arrange_28 rfl rfl ?_
    obtain ⟨c4, h⟩ := fS h
    refine fW_sald 30 1 (by decide) c4 dX7_arrange_29 rfl ?_
    rw [show SV 1 v1 = ER v1 from rfl]
    refine fW_icmp_ge 33 57 gv3 (rg_ER c4) dX7_arrange_30 rfl rfl (fun c5 => ?_) (fun c5 => ?_)
    · replace h := fTt h c5
      exact fW_sb (hk v1 M gv1 h) ⟨rfl, rfl, trivial⟩
    · replace h := fFf h c5
      refine fW_aload_n 34 dX7_arrange_33 rfl rfl ?_
      refine fW_getR 37 (r := o + 1) 0 hg clX7 (by decide) rfl ho (tf_7_0 ho) wd_180 dX7_arrange_34 rfl ?_
      refine fW_iload_n 38 dX7_arrange_37 rfl rfl ?_
      obtain ⟨c6, h⟩ := fS h
      have t7 := ta_16 (r := o + 3 * v3.toNat + 3) (tt_7_0 ho) c6 (by omega)
      refine fW_aald 39 4 hg (tt_7_0 ho) (by decide) (by decide) t7.1 t7.2.2 rfl dX7_arrange_38 rfl ?_
      obtain ⟨r8, e8, h⟩ := fBd h
      refine fW_cB (fI_V (as := []) (rest := []) miX6_isShut hg clX6 rfl t7.2.1 wd_600 (fRoom_of rfl) rfl (Nat.le_of_ble_eq_true rfl) dX7_arrange_39) (s_X6_isShut hg t7.2.1 e8) rfl rfl rfl (fun g8 => ?_)
      refine fW_if_eq 45 51 (rg_z g8) dX7_arrange_42 rfl rfl (fun c9 => ?_) (fun c9 => ?_)
      · replace h := fTt h c9
        refine fW_iinc 54 (ls' := [some (rv G o), some (iv v1), some (iv v2), some (iv (v3 + 1))]) dX7_arrange_51 rfl rfl rfl (by decide) ?_
        refine fW_goto 24 dX7_arrange_54 rfl ?_
        exact fW_sb (ih v1 v2 (v3 + 1) M gv1 gv2 (rg_succ' gv3 (rg_ER c4) c5) h) ⟨rfl, rfl, rfl, rfl, trivial⟩
      · replace h := fFf h c9
        refine fW_aload_n 46 dX7_arrange_45 rfl rfl ?_
        refine fW_iload_n 47 dX7_arrange_46 rfl rfl ?_
        refine fW_iload_n 48 dX7_arrange_47 rfl rfl ?_
        obtain ⟨r10, e10, h⟩ := fBd h
        refine fW_cV (fI_V (as := [iv v3, iv v2]) (rest := []) miX7_insert hg clX7 rfl ho wd_604 (fRoom_of rfl) rfl (Nat.le_of_ble_eq_true rfl) dX7_arrange_48) (s_X7_insert hg ho gv3 gv2 e10) rfl rfl rfl ?_
        refine fW_rg (fun hR11 => ?_)
        refine fW_iinc 54 (ls' := [some (rv G o), some (iv v1), some (iv v2), some (iv (v3 + 1))]) dX7_arrange_51 rfl rfl rfl (by decide) ?_
        refine fW_goto 24 dX7_arrange_54 rfl ?_
        exact fW_sb (ih v1 v2 (v3 + 1) r10 gv1 gv2 (rg_succ' gv3 (rg_ER c4) c5) h) ⟨rfl, rfl, rfl, rfl, trivial⟩
def L_X7_arrange_7 (o : Nat) (k : fMem → Option (Int × fMem)) : Nat → Int → fMem → Option (Int × fMem)
  | 0, _, _ => none
  | n + 1, v1, M => (if 9 ≤ v1 then k  M else (if 0 ≤ v1 ∧ v1 < 9 then L_X7_arrange_24 o (fun (v1_12 : Int) (M_12 : fMem) => (if -2147483648 ≤ v1_12 + 1 ∧ v1_12 + 1 < 2147483648 then L_X7_arrange_7 o k n (v1_12 + 1) M_12 else none)) 20000 v1 (M o 2) (FR v1) M else none))
set_option maxRecDepth 100000 in
set_option maxHeartbeats 4000000 in
theorem l_X7_arrange_7 {G : fG} (hg : gbt G = true) {o : Nat} (ho : fTyp o 7) {q : Int × fMem} {k : fMem → Option (Int × fMem)} (hk : ∀ (M : fMem), k M = some q → fW G mX7_arrange (fEm G mX7_arrange (rP q.2 q.1) fNo) 0 0 63 [some (rv G o), none, none, none] [] M) : ∀ (n : Nat) (v1 : Int) (M : fMem), rg v1 → L_X7_arrange_7 o k n v1 M = some q → fW G mX7_arrange (fEm G mX7_arrange (rP q.2 q.1) fNo) 0 0 7 [some (rv G o), some (iv v1), none, none] [] M := by
  intro n
  induction n with
  | zero =>
    intro v1 M gv1 h
    rw [L_X7_arrange_7] at h
    exact absurd h (by simp)
  | succ n ih =>
    intro v1 M gv1 h
    rw [L_X7_arrange_7] at h
    refine fW_rg (fun hR => ?_)
    refine fW_iload_n 8 dX7_arrange_7 rfl rfl ?_
    refine fW_bipush 10 dX7_arrange_8 rfl (by decide) ?_
    refine fW_icmp_ge 13 63 gv1 (by decide) dX7_arrange_10 rfl rfl (fun c2 => ?_) (fun c2 => ?_)
    · replace h := fTt h c2
      exact fW_sb (hk M h) ⟨rfl, trivial⟩
    · replace h := fFf h c2
      refine fW_aload_n 14 dX7_arrange_13 rfl rfl ?_
      refine fW_getI 17 2 (ji := 2) hg clX7 rfl (by decide) rfl ho wd_190 dX7_arrange_14 rfl ?_
      refine fW_istore_n 18 (ls' := [some (rv G o), some (iv v1), some (iv (M o 2)), none]) dX7_arrange_17 rfl rfl rfl (by decide) ?_
      refine fW_getsN 21 (host := "RowStore") 0 (by decide) (by decide +kernel) dX7_arrange_18 rfl ?_
      refine fW_iload_n 22 dX7_arrange_21 rfl rfl ?_
      obtain ⟨c3, h⟩ := fS h
      refine fW_sald 23 0 (by decide) c3 dX7_arrange_22 rfl ?_
      rw [show SV 0 v1 = FR v1 from rfl]
      refine fW_istore_n 24 (ls' := [some (rv G o), some (iv v1), some (iv (M o 2)), some (iv (FR v1))]) dX7_arrange_23 rfl rfl rfl (by decide) ?_
      refine fW_sb (l_X7_arrange_24 hg ho ?_ 20000 v1 (M o 2) (FR v1) M gv1 (hR o 2) (rg_FR c3) h) ⟨rfl, rfl, rfl, rfl, trivial⟩
      intro v1_12 M_12 gv1_12 h
      refine fW_rg (fun hR_12 => ?_)
      refine fW_iinc 60 (ls' := [some (rv G o), some (iv (v1_12 + 1)), none, none]) dX7_arrange_57 rfl rfl rfl (by decide) ?_
      refine fW_goto 7 dX7_arrange_60 rfl ?_
      obtain ⟨c13, h⟩ := fS h
      exact fW_sb (ih (v1_12 + 1) M_12 c13 h) ⟨rfl, rfl, trivial⟩
def f_X7_arrange (o : Nat) (M : fMem) : Option (Int × fMem) := L_X7_arrange_7 o (fun  (M_14 : fMem) => some (M_14 o 2, M_14)) 20000 0 (mset M o 2 0)
set_option maxRecDepth 100000 in
set_option maxHeartbeats 4000000 in
theorem s_X7_arrange {G : fG} (hg : gbt G = true) {o : Nat} (ho : fTyp o 7) {M : fMem} {q : Int × fMem} (h : f_X7_arrange o M = some q) : fSp G mX7_arrange [rv G o] M (rP q.2 q.1) fNo := by
  refine fSp_of (by decide +kernel) (by decide +kernel) (fC1 rfl fC0) (Nat.le_of_ble_eq_true rfl) ?_
  show fW G mX7_arrange (fEm G mX7_arrange (rP q.2 q.1) fNo) 0 0 0 [some (rv G o), none, none, none] [] M
  rw [f_X7_arrange] at h
  refine fW_rg (fun hR => ?_)
  refine fW_aload_n 1 dX7_arrange_0 rfl rfl ?_
  refine fW_iconst 2 dX7_arrange_1 rfl ?_
  refine fW_putI 5 2 (ji := 2) hg clX7 rfl (by decide) rfl rfl rfl ho (by decide) wd_190 dX7_arrange_2 rfl ?_
  refine fW_rg (fun hR1 => ?_)
  refine fW_iconst 6 dX7_arrange_5 rfl ?_
  refine fW_istore_n 7 (ls' := [some (rv G o), some (iv 0), none, none]) dX7_arrange_6 rfl rfl rfl (by decide) ?_
  refine fW_sb (l_X7_arrange_7 hg ho ?_ 20000 0 (mset M o 2 0) (by decide) h) ⟨rfl, rfl, trivial⟩
  intro M_14 h
  refine fW_rg (fun hR_14 => ?_)
  refine fW_aload_n 64 dX7_arrange_63 rfl rfl ?_
  refine fW_getI 67 2 (ji := 2) hg clX7 rfl (by decide) rfl ho wd_190 dX7_arrange_64 rfl ?_
  exact fW_iret rfl (by decide) (by decide) dX7_arrange_67 (rI_i h (hR_14 o 2))
def mX10_isKey : fMt := (yX10_isKey, cX10_isKey, 1, some .boolean, { frames := 0, cells := 0, slots := 0, locals := 0 })
theorem miX10_isKey : fMs mX10_isKey 1 := ⟨⟨fM 472 (by decide +kernel) rfl, fM 89 (by decide +kernel) rfl, ⟨by decide +kernel, by decide +kernel⟩, by decide +kernel⟩, fM 471 (by decide +kernel) rfl⟩
def f_X10_isKey (a1 : Int) (M : fMem) : Option (Int) := (if a1 < 0 then some 0 else (if 200 ≤ a1 then some 0 else some 1))
set_option maxRecDepth 100000 in
set_option maxHeartbeats 4000000 in
theorem s_X10_isKey {G : fG}  {a1 : Int} (ga1 : rg a1) {M : fMem} {q : Int} (h : f_X10_isKey a1 M = some q) : fSp G mX10_isKey [iv a1] M (rB M q) fNo := by
  refine fSp_of (by decide +kernel) (by decide +kernel) (fC1 rfl fC0) (Nat.le_of_ble_eq_true rfl) ?_
  show fW G mX10_isKey (fEm G mX10_isKey (rB M q) fNo) 0 0 0 [some (iv a1)] [] M
  rw [f_X10_isKey] at h
  refine fW_rg (fun hR => ?_)
  refine fW_iload_n 1 dX10_isKey_0 rfl rfl ?_
  refine fW_if_lt 4 15 ga1 dX10_isKey_1 rfl rfl (fun c1 => ?_) (fun c1 => ?_)
  · replace h := fTt h c1
    refine fW_iconst 16 dX10_isKey_15 rfl ?_
    exact fW_zret rfl (by decide) (by decide) (by decide) dX10_isKey_16 (rB_i h (by decide))
  · replace h := fFf h c1
    refine fW_iload_n 5 dX10_isKey_4 rfl rfl ?_
    refine fW_sipush 8 dX10_isKey_5 rfl (by decide) ?_
    refine fW_icmp_ge 11 15 ga1 (by decide) dX10_isKey_8 rfl rfl (fun c2 => ?_) (fun c2 => ?_)
    · replace h := fTt h c2
      refine fW_iconst 16 dX10_isKey_15 rfl ?_
      exact fW_zret rfl (by decide) (by decide) (by decide) dX10_isKey_16 (rB_i h (by decide))
    · replace h := fFf h c2
      refine fW_iconst 12 dX10_isKey_11 rfl ?_
      refine fW_goto 16 dX10_isKey_12 rfl ?_
      exact fW_zret rfl (by decide) (by decide) (by decide) dX10_isKey_16 (rB_i h (by decide))
def mX2_readRow : fMt := (yX2_readRow, cX2_readRow, 4, none, { frames := 1, cells := 0, slots := 0, locals := 40 })
theorem miX2_readRow : fMv mX2_readRow 1 := ⟨⟨fM 637 (by decide +kernel) rfl, fM 100 (by decide +kernel) rfl, ⟨by decide +kernel, by decide +kernel⟩, by decide +kernel⟩, fM 636 (by decide +kernel) rfl, fM 9 (by decide +kernel) rfl⟩
def L_X2_readRow_2 (o : Nat) (k : fMem → Option (fMem)) : Nat → Nat → Int → fMem → Option (fMem)
  | 0, _, _, _ => none
  | n + 1, w1, v2, M => (if (M w1 3) ≤ v2 then k  M else ((f_X6_keyAt w1 v2 M).bind fun (r2 : Int) => ((f_X10_isKey r2 M).bind fun (r3 : Int) => (if r3 = 0 then L_X2_readRow_2 o k n w1 (v2 + 1) M else ((f_X6_valueAt w1 v2 M).bind fun (r5 : Int) => (if 0 ≤ r2 ∧ r2 < 200 then (if 0 ≤ r2 ∧ r2 < 200 then (if 0 ≤ r2 ∧ r2 < 200 then (if -2147483648 ≤ ((mset M (o + 1) r2 r5) (o + 2) r2) + 1 ∧ ((mset M (o + 1) r2 r5) (o + 2) r2) + 1 < 2147483648 then (if -2147483648 ≤ ((mset (mset M (o + 1) r2 r5) (o + 2) r2 (((mset M (o + 1) r2 r5) (o + 2) r2) + 1)) o 2) + 1 ∧ ((mset (mset M (o + 1) r2 r5) (o + 2) r2 (((mset M (o + 1) r2 r5) (o + 2) r2) + 1)) o 2) + 1 < 2147483648 then L_X2_readRow_2 o k n w1 (v2 + 1) (mset (mset (mset M (o + 1) r2 r5) (o + 2) r2 (((mset M (o + 1) r2 r5) (o + 2) r2) + 1)) o 2 (((mset (mset M (o + 1) r2 r5) (o + 2) r2 (((mset M (o + 1) r2 r5) (o + 2) r2) + 1)) o 2) + 1)) else none) else none) else none) else none) else none))))))
set_option maxRecDepth 100000 in
set_option maxHeartbeats 4000000 in
theorem l_X2_readRow_2 {G : fG} (hg : gbt G = true) {o : Nat} (ho : fTyp o 2) {q : fMem} {k : fMem → Option (fMem)} (hk : ∀ (M : fMem), k M = some q → fW G mX2_readRow (fEm G mX2_readRow (rV q) fNo) 0 0 60 [some (rv G o), none, none, none] [] M) : ∀ (n : Nat) (w1 : Nat) (v2 : Int) (M : fMem), fTyp w1 6 → rg v2 → L_X2_readRow_2 o k n w1 v2 M = some q → fW G mX2_readRow (fEm G mX2_readRow (rV q) fNo) 0 0 2 [some (rv G o), some (rv G w1), some (iv v2), none] [] M := by
  intro n
  induction n with
  | zero =>
    intro w1 v2 M tw1 gv2 h
    rw [L_X2_readRow_2] at h
    exact absurd h (by simp)
  | succ n ih =>
    intro w1 v2 M tw1 gv2 h
    rw [L_X2_readRow_2] at h
    refine fW_rg (fun hR => ?_)
    refine fW_iload_n 3 dX2_readRow_2 rfl rfl ?_
    refine fW_aload_n 4 dX2_readRow_3 rfl rfl ?_
    refine fW_getI 7 3 (ji := 3) hg clX6 rfl (by decide) rfl tw1 wd_155 dX2_readRow_4 rfl ?_
    refine fW_icmp_ge 10 60 gv2 (hR w1 3) dX2_readRow_7 rfl rfl (fun c1 => ?_) (fun c1 => ?_)
    · replace h := fTt h c1
      exact fW_sb (hk M h) ⟨rfl, trivial⟩
    · replace h := fFf h c1
      refine fW_aload_n 11 dX2_readRow_10 rfl rfl ?_
      refine fW_iload_n 12 dX2_readRow_11 rfl rfl ?_
      obtain ⟨r2, e2, h⟩ := fBd h
      refine fW_cP (fI_V (as := [iv v2]) (rest := []) miX6_keyAt hg clX6 rfl tw1 wd_638 (fRoom_of rfl) rfl (Nat.le_of_ble_eq_true rfl) dX2_readRow_12) (s_X6_keyAt hg tw1 gv2 e2) rfl rfl rfl (fun g2 => ?_)
      refine fW_istore_n 16 (ls' := [some (rv G o), some (rv G w1), some (iv v2), some (iv r2)]) dX2_readRow_15 rfl rfl rfl (by decide) ?_
      refine fW_iload_n 17 dX2_readRow_16 rfl rfl ?_
      obtain ⟨r3, e3, h⟩ := fBd h
      refine fW_cB (fI_SN (host := "RowStore") (as := [iv r2]) (rest := []) miX10_isKey (by decide +kernel) (fRoom_of rfl) rfl (Nat.le_of_ble_eq_true rfl) dX2_readRow_17) (s_X10_isKey g2 e3) rfl rfl rfl (fun g3 => ?_)
      refine fW_if_eq 23 54 (rg_z g3) dX2_readRow_20 rfl rfl (fun c4 => ?_) (fun c4 => ?_)
      · replace h := fTt h c4
        refine fW_iinc 57 (ls' := [some (rv G o), some (rv G w1), some (iv (v2 + 1)), some (iv r2)]) dX2_readRow_54 rfl rfl rfl (by decide) ?_
        refine fW_goto 2 dX2_readRow_57 rfl ?_
        exact fW_sb (ih w1 (v2 + 1) M tw1 (rg_succ' gv2 (hR w1 3) c1) h) ⟨rfl, rfl, rfl, trivial⟩
      · replace h := fFf h c4
        refine fW_aload_n 24 dX2_readRow_23 rfl rfl ?_
        refine fW_getR 27 (r := o + 1) 0 hg clX2 (by decide) rfl ho (tf_2_0 ho) wd_404 dX2_readRow_24 rfl ?_
        refine fW_iload_n 28 dX2_readRow_27 rfl rfl ?_
        refine fW_aload_n 29 dX2_readRow_28 rfl rfl ?_
        refine fW_iload_n 30 dX2_readRow_29 rfl rfl ?_
        obtain ⟨r5, e5, h⟩ := fBd h
        refine fW_cP (fI_V (as := [iv v2]) (rest := [iv r2, rv G (o + 1)]) miX6_valueAt hg clX6 rfl tw1 wd_640 (fRoom_of rfl) rfl (Nat.le_of_ble_eq_true rfl) dX2_readRow_30) (s_X6_valueAt hg tw1 gv2 e5) rfl rfl rfl (fun g5 => ?_)
        obtain ⟨c6, h⟩ := fS h
        refine fW_iast 34 hg (tt_2_0 ho) ⟨c6.1, by rw [lf_2_0 ho]; exact c6.2⟩ g5 dX2_readRow_33 rfl ?_
        refine fW_rg (fun hR7 => ?_)
        refine fW_aload_n 35 dX2_readRow_34 rfl rfl ?_
        refine fW_getR 38 (r := o + 2) 1 hg clX2 (by decide) rfl ho (tf_2_1 ho) wd_406 dX2_readRow_35 rfl ?_
        refine fW_iload_n 39 dX2_readRow_38 rfl rfl ?_
        refine fW_dup2 40 dX2_readRow_39 rfl rfl rfl ?_
        obtain ⟨c8, h⟩ := fS h
        refine fW_iald 41 hg (tt_2_1 ho) ⟨c8.1, by rw [lf_2_1 ho]; exact c8.2⟩ dX2_readRow_40 rfl ?_
        refine fW_iconst 42 dX2_readRow_41 rfl ?_
        refine fW_iadd 43 dX2_readRow_42 rfl ?_
        obtain ⟨c9, h⟩ := fS h
        obtain ⟨c10, h⟩ := fS h
        refine fW_iast 44 hg (tt_2_1 ho) ⟨c9.1, by rw [lf_2_1 ho]; exact c9.2⟩ c10 dX2_readRow_43 rfl ?_
        refine fW_rg (fun hR11 => ?_)
        refine fW_aload_n 45 dX2_readRow_44 rfl rfl ?_
        refine fW_dup 46 dX2_readRow_45 rfl rfl ?_
        refine fW_getI 49 2 (ji := 2) hg clX2 rfl (by decide) rfl ho wd_407 dX2_readRow_46 rfl ?_
        refine fW_iconst 50 dX2_readRow_49 rfl ?_
        refine fW_iadd 51 dX2_readRow_50 rfl ?_
        obtain ⟨c12, h⟩ := fS h
        refine fW_putI 54 2 (ji := 2) hg clX2 rfl (by decide) rfl rfl rfl ho c12 wd_407 dX2_readRow_51 rfl ?_
        refine fW_rg (fun hR13 => ?_)
        refine fW_iinc 57 (ls' := [some (rv G o), some (rv G w1), some (iv (v2 + 1)), some (iv r2)]) dX2_readRow_54 rfl rfl rfl (by decide) ?_
        refine fW_goto 2 dX2_readRow_57 rfl ?_
        exact fW_sb (ih w1 (v2 + 1) (mset (mset (mset M (o + 1) r2 r5) (o + 2) r2 (((mset M (o + 1) r2 r5) (o + 2) r2) + 1)) o 2 (((mset (mset M (o + 1) r2 r5) (o + 2) r2 (((mset M (o + 1) r2 r5) (o + 2) r2) + 1)) o 2) + 1)) tw1 (rg_succ' gv2 (hR w1 3) c1) h) ⟨rfl, rfl, rfl, trivial⟩
def f_X2_readRow (o : Nat) (p1 : Nat) (M : fMem) : Option (fMem) := L_X2_readRow_2 o (fun  (M_14 : fMem) => some M_14) 20000 p1 0 M
set_option maxRecDepth 100000 in
set_option maxHeartbeats 4000000 in
theorem s_X2_readRow {G : fG} (hg : gbt G = true) {o : Nat} (ho : fTyp o 2) {p1 : Nat} (hp1 : fTyp p1 6) {M : fMem} {q : fMem} (h : f_X2_readRow o p1 M = some q) : fSp G mX2_readRow [rv G o, rv G p1] M (rV q) fNo := by
  refine fSp_of (by decide +kernel) (by decide +kernel) (fC1 rfl (fC1 rfl fC0)) (Nat.le_of_ble_eq_true rfl) ?_
  show fW G mX2_readRow (fEm G mX2_readRow (rV q) fNo) 0 0 0 [some (rv G o), some (rv G p1), none, none] [] M
  rw [f_X2_readRow] at h
  refine fW_rg (fun hR => ?_)
  refine fW_iconst 1 dX2_readRow_0 rfl ?_
  refine fW_istore_n 2 (ls' := [some (rv G o), some (rv G p1), some (iv 0), none]) dX2_readRow_1 rfl rfl rfl (by decide) ?_
  refine fW_sb (l_X2_readRow_2 hg ho ?_ 20000 p1 0 M hp1 (by decide) h) ⟨rfl, rfl, rfl, trivial⟩
  intro M_14 h
  refine fW_rg (fun hR_14 => ?_)
  exact fW_vret rfl (by decide) (by decide) dX2_readRow_60 (rV_i h)
def mX2_read : fMt := (yX2_read, cX2_read, 3, none, { frames := 2, cells := 0, slots := 0, locals := 80 })
theorem miX2_read : fMv mX2_read 1 := ⟨⟨fM 629 (by decide +kernel) rfl, fM 100 (by decide +kernel) rfl, ⟨by decide +kernel, by decide +kernel⟩, by decide +kernel⟩, fM 627 (by decide +kernel) rfl, fM 628 (by decide +kernel) rfl⟩
def L_X2_read_28 (o : Nat) (k : fMem → Option (fMem)) : Nat → Nat → Int → fMem → Option (fMem)
  | 0, _, _, _ => none
  | n + 1, w1, v2, M => (if v2 < 0 then k  M else (if 0 ≤ v2 ∧ v2 < 19 then (if 0 ≤ M (w1 + 2) v2 ∧ M (w1 + 2) v2 < 19 then ((f_X2_readRow o (w1 + 3 * (M (w1 + 2) v2).toNat + 3) M).bind fun (r13 : fMem) => L_X2_read_28 o k n w1 (v2 + -1) r13) else none) else none))
set_option maxRecDepth 100000 in
set_option maxHeartbeats 4000000 in
theorem l_X2_read_28 {G : fG} (hg : gbt G = true) {o : Nat} (ho : fTyp o 2) {q : fMem} {k : fMem → Option (fMem)} (hk : ∀ (M : fMem), k M = some q → fW G mX2_read (fEm G mX2_read (rV q) fNo) 0 0 53 [some (rv G o), none, none] [] M) : ∀ (n : Nat) (w1 : Nat) (v2 : Int) (M : fMem), fTyp w1 7 → rg v2 → L_X2_read_28 o k n w1 v2 M = some q → fW G mX2_read (fEm G mX2_read (rV q) fNo) 0 0 28 [some (rv G o), some (rv G w1), some (iv v2)] [] M := by
  intro n
  induction n with
  | zero =>
    intro w1 v2 M tw1 gv2 h
    rw [L_X2_read_28] at h
    exact absurd h (by simp)
  | succ n ih =>
    intro w1 v2 M tw1 gv2 h
    rw [L_X2_read_28] at h
    refine fW_rg (fun hR => ?_)
    refine fW_iload_n 29 dX2_read_28 rfl rfl ?_
    refine fW_if_lt 32 53 gv2 dX2_read_29 rfl rfl (fun c9 => ?_) (fun c9 => ?_)
    · replace h := fTt h c9
      exact fW_sb (hk M h) ⟨rfl, trivial⟩
    · replace h := fFf h c9
      refine fW_aload_n 33 dX2_read_32 rfl rfl ?_
      refine fW_aload_n 34 dX2_read_33 rfl rfl ?_
      refine fW_getR 37 (r := w1 + 1) 0 hg clX7 (by decide) rfl tw1 (tf_7_0 tw1) wd_181 dX2_read_34 rfl ?_
      refine fW_aload_n 38 dX2_read_37 rfl rfl ?_
      refine fW_getR 41 (r := w1 + 2) 1 hg clX7 (by decide) rfl tw1 (tf_7_1 tw1) wd_188 dX2_read_38 rfl ?_
      refine fW_iload_n 42 dX2_read_41 rfl rfl ?_
      obtain ⟨c10, h⟩ := fS h
      refine fW_iald 43 hg (tt_7_1 tw1) ⟨c10.1, by rw [lf_7_1 tw1]; exact c10.2⟩ dX2_read_42 rfl ?_
      obtain ⟨c11, h⟩ := fS h
      have t12 := ta_16 (r := w1 + 3 * (M (w1 + 2) v2).toNat + 3) (tt_7_0 tw1) c11 (by omega)
      refine fW_aald 44 4 hg (tt_7_0 tw1) (by decide) (by decide) t12.1 t12.2.2 rfl dX2_read_43 rfl ?_
      obtain ⟨r13, e13, h⟩ := fBd h
      refine fW_cV (fI_V (as := [rv G (w1 + 3 * (M (w1 + 2) v2).toNat + 3)]) (rest := []) miX2_readRow hg clX2 rfl ho wd_634 (fRoom_of rfl) rfl (Nat.le_of_ble_eq_true rfl) dX2_read_44) (s_X2_readRow hg ho t12.2.1 e13) rfl rfl rfl ?_
      refine fW_rg (fun hR14 => ?_)
      refine fW_iinc 50 (ls' := [some (rv G o), some (rv G w1), some (iv (v2 + -1))]) dX2_read_47 rfl rfl rfl (by decide) ?_
      refine fW_goto 28 dX2_read_50 rfl ?_
      exact fW_sb (ih w1 (v2 + -1) r13 tw1 (rg_pred0' gv2 c9) h) ⟨rfl, rfl, rfl, trivial⟩
def f_X2_read (o : Nat) (p1 : Nat) (M : fMem) : Option (fMem) := ((f_AF_fill (o + 1) ((-1)) M).bind fun (r1 : fMem) => ((f_AF_fill (o + 2) 0 r1).bind fun (r3 : fMem) => ((f_X7_arrange p1 (mset r3 o 2 0)).bind fun (r6 : Int × fMem) => (if -2147483648 ≤ r6.1 - 1 ∧ r6.1 - 1 < 2147483648 then L_X2_read_28 o (fun  (M_15 : fMem) => some M_15) 20000 p1 (r6.1 - 1) r6.2 else none))))
set_option maxRecDepth 100000 in
set_option maxHeartbeats 4000000 in
theorem s_X2_read {G : fG} (hg : gbt G = true) {o : Nat} (ho : fTyp o 2) {p1 : Nat} (hp1 : fTyp p1 7) {M : fMem} {q : fMem} (h : f_X2_read o p1 M = some q) : fSp G mX2_read [rv G o, rv G p1] M (rV q) fNo := by
  refine fSp_of (by decide +kernel) (by decide +kernel) (fC1 rfl (fC1 rfl fC0)) (Nat.le_of_ble_eq_true rfl) ?_
  show fW G mX2_read (fEm G mX2_read (rV q) fNo) 0 0 0 [some (rv G o), some (rv G p1), none] [] M
  rw [f_X2_read] at h
  refine fW_rg (fun hR => ?_)
  refine fW_aload_n 1 dX2_read_0 rfl rfl ?_
  refine fW_getR 4 (r := o + 1) 0 hg clX2 (by decide) rfl ho (tf_2_0 ho) wd_404 dX2_read_1 rfl ?_
  refine fW_iconst 5 dX2_read_4 rfl ?_
  obtain ⟨r1, e1, h⟩ := fBd h
  refine fW_cV (fI_SF (as := [rv G (o + 1), iv ((-1))]) (rest := []) miAF_fill wd_630 (fRoom_of rfl) rfl (Nat.le_of_ble_eq_true rfl) dX2_read_5) (s_AF_fill hg (tt_2_0 ho) (by decide) e1) rfl rfl rfl ?_
  refine fW_rg (fun hR2 => ?_)
  refine fW_aload_n 9 dX2_read_8 rfl rfl ?_
  refine fW_getR 12 (r := o + 2) 1 hg clX2 (by decide) rfl ho (tf_2_1 ho) wd_406 dX2_read_9 rfl ?_
  refine fW_iconst 13 dX2_read_12 rfl ?_
  obtain ⟨r3, e3, h⟩ := fBd h
  refine fW_cV (fI_SF (as := [rv G (o + 2), iv 0]) (rest := []) miAF_fill wd_630 (fRoom_of rfl) rfl (Nat.le_of_ble_eq_true rfl) dX2_read_13) (s_AF_fill hg (tt_2_1 ho) (by decide) e3) rfl rfl rfl ?_
  refine fW_rg (fun hR4 => ?_)
  refine fW_aload_n 17 dX2_read_16 rfl rfl ?_
  refine fW_iconst 18 dX2_read_17 rfl ?_
  refine fW_putI 21 2 (ji := 2) hg clX2 rfl (by decide) rfl rfl rfl ho (by decide) wd_407 dX2_read_18 rfl ?_
  refine fW_rg (fun hR5 => ?_)
  refine fW_aload_n 22 dX2_read_21 rfl rfl ?_
  obtain ⟨r6, e6, h⟩ := fBd h
  refine fW_cP (fI_V (as := []) (rest := []) miX7_arrange hg clX7 rfl hp1 wd_633 (fRoom_of rfl) rfl (Nat.le_of_ble_eq_true rfl) dX2_read_22) (s_X7_arrange hg hp1 e6) rfl rfl rfl (fun g6 => ?_)
  refine fW_rg (fun hR7 => ?_)
  refine fW_iconst 26 dX2_read_25 rfl ?_
  refine fW_isub 27 dX2_read_26 rfl ?_
  refine fW_istore_n 28 (ls' := [some (rv G o), some (rv G p1), some (iv (r6.1 - 1))]) dX2_read_27 rfl rfl rfl (by decide) ?_
  obtain ⟨c8, h⟩ := fS h
  refine fW_sb (l_X2_read_28 hg ho ?_ 20000 p1 (r6.1 - 1) r6.2 hp1 c8 h) ⟨rfl, rfl, rfl, trivial⟩
  intro M_15 h
  refine fW_rg (fun hR_15 => ?_)
  exact fW_vret rfl (by decide) (by decide) dX2_read_53 (rV_i h)
def mX2_has : fMt := (yX2_has, cX2_has, 2, some .boolean, { frames := 1, cells := 0, slots := 0, locals := 40 })
theorem miX2_has : fMv mX2_has 1 := ⟨⟨fM 657 (by decide +kernel) rfl, fM 100 (by decide +kernel) rfl, ⟨by decide +kernel, by decide +kernel⟩, by decide +kernel⟩, fM 655 (by decide +kernel) rfl, fM 656 (by decide +kernel) rfl⟩
def f_X2_has (o : Nat) (a1 : Int) (M : fMem) : Option (Int) := ((f_X10_isKey a1 M).bind fun (r1 : Int) => (if r1 = 0 then some 0 else (if 0 ≤ a1 ∧ a1 < 200 then (if (M (o + 1) a1) = ((-1)) then some 0 else some 1) else none)))
set_option maxRecDepth 100000 in
set_option maxHeartbeats 4000000 in
theorem s_X2_has {G : fG} (hg : gbt G = true) {o : Nat} (ho : fTyp o 2) {a1 : Int} (ga1 : rg a1) {M : fMem} {q : Int} (h : f_X2_has o a1 M = some q) : fSp G mX2_has [rv G o, iv a1] M (rB M q) fNo := by
  refine fSp_of (by decide +kernel) (by decide +kernel) (fC1 rfl (fC1 rfl fC0)) (Nat.le_of_ble_eq_true rfl) ?_
  show fW G mX2_has (fEm G mX2_has (rB M q) fNo) 0 0 0 [some (rv G o), some (iv a1)] [] M
  rw [f_X2_has] at h
  refine fW_rg (fun hR => ?_)
  refine fW_iload_n 1 dX2_has_0 rfl rfl ?_
  obtain ⟨r1, e1, h⟩ := fBd h
  refine fW_cB (fI_SN (host := "RowStore") (as := [iv a1]) (rest := []) miX10_isKey (by decide +kernel) (fRoom_of rfl) rfl (Nat.le_of_ble_eq_true rfl) dX2_has_1) (s_X10_isKey ga1 e1) rfl rfl rfl (fun g1 => ?_)
  refine fW_if_eq 7 21 (rg_z g1) dX2_has_4 rfl rfl (fun c2 => ?_) (fun c2 => ?_)
  · replace h := fTt h c2
    refine fW_iconst 22 dX2_has_21 rfl ?_
    exact fW_zret rfl (by decide) (by decide) (by decide) dX2_has_22 (rB_i h (by decide))
  · replace h := fFf h c2
    refine fW_aload_n 8 dX2_has_7 rfl rfl ?_
    refine fW_getR 11 (r := o + 1) 0 hg clX2 (by decide) rfl ho (tf_2_0 ho) wd_404 dX2_has_8 rfl ?_
    refine fW_iload_n 12 dX2_has_11 rfl rfl ?_
    obtain ⟨c3, h⟩ := fS h
    refine fW_iald 13 hg (tt_2_0 ho) ⟨c3.1, by rw [lf_2_0 ho]; exact c3.2⟩ dX2_has_12 rfl ?_
    refine fW_iconst 14 dX2_has_13 rfl ?_
    refine fW_icmp_eq 17 21 (hR (o + 1) a1) (by decide) dX2_has_14 rfl rfl (fun c4 => ?_) (fun c4 => ?_)
    · replace h := fTt h c4
      refine fW_iconst 22 dX2_has_21 rfl ?_
      exact fW_zret rfl (by decide) (by decide) (by decide) dX2_has_22 (rB_i h (by decide))
    · replace h := fFf h c4
      refine fW_iconst 18 dX2_has_17 rfl ?_
      refine fW_goto 22 dX2_has_18 rfl ?_
      exact fW_zret rfl (by decide) (by decide) (by decide) dX2_has_22 (rB_i h (by decide))
def mX2_keysThere : fMt := (yX2_keysThere, cX2_keysThere, 5, some .int, { frames := 2, cells := 0, slots := 0, locals := 80 })
theorem miX2_keysThere : fMv mX2_keysThere 2 := ⟨⟨fM 653 (by decide +kernel) rfl, fM 100 (by decide +kernel) rfl, ⟨by decide +kernel, by decide +kernel⟩, by decide +kernel⟩, fM 651 (by decide +kernel) rfl, fM 652 (by decide +kernel) rfl⟩
def L_X2_keysThere_5 (o : Nat) (M : fMem) (k : Int → Option (Int)) : Nat → Int → Int → Int → Option (Int)
  | 0, _, _, _ => none
  | n + 1, v2, v3, v4 => (if v2 < v4 then k v3 else ((f_X2_has o v4 M).bind fun (r2 : Int) => (if r2 = 0 then (if -2147483648 ≤ v3 + 0 ∧ v3 + 0 < 2147483648 then (if -2147483648 ≤ v4 + 1 ∧ v4 + 1 < 2147483648 then L_X2_keysThere_5 o M k n v2 (v3 + 0) (v4 + 1) else none) else none) else (if -2147483648 ≤ v3 + 1 ∧ v3 + 1 < 2147483648 then (if -2147483648 ≤ v4 + 1 ∧ v4 + 1 < 2147483648 then L_X2_keysThere_5 o M k n v2 (v3 + 1) (v4 + 1) else none) else none))))
set_option maxRecDepth 100000 in
set_option maxHeartbeats 4000000 in
theorem l_X2_keysThere_5 {G : fG} (hg : gbt G = true) {o : Nat} (ho : fTyp o 2) {M : fMem} {q : Int} {k : Int → Option (Int)} (hk : ∀ (v3 : Int), rg v3 → k v3 = some q → fW G mX2_keysThere (fEm G mX2_keysThere (rP M q) fNo) 0 0 34 [some (rv G o), none, none, some (iv v3), none] [] M) : ∀ (n : Nat) (v2 : Int) (v3 : Int) (v4 : Int), rg v2 → rg v3 → rg v4 → L_X2_keysThere_5 o M k n v2 v3 v4 = some q → fW G mX2_keysThere (fEm G mX2_keysThere (rP M q) fNo) 0 0 5 [some (rv G o), none, some (iv v2), some (iv v3), some (iv v4)] [] M := by
  intro n
  induction n with
  | zero =>
    intro v2 v3 v4 gv2 gv3 gv4 h
    rw [L_X2_keysThere_5] at h
    exact absurd h (by simp)
  | succ n ih =>
    intro v2 v3 v4 gv2 gv3 gv4 h
    rw [L_X2_keysThere_5] at h
    refine fW_rg (fun hR => ?_)
    refine fW_iload 7 dX2_keysThere_5 rfl rfl ?_
    refine fW_iload_n 8 dX2_keysThere_7 rfl rfl ?_
    refine fW_icmp_gt 11 34 gv4 gv2 dX2_keysThere_8 rfl rfl (fun c1 => ?_) (fun c1 => ?_)
    · replace h := fTt h c1
      exact fW_sb (hk v3 gv3 h) ⟨rfl, rfl, trivial⟩
    · replace h := fFf h c1
      refine fW_iload_n 12 dX2_keysThere_11 rfl rfl ?_
      refine fW_aload_n 13 dX2_keysThere_12 rfl rfl ?_
      refine fW_iload 15 dX2_keysThere_13 rfl rfl ?_
      obtain ⟨r2, e2, h⟩ := fBd h
      refine fW_cB (fI_V (as := [iv v4]) (rest := [iv v3]) miX2_has hg clX2 rfl ho wd_654 (fRoom_of rfl) rfl (Nat.le_of_ble_eq_true rfl) dX2_keysThere_15) (s_X2_has hg ho gv4 e2) rfl rfl rfl (fun g2 => ?_)
      refine fW_if_eq 21 25 (rg_z g2) dX2_keysThere_18 rfl rfl (fun c3 => ?_) (fun c3 => ?_)
      · replace h := fTt h c3
        refine fW_iconst 26 dX2_keysThere_25 rfl ?_
        refine fW_iadd 27 dX2_keysThere_26 rfl ?_
        refine fW_istore_n 28 (ls' := [some (rv G o), none, some (iv v2), some (iv (v3 + 0)), some (iv v4)]) dX2_keysThere_27 rfl rfl rfl (by decide) ?_
        refine fW_iinc 31 (ls' := [some (rv G o), none, some (iv v2), some (iv (v3 + 0)), some (iv (v4 + 1))]) dX2_keysThere_28 rfl rfl rfl (by decide) ?_
        refine fW_goto 5 dX2_keysThere_31 rfl ?_
        obtain ⟨c4, h⟩ := fS h
        obtain ⟨c5, h⟩ := fS h
        exact fW_sb (ih v2 (v3 + 0) (v4 + 1) gv2 c4 c5 h) ⟨rfl, rfl, rfl, rfl, trivial⟩
      · replace h := fFf h c3
        refine fW_iconst 22 dX2_keysThere_21 rfl ?_
        refine fW_goto 26 dX2_keysThere_22 rfl ?_
        refine fW_iadd 27 dX2_keysThere_26 rfl ?_
        refine fW_istore_n 28 (ls' := [some (rv G o), none, some (iv v2), some (iv (v3 + 1)), some (iv v4)]) dX2_keysThere_27 rfl rfl rfl (by decide) ?_
        refine fW_iinc 31 (ls' := [some (rv G o), none, some (iv v2), some (iv (v3 + 1)), some (iv (v4 + 1))]) dX2_keysThere_28 rfl rfl rfl (by decide) ?_
        refine fW_goto 5 dX2_keysThere_31 rfl ?_
        obtain ⟨c6, h⟩ := fS h
        obtain ⟨c7, h⟩ := fS h
        exact fW_sb (ih v2 (v3 + 1) (v4 + 1) gv2 c6 c7 h) ⟨rfl, rfl, rfl, rfl, trivial⟩
def f_X2_keysThere (o : Nat) (a1 : Int) (a2 : Int) (M : fMem) : Option (Int) := L_X2_keysThere_5 o M (fun (v3_8 : Int) => some v3_8) 20000 a2 0 a1
set_option maxRecDepth 100000 in
set_option maxHeartbeats 4000000 in
theorem s_X2_keysThere {G : fG} (hg : gbt G = true) {o : Nat} (ho : fTyp o 2) {a1 : Int} (ga1 : rg a1) {a2 : Int} (ga2 : rg a2) {M : fMem} {q : Int} (h : f_X2_keysThere o a1 a2 M = some q) : fSp G mX2_keysThere [rv G o, iv a1, iv a2] M (rP M q) fNo := by
  refine fSp_of (by decide +kernel) (by decide +kernel) (fC1 rfl (fC1 rfl (fC1 rfl fC0))) (Nat.le_of_ble_eq_true rfl) ?_
  show fW G mX2_keysThere (fEm G mX2_keysThere (rP M q) fNo) 0 0 0 [some (rv G o), some (iv a1), some (iv a2), none, none] [] M
  rw [f_X2_keysThere] at h
  refine fW_rg (fun hR => ?_)
  refine fW_iconst 1 dX2_keysThere_0 rfl ?_
  refine fW_istore_n 2 (ls' := [some (rv G o), some (iv a1), some (iv a2), some (iv 0), none]) dX2_keysThere_1 rfl rfl rfl (by decide) ?_
  refine fW_iload_n 3 dX2_keysThere_2 rfl rfl ?_
  refine fW_istore 5 (ls' := [some (rv G o), some (iv a1), some (iv a2), some (iv 0), some (iv a1)]) dX2_keysThere_3 rfl rfl (by decide) ?_
  refine fW_sb (l_X2_keysThere_5 hg ho ?_ 20000 a2 0 a1 ga2 (by decide) ga1 h) ⟨rfl, rfl, rfl, rfl, trivial⟩
  intro v3_8 gv3_8 h
  refine fW_iload_n 35 dX2_keysThere_34 rfl rfl ?_
  exact fW_iret rfl (by decide) (by decide) dX2_keysThere_35 (rP_i h gv3_8)
def mX2_heldKeys : fMt := (yX2_heldKeys, cX2_heldKeys, 3, some .int, { frames := 0, cells := 0, slots := 0, locals := 0 })
theorem miX2_heldKeys : fMv mX2_heldKeys 0 := ⟨⟨fM 941 (by decide +kernel) rfl, fM 100 (by decide +kernel) rfl, ⟨by decide +kernel, by decide +kernel⟩, by decide +kernel⟩, fM 939 (by decide +kernel) rfl, fM 940 (by decide +kernel) rfl⟩
def L_X2_heldKeys_4 (o : Nat) (M : fMem) (k : Int → Option (Int)) : Nat → Int → Int → Option (Int)
  | 0, _, _ => none
  | n + 1, v1, v2 => (if 200 ≤ v2 then k v1 else (if 0 ≤ v2 ∧ v2 < 200 then (if (M (o + 2) v2) ≤ 0 then (if -2147483648 ≤ v1 + 0 ∧ v1 + 0 < 2147483648 then L_X2_heldKeys_4 o M k n (v1 + 0) (v2 + 1) else none) else (if -2147483648 ≤ v1 + 1 ∧ v1 + 1 < 2147483648 then L_X2_heldKeys_4 o M k n (v1 + 1) (v2 + 1) else none)) else none))
set_option maxRecDepth 100000 in
set_option maxHeartbeats 4000000 in
theorem l_X2_heldKeys_4 {G : fG} (hg : gbt G = true) {o : Nat} (ho : fTyp o 2) {M : fMem} {q : Int} {k : Int → Option (Int)} (hk : ∀ (v1 : Int), rg v1 → k v1 = some q → fW G mX2_heldKeys (fEm G mX2_heldKeys (rP M q) fNo) 0 0 34 [some (rv G o), some (iv v1), none] [] M) : ∀ (n : Nat) (v1 : Int) (v2 : Int), rg v1 → rg v2 → L_X2_heldKeys_4 o M k n v1 v2 = some q → fW G mX2_heldKeys (fEm G mX2_heldKeys (rP M q) fNo) 0 0 4 [some (rv G o), some (iv v1), some (iv v2)] [] M := by
  intro n
  induction n with
  | zero =>
    intro v1 v2 gv1 gv2 h
    rw [L_X2_heldKeys_4] at h
    exact absurd h (by simp)
  | succ n ih =>
    intro v1 v2 gv1 gv2 h
    rw [L_X2_heldKeys_4] at h
    refine fW_rg (fun hR => ?_)
    refine fW_iload_n 5 dX2_heldKeys_4 rfl rfl ?_
    refine fW_sipush 8 dX2_heldKeys_5 rfl (by decide) ?_
    refine fW_icmp_ge 11 34 gv2 (by decide) dX2_heldKeys_8 rfl rfl (fun c1 => ?_) (fun c1 => ?_)
    · replace h := fTt h c1
      exact fW_sb (hk v1 gv1 h) ⟨rfl, rfl, trivial⟩
    · replace h := fFf h c1
      refine fW_iload_n 12 dX2_heldKeys_11 rfl rfl ?_
      refine fW_aload_n 13 dX2_heldKeys_12 rfl rfl ?_
      refine fW_getR 16 (r := o + 2) 1 hg clX2 (by decide) rfl ho (tf_2_1 ho) wd_406 dX2_heldKeys_13 rfl ?_
      refine fW_iload_n 17 dX2_heldKeys_16 rfl rfl ?_
      obtain ⟨c2, h⟩ := fS h
      refine fW_iald 18 hg (tt_2_1 ho) ⟨c2.1, by rw [lf_2_1 ho]; exact c2.2⟩ dX2_heldKeys_17 rfl ?_
      refine fW_if_le 21 25 (hR (o + 2) v2) dX2_heldKeys_18 rfl rfl (fun c3 => ?_) (fun c3 => ?_)
      · replace h := fTt h c3
        refine fW_iconst 26 dX2_heldKeys_25 rfl ?_
        refine fW_iadd 27 dX2_heldKeys_26 rfl ?_
        refine fW_istore_n 28 (ls' := [some (rv G o), some (iv (v1 + 0)), some (iv v2)]) dX2_heldKeys_27 rfl rfl rfl (by decide) ?_
        refine fW_iinc 31 (ls' := [some (rv G o), some (iv (v1 + 0)), some (iv (v2 + 1))]) dX2_heldKeys_28 rfl rfl rfl (by decide) ?_
        refine fW_goto 4 dX2_heldKeys_31 rfl ?_
        obtain ⟨c4, h⟩ := fS h
        exact fW_sb (ih (v1 + 0) (v2 + 1) c4 (rg_succ' gv2 (by decide) c1) h) ⟨rfl, rfl, rfl, trivial⟩
      · replace h := fFf h c3
        refine fW_iconst 22 dX2_heldKeys_21 rfl ?_
        refine fW_goto 26 dX2_heldKeys_22 rfl ?_
        refine fW_iadd 27 dX2_heldKeys_26 rfl ?_
        refine fW_istore_n 28 (ls' := [some (rv G o), some (iv (v1 + 1)), some (iv v2)]) dX2_heldKeys_27 rfl rfl rfl (by decide) ?_
        refine fW_iinc 31 (ls' := [some (rv G o), some (iv (v1 + 1)), some (iv (v2 + 1))]) dX2_heldKeys_28 rfl rfl rfl (by decide) ?_
        refine fW_goto 4 dX2_heldKeys_31 rfl ?_
        obtain ⟨c5, h⟩ := fS h
        exact fW_sb (ih (v1 + 1) (v2 + 1) c5 (rg_succ' gv2 (by decide) c1) h) ⟨rfl, rfl, rfl, trivial⟩
def f_X2_heldKeys (o : Nat) (M : fMem) : Option (Int) := L_X2_heldKeys_4 o M (fun (v1_6 : Int) => some v1_6) 20000 0 0
set_option maxRecDepth 100000 in
set_option maxHeartbeats 4000000 in
theorem s_X2_heldKeys {G : fG} (hg : gbt G = true) {o : Nat} (ho : fTyp o 2) {M : fMem} {q : Int} (h : f_X2_heldKeys o M = some q) : fSp G mX2_heldKeys [rv G o] M (rP M q) fNo := by
  refine fSp_of (by decide +kernel) (by decide +kernel) (fC1 rfl fC0) (Nat.le_of_ble_eq_true rfl) ?_
  show fW G mX2_heldKeys (fEm G mX2_heldKeys (rP M q) fNo) 0 0 0 [some (rv G o), none, none] [] M
  rw [f_X2_heldKeys] at h
  refine fW_rg (fun hR => ?_)
  refine fW_iconst 1 dX2_heldKeys_0 rfl ?_
  refine fW_istore_n 2 (ls' := [some (rv G o), some (iv 0), none]) dX2_heldKeys_1 rfl rfl rfl (by decide) ?_
  refine fW_iconst 3 dX2_heldKeys_2 rfl ?_
  refine fW_istore_n 4 (ls' := [some (rv G o), some (iv 0), some (iv 0)]) dX2_heldKeys_3 rfl rfl rfl (by decide) ?_
  refine fW_sb (l_X2_heldKeys_4 hg ho ?_ 20000 0 0 (by decide) (by decide) h) ⟨rfl, rfl, rfl, trivial⟩
  intro v1_6 gv1_6 h
  refine fW_iload_n 35 dX2_heldKeys_34 rfl rfl ?_
  exact fW_iret rfl (by decide) (by decide) dX2_heldKeys_35 (rP_i h gv1_6)
def mX2_loneSigns : fMt := (yX2_loneSigns, cX2_loneSigns, 3, some .int, { frames := 2, cells := 0, slots := 0, locals := 80 })
theorem miX2_loneSigns : fMv mX2_loneSigns 0 := ⟨⟨fM 945 (by decide +kernel) rfl, fM 100 (by decide +kernel) rfl, ⟨by decide +kernel, by decide +kernel⟩, by decide +kernel⟩, fM 943 (by decide +kernel) rfl, fM 944 (by decide +kernel) rfl⟩
def L_X2_loneSigns_4 (o : Nat) (M : fMem) (k : Int → Option (Int)) : Nat → Int → Int → Option (Int)
  | 0, _, _ => none
  | n + 1, v1, v2 => (if 200 ≤ v2 then k v1 else (if 0 ≤ v2 ∧ v2 < 200 then (if (M (o + 2) v2) = 1 then ((f_X2_has o v2 M).bind fun (r5 : Int) => (if r5 = 0 then (if -2147483648 ≤ v1 + 1 ∧ v1 + 1 < 2147483648 then L_X2_loneSigns_4 o M k n (v1 + 1) (v2 + 1) else none) else (if -2147483648 ≤ v1 + 0 ∧ v1 + 0 < 2147483648 then L_X2_loneSigns_4 o M k n (v1 + 0) (v2 + 1) else none))) else (if -2147483648 ≤ v1 + 0 ∧ v1 + 0 < 2147483648 then L_X2_loneSigns_4 o M k n (v1 + 0) (v2 + 1) else none)) else none))
set_option maxRecDepth 100000 in
set_option maxHeartbeats 4000000 in
theorem l_X2_loneSigns_4 {G : fG} (hg : gbt G = true) {o : Nat} (ho : fTyp o 2) {M : fMem} {q : Int} {k : Int → Option (Int)} (hk : ∀ (v1 : Int), rg v1 → k v1 = some q → fW G mX2_loneSigns (fEm G mX2_loneSigns (rP M q) fNo) 0 0 43 [some (rv G o), some (iv v1), none] [] M) : ∀ (n : Nat) (v1 : Int) (v2 : Int), rg v1 → rg v2 → L_X2_loneSigns_4 o M k n v1 v2 = some q → fW G mX2_loneSigns (fEm G mX2_loneSigns (rP M q) fNo) 0 0 4 [some (rv G o), some (iv v1), some (iv v2)] [] M := by
  intro n
  induction n with
  | zero =>
    intro v1 v2 gv1 gv2 h
    rw [L_X2_loneSigns_4] at h
    exact absurd h (by simp)
  | succ n ih =>
    intro v1 v2 gv1 gv2 h
    rw [L_X2_loneSigns_4] at h
    refine fW_rg (fun hR => ?_)
    refine fW_iload_n 5 dX2_loneSigns_4 rfl rfl ?_
    refine fW_sipush 8 dX2_loneSigns_5 rfl (by decide) ?_
    refine fW_icmp_ge 11 43 gv2 (by decide) dX2_loneSigns_8 rfl rfl (fun c1 => ?_) (fun c1 => ?_)
    · replace h := fTt h c1
      exact fW_sb (hk v1 gv1 h) ⟨rfl, rfl, trivial⟩
    · replace h := fFf h c1
      refine fW_iload_n 12 dX2_loneSigns_11 rfl rfl ?_
      refine fW_aload_n 13 dX2_loneSigns_12 rfl rfl ?_
      refine fW_getR 16 (r := o + 2) 1 hg clX2 (by decide) rfl ho (tf_2_1 ho) wd_406 dX2_loneSigns_13 rfl ?_
      refine fW_iload_n 17 dX2_loneSigns_16 rfl rfl ?_
      obtain ⟨c2, h⟩ := fS h
      refine fW_iald 18 hg (tt_2_1 ho) ⟨c2.1, by rw [lf_2_1 ho]; exact c2.2⟩ dX2_loneSigns_17 rfl ?_
      refine fW_iconst 19 dX2_loneSigns_18 rfl ?_
      refine fW_icmp_ne 22 34 (hR (o + 2) v2) (by decide) dX2_loneSigns_19 rfl rfl (fun c3 => ?_) (fun c3 => ?_)
      · replace h := fFf h c3
        refine fW_iconst 35 dX2_loneSigns_34 rfl ?_
        refine fW_iadd 36 dX2_loneSigns_35 rfl ?_
        refine fW_istore_n 37 (ls' := [some (rv G o), some (iv (v1 + 0)), some (iv v2)]) dX2_loneSigns_36 rfl rfl rfl (by decide) ?_
        refine fW_iinc 40 (ls' := [some (rv G o), some (iv (v1 + 0)), some (iv (v2 + 1))]) dX2_loneSigns_37 rfl rfl rfl (by decide) ?_
        refine fW_goto 4 dX2_loneSigns_40 rfl ?_
        obtain ⟨c4, h⟩ := fS h
        exact fW_sb (ih (v1 + 0) (v2 + 1) c4 (rg_succ' gv2 (by decide) c1) h) ⟨rfl, rfl, rfl, trivial⟩
      · replace h := fTt h c3
        refine fW_aload_n 23 dX2_loneSigns_22 rfl rfl ?_
        refine fW_iload_n 24 dX2_loneSigns_23 rfl rfl ?_
        obtain ⟨r5, e5, h⟩ := fBd h
        refine fW_cB (fI_V (as := [iv v2]) (rest := [iv v1]) miX2_has hg clX2 rfl ho wd_654 (fRoom_of rfl) rfl (Nat.le_of_ble_eq_true rfl) dX2_loneSigns_24) (s_X2_has hg ho gv2 e5) rfl rfl rfl (fun g5 => ?_)
        refine fW_if_ne 30 34 (rg_z g5) dX2_loneSigns_27 rfl rfl (fun c6 => ?_) (fun c6 => ?_)
        · replace h := fFf h c6
          refine fW_iconst 35 dX2_loneSigns_34 rfl ?_
          refine fW_iadd 36 dX2_loneSigns_35 rfl ?_
          refine fW_istore_n 37 (ls' := [some (rv G o), some (iv (v1 + 0)), some (iv v2)]) dX2_loneSigns_36 rfl rfl rfl (by decide) ?_
          refine fW_iinc 40 (ls' := [some (rv G o), some (iv (v1 + 0)), some (iv (v2 + 1))]) dX2_loneSigns_37 rfl rfl rfl (by decide) ?_
          refine fW_goto 4 dX2_loneSigns_40 rfl ?_
          obtain ⟨c7, h⟩ := fS h
          exact fW_sb (ih (v1 + 0) (v2 + 1) c7 (rg_succ' gv2 (by decide) c1) h) ⟨rfl, rfl, rfl, trivial⟩
        · replace h := fTt h c6
          refine fW_iconst 31 dX2_loneSigns_30 rfl ?_
          refine fW_goto 35 dX2_loneSigns_31 rfl ?_
          refine fW_iadd 36 dX2_loneSigns_35 rfl ?_
          refine fW_istore_n 37 (ls' := [some (rv G o), some (iv (v1 + 1)), some (iv v2)]) dX2_loneSigns_36 rfl rfl rfl (by decide) ?_
          refine fW_iinc 40 (ls' := [some (rv G o), some (iv (v1 + 1)), some (iv (v2 + 1))]) dX2_loneSigns_37 rfl rfl rfl (by decide) ?_
          refine fW_goto 4 dX2_loneSigns_40 rfl ?_
          obtain ⟨c8, h⟩ := fS h
          exact fW_sb (ih (v1 + 1) (v2 + 1) c8 (rg_succ' gv2 (by decide) c1) h) ⟨rfl, rfl, rfl, trivial⟩
def f_X2_loneSigns (o : Nat) (M : fMem) : Option (Int) := L_X2_loneSigns_4 o M (fun (v1_9 : Int) => some v1_9) 20000 0 0
set_option maxRecDepth 100000 in
set_option maxHeartbeats 4000000 in
theorem s_X2_loneSigns {G : fG} (hg : gbt G = true) {o : Nat} (ho : fTyp o 2) {M : fMem} {q : Int} (h : f_X2_loneSigns o M = some q) : fSp G mX2_loneSigns [rv G o] M (rP M q) fNo := by
  refine fSp_of (by decide +kernel) (by decide +kernel) (fC1 rfl fC0) (Nat.le_of_ble_eq_true rfl) ?_
  show fW G mX2_loneSigns (fEm G mX2_loneSigns (rP M q) fNo) 0 0 0 [some (rv G o), none, none] [] M
  rw [f_X2_loneSigns] at h
  refine fW_rg (fun hR => ?_)
  refine fW_iconst 1 dX2_loneSigns_0 rfl ?_
  refine fW_istore_n 2 (ls' := [some (rv G o), some (iv 0), none]) dX2_loneSigns_1 rfl rfl rfl (by decide) ?_
  refine fW_iconst 3 dX2_loneSigns_2 rfl ?_
  refine fW_istore_n 4 (ls' := [some (rv G o), some (iv 0), some (iv 0)]) dX2_loneSigns_3 rfl rfl rfl (by decide) ?_
  refine fW_sb (l_X2_loneSigns_4 hg ho ?_ 20000 0 0 (by decide) (by decide) h) ⟨rfl, rfl, rfl, trivial⟩
  intro v1_9 gv1_9 h
  refine fW_iload_n 44 dX2_loneSigns_43 rfl rfl ?_
  exact fW_iret rfl (by decide) (by decide) dX2_loneSigns_44 (rP_i h gv1_9)
end MTH
