section MTH
def mX2_has : fMt := (yX2_has, cX2_has, 2, some .boolean, { frames := 1, cells := 0, slots := 0, locals := 40 })
theorem miX2_has : fMv mX2_has 1 := ⟨⟨fM 657 (by decide +kernel) rfl, fM 100 (by decide +kernel) rfl, ⟨by decide +kernel, by decide +kernel⟩, by decide +kernel⟩, fM 655 (by decide +kernel) rfl, fM 656 (by decide +kernel) rfl⟩
def f_X2_has (o : Nat) (a1 : Int) (M : fMem) : Option (Int) := ((f_X10_isKey a1 M).bind fun (r1 : Int) => (if r1 = 0 then some 0 else (if 0 ≤ a1 ∧ a1 < 200 then (if (M (o + 1) a1) = ((-1)) then some 0 else some 1) else none)))
set_option maxRecDepth 100000 in
set_option maxHeartbeats 4000000 in
theorem s_X2_has {G : fG} (hg : gbt G = true) {o : Nat} (ho : fTyp o 2) {a1 : Int} (ga1 : rg a1) {M : fMem} {q : Int} (h : f_X2_has o a1 M = some q) : fSp G mX2_has [rv G o, iv a1] M (rB M q) fNo := by
  refine fSp_of (by decide +kernel) (by decide +kernel) (fC1 rfl (fC1 rfl fC0)) (Nat.le_of_ble_eq_true rfl) ?_
  show fW G mX2_has (fEm G mX2_has (rB M q) fNo) 0 0 0 [some (rv G o), some (iv a1)] [] M
  rw [f_X2_has] at h
  refine fW_rg (fun hR => ?_)
  refine fW_iload_n 1 dX2_has_0 rfl rfl ?_
  obtain ⟨r1, e1, h⟩ := fBd h
  refine fW_cB (fI_SN (host := "RowStore") (as := [iv a1]) (rest := []) miX10_isKey (by decide +kernel) (fRoom_of rfl) rfl (Nat.le_of_ble_eq_true rfl) dX2_has_1) (s_X10_isKey ga1 e1) rfl rfl rfl (fun g1 => ?_)
  refine fW_if_eq 7 21 (rg_z g1) dX2_has_4 rfl rfl (fun c2 => ?_) (fun c2 => ?_)
  · replace h := fTt h c2
    refine fW_iconst 22 dX2_has_21 rfl ?_
    exact fW_zret rfl (by decide) (by decide) (by decide) dX2_has_22 (rB_i h (by decide))
  · replace h := fFf h c2
    refine fW_aload_n 8 dX2_has_7 rfl rfl ?_
    refine fW_getR 11 (r := o + 1) 0 hg clX2 (by decide) rfl ho (tf_2_0 ho) wd_404 dX2_has_8 rfl ?_
    refine fW_iload_n 12 dX2_has_11 rfl rfl ?_
    obtain ⟨c3, h⟩ := fS h
    refine fW_iald 13 hg (tt_2_0 ho) ⟨c3.1, by rw [lf_2_0 ho]; exact c3.2⟩ dX2_has_12 rfl ?_
    refine fW_iconst 14 dX2_has_13 rfl ?_
    refine fW_icmp_eq 17 21 (hR (o + 1) a1) (by decide) dX2_has_14 rfl rfl (fun c4 => ?_) (fun c4 => ?_)
    · replace h := fTt h c4
      refine fW_iconst 22 dX2_has_21 rfl ?_
      exact fW_zret rfl (by decide) (by decide) (by decide) dX2_has_22 (rB_i h (by decide))
    · replace h := fFf h c4
      refine fW_iconst 18 dX2_has_17 rfl ?_
      refine fW_goto 22 dX2_has_18 rfl ?_
      exact fW_zret rfl (by decide) (by decide) (by decide) dX2_has_22 (rB_i h (by decide))
def mX2_keysThere : fMt := (yX2_keysThere, cX2_keysThere, 5, some .int, { frames := 2, cells := 0, slots := 0, locals := 80 })
theorem miX2_keysThere : fMv mX2_keysThere 2 := ⟨⟨fM 653 (by decide +kernel) rfl, fM 100 (by decide +kernel) rfl, ⟨by decide +kernel, by decide +kernel⟩, by decide +kernel⟩, fM 651 (by decide +kernel) rfl, fM 652 (by decide +kernel) rfl⟩
def L_X2_keysThere_5 (o : Nat) (M : fMem) (k : Int → Option (Int)) : Nat → Int → Int → Int → Option (Int)
  | 0, _, _, _ => none
  | n + 1, v2, v3, v4 => (if v2 < v4 then k v3 else ((f_X2_has o v4 M).bind fun (r2 : Int) => (if r2 = 0 then (if -2147483648 ≤ v3 + 0 ∧ v3 + 0 < 2147483648 then (if -2147483648 ≤ v4 + 1 ∧ v4 + 1 < 2147483648 then L_X2_keysThere_5 o M k n v2 (v3 + 0) (v4 + 1) else none) else none) else (if -2147483648 ≤ v3 + 1 ∧ v3 + 1 < 2147483648 then (if -2147483648 ≤ v4 + 1 ∧ v4 + 1 < 2147483648 then L_X2_keysThere_5 o M k n v2 (v3 + 1) (v4 + 1) else none) else none))))
set_option maxRecDepth 100000 in
set_option maxHeartbeats 4000000 in
theorem l_X2_keysThere_5 {G : fG} (hg : gbt G = true) {o : Nat} (ho : fTyp o 2) {M : fMem} {q : Int} {k : Int → Option (Int)} (hk : ∀ (v3 : Int), rg v3 → k v3 = some q → fW G mX2_keysThere (fEm G mX2_keysThere (rP M q) fNo) 0 0 34 [some (rv G o), none, none, some (iv v3), none] [] M) : ∀ (n : Nat) (v2 : Int) (v3 : Int) (v4 : Int), rg v2 → rg v3 → rg v4 → L_X2_keysThere_5 o M k n v2 v3 v4 = some q → fW G mX2_keysThere (fEm G mX2_keysThere (rP M q) fNo) 0 0 5 [some (rv G o), none, some (iv v2), some (iv v3), some (iv v4)] [] M := by
  intro n
  induction n with
  | zero =>
    intro v2 v3 v4 gv2 gv3 gv4 h
    rw [L_X2_keysThere_5] at h
    exact absurd h (by simp)
  | succ n ih =>
    intro v2 v3 v4 gv2 gv3 gv4 h
    rw [L_X2_keysThere_5] at h
    refine fW_rg (fun hR => ?_)
    refine fW_iload 7 dX2_keysThere_5 rfl rfl ?_
    refine fW_iload_n 8 dX2_keysThere_7 rfl rfl ?_
    refine fW_icmp_gt 11 34 gv4 gv2 dX2_keysThere_8 rfl rfl (fun c1 => ?_) (fun c1 => ?_)
    · replace h := fTt h c1
      exact fW_sb (hk v3 gv3 h) ⟨rfl, rfl, trivial⟩
    · replace h := fFf h c1
      refine fW_iload_n 12 dX2_keysThere_11 rfl rfl ?_
      refine fW_aload_n 13 dX2_keysThere_12 rfl rfl ?_
      refine fW_iload 15 dX2_keysThere_13 rfl rfl ?_
      obtain ⟨r2, e2, h⟩ := fBd h
      refine fW_cB (fI_V (as := [iv v4]) (rest := [iv v3]) miX2_has hg clX2 rfl ho wd_654 (fRoom_of rfl) rfl (Nat.le_of_ble_eq_true rfl) dX2_keysThere_15) (s_X2_has hg ho gv4 e2) rfl rfl rfl (fun g2 => ?_)
      refine fW_if_eq 21 25 (rg_z g2) dX2_keysThere_18 rfl rfl (fun c3 => ?_) (fun c3 => ?_)
      · replace h := fTt h c3
        refine fW_iconst 26 dX2_keysThere_25 rfl ?_
        refine fW_iadd 27 dX2_keysThere_26 rfl ?_
        refine fW_istore_n 28 (ls' := [some (rv G o), none, some (iv v2), some (iv (v3 + 0)), some (iv v4)]) dX2_keysThere_27 rfl rfl rfl (by decide) ?_
        refine fW_iinc 31 (ls' := [some (rv G o), none, some (iv v2), some (iv (v3 + 0)), some (iv (v4 + 1))]) dX2_keysThere_28 rfl rfl rfl (by decide) ?_
        refine fW_goto 5 dX2_keysThere_31 rfl ?_
        obtain ⟨c4, h⟩ := fS h
        obtain ⟨c5, h⟩ := fS h
        exact fW_sb (ih v2 (v3 + 0) (v4 + 1) gv2 c4 c5 h) ⟨rfl, rfl, rfl, rfl, trivial⟩
      · replace h := fFf h c3
        refine fW_iconst 22 dX2_keysThere_21 rfl ?_
        refine fW_goto 26 dX2_keysThere_22 rfl ?_
        refine fW_iadd 27 dX2_keysThere_26 rfl ?_
        refine fW_istore_n 28 (ls' := [some (rv G o), none, some (iv v2), some (iv (v3 + 1)), some (iv v4)]) dX2_keysThere_27 rfl rfl rfl (by decide) ?_
        refine fW_iinc 31 (ls' := [some (rv G o), none, some (iv v2), some (iv (v3 + 1)), some (iv (v4 + 1))]) dX2_keysThere_28 rfl rfl rfl (by decide) ?_
        refine fW_goto 5 dX2_keysThere_31 rfl ?_
        obtain ⟨c6, h⟩ := fS h
        obtain ⟨c7, h⟩ := fS h
        exact fW_sb (ih v2 (v3 + 1) (v4 + 1) gv2 c6 c7 h) ⟨rfl, rfl, rfl, rfl, trivial⟩
def f_X2_keysThere (o : Nat) (a1 : Int) (a2 : Int) (M : fMem) : Option (Int) := L_X2_keysThere_5 o M (fun (v3_8 : Int) => some v3_8) 20000 a2 0 a1
set_option maxRecDepth 100000 in
set_option maxHeartbeats 4000000 in
theorem s_X2_keysThere {G : fG} (hg : gbt G = true) {o : Nat} (ho : fTyp o 2) {a1 : Int} (ga1 : rg a1) {a2 : Int} (ga2 : rg a2) {M : fMem} {q : Int} (h : f_X2_keysThere o a1 a2 M = some q) : fSp G mX2_keysThere [rv G o, iv a1, iv a2] M (rP M q) fNo := by
  refine fSp_of (by decide +kernel) (by decide +kernel) (fC1 rfl (fC1 rfl (fC1 rfl fC0))) (Nat.le_of_ble_eq_true rfl) ?_
  show fW G mX2_keysThere (fEm G mX2_keysThere (rP M q) fNo) 0 0 0 [some (rv G o), some (iv a1), some (iv a2), none, none] [] M
  rw [f_X2_keysThere] at h
  refine fW_rg (fun hR => ?_)
  refine fW_iconst 1 dX2_keysThere_0 rfl ?_
  refine fW_istore_n 2 (ls' := [some (rv G o), some (iv a1), some (iv a2), some (iv 0), none]) dX2_keysThere_1 rfl rfl rfl (by decide) ?_
  refine fW_iload_n 3 dX2_keysThere_2 rfl rfl ?_
  refine fW_istore 5 (ls' := [some (rv G o), some (iv a1), some (iv a2), some (iv 0), some (iv a1)]) dX2_keysThere_3 rfl rfl (by decide) ?_
  refine fW_sb (l_X2_keysThere_5 hg ho ?_ 20000 a2 0 a1 ga2 (by decide) ga1 h) ⟨rfl, rfl, rfl, rfl, trivial⟩
  intro v3_8 gv3_8 h
  refine fW_iload_n 35 dX2_keysThere_34 rfl rfl ?_
  exact fW_iret rfl (by decide) (by decide) dX2_keysThere_35 (rP_i h gv3_8)
def mX2_heldKeys : fMt := (yX2_heldKeys, cX2_heldKeys, 3, some .int, { frames := 0, cells := 0, slots := 0, locals := 0 })
theorem miX2_heldKeys : fMv mX2_heldKeys 0 := ⟨⟨fM 941 (by decide +kernel) rfl, fM 100 (by decide +kernel) rfl, ⟨by decide +kernel, by decide +kernel⟩, by decide +kernel⟩, fM 939 (by decide +kernel) rfl, fM 940 (by decide +kernel) rfl⟩
def L_X2_heldKeys_4 (o : Nat) (M : fMem) (k : Int → Option (Int)) : Nat → Int → Int → Option (Int)
  | 0, _, _ => none
  | n + 1, v1, v2 => (if 200 ≤ v2 then k v1 else (if 0 ≤ v2 ∧ v2 < 200 then (if (M (o + 2) v2) ≤ 0 then (if -2147483648 ≤ v1 + 0 ∧ v1 + 0 < 2147483648 then L_X2_heldKeys_4 o M k n (v1 + 0) (v2 + 1) else none) else (if -2147483648 ≤ v1 + 1 ∧ v1 + 1 < 2147483648 then L_X2_heldKeys_4 o M k n (v1 + 1) (v2 + 1) else none)) else none))
set_option maxRecDepth 100000 in
set_option maxHeartbeats 4000000 in
theorem l_X2_heldKeys_4 {G : fG} (hg : gbt G = true) {o : Nat} (ho : fTyp o 2) {M : fMem} {q : Int} {k : Int → Option (Int)} (hk : ∀ (v1 : Int), rg v1 → k v1 = some q → fW G mX2_heldKeys (fEm G mX2_heldKeys (rP M q) fNo) 0 0 34 [some (rv G o), some (iv v1), none] [] M) : ∀ (n : Nat) (v1 : Int) (v2 : Int), rg v1 → rg v2 → L_X2_heldKeys_4 o M k n v1 v2 = some q → fW G mX2_heldKeys (fEm G mX2_heldKeys (rP M q) fNo) 0 0 4 [some (rv G o), some (iv v1), some (iv v2)] [] M := by
  intro n
  induction n with
  | zero =>
    intro v1 v2 gv1 gv2 h
    rw [L_X2_heldKeys_4] at h
    exact absurd h (by simp)
  | succ n ih =>
    intro v1 v2 gv1 gv2 h
    rw [L_X2_heldKeys_4] at h
    refine fW_rg (fun hR => ?_)
    refine fW_iload_n 5 dX2_heldKeys_4 rfl rfl ?_
    refine fW_sipush 8 dX2_heldKeys_5 rfl (by decide) ?_
    refine fW_icmp_ge 11 34 gv2 (by decide) dX2_heldKeys_8 rfl rfl (fun c1 => ?_) (fun c1 => ?_)
    · replace h := fTt h c1
      exact fW_sb (hk v1 gv1 h) ⟨rfl, rfl, trivial⟩
    · replace h := fFf h c1
      refine fW_iload_n 12 dX2_heldKeys_11 rfl rfl ?_
      refine fW_aload_n 13 dX2_heldKeys_12 rfl rfl ?_
      refine fW_getR 16 (r := o + 2) 1 hg clX2 (by decide) rfl ho (tf_2_1 ho) wd_406 dX2_heldKeys_13 rfl ?_
      refine fW_iload_n 17 dX2_heldKeys_16 rfl rfl ?_
      obtain ⟨c2, h⟩ := fS h
      refine fW_iald 18 hg (tt_2_1 ho) ⟨c2.1, by rw [lf_2_1 ho]; exact c2.2⟩ dX2_heldKeys_17 rfl ?_
      refine fW_if_le 21 25 (hR (o + 2) v2) dX2_heldKeys_18 rfl rfl (fun c3 => ?_) (fun c3 => ?_)
      · replace h := fTt h c3
        refine fW_iconst 26 dX2_heldKeys_25 rfl ?_
        refine fW_iadd 27 dX2_heldKeys_26 rfl ?_
        refine fW_istore_n 28 (ls' := [some (rv G o), some (iv (v1 + 0)), some (iv v2)]) dX2_heldKeys_27 rfl rfl rfl (by decide) ?_
        refine fW_iinc 31 (ls' := [some (rv G o), some (iv (v1 + 0)), some (iv (v2 + 1))]) dX2_heldKeys_28 rfl rfl rfl (by decide) ?_
        refine fW_goto 4 dX2_heldKeys_31 rfl ?_
        obtain ⟨c4, h⟩ := fS h
        exact fW_sb (ih (v1 + 0) (v2 + 1) c4 (rg_succ' gv2 (by decide) c1) h) ⟨rfl, rfl, rfl, trivial⟩
      · replace h := fFf h c3
        refine fW_iconst 22 dX2_heldKeys_21 rfl ?_
        refine fW_goto 26 dX2_heldKeys_22 rfl ?_
        refine fW_iadd 27 dX2_heldKeys_26 rfl ?_
        refine fW_istore_n 28 (ls' := [some (rv G o), some (iv (v1 + 1)), some (iv v2)]) dX2_heldKeys_27 rfl rfl rfl (by decide) ?_
        refine fW_iinc 31 (ls' := [some (rv G o), some (iv (v1 + 1)), some (iv (v2 + 1))]) dX2_heldKeys_28 rfl rfl rfl (by decide) ?_
        refine fW_goto 4 dX2_heldKeys_31 rfl ?_
        obtain ⟨c5, h⟩ := fS h
        exact fW_sb (ih (v1 + 1) (v2 + 1) c5 (rg_succ' gv2 (by decide) c1) h) ⟨rfl, rfl, rfl, trivial⟩
def f_X2_heldKeys (o : Nat) (M : fMem) : Option (Int) := L_X2_heldKeys_4 o M (fun (v1_6 : Int) => some v1_6) 20000 0 0
set_option maxRecDepth 100000 in
set_option maxHeartbeats 4000000 in
theorem s_X2_heldKeys {G : fG} (hg : gbt G = true) {o : Nat} (ho : fTyp o 2) {M : fMem} {q : Int} (h : f_X2_heldKeys o M = some q) : fSp G mX2_heldKeys [rv G o] M (rP M q) fNo := by
  refine fSp_of (by decide +kernel) (by decide +kernel) (fC1 rfl fC0) (Nat.le_of_ble_eq_true rfl) ?_
  show fW G mX2_heldKeys (fEm G mX2_heldKeys (rP M q) fNo) 0 0 0 [some (rv G o), none, none] [] M
  rw [f_X2_heldKeys] at h
  refine fW_rg (fun hR => ?_)
  refine fW_iconst 1 dX2_heldKeys_0 rfl ?_
  refine fW_istore_n 2 (ls' := [some (rv G o), some (iv 0), none]) dX2_heldKeys_1 rfl rfl rfl (by decide) ?_
  refine fW_iconst 3 dX2_heldKeys_2 rfl ?_
  refine fW_istore_n 4 (ls' := [some (rv G o), some (iv 0), some (iv 0)]) dX2_heldKeys_3 rfl rfl rfl (by decide) ?_
  refine fW_sb (l_X2_heldKeys_4 hg ho ?_ 20000 0 0 (by decide) (by decide) h) ⟨rfl, rfl, rfl, trivial⟩
  intro v1_6 gv1_6 h
  refine fW_iload_n 35 dX2_heldKeys_34 rfl rfl ?_
  exact fW_iret rfl (by decide) (by decide) dX2_heldKeys_35 (rP_i h gv1_6)
def mX2_loneSigns : fMt := (yX2_loneSigns, cX2_loneSigns, 3, some .int, { frames := 2, cells := 0, slots := 0, locals := 80 })
theorem miX2_loneSigns : fMv mX2_loneSigns 0 := ⟨⟨fM 945 (by decide +kernel) rfl, fM 100 (by decide +kernel) rfl, ⟨by decide +kernel, by decide +kernel⟩, by decide +kernel⟩, fM 943 (by decide +kernel) rfl, fM 944 (by decide +kernel) rfl⟩
def L_X2_loneSigns_4 (o : Nat) (M : fMem) (k : Int → Option (Int)) : Nat → Int → Int → Option (Int)
  | 0, _, _ => none
  | n + 1, v1, v2 => (if 200 ≤ v2 then k v1 else (if 0 ≤ v2 ∧ v2 < 200 then (if (M (o + 2) v2) = 1 then ((f_X2_has o v2 M).bind fun (r5 : Int) => (if r5 = 0 then (if -2147483648 ≤ v1 + 1 ∧ v1 + 1 < 2147483648 then L_X2_loneSigns_4 o M k n (v1 + 1) (v2 + 1) else none) else (if -2147483648 ≤ v1 + 0 ∧ v1 + 0 < 2147483648 then L_X2_loneSigns_4 o M k n (v1 + 0) (v2 + 1) else none))) else (if -2147483648 ≤ v1 + 0 ∧ v1 + 0 < 2147483648 then L_X2_loneSigns_4 o M k n (v1 + 0) (v2 + 1) else none)) else none))
set_option maxRecDepth 100000 in
set_option maxHeartbeats 4000000 in
theorem l_X2_loneSigns_4 {G : fG} (hg : gbt G = true) {o : Nat} (ho : fTyp o 2) {M : fMem} {q : Int} {k : Int → Option (Int)} (hk : ∀ (v1 : Int), rg v1 → k v1 = some q → fW G mX2_loneSigns (fEm G mX2_loneSigns (rP M q) fNo) 0 0 43 [some (rv G o), some (iv v1), none] [] M) : ∀ (n : Nat) (v1 : Int) (v2 : Int), rg v1 → rg v2 → L_X2_loneSigns_4 o M k n v1 v2 = some q → fW G mX2_loneSigns (fEm G mX2_loneSigns (rP M q) fNo) 0 0 4 [some (rv G o), some (iv v1), some (iv v2)] [] M := by
  intro n
  induction n with
  | zero =>
    intro v1 v2 gv1 gv2 h
    rw [L_X2_loneSigns_4] at h
    exact absurd h (by simp)
  | succ n ih =>
    intro v1 v2 gv1 gv2 h
    rw [L_X2_loneSigns_4] at h
    refine fW_rg (fun hR => ?_)
    refine fW_iload_n 5 dX2_loneSigns_4 rfl rfl ?_
    refine fW_sipush 8 dX2_loneSigns_5 rfl (by decide) ?_
    refine fW_icmp_ge 11 43 gv2 (by decide) dX2_loneSigns_8 rfl rfl (fun c1 => ?_) (fun c1 => ?_)
    · replace h := fTt h c1
      exact fW_sb (hk v1 gv1 h) ⟨rfl, rfl, trivial⟩
    · replace h := fFf h c1
      refine fW_iload_n 12 dX2_loneSigns_11 rfl rfl ?_
      refine fW_aload_n 13 dX2_loneSigns_12 rfl rfl ?_
      refine fW_getR 16 (r := o + 2) 1 hg clX2 (by decide) rfl ho (tf_2_1 ho) wd_406 dX2_loneSigns_13 rfl ?_
      refine fW_iload_n 17 dX2_loneSigns_16 rfl rfl ?_
      obtain ⟨c2, h⟩ := fS h
      refine fW_iald 18 hg (tt_2_1 ho) ⟨c2.1, by rw [lf_2_1 ho]; exact c2.2⟩ dX2_loneSigns_17 rfl ?_
      refine fW_iconst 19 dX2_loneSigns_18 rfl ?_
      refine fW_icmp_ne 22 34 (hR (o + 2) v2) (by decide) dX2_loneSigns_19 rfl rfl (fun c3 => ?_) (fun c3 => ?_)
      · replace h := fFf h c3
        refine fW_iconst 35 dX2_loneSigns_34 rfl ?_
        refine fW_iadd 36 dX2_loneSigns_35 rfl ?_
        refine fW_istore_n 37 (ls' := [some (rv G o), some (iv (v1 + 0)), some (iv v2)]) dX2_loneSigns_36 rfl rfl rfl (by decide) ?_
        refine fW_iinc 40 (ls' := [some (rv G o), some (iv (v1 + 0)), some (iv (v2 + 1))]) dX2_loneSigns_37 rfl rfl rfl (by decide) ?_
        refine fW_goto 4 dX2_loneSigns_40 rfl ?_
        obtain ⟨c4, h⟩ := fS h
        exact fW_sb (ih (v1 + 0) (v2 + 1) c4 (rg_succ' gv2 (by decide) c1) h) ⟨rfl, rfl, rfl, trivial⟩
      · replace h := fTt h c3
        refine fW_aload_n 23 dX2_loneSigns_22 rfl rfl ?_
        refine fW_iload_n 24 dX2_loneSigns_23 rfl rfl ?_
        obtain ⟨r5, e5, h⟩ := fBd h
        refine fW_cB (fI_V (as := [iv v2]) (rest := [iv v1]) miX2_has hg clX2 rfl ho wd_654 (fRoom_of rfl) rfl (Nat.le_of_ble_eq_true rfl) dX2_loneSigns_24) (s_X2_has hg ho gv2 e5) rfl rfl rfl (fun g5 => ?_)
        refine fW_if_ne 30 34 (rg_z g5) dX2_loneSigns_27 rfl rfl (fun c6 => ?_) (fun c6 => ?_)
        · replace h := fFf h c6
          refine fW_iconst 35 dX2_loneSigns_34 rfl ?_
          refine fW_iadd 36 dX2_loneSigns_35 rfl ?_
          refine fW_istore_n 37 (ls' := [some (rv G o), some (iv (v1 + 0)), some (iv v2)]) dX2_loneSigns_36 rfl rfl rfl (by decide) ?_
          refine fW_iinc 40 (ls' := [some (rv G o), some (iv (v1 + 0)), some (iv (v2 + 1))]) dX2_loneSigns_37 rfl rfl rfl (by decide) ?_
          refine fW_goto 4 dX2_loneSigns_40 rfl ?_
          obtain ⟨c7, h⟩ := fS h
          exact fW_sb (ih (v1 + 0) (v2 + 1) c7 (rg_succ' gv2 (by decide) c1) h) ⟨rfl, rfl, rfl, trivial⟩
        · replace h := fTt h c6
          refine fW_iconst 31 dX2_loneSigns_30 rfl ?_
          refine fW_goto 35 dX2_loneSigns_31 rfl ?_
          refine fW_iadd 36 dX2_loneSigns_35 rfl ?_
          refine fW_istore_n 37 (ls' := [some (rv G o), some (iv (v1 + 1)), some (iv v2)]) dX2_loneSigns_36 rfl rfl rfl (by decide) ?_
          refine fW_iinc 40 (ls' := [some (rv G o), some (iv (v1 + 1)), some (iv (v2 + 1))]) dX2_loneSigns_37 rfl rfl rfl (by decide) ?_
          refine fW_goto 4 dX2_loneSigns_40 rfl ?_
          obtain ⟨c8, h⟩ := fS h
          exact fW_sb (ih (v1 + 1) (v2 + 1) c8 (rg_succ' gv2 (by decide) c1) h) ⟨rfl, rfl, rfl, trivial⟩
def f_X2_loneSigns (o : Nat) (M : fMem) : Option (Int) := L_X2_loneSigns_4 o M (fun (v1_9 : Int) => some v1_9) 20000 0 0
set_option maxRecDepth 100000 in
set_option maxHeartbeats 4000000 in
theorem s_X2_loneSigns {G : fG} (hg : gbt G = true) {o : Nat} (ho : fTyp o 2) {M : fMem} {q : Int} (h : f_X2_loneSigns o M = some q) : fSp G mX2_loneSigns [rv G o] M (rP M q) fNo := by
  refine fSp_of (by decide +kernel) (by decide +kernel) (fC1 rfl fC0) (Nat.le_of_ble_eq_true rfl) ?_
  show fW G mX2_loneSigns (fEm G mX2_loneSigns (rP M q) fNo) 0 0 0 [some (rv G o), none, none] [] M
  rw [f_X2_loneSigns] at h
  refine fW_rg (fun hR => ?_)
  refine fW_iconst 1 dX2_loneSigns_0 rfl ?_
  refine fW_istore_n 2 (ls' := [some (rv G o), some (iv 0), none]) dX2_loneSigns_1 rfl rfl rfl (by decide) ?_
  refine fW_iconst 3 dX2_loneSigns_2 rfl ?_
  refine fW_istore_n 4 (ls' := [some (rv G o), some (iv 0), some (iv 0)]) dX2_loneSigns_3 rfl rfl rfl (by decide) ?_
  refine fW_sb (l_X2_loneSigns_4 hg ho ?_ 20000 0 0 (by decide) (by decide) h) ⟨rfl, rfl, rfl, trivial⟩
  intro v1_9 gv1_9 h
  refine fW_iload_n 44 dX2_loneSigns_43 rfl rfl ?_
  exact fW_iret rfl (by decide) (by decide) dX2_loneSigns_44 (rP_i h gv1_9)
def mX2_lostIn : fMt := (yX2_lostIn, cX2_lostIn, 4, some .int, { frames := 2, cells := 0, slots := 0, locals := 80 })
theorem miX2_lostIn : fMv mX2_lostIn 1 := ⟨⟨fM 1152 (by decide +kernel) rfl, fM 100 (by decide +kernel) rfl, ⟨by decide +kernel, by decide +kernel⟩, by decide +kernel⟩, fM 1150 (by decide +kernel) rfl, fM 1151 (by decide +kernel) rfl⟩
def L_X2_lostIn_4 (o : Nat) (M : fMem) (k : Int → Option (Int)) : Nat → Nat → Int → Int → Option (Int)
  | 0, _, _, _ => none
  | n + 1, w1, v2, v3 => (if 200 ≤ v3 then k v2 else ((f_X2_has o v3 M).bind fun (r2 : Int) => (if r2 = 0 then (if -2147483648 ≤ v2 + 0 ∧ v2 + 0 < 2147483648 then L_X2_lostIn_4 o M k n w1 (v2 + 0) (v3 + 1) else none) else (if 0 ≤ v3 ∧ v3 < 200 then (if (M (w1 + 1) v3) = (M (o + 1) v3) then (if -2147483648 ≤ v2 + 0 ∧ v2 + 0 < 2147483648 then L_X2_lostIn_4 o M k n w1 (v2 + 0) (v3 + 1) else none) else (if -2147483648 ≤ v2 + 1 ∧ v2 + 1 < 2147483648 then L_X2_lostIn_4 o M k n w1 (v2 + 1) (v3 + 1) else none)) else none))))
set_option maxRecDepth 100000 in
set_option maxHeartbeats 4000000 in
theorem l_X2_lostIn_4 {G : fG} (hg : gbt G = true) {o : Nat} (ho : fTyp o 2) {M : fMem} {q : Int} {k : Int → Option (Int)} (hk : ∀ (v2 : Int), rg v2 → k v2 = some q → fW G mX2_lostIn (fEm G mX2_lostIn (rP M q) fNo) 0 0 48 [some (rv G o), none, some (iv v2), none] [] M) : ∀ (n : Nat) (w1 : Nat) (v2 : Int) (v3 : Int), fTyp w1 2 → rg v2 → rg v3 → L_X2_lostIn_4 o M k n w1 v2 v3 = some q → fW G mX2_lostIn (fEm G mX2_lostIn (rP M q) fNo) 0 0 4 [some (rv G o), some (rv G w1), some (iv v2), some (iv v3)] [] M := by
  intro n
  induction n with
  | zero =>
    intro w1 v2 v3 tw1 gv2 gv3 h
    rw [L_X2_lostIn_4] at h
    exact absurd h (by simp)
  | succ n ih =>
    intro w1 v2 v3 tw1 gv2 gv3 h
    rw [L_X2_lostIn_4] at h
    refine fW_rg (fun hR => ?_)
    refine fW_iload_n 5 dX2_lostIn_4 rfl rfl ?_
    refine fW_sipush 8 dX2_lostIn_5 rfl (by decide) ?_
    refine fW_icmp_ge 11 48 gv3 (by decide) dX2_lostIn_8 rfl rfl (fun c1 => ?_) (fun c1 => ?_)
    · replace h := fTt h c1
      exact fW_sb (hk v2 gv2 h) ⟨rfl, rfl, trivial⟩
    · replace h := fFf h c1
      refine fW_iload_n 12 dX2_lostIn_11 rfl rfl ?_
      refine fW_aload_n 13 dX2_lostIn_12 rfl rfl ?_
      refine fW_iload_n 14 dX2_lostIn_13 rfl rfl ?_
      obtain ⟨r2, e2, h⟩ := fBd h
      refine fW_cB (fI_V (as := [iv v3]) (rest := [iv v2]) miX2_has hg clX2 rfl ho wd_654 (fRoom_of rfl) rfl (Nat.le_of_ble_eq_true rfl) dX2_lostIn_14) (s_X2_has hg ho gv3 e2) rfl rfl rfl (fun g2 => ?_)
      refine fW_if_eq 20 39 (rg_z g2) dX2_lostIn_17 rfl rfl (fun c3 => ?_) (fun c3 => ?_)
      · replace h := fTt h c3
        refine fW_iconst 40 dX2_lostIn_39 rfl ?_
        refine fW_iadd 41 dX2_lostIn_40 rfl ?_
        refine fW_istore_n 42 (ls' := [some (rv G o), some (rv G w1), some (iv (v2 + 0)), some (iv v3)]) dX2_lostIn_41 rfl rfl rfl (by decide) ?_
        refine fW_iinc 45 (ls' := [some (rv G o), some (rv G w1), some (iv (v2 + 0)), some (iv (v3 + 1))]) dX2_lostIn_42 rfl rfl rfl (by decide) ?_
        refine fW_goto 4 dX2_lostIn_45 rfl ?_
        obtain ⟨c4, h⟩ := fS h
        exact fW_sb (ih w1 (v2 + 0) (v3 + 1) tw1 c4 (rg_succ' gv3 (by decide) c1) h) ⟨rfl, rfl, rfl, rfl, trivial⟩
      · replace h := fFf h c3
        refine fW_aload_n 21 dX2_lostIn_20 rfl rfl ?_
        refine fW_getR 24 (r := w1 + 1) 0 hg clX2 (by decide) rfl tw1 (tf_2_0 tw1) wd_404 dX2_lostIn_21 rfl ?_
        refine fW_iload_n 25 dX2_lostIn_24 rfl rfl ?_
        obtain ⟨c5, h⟩ := fS h
        refine fW_iald 26 hg (tt_2_0 tw1) ⟨c5.1, by rw [lf_2_0 tw1]; exact c5.2⟩ dX2_lostIn_25 rfl ?_
        refine fW_aload_n 27 dX2_lostIn_26 rfl rfl ?_
        refine fW_getR 30 (r := o + 1) 0 hg clX2 (by decide) rfl ho (tf_2_0 ho) wd_404 dX2_lostIn_27 rfl ?_
        refine fW_iload_n 31 dX2_lostIn_30 rfl rfl ?_
        refine fW_iald 32 hg (tt_2_0 ho) ⟨c5.1, by rw [lf_2_0 ho]; exact c5.2⟩ dX2_lostIn_31 rfl ?_
        refine fW_icmp_eq 35 39 (hR (w1 + 1) v3) (hR (o + 1) v3) dX2_lostIn_32 rfl rfl (fun c6 => ?_) (fun c6 => ?_)
        · replace h := fTt h c6
          refine fW_iconst 40 dX2_lostIn_39 rfl ?_
          refine fW_iadd 41 dX2_lostIn_40 rfl ?_
          refine fW_istore_n 42 (ls' := [some (rv G o), some (rv G w1), some (iv (v2 + 0)), some (iv v3)]) dX2_lostIn_41 rfl rfl rfl (by decide) ?_
          refine fW_iinc 45 (ls' := [some (rv G o), some (rv G w1), some (iv (v2 + 0)), some (iv (v3 + 1))]) dX2_lostIn_42 rfl rfl rfl (by decide) ?_
          refine fW_goto 4 dX2_lostIn_45 rfl ?_
          obtain ⟨c7, h⟩ := fS h
          exact fW_sb (ih w1 (v2 + 0) (v3 + 1) tw1 c7 (rg_succ' gv3 (by decide) c1) h) ⟨rfl, rfl, rfl, rfl, trivial⟩
        · replace h := fFf h c6
          refine fW_iconst 36 dX2_lostIn_35 rfl ?_
          refine fW_goto 40 dX2_lostIn_36 rfl ?_
          refine fW_iadd 41 dX2_lostIn_40 rfl ?_
          refine fW_istore_n 42 (ls' := [some (rv G o), some (rv G w1), some (iv (v2 + 1)), some (iv v3)]) dX2_lostIn_41 rfl rfl rfl (by decide) ?_
          refine fW_iinc 45 (ls' := [some (rv G o), some (rv G w1), some (iv (v2 + 1)), some (iv (v3 + 1))]) dX2_lostIn_42 rfl rfl rfl (by decide) ?_
          refine fW_goto 4 dX2_lostIn_45 rfl ?_
          obtain ⟨c8, h⟩ := fS h
          exact fW_sb (ih w1 (v2 + 1) (v3 + 1) tw1 c8 (rg_succ' gv3 (by decide) c1) h) ⟨rfl, rfl, rfl, rfl, trivial⟩
def f_X2_lostIn (o : Nat) (p1 : Nat) (M : fMem) : Option (Int) := L_X2_lostIn_4 o M (fun (v2_9 : Int) => some v2_9) 20000 p1 0 0
set_option maxRecDepth 100000 in
set_option maxHeartbeats 4000000 in
theorem s_X2_lostIn {G : fG} (hg : gbt G = true) {o : Nat} (ho : fTyp o 2) {p1 : Nat} (hp1 : fTyp p1 2) {M : fMem} {q : Int} (h : f_X2_lostIn o p1 M = some q) : fSp G mX2_lostIn [rv G o, rv G p1] M (rP M q) fNo := by
  refine fSp_of (by decide +kernel) (by decide +kernel) (fC1 rfl (fC1 rfl fC0)) (Nat.le_of_ble_eq_true rfl) ?_
  show fW G mX2_lostIn (fEm G mX2_lostIn (rP M q) fNo) 0 0 0 [some (rv G o), some (rv G p1), none, none] [] M
  rw [f_X2_lostIn] at h
  refine fW_rg (fun hR => ?_)
  refine fW_iconst 1 dX2_lostIn_0 rfl ?_
  refine fW_istore_n 2 (ls' := [some (rv G o), some (rv G p1), some (iv 0), none]) dX2_lostIn_1 rfl rfl rfl (by decide) ?_
  refine fW_iconst 3 dX2_lostIn_2 rfl ?_
  refine fW_istore_n 4 (ls' := [some (rv G o), some (rv G p1), some (iv 0), some (iv 0)]) dX2_lostIn_3 rfl rfl rfl (by decide) ?_
  refine fW_sb (l_X2_lostIn_4 hg ho ?_ 20000 p1 0 0 hp1 (by decide) (by decide) h) ⟨rfl, rfl, rfl, rfl, trivial⟩
  intro v2_9 gv2_9 h
  refine fW_iload_n 49 dX2_lostIn_48 rfl rfl ?_
  exact fW_iret rfl (by decide) (by decide) dX2_lostIn_49 (rP_i h gv2_9)
def mX2_missingIn : fMt := (yX2_missingIn, cX2_missingIn, 4, some .int, { frames := 2, cells := 0, slots := 0, locals := 80 })
theorem miX2_missingIn : fMv mX2_missingIn 1 := ⟨⟨fM 1156 (by decide +kernel) rfl, fM 100 (by decide +kernel) rfl, ⟨by decide +kernel, by decide +kernel⟩, by decide +kernel⟩, fM 1154 (by decide +kernel) rfl, fM 1155 (by decide +kernel) rfl⟩
def L_X2_missingIn_4 (o : Nat) (M : fMem) (k : Int → Option (Int)) : Nat → Nat → Int → Int → Option (Int)
  | 0, _, _, _ => none
  | n + 1, w1, v2, v3 => (if 200 ≤ v3 then k v2 else ((f_X2_has o v3 M).bind fun (r2 : Int) => (if r2 = 0 then (if -2147483648 ≤ v2 + 0 ∧ v2 + 0 < 2147483648 then L_X2_missingIn_4 o M k n w1 (v2 + 0) (v3 + 1) else none) else ((f_X2_has w1 v3 M).bind fun (r5 : Int) => (if r5 = 0 then (if -2147483648 ≤ v2 + 1 ∧ v2 + 1 < 2147483648 then L_X2_missingIn_4 o M k n w1 (v2 + 1) (v3 + 1) else none) else (if -2147483648 ≤ v2 + 0 ∧ v2 + 0 < 2147483648 then L_X2_missingIn_4 o M k n w1 (v2 + 0) (v3 + 1) else none))))))
set_option maxRecDepth 100000 in
set_option maxHeartbeats 4000000 in
theorem l_X2_missingIn_4 {G : fG} (hg : gbt G = true) {o : Nat} (ho : fTyp o 2) {M : fMem} {q : Int} {k : Int → Option (Int)} (hk : ∀ (v2 : Int), rg v2 → k v2 = some q → fW G mX2_missingIn (fEm G mX2_missingIn (rP M q) fNo) 0 0 41 [some (rv G o), none, some (iv v2), none] [] M) : ∀ (n : Nat) (w1 : Nat) (v2 : Int) (v3 : Int), fTyp w1 2 → rg v2 → rg v3 → L_X2_missingIn_4 o M k n w1 v2 v3 = some q → fW G mX2_missingIn (fEm G mX2_missingIn (rP M q) fNo) 0 0 4 [some (rv G o), some (rv G w1), some (iv v2), some (iv v3)] [] M := by
  intro n
  induction n with
  | zero =>
    intro w1 v2 v3 tw1 gv2 gv3 h
    rw [L_X2_missingIn_4] at h
    exact absurd h (by simp)
  | succ n ih =>
    intro w1 v2 v3 tw1 gv2 gv3 h
    rw [L_X2_missingIn_4] at h
    refine fW_rg (fun hR => ?_)
    refine fW_iload_n 5 dX2_missingIn_4 rfl rfl ?_
    refine fW_sipush 8 dX2_missingIn_5 rfl (by decide) ?_
    refine fW_icmp_ge 11 41 gv3 (by decide) dX2_missingIn_8 rfl rfl (fun c1 => ?_) (fun c1 => ?_)
    · replace h := fTt h c1
      exact fW_sb (hk v2 gv2 h) ⟨rfl, rfl, trivial⟩
    · replace h := fFf h c1
      refine fW_iload_n 12 dX2_missingIn_11 rfl rfl ?_
      refine fW_aload_n 13 dX2_missingIn_12 rfl rfl ?_
      refine fW_iload_n 14 dX2_missingIn_13 rfl rfl ?_
      obtain ⟨r2, e2, h⟩ := fBd h
      refine fW_cB (fI_V (as := [iv v3]) (rest := [iv v2]) miX2_has hg clX2 rfl ho wd_654 (fRoom_of rfl) rfl (Nat.le_of_ble_eq_true rfl) dX2_missingIn_14) (s_X2_has hg ho gv3 e2) rfl rfl rfl (fun g2 => ?_)
      refine fW_if_eq 20 32 (rg_z g2) dX2_missingIn_17 rfl rfl (fun c3 => ?_) (fun c3 => ?_)
      · replace h := fTt h c3
        refine fW_iconst 33 dX2_missingIn_32 rfl ?_
        refine fW_iadd 34 dX2_missingIn_33 rfl ?_
        refine fW_istore_n 35 (ls' := [some (rv G o), some (rv G w1), some (iv (v2 + 0)), some (iv v3)]) dX2_missingIn_34 rfl rfl rfl (by decide) ?_
        refine fW_iinc 38 (ls' := [some (rv G o), some (rv G w1), some (iv (v2 + 0)), some (iv (v3 + 1))]) dX2_missingIn_35 rfl rfl rfl (by decide) ?_
        refine fW_goto 4 dX2_missingIn_38 rfl ?_
        obtain ⟨c4, h⟩ := fS h
        exact fW_sb (ih w1 (v2 + 0) (v3 + 1) tw1 c4 (rg_succ' gv3 (by decide) c1) h) ⟨rfl, rfl, rfl, rfl, trivial⟩
      · replace h := fFf h c3
        refine fW_aload_n 21 dX2_missingIn_20 rfl rfl ?_
        refine fW_iload_n 22 dX2_missingIn_21 rfl rfl ?_
        obtain ⟨r5, e5, h⟩ := fBd h
        refine fW_cB (fI_V (as := [iv v3]) (rest := [iv v2]) miX2_has hg clX2 rfl tw1 wd_654 (fRoom_of rfl) rfl (Nat.le_of_ble_eq_true rfl) dX2_missingIn_22) (s_X2_has hg tw1 gv3 e5) rfl rfl rfl (fun g5 => ?_)
        refine fW_if_ne 28 32 (rg_z g5) dX2_missingIn_25 rfl rfl (fun c6 => ?_) (fun c6 => ?_)
        · replace h := fFf h c6
          refine fW_iconst 33 dX2_missingIn_32 rfl ?_
          refine fW_iadd 34 dX2_missingIn_33 rfl ?_
          refine fW_istore_n 35 (ls' := [some (rv G o), some (rv G w1), some (iv (v2 + 0)), some (iv v3)]) dX2_missingIn_34 rfl rfl rfl (by decide) ?_
          refine fW_iinc 38 (ls' := [some (rv G o), some (rv G w1), some (iv (v2 + 0)), some (iv (v3 + 1))]) dX2_missingIn_35 rfl rfl rfl (by decide) ?_
          refine fW_goto 4 dX2_missingIn_38 rfl ?_
          obtain ⟨c7, h⟩ := fS h
          exact fW_sb (ih w1 (v2 + 0) (v3 + 1) tw1 c7 (rg_succ' gv3 (by decide) c1) h) ⟨rfl, rfl, rfl, rfl, trivial⟩
        · replace h := fTt h c6
          refine fW_iconst 29 dX2_missingIn_28 rfl ?_
          refine fW_goto 33 dX2_missingIn_29 rfl ?_
          refine fW_iadd 34 dX2_missingIn_33 rfl ?_
          refine fW_istore_n 35 (ls' := [some (rv G o), some (rv G w1), some (iv (v2 + 1)), some (iv v3)]) dX2_missingIn_34 rfl rfl rfl (by decide) ?_
          refine fW_iinc 38 (ls' := [some (rv G o), some (rv G w1), some (iv (v2 + 1)), some (iv (v3 + 1))]) dX2_missingIn_35 rfl rfl rfl (by decide) ?_
          refine fW_goto 4 dX2_missingIn_38 rfl ?_
          obtain ⟨c8, h⟩ := fS h
          exact fW_sb (ih w1 (v2 + 1) (v3 + 1) tw1 c8 (rg_succ' gv3 (by decide) c1) h) ⟨rfl, rfl, rfl, rfl, trivial⟩
def f_X2_missingIn (o : Nat) (p1 : Nat) (M : fMem) : Option (Int) := L_X2_missingIn_4 o M (fun (v2_9 : Int) => some v2_9) 20000 p1 0 0
set_option maxRecDepth 100000 in
set_option maxHeartbeats 4000000 in
theorem s_X2_missingIn {G : fG} (hg : gbt G = true) {o : Nat} (ho : fTyp o 2) {p1 : Nat} (hp1 : fTyp p1 2) {M : fMem} {q : Int} (h : f_X2_missingIn o p1 M = some q) : fSp G mX2_missingIn [rv G o, rv G p1] M (rP M q) fNo := by
  refine fSp_of (by decide +kernel) (by decide +kernel) (fC1 rfl (fC1 rfl fC0)) (Nat.le_of_ble_eq_true rfl) ?_
  show fW G mX2_missingIn (fEm G mX2_missingIn (rP M q) fNo) 0 0 0 [some (rv G o), some (rv G p1), none, none] [] M
  rw [f_X2_missingIn] at h
  refine fW_rg (fun hR => ?_)
  refine fW_iconst 1 dX2_missingIn_0 rfl ?_
  refine fW_istore_n 2 (ls' := [some (rv G o), some (rv G p1), some (iv 0), none]) dX2_missingIn_1 rfl rfl rfl (by decide) ?_
  refine fW_iconst 3 dX2_missingIn_2 rfl ?_
  refine fW_istore_n 4 (ls' := [some (rv G o), some (rv G p1), some (iv 0), some (iv 0)]) dX2_missingIn_3 rfl rfl rfl (by decide) ?_
  refine fW_sb (l_X2_missingIn_4 hg ho ?_ 20000 p1 0 0 hp1 (by decide) (by decide) h) ⟨rfl, rfl, rfl, rfl, trivial⟩
  intro v2_9 gv2_9 h
  refine fW_iload_n 42 dX2_missingIn_41 rfl rfl ?_
  exact fW_iret rfl (by decide) (by decide) dX2_missingIn_42 (rP_i h gv2_9)
def mX7_leadOf : fMt := (yX7_leadOf, cX7_leadOf, 2, some .int, { frames := 1, cells := 0, slots := 0, locals := 40 })
theorem miX7_leadOf : fMv mX7_leadOf 1 := ⟨⟨fM 789 (by decide +kernel) rfl, fM 91 (by decide +kernel) rfl, ⟨by decide +kernel, by decide +kernel⟩, by decide +kernel⟩, fM 787 (by decide +kernel) rfl, fM 788 (by decide +kernel) rfl⟩
def f_X7_leadOf (o : Nat) (a1 : Int) (M : fMem) : Option (Int) := ((f_X7_youngestBut o a1 ((-1)) M).bind fun (r1 : Int) => some r1)
set_option maxRecDepth 100000 in
set_option maxHeartbeats 4000000 in
theorem s_X7_leadOf {G : fG} (hg : gbt G = true) {o : Nat} (ho : fTyp o 7) {a1 : Int} (ga1 : rg a1) {M : fMem} {q : Int} (h : f_X7_leadOf o a1 M = some q) : fSp G mX7_leadOf [rv G o, iv a1] M (rP M q) fNo := by
  refine fSp_of (by decide +kernel) (by decide +kernel) (fC1 rfl (fC1 rfl fC0)) (Nat.le_of_ble_eq_true rfl) ?_
  show fW G mX7_leadOf (fEm G mX7_leadOf (rP M q) fNo) 0 0 0 [some (rv G o), some (iv a1)] [] M
  rw [f_X7_leadOf] at h
  refine fW_rg (fun hR => ?_)
  refine fW_aload_n 1 dX7_leadOf_0 rfl rfl ?_
  refine fW_iload_n 2 dX7_leadOf_1 rfl rfl ?_
  refine fW_iconst 3 dX7_leadOf_2 rfl ?_
  obtain ⟨r1, e1, h⟩ := fBd h
  refine fW_cP (fI_V (as := [iv a1, iv ((-1))]) (rest := []) miX7_youngestBut hg clX7 rfl ho wd_790 (fRoom_of rfl) rfl (Nat.le_of_ble_eq_true rfl) dX7_leadOf_3) (s_X7_youngestBut hg ho ga1 (by decide) e1) rfl rfl rfl (fun g1 => ?_)
  exact fW_iret rfl (by decide) (by decide) dX7_leadOf_6 (rP_i h g1)
def mX3_marksIn : fMt := (yX3_marksIn, cX3_marksIn, 3, some .int, { frames := 0, cells := 0, slots := 0, locals := 0 })
theorem miX3_marksIn : fMv mX3_marksIn 2 := ⟨⟨fM 803 (by decide +kernel) rfl, fM 97 (by decide +kernel) rfl, ⟨by decide +kernel, by decide +kernel⟩, by decide +kernel⟩, fM 802 (by decide +kernel) rfl, fM 14 (by decide +kernel) rfl⟩
def f_X3_marksIn (a1 : Int) (a2 : Int) (M : fMem) : Option (Int) := (if a1 = ((-1)) then some 0 else (if 2 ≤ a2 then (if 0 ≤ a1 ∧ a1 < 19 then (if 0 ≤ M (4 * psO a1.toNat + 151) 3 then (if 0 < a2 then (if -2147483648 ≤ (M (4 * psO a1.toNat + 151) 3) / a2 ∧ (M (4 * psO a1.toNat + 151) 3) / a2 < 2147483648 then some ((M (4 * psO a1.toNat + 151) 3) / a2) else none) else none) else none) else none) else some 0))
set_option maxRecDepth 100000 in
set_option maxHeartbeats 4000000 in
theorem s_X3_marksIn {G : fG} (hg : gbt G = true) {a1 : Int} (ga1 : rg a1) {a2 : Int} (ga2 : rg a2) {M : fMem} {q : Int} (h : f_X3_marksIn a1 a2 M = some q) : fSp G mX3_marksIn [rv G 149, iv a1, iv a2] M (rP M q) fNo := by
  refine fSp_of (by decide +kernel) (by decide +kernel) (fC1 rfl (fC1 rfl (fC1 rfl fC0))) (Nat.le_of_ble_eq_true rfl) ?_
  show fW G mX3_marksIn (fEm G mX3_marksIn (rP M q) fNo) 0 0 0 [some (rv G 149), some (iv a1), some (iv a2)] [] M
  rw [f_X3_marksIn] at h
  refine fW_rg (fun hR => ?_)
  refine fW_iload_n 1 dX3_marksIn_0 rfl rfl ?_
  refine fW_iconst 2 dX3_marksIn_1 rfl ?_
  refine fW_icmp_eq 5 10 ga1 (by decide) dX3_marksIn_2 rfl rfl (fun c1 => ?_) (fun c1 => ?_)
  · replace h := fTt h c1
    refine fW_iconst 11 dX3_marksIn_10 rfl ?_
    refine fW_goto 25 dX3_marksIn_11 rfl ?_
    exact fW_iret rfl (by decide) (by decide) dX3_marksIn_25 (rP_i h (by decide))
  · replace h := fFf h c1
    refine fW_iload_n 6 dX3_marksIn_5 rfl rfl ?_
    refine fW_iconst 7 dX3_marksIn_6 rfl ?_
    refine fW_icmp_ge 10 14 ga2 (by decide) dX3_marksIn_7 rfl rfl (fun c2 => ?_) (fun c2 => ?_)
    · replace h := fTt h c2
      refine fW_aload_n 15 dX3_marksIn_14 rfl rfl ?_
      refine fW_getR 18 (r := 150) 0 hg clX3 (by decide) rfl tc_149 tf_3_0 wd_361 dX3_marksIn_15 rfl ?_
      refine fW_iload_n 19 dX3_marksIn_18 rfl rfl ?_
      obtain ⟨c3, h⟩ := fS h
      have t4 := ta_14 (r := 4 * psO a1.toNat + 151) tc_150 c3 (by omega)
      refine fW_aald 20 2 hg tc_150 (by decide) (by decide) t4.1 t4.2.2 rfl dX3_marksIn_19 rfl ?_
      refine fW_getI 23 3 (ji := 3) hg clX1 rfl (by decide) rfl t4.2.1 wd_345 dX3_marksIn_20 rfl ?_
      refine fW_iload_n 24 dX3_marksIn_23 rfl rfl ?_
      obtain ⟨c5, h⟩ := fS h
      obtain ⟨c6, h⟩ := fS h
      refine fW_idiv 25 ⟨c5, (hR (4 * psO a1.toNat + 151) 3).2⟩ ⟨c6, ga2.2⟩ dX3_marksIn_24 rfl ?_
      obtain ⟨c7, h⟩ := fS h
      exact fW_iret rfl (by decide) (by decide) dX3_marksIn_25 (rP_i h c7)
    · replace h := fFf h c2
      refine fW_iconst 11 dX3_marksIn_10 rfl ?_
      refine fW_goto 25 dX3_marksIn_11 rfl ?_
      exact fW_iret rfl (by decide) (by decide) dX3_marksIn_25 (rP_i h (by decide))
def mX3_keyIn : fMt := (yX3_keyIn, cX3_keyIn, 3, some .int, { frames := 1, cells := 0, slots := 0, locals := 40 })
theorem miX3_keyIn : fMv mX3_keyIn 2 := ⟨⟨fM 808 (by decide +kernel) rfl, fM 97 (by decide +kernel) rfl, ⟨by decide +kernel, by decide +kernel⟩, by decide +kernel⟩, fM 807 (by decide +kernel) rfl, fM 15 (by decide +kernel) rfl⟩
def f_X3_keyIn (a1 : Int) (a2 : Int) (M : fMem) : Option (Int) := (if a1 = ((-1)) then some 200 else (if 0 ≤ a1 ∧ a1 < 19 then ((f_X1_keyAt (4 * psO a1.toNat + 151) a2 M).bind fun (r4 : Int) => some r4) else none))
set_option maxRecDepth 100000 in
set_option maxHeartbeats 4000000 in
theorem s_X3_keyIn {G : fG} (hg : gbt G = true) {a1 : Int} (ga1 : rg a1) {a2 : Int} (ga2 : rg a2) {M : fMem} {q : Int} (h : f_X3_keyIn a1 a2 M = some q) : fSp G mX3_keyIn [rv G 149, iv a1, iv a2] M (rP M q) fNo := by
  refine fSp_of (by decide +kernel) (by decide +kernel) (fC1 rfl (fC1 rfl (fC1 rfl fC0))) (Nat.le_of_ble_eq_true rfl) ?_
  show fW G mX3_keyIn (fEm G mX3_keyIn (rP M q) fNo) 0 0 0 [some (rv G 149), some (iv a1), some (iv a2)] [] M
  rw [f_X3_keyIn] at h
  refine fW_rg (fun hR => ?_)
  refine fW_iload_n 1 dX3_keyIn_0 rfl rfl ?_
  refine fW_iconst 2 dX3_keyIn_1 rfl ?_
  refine fW_icmp_ne 5 11 ga1 (by decide) dX3_keyIn_2 rfl rfl (fun c1 => ?_) (fun c1 => ?_)
  · replace h := fFf h c1
    refine fW_aload_n 12 dX3_keyIn_11 rfl rfl ?_
    refine fW_getR 15 (r := 150) 0 hg clX3 (by decide) rfl tc_149 tf_3_0 wd_361 dX3_keyIn_12 rfl ?_
    refine fW_iload_n 16 dX3_keyIn_15 rfl rfl ?_
    obtain ⟨c2, h⟩ := fS h
    have t3 := ta_14 (r := 4 * psO a1.toNat + 151) tc_150 c2 (by omega)
    refine fW_aald 17 2 hg tc_150 (by decide) (by decide) t3.1 t3.2.2 rfl dX3_keyIn_16 rfl ?_
    refine fW_iload_n 18 dX3_keyIn_17 rfl rfl ?_
    obtain ⟨r4, e4, h⟩ := fBd h
    refine fW_cP (fI_V (as := [iv a2]) (rest := []) miX1_keyAt hg clX1 rfl t3.2.1 wd_809 (fRoom_of rfl) rfl (Nat.le_of_ble_eq_true rfl) dX3_keyIn_18) (s_X1_keyAt hg t3.2.1 ga2 e4) rfl rfl rfl (fun g4 => ?_)
    exact fW_iret rfl (by decide) (by decide) dX3_keyIn_21 (rP_i h g4)
  · replace h := fTt h c1
    refine fW_sipush 8 dX3_keyIn_5 rfl (by decide) ?_
    refine fW_goto 21 dX3_keyIn_8 rfl ?_
    exact fW_iret rfl (by decide) (by decide) dX3_keyIn_21 (rP_i h (by decide))
def mX10_numberOf : fMt := (yX10_numberOf, cX10_numberOf, 1, some .int, { frames := 0, cells := 0, slots := 0, locals := 0 })
theorem miX10_numberOf : fMs mX10_numberOf 1 := ⟨⟨fM 820 (by decide +kernel) rfl, fM 89 (by decide +kernel) rfl, ⟨by decide +kernel, by decide +kernel⟩, by decide +kernel⟩, fM 819 (by decide +kernel) rfl⟩
def f_X10_numberOf (a1 : Int) (M : fMem) : Option (Int) := (if 0 ≤ a1 ∧ a1 < 19 then (if 0 ≤ LO a1 ∧ LO a1 < 9 then (if -2147483648 ≤ a1 - (FR (LO a1)) ∧ a1 - (FR (LO a1)) < 2147483648 then some (a1 - (FR (LO a1))) else none) else none) else none)
set_option maxRecDepth 100000 in
set_option maxHeartbeats 4000000 in
theorem s_X10_numberOf {G : fG} (hg : gbt G = true) {a1 : Int} (ga1 : rg a1) {M : fMem} {q : Int} (h : f_X10_numberOf a1 M = some q) : fSp G mX10_numberOf [iv a1] M (rP M q) fNo := by
  refine fSp_of (by decide +kernel) (by decide +kernel) (fC1 rfl fC0) (Nat.le_of_ble_eq_true rfl) ?_
  show fW G mX10_numberOf (fEm G mX10_numberOf (rP M q) fNo) 0 0 0 [some (iv a1)] [] M
  rw [f_X10_numberOf] at h
  refine fW_rg (fun hR => ?_)
  refine fW_iload_n 1 dX10_numberOf_0 rfl rfl ?_
  refine fW_gets 4 0 (by decide) wd_664 dX10_numberOf_1 rfl ?_
  refine fW_gets 7 2 (by decide) wd_821 dX10_numberOf_4 rfl ?_
  refine fW_iload_n 8 dX10_numberOf_7 rfl rfl ?_
  obtain ⟨c1, h⟩ := fS h
  refine fW_sald 9 2 (by decide) c1 dX10_numberOf_8 rfl ?_
  rw [show SV 2 a1 = LO a1 from rfl]
  obtain ⟨c2, h⟩ := fS h
  refine fW_sald 10 0 (by decide) c2 dX10_numberOf_9 rfl ?_
  rw [show SV 0 (LO a1) = FR (LO a1) from rfl]
  refine fW_isub 11 dX10_numberOf_10 rfl ?_
  obtain ⟨c3, h⟩ := fS h
  exact fW_iret rfl (by decide) (by decide) dX10_numberOf_11 (rP_i h c3)
end MTH
