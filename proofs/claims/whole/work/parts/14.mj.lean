section MTH
def mX6_placeOf : fMt := (yX6_placeOf, cX6_placeOf, 6, some .int, { frames := 1, cells := 0, slots := 0, locals := 40 })
theorem miX6_placeOf : fMv mX6_placeOf 1 := ⟨⟨fM 619 (by decide +kernel) rfl, fM 92 (by decide +kernel) rfl, ⟨by decide +kernel, by decide +kernel⟩, by decide +kernel⟩, fM 617 (by decide +kernel) rfl, fM 618 (by decide +kernel) rfl⟩
def L_X6_placeOf_11 (o : Nat) (M : fMem) (k : Int → Int → Option (Int)) : Nat → Int → Int → Int → Int → Option (Int)
  | 0, _, _, _, _ => none
  | n + 1, v1, v2, v3, v4 => (if v4 ≤ 0 then k v1 v2 else (if v3 ≤ v2 then k v1 v2 else (if 0 ≤ v2 + v3 ∧ v2 + v3 < 2147483648 then (if -2147483648 ≤ (v2 + v3) / 2 ∧ (v2 + v3) / 2 < 2147483648 then ((f_X6_keyAt o ((v2 + v3) / 2) M).bind fun (r5 : Int) => (if v1 ≤ r5 then L_X6_placeOf_11 o M k n v1 v2 ((v2 + v3) / 2) (v4 + -1) else (if -2147483648 ≤ ((v2 + v3) / 2) + 1 ∧ ((v2 + v3) / 2) + 1 < 2147483648 then L_X6_placeOf_11 o M k n v1 (((v2 + v3) / 2) + 1) v3 (v4 + -1) else none))) else none) else none)))
set_option maxRecDepth 100000 in
set_option maxHeartbeats 4000000 in
theorem l_X6_placeOf_11 {G : fG} (hg : gbt G = true) {o : Nat} (ho : fTyp o 6) {M : fMem} {q : Int} {k : Int → Int → Option (Int)} (hk : ∀ (v1 : Int) (v2 : Int), rg v1 → rg v2 → k v1 v2 = some q → fW G mX6_placeOf (fEm G mX6_placeOf (rP M q) fNo) 0 0 55 [some (rv G o), some (iv v1), some (iv v2), none, none, none] [] M) : ∀ (n : Nat) (v1 : Int) (v2 : Int) (v3 : Int) (v4 : Int), rg v1 → rg v2 → rg v3 → rg v4 → L_X6_placeOf_11 o M k n v1 v2 v3 v4 = some q → fW G mX6_placeOf (fEm G mX6_placeOf (rP M q) fNo) 0 0 11 [some (rv G o), some (iv v1), some (iv v2), some (iv v3), some (iv v4), none] [] M := by
  intro n
  induction n with
  | zero =>
    intro v1 v2 v3 v4 gv1 gv2 gv3 gv4 h
    rw [L_X6_placeOf_11] at h
    exact absurd h (by simp)
  | succ n ih =>
    intro v1 v2 v3 v4 gv1 gv2 gv3 gv4 h
    rw [L_X6_placeOf_11] at h
    refine fW_rg (fun hR => ?_)
    refine fW_iload 13 dX6_placeOf_11 rfl rfl ?_
    refine fW_if_le 16 55 gv4 dX6_placeOf_13 rfl rfl (fun c1 => ?_) (fun c1 => ?_)
    · replace h := fTt h c1
      exact fW_sb (hk v1 v2 gv1 gv2 h) ⟨rfl, rfl, rfl, trivial⟩
    · replace h := fFf h c1
      refine fW_iload_n 17 dX6_placeOf_16 rfl rfl ?_
      refine fW_iload_n 18 dX6_placeOf_17 rfl rfl ?_
      refine fW_icmp_ge 21 55 gv2 gv3 dX6_placeOf_18 rfl rfl (fun c2 => ?_) (fun c2 => ?_)
      · replace h := fTt h c2
        exact fW_sb (hk v1 v2 gv1 gv2 h) ⟨rfl, rfl, rfl, trivial⟩
      · replace h := fFf h c2
        refine fW_iload_n 22 dX6_placeOf_21 rfl rfl ?_
        refine fW_iload_n 23 dX6_placeOf_22 rfl rfl ?_
        refine fW_iadd 24 dX6_placeOf_23 rfl ?_
        refine fW_iconst 25 dX6_placeOf_24 rfl ?_
        obtain ⟨c3, h⟩ := fS h
        refine fW_idiv 26 c3 (by decide) dX6_placeOf_25 rfl ?_
        refine fW_istore 28 (ls' := [some (rv G o), some (iv v1), some (iv v2), some (iv v3), some (iv v4), some (iv ((v2 + v3) / 2))]) dX6_placeOf_26 rfl rfl (by decide) ?_
        refine fW_aload_n 29 dX6_placeOf_28 rfl rfl ?_
        refine fW_iload 31 dX6_placeOf_29 rfl rfl ?_
        obtain ⟨c4, h⟩ := fS h
        obtain ⟨r5, e5, h⟩ := fBd h
        refine fW_cP (fI_V (as := [iv ((v2 + v3) / 2)]) (rest := []) miX6_keyAt hg clX6 rfl ho wd_620 (fRoom_of rfl) rfl (Nat.le_of_ble_eq_true rfl) dX6_placeOf_31) (s_X6_keyAt hg ho c4 e5) rfl rfl rfl (fun g5 => ?_)
        refine fW_iload_n 35 dX6_placeOf_34 rfl rfl ?_
        refine fW_icmp_ge 38 46 g5 gv1 dX6_placeOf_35 rfl rfl (fun c6 => ?_) (fun c6 => ?_)
        · replace h := fTt h c6
          refine fW_iload 48 dX6_placeOf_46 rfl rfl ?_
          refine fW_istore_n 49 (ls' := [some (rv G o), some (iv v1), some (iv v2), some (iv ((v2 + v3) / 2)), some (iv v4), some (iv ((v2 + v3) / 2))]) dX6_placeOf_48 rfl rfl rfl (by decide) ?_
          refine fW_iinc 52 (ls' := [some (rv G o), some (iv v1), some (iv v2), some (iv ((v2 + v3) / 2)), some (iv (v4 + -1)), some (iv ((v2 + v3) / 2))]) dX6_placeOf_49 rfl rfl rfl (by decide) ?_
          refine fW_goto 11 dX6_placeOf_52 rfl ?_
          exact fW_sb (ih v1 v2 ((v2 + v3) / 2) (v4 + -1) gv1 gv2 c4 (rg_pred' gv4 (by decide) c1) h) ⟨rfl, rfl, rfl, rfl, rfl, trivial⟩
        · replace h := fFf h c6
          refine fW_iload 40 dX6_placeOf_38 rfl rfl ?_
          refine fW_iconst 41 dX6_placeOf_40 rfl ?_
          refine fW_iadd 42 dX6_placeOf_41 rfl ?_
          refine fW_istore_n 43 (ls' := [some (rv G o), some (iv v1), some (iv (((v2 + v3) / 2) + 1)), some (iv v3), some (iv v4), some (iv ((v2 + v3) / 2))]) dX6_placeOf_42 rfl rfl rfl (by decide) ?_
          refine fW_goto 49 dX6_placeOf_43 rfl ?_
          refine fW_iinc 52 (ls' := [some (rv G o), some (iv v1), some (iv (((v2 + v3) / 2) + 1)), some (iv v3), some (iv (v4 + -1)), some (iv ((v2 + v3) / 2))]) dX6_placeOf_49 rfl rfl rfl (by decide) ?_
          refine fW_goto 11 dX6_placeOf_52 rfl ?_
          obtain ⟨c7, h⟩ := fS h
          exact fW_sb (ih v1 (((v2 + v3) / 2) + 1) v3 (v4 + -1) gv1 c7 gv3 (rg_pred' gv4 (by decide) c1) h) ⟨rfl, rfl, rfl, rfl, rfl, trivial⟩
def j_X6_placeOf_55 (o : Nat) (v1 : Int) (v2 : Int) (M : fMem) : Option (Int) := ((f_X6_keyAt o v2 M).bind fun (r9 : Int) => (if r9 = v1 then some v2 else some ((-1))))
set_option maxRecDepth 100000 in
set_option maxHeartbeats 4000000 in
theorem i_X6_placeOf_55 {G : fG} (hg : gbt G = true) {o : Nat} (ho : fTyp o 6) {v1 : Int} {v2 : Int} (gv1 : rg v1) (gv2 : rg v2) {M : fMem} {q : Int} (h : j_X6_placeOf_55 o v1 v2 M = some q) : fW G mX6_placeOf (fEm G mX6_placeOf (rP M q) fNo) 0 0 55 [some (rv G o), some (iv v1), some (iv v2), none, none, none] [] M := by
  rw [j_X6_placeOf_55] at h
  refine fW_rg (fun hR => ?_)
  refine fW_aload_n 56 dX6_placeOf_55 rfl rfl ?_
  refine fW_iload_n 57 dX6_placeOf_56 rfl rfl ?_
  obtain ⟨r9, e9, h⟩ := fBd h
  refine fW_cP (fI_V (as := [iv v2]) (rest := []) miX6_keyAt hg clX6 rfl ho wd_620 (fRoom_of rfl) rfl (Nat.le_of_ble_eq_true rfl) dX6_placeOf_57) (s_X6_keyAt hg ho gv2 e9) rfl rfl rfl (fun g9 => ?_)
  refine fW_iload_n 61 dX6_placeOf_60 rfl rfl ?_
  refine fW_icmp_ne 64 68 g9 gv1 dX6_placeOf_61 rfl rfl (fun c10 => ?_) (fun c10 => ?_)
  · replace h := fFf h c10
    refine fW_iconst 69 dX6_placeOf_68 rfl ?_
    exact fW_iret rfl (by decide) (by decide) dX6_placeOf_69 (rP_i h (by decide))
  · replace h := fTt h c10
    refine fW_iload_n 65 dX6_placeOf_64 rfl rfl ?_
    refine fW_goto 69 dX6_placeOf_65 rfl ?_
    exact fW_iret rfl (by decide) (by decide) dX6_placeOf_69 (rP_i h gv2)
def f_X6_placeOf (o : Nat) (a1 : Int) (M : fMem) : Option (Int) := L_X6_placeOf_11 o M (fun (v1_8 : Int) (v2_8 : Int) => j_X6_placeOf_55 o v1_8 v2_8 M) 20000 a1 0 (M o 3) 40
set_option maxRecDepth 100000 in
set_option maxHeartbeats 4000000 in
theorem s_X6_placeOf {G : fG} (hg : gbt G = true) {o : Nat} (ho : fTyp o 6) {a1 : Int} (ga1 : rg a1) {M : fMem} {q : Int} (h : f_X6_placeOf o a1 M = some q) : fSp G mX6_placeOf [rv G o, iv a1] M (rP M q) fNo := by
  refine fSp_of (by decide +kernel) (by decide +kernel) (fC1 rfl (fC1 rfl fC0)) (Nat.le_of_ble_eq_true rfl) ?_
  show fW G mX6_placeOf (fEm G mX6_placeOf (rP M q) fNo) 0 0 0 [some (rv G o), some (iv a1), none, none, none, none] [] M
  rw [f_X6_placeOf] at h
  refine fW_rg (fun hR => ?_)
  refine fW_iconst 1 dX6_placeOf_0 rfl ?_
  refine fW_istore_n 2 (ls' := [some (rv G o), some (iv a1), some (iv 0), none, none, none]) dX6_placeOf_1 rfl rfl rfl (by decide) ?_
  refine fW_aload_n 3 dX6_placeOf_2 rfl rfl ?_
  refine fW_getI 6 3 (ji := 3) hg clX6 rfl (by decide) rfl ho wd_154 dX6_placeOf_3 rfl ?_
  refine fW_istore_n 7 (ls' := [some (rv G o), some (iv a1), some (iv 0), some (iv (M o 3)), none, none]) dX6_placeOf_6 rfl rfl rfl (by decide) ?_
  refine fW_bipush 9 dX6_placeOf_7 rfl (by decide) ?_
  refine fW_istore 11 (ls' := [some (rv G o), some (iv a1), some (iv 0), some (iv (M o 3)), some (iv 40), none]) dX6_placeOf_9 rfl rfl (by decide) ?_
  refine fW_sb (l_X6_placeOf_11 hg ho ?_ 20000 a1 0 (M o 3) 40 ga1 (by decide) (hR o 3) (by decide) h) ⟨rfl, rfl, rfl, rfl, rfl, trivial⟩
  intro v1_8 v2_8 gv1_8 gv2_8 h
  exact fW_sb (i_X6_placeOf_55 hg ho gv1_8 gv2_8 h) ⟨rfl, rfl, rfl, trivial⟩
def mX7_thingsOf : fMt := (yX7_thingsOf, cX7_thingsOf, 4, some .int, { frames := 1, cells := 0, slots := 0, locals := 40 })
theorem miX7_thingsOf : fMv mX7_thingsOf 1 := ⟨⟨fM 977 (by decide +kernel) rfl, fM 91 (by decide +kernel) rfl, ⟨by decide +kernel, by decide +kernel⟩, by decide +kernel⟩, fM 975 (by decide +kernel) rfl, fM 976 (by decide +kernel) rfl⟩
def L_X7_thingsOf_8 (o : Nat) (M : fMem) (k : Int → Option (Int)) : Nat → Int → Int → Int → Option (Int)
  | 0, _, _, _ => none
  | n + 1, v1, v2, v3 => (if 0 ≤ v1 ∧ v1 < 9 then (if (ER v1) ≤ v3 then k v2 else (if 0 ≤ v3 ∧ v3 < 19 then ((f_X6_isShut (o + 3 * v3.toNat + 3) M).bind fun (r6 : Int) => (if r6 = 0 then (if -2147483648 ≤ v2 + 0 ∧ v2 + 0 < 2147483648 then L_X7_thingsOf_8 o M k n v1 (v2 + 0) (v3 + 1) else none) else (if 0 ≤ v3 ∧ v3 < 19 then (if -2147483648 ≤ v2 + (M (o + 3 * v3.toNat + 3) 3) ∧ v2 + (M (o + 3 * v3.toNat + 3) 3) < 2147483648 then L_X7_thingsOf_8 o M k n v1 (v2 + (M (o + 3 * v3.toNat + 3) 3)) (v3 + 1) else none) else none))) else none)) else none)
set_option maxRecDepth 100000 in
set_option maxHeartbeats 4000000 in
theorem l_X7_thingsOf_8 {G : fG} (hg : gbt G = true) {o : Nat} (ho : fTyp o 7) {M : fMem} {q : Int} {k : Int → Option (Int)} (hk : ∀ (v2 : Int), rg v2 → k v2 = some q → fW G mX7_thingsOf (fEm G mX7_thingsOf (rP M q) fNo) 0 0 51 [some (rv G o), none, some (iv v2), none] [] M) : ∀ (n : Nat) (v1 : Int) (v2 : Int) (v3 : Int), rg v1 → rg v2 → rg v3 → L_X7_thingsOf_8 o M k n v1 v2 v3 = some q → fW G mX7_thingsOf (fEm G mX7_thingsOf (rP M q) fNo) 0 0 8 [some (rv G o), some (iv v1), some (iv v2), some (iv v3)] [] M := by
  intro n
  induction n with
  | zero =>
    intro v1 v2 v3 gv1 gv2 gv3 h
    rw [L_X7_thingsOf_8] at h
    exact absurd h (by simp)
  | succ n ih =>
    intro v1 v2 v3 gv1 gv2 gv3 h
    rw [L_X7_thingsOf_8] at h
    refine fW_rg (fun hR => ?_)
    refine fW_iload_n 9 dX7_thingsOf_8 rfl rfl ?_
    refine fW_getsN 12 (host := "RowStore") 1 (by decide) (by decide +kernel) dX7_thingsOf_9 rfl ?_
    refine fW_iload_n 13 dX7_thingsOf_12 rfl rfl ?_
    obtain ⟨c2, h⟩ := fS h
    refine fW_sald 14 1 (by decide) c2 dX7_thingsOf_13 rfl ?_
    rw [show SV 1 v1 = ER v1 from rfl]
    refine fW_icmp_ge 17 51 gv3 (rg_ER c2) dX7_thingsOf_14 rfl rfl (fun c3 => ?_) (fun c3 => ?_)
    · replace h := fTt h c3
      exact fW_sb (hk v2 gv2 h) ⟨rfl, rfl, trivial⟩
    · replace h := fFf h c3
      refine fW_iload_n 18 dX7_thingsOf_17 rfl rfl ?_
      refine fW_aload_n 19 dX7_thingsOf_18 rfl rfl ?_
      refine fW_getR 22 (r := o + 1) 0 hg clX7 (by decide) rfl ho (tf_7_0 ho) wd_180 dX7_thingsOf_19 rfl ?_
      refine fW_iload_n 23 dX7_thingsOf_22 rfl rfl ?_
      obtain ⟨c4, h⟩ := fS h
      have t5 := ta_16 (r := o + 3 * v3.toNat + 3) (tt_7_0 ho) c4 (by omega)
      refine fW_aald 24 4 hg (tt_7_0 ho) (by decide) (by decide) t5.1 t5.2.2 rfl dX7_thingsOf_23 rfl ?_
      obtain ⟨r6, e6, h⟩ := fBd h
      refine fW_cB (fI_V (as := []) (rest := [iv v2]) miX6_isShut hg clX6 rfl t5.2.1 wd_600 (fRoom_of rfl) rfl (Nat.le_of_ble_eq_true rfl) dX7_thingsOf_24) (s_X6_isShut hg t5.2.1 e6) rfl rfl rfl (fun g6 => ?_)
      refine fW_if_eq 30 42 (rg_z g6) dX7_thingsOf_27 rfl rfl (fun c7 => ?_) (fun c7 => ?_)
      · replace h := fTt h c7
        refine fW_iconst 43 dX7_thingsOf_42 rfl ?_
        refine fW_iadd 44 dX7_thingsOf_43 rfl ?_
        refine fW_istore_n 45 (ls' := [some (rv G o), some (iv v1), some (iv (v2 + 0)), some (iv v3)]) dX7_thingsOf_44 rfl rfl rfl (by decide) ?_
        refine fW_iinc 48 (ls' := [some (rv G o), some (iv v1), some (iv (v2 + 0)), some (iv (v3 + 1))]) dX7_thingsOf_45 rfl rfl rfl (by decide) ?_
        refine fW_goto 8 dX7_thingsOf_48 rfl ?_
        obtain ⟨c8, h⟩ := fS h
        exact fW_sb (ih v1 (v2 + 0) (v3 + 1) gv1 c8 (rg_succ' gv3 (rg_ER c2) c3) h) ⟨rfl, rfl, rfl, rfl, trivial⟩
      · replace h := fFf h c7
        refine fW_aload_n 31 dX7_thingsOf_30 rfl rfl ?_
        refine fW_getR 34 (r := o + 1) 0 hg clX7 (by decide) rfl ho (tf_7_0 ho) wd_180 dX7_thingsOf_31 rfl ?_
        refine fW_iload_n 35 dX7_thingsOf_34 rfl rfl ?_
        obtain ⟨c9, h⟩ := fS h
        have t10 := ta_16 (r := o + 3 * v3.toNat + 3) (tt_7_0 ho) c9 (by omega)
        refine fW_aald 36 4 hg (tt_7_0 ho) (by decide) (by decide) t10.1 t10.2.2 rfl dX7_thingsOf_35 rfl ?_
        refine fW_getI 39 3 (ji := 3) hg clX6 rfl (by decide) rfl t10.2.1 wd_158 dX7_thingsOf_36 rfl ?_
        refine fW_goto 43 dX7_thingsOf_39 rfl ?_
        refine fW_iadd 44 dX7_thingsOf_43 rfl ?_
        refine fW_istore_n 45 (ls' := [some (rv G o), some (iv v1), some (iv (v2 + (M (o + 3 * v3.toNat + 3) 3))), some (iv v3)]) dX7_thingsOf_44 rfl rfl rfl (by decide) ?_
        refine fW_iinc 48 (ls' := [some (rv G o), some (iv v1), some (iv (v2 + (M (o + 3 * v3.toNat + 3) 3))), some (iv (v3 + 1))]) dX7_thingsOf_45 rfl rfl rfl (by decide) ?_
        refine fW_goto 8 dX7_thingsOf_48 rfl ?_
        obtain ⟨c11, h⟩ := fS h
        exact fW_sb (ih v1 (v2 + (M (o + 3 * v3.toNat + 3) 3)) (v3 + 1) gv1 c11 (rg_succ' gv3 (rg_ER c2) c3) h) ⟨rfl, rfl, rfl, rfl, trivial⟩
def f_X7_thingsOf (o : Nat) (a1 : Int) (M : fMem) : Option (Int) := (if 0 ≤ a1 ∧ a1 < 9 then L_X7_thingsOf_8 o M (fun (v2_12 : Int) => some v2_12) 4 a1 0 (FR a1) else none)
set_option maxRecDepth 100000 in
set_option maxHeartbeats 4000000 in
theorem s_X7_thingsOf {G : fG} (hg : gbt G = true) {o : Nat} (ho : fTyp o 7) {a1 : Int} (ga1 : rg a1) {M : fMem} {q : Int} (h : f_X7_thingsOf o a1 M = some q) : fSp G mX7_thingsOf [rv G o, iv a1] M (rP M q) fNo := by
  refine fSp_of (by decide +kernel) (by decide +kernel) (fC1 rfl (fC1 rfl fC0)) (Nat.le_of_ble_eq_true rfl) ?_
  show fW G mX7_thingsOf (fEm G mX7_thingsOf (rP M q) fNo) 0 0 0 [some (rv G o), some (iv a1), none, none] [] M
  rw [f_X7_thingsOf] at h
  refine fW_rg (fun hR => ?_)
  refine fW_iconst 1 dX7_thingsOf_0 rfl ?_
  refine fW_istore_n 2 (ls' := [some (rv G o), some (iv a1), some (iv 0), none]) dX7_thingsOf_1 rfl rfl rfl (by decide) ?_
  refine fW_getsN 5 (host := "RowStore") 0 (by decide) (by decide +kernel) dX7_thingsOf_2 rfl ?_
  refine fW_iload_n 6 dX7_thingsOf_5 rfl rfl ?_
  obtain ⟨c1, h⟩ := fS h
  refine fW_sald 7 0 (by decide) c1 dX7_thingsOf_6 rfl ?_
  rw [show SV 0 a1 = FR a1 from rfl]
  refine fW_istore_n 8 (ls' := [some (rv G o), some (iv a1), some (iv 0), some (iv (FR a1))]) dX7_thingsOf_7 rfl rfl rfl (by decide) ?_
  refine fW_sb (l_X7_thingsOf_8 hg ho ?_ 4 a1 0 (FR a1) ga1 (by decide) (rg_FR c1) h) ⟨rfl, rfl, rfl, rfl, trivial⟩
  intro v2_12 gv2_12 h
  refine fW_iload_n 52 dX7_thingsOf_51 rfl rfl ?_
  exact fW_iret rfl (by decide) (by decide) dX7_thingsOf_52 (rP_i h gv2_12)
def mX7_things : fMt := (yX7_things, cX7_things, 3, some .int, { frames := 2, cells := 0, slots := 0, locals := 80 })
theorem miX7_things : fMv mX7_things 0 := ⟨⟨fM 1042 (by decide +kernel) rfl, fM 91 (by decide +kernel) rfl, ⟨by decide +kernel, by decide +kernel⟩, by decide +kernel⟩, fM 1040 (by decide +kernel) rfl, fM 1041 (by decide +kernel) rfl⟩
def L_X7_things_4 (o : Nat) (M : fMem) (k : Int → Option (Int)) : Nat → Int → Int → Option (Int)
  | 0, _, _ => none
  | n + 1, v1, v2 => (if 9 ≤ v2 then k v1 else ((f_X7_thingsOf o v2 M).bind fun (r2 : Int) => (if -2147483648 ≤ v1 + r2 ∧ v1 + r2 < 2147483648 then L_X7_things_4 o M k n (v1 + r2) (v2 + 1) else none)))
set_option maxRecDepth 100000 in
set_option maxHeartbeats 4000000 in
theorem l_X7_things_4 {G : fG} (hg : gbt G = true) {o : Nat} (ho : fTyp o 7) {M : fMem} {q : Int} {k : Int → Option (Int)} (hk : ∀ (v1 : Int), rg v1 → k v1 = some q → fW G mX7_things (fEm G mX7_things (rP M q) fNo) 0 0 24 [some (rv G o), some (iv v1), none] [] M) : ∀ (n : Nat) (v1 : Int) (v2 : Int), rg v1 → rg v2 → L_X7_things_4 o M k n v1 v2 = some q → fW G mX7_things (fEm G mX7_things (rP M q) fNo) 0 0 4 [some (rv G o), some (iv v1), some (iv v2)] [] M := by
  intro n
  induction n with
  | zero =>
    intro v1 v2 gv1 gv2 h
    rw [L_X7_things_4] at h
    exact absurd h (by simp)
  | succ n ih =>
    intro v1 v2 gv1 gv2 h
    rw [L_X7_things_4] at h
    refine fW_rg (fun hR => ?_)
    refine fW_iload_n 5 dX7_things_4 rfl rfl ?_
    refine fW_bipush 7 dX7_things_5 rfl (by decide) ?_
    refine fW_icmp_ge 10 24 gv2 (by decide) dX7_things_7 rfl rfl (fun c1 => ?_) (fun c1 => ?_)
    · replace h := fTt h c1
      exact fW_sb (hk v1 gv1 h) ⟨rfl, rfl, trivial⟩
    · replace h := fFf h c1
      refine fW_iload_n 11 dX7_things_10 rfl rfl ?_
      refine fW_aload_n 12 dX7_things_11 rfl rfl ?_
      refine fW_iload_n 13 dX7_things_12 rfl rfl ?_
      obtain ⟨r2, e2, h⟩ := fBd h
      refine fW_cP (fI_V (as := [iv v2]) (rest := [iv v1]) miX7_thingsOf hg clX7 rfl ho wd_1043 (fRoom_of rfl) rfl (Nat.le_of_ble_eq_true rfl) dX7_things_13) (s_X7_thingsOf hg ho gv2 e2) rfl rfl rfl (fun g2 => ?_)
      refine fW_iadd 17 dX7_things_16 rfl ?_
      refine fW_istore_n 18 (ls' := [some (rv G o), some (iv (v1 + r2)), some (iv v2)]) dX7_things_17 rfl rfl rfl (by decide) ?_
      refine fW_iinc 21 (ls' := [some (rv G o), some (iv (v1 + r2)), some (iv (v2 + 1))]) dX7_things_18 rfl rfl rfl (by decide) ?_
      refine fW_goto 4 dX7_things_21 rfl ?_
      obtain ⟨c3, h⟩ := fS h
      exact fW_sb (ih (v1 + r2) (v2 + 1) c3 (rg_succ' gv2 (by decide) c1) h) ⟨rfl, rfl, rfl, trivial⟩
def f_X7_things (o : Nat) (M : fMem) : Option (Int) := L_X7_things_4 o M (fun (v1_4 : Int) => some v1_4) 20000 0 0
set_option maxRecDepth 100000 in
set_option maxHeartbeats 4000000 in
theorem s_X7_things {G : fG} (hg : gbt G = true) {o : Nat} (ho : fTyp o 7) {M : fMem} {q : Int} (h : f_X7_things o M = some q) : fSp G mX7_things [rv G o] M (rP M q) fNo := by
  refine fSp_of (by decide +kernel) (by decide +kernel) (fC1 rfl fC0) (Nat.le_of_ble_eq_true rfl) ?_
  show fW G mX7_things (fEm G mX7_things (rP M q) fNo) 0 0 0 [some (rv G o), none, none] [] M
  rw [f_X7_things] at h
  refine fW_rg (fun hR => ?_)
  refine fW_iconst 1 dX7_things_0 rfl ?_
  refine fW_istore_n 2 (ls' := [some (rv G o), some (iv 0), none]) dX7_things_1 rfl rfl rfl (by decide) ?_
  refine fW_iconst 3 dX7_things_2 rfl ?_
  refine fW_istore_n 4 (ls' := [some (rv G o), some (iv 0), some (iv 0)]) dX7_things_3 rfl rfl rfl (by decide) ?_
  refine fW_sb (l_X7_things_4 hg ho ?_ 20000 0 0 (by decide) (by decide) h) ⟨rfl, rfl, rfl, trivial⟩
  intro v1_4 gv1_4 h
  refine fW_iload_n 25 dX7_things_24 rfl rfl ?_
  exact fW_iret rfl (by decide) (by decide) dX7_things_25 (rP_i h gv1_4)
def mX7_deepest : fMt := (yX7_deepest, cX7_deepest, 3, some .int, { frames := 1, cells := 0, slots := 0, locals := 40 })
theorem miX7_deepest : fMv mX7_deepest 0 := ⟨⟨fM 1047 (by decide +kernel) rfl, fM 91 (by decide +kernel) rfl, ⟨by decide +kernel, by decide +kernel⟩, by decide +kernel⟩, fM 1045 (by decide +kernel) rfl, fM 1046 (by decide +kernel) rfl⟩
def L_X7_deepest_4 (o : Nat) (M : fMem) (k : Int → Option (Int)) : Nat → Int → Int → Option (Int)
  | 0, _, _ => none
  | n + 1, v1, v2 => (if 9 ≤ v2 then k v1 else ((f_X7_shutOf o v2 M).bind fun (r2 : Int) => (if r2 ≤ 0 then L_X7_deepest_4 o M k n v1 (v2 + 1) else L_X7_deepest_4 o M k n v2 (v2 + 1))))
set_option maxRecDepth 100000 in
set_option maxHeartbeats 4000000 in
theorem l_X7_deepest_4 {G : fG} (hg : gbt G = true) {o : Nat} (ho : fTyp o 7) {M : fMem} {q : Int} {k : Int → Option (Int)} (hk : ∀ (v1 : Int), rg v1 → k v1 = some q → fW G mX7_deepest (fEm G mX7_deepest (rP M q) fNo) 0 0 26 [some (rv G o), some (iv v1), none] [] M) : ∀ (n : Nat) (v1 : Int) (v2 : Int), rg v1 → rg v2 → L_X7_deepest_4 o M k n v1 v2 = some q → fW G mX7_deepest (fEm G mX7_deepest (rP M q) fNo) 0 0 4 [some (rv G o), some (iv v1), some (iv v2)] [] M := by
  intro n
  induction n with
  | zero =>
    intro v1 v2 gv1 gv2 h
    rw [L_X7_deepest_4] at h
    exact absurd h (by simp)
  | succ n ih =>
    intro v1 v2 gv1 gv2 h
    rw [L_X7_deepest_4] at h
    refine fW_rg (fun hR => ?_)
    refine fW_iload_n 5 dX7_deepest_4 rfl rfl ?_
    refine fW_bipush 7 dX7_deepest_5 rfl (by decide) ?_
    refine fW_icmp_ge 10 26 gv2 (by decide) dX7_deepest_7 rfl rfl (fun c1 => ?_) (fun c1 => ?_)
    · replace h := fTt h c1
      exact fW_sb (hk v1 gv1 h) ⟨rfl, rfl, trivial⟩
    · replace h := fFf h c1
      refine fW_aload_n 11 dX7_deepest_10 rfl rfl ?_
      refine fW_iload_n 12 dX7_deepest_11 rfl rfl ?_
      obtain ⟨r2, e2, h⟩ := fBd h
      refine fW_cP (fI_V (as := [iv v2]) (rest := []) miX7_shutOf hg clX7 rfl ho wd_1048 (fRoom_of rfl) rfl (Nat.le_of_ble_eq_true rfl) dX7_deepest_12) (s_X7_shutOf hg ho gv2 e2) rfl rfl rfl (fun g2 => ?_)
      refine fW_if_le 18 20 g2 dX7_deepest_15 rfl rfl (fun c3 => ?_) (fun c3 => ?_)
      · replace h := fTt h c3
        refine fW_iinc 23 (ls' := [some (rv G o), some (iv v1), some (iv (v2 + 1))]) dX7_deepest_20 rfl rfl rfl (by decide) ?_
        refine fW_goto 4 dX7_deepest_23 rfl ?_
        exact fW_sb (ih v1 (v2 + 1) gv1 (rg_succ' gv2 (by decide) c1) h) ⟨rfl, rfl, rfl, trivial⟩
      · replace h := fFf h c3
        refine fW_iload_n 19 dX7_deepest_18 rfl rfl ?_
        refine fW_istore_n 20 (ls' := [some (rv G o), some (iv v2), some (iv v2)]) dX7_deepest_19 rfl rfl rfl (by decide) ?_
        refine fW_iinc 23 (ls' := [some (rv G o), some (iv v2), some (iv (v2 + 1))]) dX7_deepest_20 rfl rfl rfl (by decide) ?_
        refine fW_goto 4 dX7_deepest_23 rfl ?_
        exact fW_sb (ih v2 (v2 + 1) gv2 (rg_succ' gv2 (by decide) c1) h) ⟨rfl, rfl, rfl, trivial⟩
def f_X7_deepest (o : Nat) (M : fMem) : Option (Int) := L_X7_deepest_4 o M (fun (v1_4 : Int) => some v1_4) 20000 ((-1)) 0
set_option maxRecDepth 100000 in
set_option maxHeartbeats 4000000 in
theorem s_X7_deepest {G : fG} (hg : gbt G = true) {o : Nat} (ho : fTyp o 7) {M : fMem} {q : Int} (h : f_X7_deepest o M = some q) : fSp G mX7_deepest [rv G o] M (rP M q) fNo := by
  refine fSp_of (by decide +kernel) (by decide +kernel) (fC1 rfl fC0) (Nat.le_of_ble_eq_true rfl) ?_
  show fW G mX7_deepest (fEm G mX7_deepest (rP M q) fNo) 0 0 0 [some (rv G o), none, none] [] M
  rw [f_X7_deepest] at h
  refine fW_rg (fun hR => ?_)
  refine fW_iconst 1 dX7_deepest_0 rfl ?_
  refine fW_istore_n 2 (ls' := [some (rv G o), some (iv ((-1))), none]) dX7_deepest_1 rfl rfl rfl (by decide) ?_
  refine fW_iconst 3 dX7_deepest_2 rfl ?_
  refine fW_istore_n 4 (ls' := [some (rv G o), some (iv ((-1))), some (iv 0)]) dX7_deepest_3 rfl rfl rfl (by decide) ?_
  refine fW_sb (l_X7_deepest_4 hg ho ?_ 20000 ((-1)) 0 (by decide) (by decide) h) ⟨rfl, rfl, rfl, trivial⟩
  intro v1_4 gv1_4 h
  refine fW_iload_n 27 dX7_deepest_26 rfl rfl ?_
  exact fW_iret rfl (by decide) (by decide) dX7_deepest_27 (rP_i h gv1_4)
def mX7_firstWith : fMt := (yX7_firstWith, cX7_firstWith, 3, some .int, { frames := 2, cells := 0, slots := 0, locals := 80 })
theorem miX7_firstWith : fMv mX7_firstWith 1 := ⟨⟨fM 615 (by decide +kernel) rfl, fM 91 (by decide +kernel) rfl, ⟨by decide +kernel, by decide +kernel⟩, by decide +kernel⟩, fM 613 (by decide +kernel) rfl, fM 614 (by decide +kernel) rfl⟩
def L_X7_firstWith_2 (o : Nat) (M : fMem) (k : Option (Int)) : Nat → Int → Int → Option (Int)
  | 0, _, _ => none
  | n + 1, v1, v2 => (if (M o 2) ≤ v2 then k else (if 0 ≤ v2 ∧ v2 < 19 then (if 0 ≤ M (o + 2) v2 ∧ M (o + 2) v2 < 19 then ((f_X6_placeOf (o + 3 * (M (o + 2) v2).toNat + 3) v1 M).bind fun (r5 : Int) => (if r5 = ((-1)) then L_X7_firstWith_2 o M k n v1 (v2 + 1) else (if 0 ≤ v2 ∧ v2 < 19 then some (M (o + 2) v2) else none))) else none) else none))
set_option maxRecDepth 100000 in
set_option maxHeartbeats 4000000 in
theorem l_X7_firstWith_2 {G : fG} (hg : gbt G = true) {o : Nat} (ho : fTyp o 7) {M : fMem} {q : Int} {k : Option (Int)} (hk : k = some q → fW G mX7_firstWith (fEm G mX7_firstWith (rP M q) fNo) 0 0 42 [some (rv G o), none, none] [] M) : ∀ (n : Nat) (v1 : Int) (v2 : Int), rg v1 → rg v2 → L_X7_firstWith_2 o M k n v1 v2 = some q → fW G mX7_firstWith (fEm G mX7_firstWith (rP M q) fNo) 0 0 2 [some (rv G o), some (iv v1), some (iv v2)] [] M := by
  intro n
  induction n with
  | zero =>
    intro v1 v2 gv1 gv2 h
    rw [L_X7_firstWith_2] at h
    exact absurd h (by simp)
  | succ n ih =>
    intro v1 v2 gv1 gv2 h
    rw [L_X7_firstWith_2] at h
    refine fW_rg (fun hR => ?_)
    refine fW_iload_n 3 dX7_firstWith_2 rfl rfl ?_
    refine fW_aload_n 4 dX7_firstWith_3 rfl rfl ?_
    refine fW_getI 7 2 (ji := 2) hg clX7 rfl (by decide) rfl ho wd_190 dX7_firstWith_4 rfl ?_
    refine fW_icmp_ge 10 42 gv2 (hR o 2) dX7_firstWith_7 rfl rfl (fun c1 => ?_) (fun c1 => ?_)
    · replace h := fTt h c1
      exact fW_sb (hk h) ⟨rfl, trivial⟩
    · replace h := fFf h c1
      refine fW_aload_n 11 dX7_firstWith_10 rfl rfl ?_
      refine fW_getR 14 (r := o + 1) 0 hg clX7 (by decide) rfl ho (tf_7_0 ho) wd_180 dX7_firstWith_11 rfl ?_
      refine fW_aload_n 15 dX7_firstWith_14 rfl rfl ?_
      refine fW_getR 18 (r := o + 2) 1 hg clX7 (by decide) rfl ho (tf_7_1 ho) wd_186 dX7_firstWith_15 rfl ?_
      refine fW_iload_n 19 dX7_firstWith_18 rfl rfl ?_
      obtain ⟨c2, h⟩ := fS h
      refine fW_iald 20 hg (tt_7_1 ho) ⟨c2.1, by rw [lf_7_1 ho]; exact c2.2⟩ dX7_firstWith_19 rfl ?_
      obtain ⟨c3, h⟩ := fS h
      have t4 := ta_16 (r := o + 3 * (M (o + 2) v2).toNat + 3) (tt_7_0 ho) c3 (by omega)
      refine fW_aald 21 4 hg (tt_7_0 ho) (by decide) (by decide) t4.1 t4.2.2 rfl dX7_firstWith_20 rfl ?_
      refine fW_iload_n 22 dX7_firstWith_21 rfl rfl ?_
      obtain ⟨r5, e5, h⟩ := fBd h
      refine fW_cP (fI_V (as := [iv v1]) (rest := []) miX6_placeOf hg clX6 rfl t4.2.1 wd_616 (fRoom_of rfl) rfl (Nat.le_of_ble_eq_true rfl) dX7_firstWith_22) (s_X6_placeOf hg t4.2.1 gv1 e5) rfl rfl rfl (fun g5 => ?_)
      refine fW_iconst 26 dX7_firstWith_25 rfl ?_
      refine fW_icmp_eq 29 36 g5 (by decide) dX7_firstWith_26 rfl rfl (fun c6 => ?_) (fun c6 => ?_)
      · replace h := fTt h c6
        refine fW_iinc 39 (ls' := [some (rv G o), some (iv v1), some (iv (v2 + 1))]) dX7_firstWith_36 rfl rfl rfl (by decide) ?_
        refine fW_goto 2 dX7_firstWith_39 rfl ?_
        exact fW_sb (ih v1 (v2 + 1) gv1 (rg_succ' gv2 (hR o 2) c1) h) ⟨rfl, rfl, rfl, trivial⟩
      · replace h := fFf h c6
        refine fW_aload_n 30 dX7_firstWith_29 rfl rfl ?_
        refine fW_getR 33 (r := o + 2) 1 hg clX7 (by decide) rfl ho (tf_7_1 ho) wd_186 dX7_firstWith_30 rfl ?_
        refine fW_iload_n 34 dX7_firstWith_33 rfl rfl ?_
        obtain ⟨c7, h⟩ := fS h
        refine fW_iald 35 hg (tt_7_1 ho) ⟨c7.1, by rw [lf_7_1 ho]; exact c7.2⟩ dX7_firstWith_34 rfl ?_
        exact fW_iret rfl (by decide) (by decide) dX7_firstWith_35 (rP_i h (hR (o + 2) v2))
def f_X7_firstWith (o : Nat) (a1 : Int) (M : fMem) : Option (Int) := L_X7_firstWith_2 o M (some ((-1))) 20000 a1 0
set_option maxRecDepth 100000 in
set_option maxHeartbeats 4000000 in
theorem s_X7_firstWith {G : fG} (hg : gbt G = true) {o : Nat} (ho : fTyp o 7) {a1 : Int} (ga1 : rg a1) {M : fMem} {q : Int} (h : f_X7_firstWith o a1 M = some q) : fSp G mX7_firstWith [rv G o, iv a1] M (rP M q) fNo := by
  refine fSp_of (by decide +kernel) (by decide +kernel) (fC1 rfl (fC1 rfl fC0)) (Nat.le_of_ble_eq_true rfl) ?_
  show fW G mX7_firstWith (fEm G mX7_firstWith (rP M q) fNo) 0 0 0 [some (rv G o), some (iv a1), none] [] M
  rw [f_X7_firstWith] at h
  refine fW_rg (fun hR => ?_)
  refine fW_iconst 1 dX7_firstWith_0 rfl ?_
  refine fW_istore_n 2 (ls' := [some (rv G o), some (iv a1), some (iv 0)]) dX7_firstWith_1 rfl rfl rfl (by decide) ?_
  refine fW_sb (l_X7_firstWith_2 hg ho ?_ 20000 a1 0 ga1 (by decide) h) ⟨rfl, rfl, rfl, trivial⟩
  intro  h
  refine fW_iconst 43 dX7_firstWith_42 rfl ?_
  exact fW_iret rfl (by decide) (by decide) dX7_firstWith_43 (rP_i h (by decide))
def mX7_rowsWith : fMt := (yX7_rowsWith, cX7_rowsWith, 4, some .int, { frames := 2, cells := 0, slots := 0, locals := 80 })
theorem miX7_rowsWith : fMv mX7_rowsWith 1 := ⟨⟨fM 963 (by decide +kernel) rfl, fM 91 (by decide +kernel) rfl, ⟨by decide +kernel, by decide +kernel⟩, by decide +kernel⟩, fM 961 (by decide +kernel) rfl, fM 962 (by decide +kernel) rfl⟩
def L_X7_rowsWith_4 (o : Nat) (M : fMem) (k : Int → Option (Int)) : Nat → Int → Int → Int → Option (Int)
  | 0, _, _, _ => none
  | n + 1, v1, v2, v3 => (if (M o 2) ≤ v3 then k v2 else (if 0 ≤ v3 ∧ v3 < 19 then (if 0 ≤ M (o + 2) v3 ∧ M (o + 2) v3 < 19 then ((f_X6_placeOf (o + 3 * (M (o + 2) v3).toNat + 3) v1 M).bind fun (r5 : Int) => (if r5 = ((-1)) then (if -2147483648 ≤ v2 + 0 ∧ v2 + 0 < 2147483648 then L_X7_rowsWith_4 o M k n v1 (v2 + 0) (v3 + 1) else none) else (if -2147483648 ≤ v2 + 1 ∧ v2 + 1 < 2147483648 then L_X7_rowsWith_4 o M k n v1 (v2 + 1) (v3 + 1) else none))) else none) else none))
set_option maxRecDepth 100000 in
set_option maxHeartbeats 4000000 in
theorem l_X7_rowsWith_4 {G : fG} (hg : gbt G = true) {o : Nat} (ho : fTyp o 7) {M : fMem} {q : Int} {k : Int → Option (Int)} (hk : ∀ (v2 : Int), rg v2 → k v2 = some q → fW G mX7_rowsWith (fEm G mX7_rowsWith (rP M q) fNo) 0 0 45 [some (rv G o), none, some (iv v2), none] [] M) : ∀ (n : Nat) (v1 : Int) (v2 : Int) (v3 : Int), rg v1 → rg v2 → rg v3 → L_X7_rowsWith_4 o M k n v1 v2 v3 = some q → fW G mX7_rowsWith (fEm G mX7_rowsWith (rP M q) fNo) 0 0 4 [some (rv G o), some (iv v1), some (iv v2), some (iv v3)] [] M := by
  intro n
  induction n with
  | zero =>
    intro v1 v2 v3 gv1 gv2 gv3 h
    rw [L_X7_rowsWith_4] at h
    exact absurd h (by simp)
  | succ n ih =>
    intro v1 v2 v3 gv1 gv2 gv3 h
    rw [L_X7_rowsWith_4] at h
    refine fW_rg (fun hR => ?_)
    refine fW_iload_n 5 dX7_rowsWith_4 rfl rfl ?_
    refine fW_aload_n 6 dX7_rowsWith_5 rfl rfl ?_
    refine fW_getI 9 2 (ji := 2) hg clX7 rfl (by decide) rfl ho wd_190 dX7_rowsWith_6 rfl ?_
    refine fW_icmp_ge 12 45 gv3 (hR o 2) dX7_rowsWith_9 rfl rfl (fun c1 => ?_) (fun c1 => ?_)
    · replace h := fTt h c1
      exact fW_sb (hk v2 gv2 h) ⟨rfl, rfl, trivial⟩
    · replace h := fFf h c1
      refine fW_iload_n 13 dX7_rowsWith_12 rfl rfl ?_
      refine fW_aload_n 14 dX7_rowsWith_13 rfl rfl ?_
      refine fW_getR 17 (r := o + 1) 0 hg clX7 (by decide) rfl ho (tf_7_0 ho) wd_180 dX7_rowsWith_14 rfl ?_
      refine fW_aload_n 18 dX7_rowsWith_17 rfl rfl ?_
      refine fW_getR 21 (r := o + 2) 1 hg clX7 (by decide) rfl ho (tf_7_1 ho) wd_186 dX7_rowsWith_18 rfl ?_
      refine fW_iload_n 22 dX7_rowsWith_21 rfl rfl ?_
      obtain ⟨c2, h⟩ := fS h
      refine fW_iald 23 hg (tt_7_1 ho) ⟨c2.1, by rw [lf_7_1 ho]; exact c2.2⟩ dX7_rowsWith_22 rfl ?_
      obtain ⟨c3, h⟩ := fS h
      have t4 := ta_16 (r := o + 3 * (M (o + 2) v3).toNat + 3) (tt_7_0 ho) c3 (by omega)
      refine fW_aald 24 4 hg (tt_7_0 ho) (by decide) (by decide) t4.1 t4.2.2 rfl dX7_rowsWith_23 rfl ?_
      refine fW_iload_n 25 dX7_rowsWith_24 rfl rfl ?_
      obtain ⟨r5, e5, h⟩ := fBd h
      refine fW_cP (fI_V (as := [iv v1]) (rest := [iv v2]) miX6_placeOf hg clX6 rfl t4.2.1 wd_616 (fRoom_of rfl) rfl (Nat.le_of_ble_eq_true rfl) dX7_rowsWith_25) (s_X6_placeOf hg t4.2.1 gv1 e5) rfl rfl rfl (fun g5 => ?_)
      refine fW_iconst 29 dX7_rowsWith_28 rfl ?_
      refine fW_icmp_eq 32 36 g5 (by decide) dX7_rowsWith_29 rfl rfl (fun c6 => ?_) (fun c6 => ?_)
      · replace h := fTt h c6
        refine fW_iconst 37 dX7_rowsWith_36 rfl ?_
        refine fW_iadd 38 dX7_rowsWith_37 rfl ?_
        refine fW_istore_n 39 (ls' := [some (rv G o), some (iv v1), some (iv (v2 + 0)), some (iv v3)]) dX7_rowsWith_38 rfl rfl rfl (by decide) ?_
        refine fW_iinc 42 (ls' := [some (rv G o), some (iv v1), some (iv (v2 + 0)), some (iv (v3 + 1))]) dX7_rowsWith_39 rfl rfl rfl (by decide) ?_
        refine fW_goto 4 dX7_rowsWith_42 rfl ?_
        obtain ⟨c7, h⟩ := fS h
        exact fW_sb (ih v1 (v2 + 0) (v3 + 1) gv1 c7 (rg_succ' gv3 (hR o 2) c1) h) ⟨rfl, rfl, rfl, rfl, trivial⟩
      · replace h := fFf h c6
        refine fW_iconst 33 dX7_rowsWith_32 rfl ?_
        refine fW_goto 37 dX7_rowsWith_33 rfl ?_
        refine fW_iadd 38 dX7_rowsWith_37 rfl ?_
        refine fW_istore_n 39 (ls' := [some (rv G o), some (iv v1), some (iv (v2 + 1)), some (iv v3)]) dX7_rowsWith_38 rfl rfl rfl (by decide) ?_
        refine fW_iinc 42 (ls' := [some (rv G o), some (iv v1), some (iv (v2 + 1)), some (iv (v3 + 1))]) dX7_rowsWith_39 rfl rfl rfl (by decide) ?_
        refine fW_goto 4 dX7_rowsWith_42 rfl ?_
        obtain ⟨c8, h⟩ := fS h
        exact fW_sb (ih v1 (v2 + 1) (v3 + 1) gv1 c8 (rg_succ' gv3 (hR o 2) c1) h) ⟨rfl, rfl, rfl, rfl, trivial⟩
def f_X7_rowsWith (o : Nat) (a1 : Int) (M : fMem) : Option (Int) := L_X7_rowsWith_4 o M (fun (v2_9 : Int) => some v2_9) 20000 a1 0 0
set_option maxRecDepth 100000 in
set_option maxHeartbeats 4000000 in
theorem s_X7_rowsWith {G : fG} (hg : gbt G = true) {o : Nat} (ho : fTyp o 7) {a1 : Int} (ga1 : rg a1) {M : fMem} {q : Int} (h : f_X7_rowsWith o a1 M = some q) : fSp G mX7_rowsWith [rv G o, iv a1] M (rP M q) fNo := by
  refine fSp_of (by decide +kernel) (by decide +kernel) (fC1 rfl (fC1 rfl fC0)) (Nat.le_of_ble_eq_true rfl) ?_
  show fW G mX7_rowsWith (fEm G mX7_rowsWith (rP M q) fNo) 0 0 0 [some (rv G o), some (iv a1), none, none] [] M
  rw [f_X7_rowsWith] at h
  refine fW_rg (fun hR => ?_)
  refine fW_iconst 1 dX7_rowsWith_0 rfl ?_
  refine fW_istore_n 2 (ls' := [some (rv G o), some (iv a1), some (iv 0), none]) dX7_rowsWith_1 rfl rfl rfl (by decide) ?_
  refine fW_iconst 3 dX7_rowsWith_2 rfl ?_
  refine fW_istore_n 4 (ls' := [some (rv G o), some (iv a1), some (iv 0), some (iv 0)]) dX7_rowsWith_3 rfl rfl rfl (by decide) ?_
  refine fW_sb (l_X7_rowsWith_4 hg ho ?_ 20000 a1 0 0 ga1 (by decide) (by decide) h) ⟨rfl, rfl, rfl, rfl, trivial⟩
  intro v2_9 gv2_9 h
  refine fW_iload_n 46 dX7_rowsWith_45 rfl rfl ?_
  exact fW_iret rfl (by decide) (by decide) dX7_rowsWith_46 (rP_i h gv2_9)
def mX7_valueOf : fMt := (yX7_valueOf, cX7_valueOf, 3, some .int, { frames := 3, cells := 0, slots := 0, locals := 120 })
theorem miX7_valueOf : fMv mX7_valueOf 1 := ⟨⟨fM 611 (by decide +kernel) rfl, fM 91 (by decide +kernel) rfl, ⟨by decide +kernel, by decide +kernel⟩, by decide +kernel⟩, fM 609 (by decide +kernel) rfl, fM 610 (by decide +kernel) rfl⟩
def f_X7_valueOf (o : Nat) (a1 : Int) (M : fMem) : Option (Int) := ((f_X7_firstWith o a1 M).bind fun (r1 : Int) => (if r1 = ((-1)) then some ((-1)) else (if 0 ≤ r1 ∧ r1 < 19 then (if 0 ≤ r1 ∧ r1 < 19 then ((f_X6_placeOf (o + 3 * r1.toNat + 3) a1 M).bind fun (r7 : Int) => ((f_X6_valueAt (o + 3 * r1.toNat + 3) r7 M).bind fun (r8 : Int) => some r8)) else none) else none)))
set_option maxRecDepth 100000 in
set_option maxHeartbeats 4000000 in
theorem s_X7_valueOf {G : fG} (hg : gbt G = true) {o : Nat} (ho : fTyp o 7) {a1 : Int} (ga1 : rg a1) {M : fMem} {q : Int} (h : f_X7_valueOf o a1 M = some q) : fSp G mX7_valueOf [rv G o, iv a1] M (rP M q) fNo := by
  refine fSp_of (by decide +kernel) (by decide +kernel) (fC1 rfl (fC1 rfl fC0)) (Nat.le_of_ble_eq_true rfl) ?_
  show fW G mX7_valueOf (fEm G mX7_valueOf (rP M q) fNo) 0 0 0 [some (rv G o), some (iv a1), none] [] M
  rw [f_X7_valueOf] at h
  refine fW_rg (fun hR => ?_)
  refine fW_aload_n 1 dX7_valueOf_0 rfl rfl ?_
  refine fW_iload_n 2 dX7_valueOf_1 rfl rfl ?_
  obtain ⟨r1, e1, h⟩ := fBd h
  refine fW_cP (fI_V (as := [iv a1]) (rest := []) miX7_firstWith hg clX7 rfl ho wd_612 (fRoom_of rfl) rfl (Nat.le_of_ble_eq_true rfl) dX7_valueOf_2) (s_X7_firstWith hg ho ga1 e1) rfl rfl rfl (fun g1 => ?_)
  refine fW_istore_n 6 (ls' := [some (rv G o), some (iv a1), some (iv r1)]) dX7_valueOf_5 rfl rfl rfl (by decide) ?_
  refine fW_iload_n 7 dX7_valueOf_6 rfl rfl ?_
  refine fW_iconst 8 dX7_valueOf_7 rfl ?_
  refine fW_icmp_ne 11 15 g1 (by decide) dX7_valueOf_8 rfl rfl (fun c2 => ?_) (fun c2 => ?_)
  · replace h := fFf h c2
    refine fW_aload_n 16 dX7_valueOf_15 rfl rfl ?_
    refine fW_getR 19 (r := o + 1) 0 hg clX7 (by decide) rfl ho (tf_7_0 ho) wd_180 dX7_valueOf_16 rfl ?_
    refine fW_iload_n 20 dX7_valueOf_19 rfl rfl ?_
    obtain ⟨c3, h⟩ := fS h
    have t4 := ta_16 (r := o + 3 * r1.toNat + 3) (tt_7_0 ho) c3 (by omega)
    refine fW_aald 21 4 hg (tt_7_0 ho) (by decide) (by decide) t4.1 t4.2.2 rfl dX7_valueOf_20 rfl ?_
    refine fW_aload_n 22 dX7_valueOf_21 rfl rfl ?_
    refine fW_getR 25 (r := o + 1) 0 hg clX7 (by decide) rfl ho (tf_7_0 ho) wd_180 dX7_valueOf_22 rfl ?_
    refine fW_iload_n 26 dX7_valueOf_25 rfl rfl ?_
    obtain ⟨c5, h⟩ := fS h
    have t6 := ta_16 (r := o + 3 * r1.toNat + 3) (tt_7_0 ho) c5 (by omega)
    refine fW_aald 27 4 hg (tt_7_0 ho) (by decide) (by decide) t6.1 t6.2.2 rfl dX7_valueOf_26 rfl ?_
    refine fW_iload_n 28 dX7_valueOf_27 rfl rfl ?_
    obtain ⟨r7, e7, h⟩ := fBd h
    refine fW_cP (fI_V (as := [iv a1]) (rest := [rv G (o + 3 * r1.toNat + 3)]) miX6_placeOf hg clX6 rfl t6.2.1 wd_616 (fRoom_of rfl) rfl (Nat.le_of_ble_eq_true rfl) dX7_valueOf_28) (s_X6_placeOf hg t6.2.1 ga1 e7) rfl rfl rfl (fun g7 => ?_)
    obtain ⟨r8, e8, h⟩ := fBd h
    refine fW_cP (fI_V (as := [iv r7]) (rest := []) miX6_valueAt hg clX6 rfl t4.2.1 wd_621 (fRoom_of rfl) rfl (Nat.le_of_ble_eq_true rfl) dX7_valueOf_31) (s_X6_valueAt hg t4.2.1 g7 e8) rfl rfl rfl (fun g8 => ?_)
    exact fW_iret rfl (by decide) (by decide) dX7_valueOf_34 (rP_i h g8)
  · replace h := fTt h c2
    refine fW_iconst 12 dX7_valueOf_11 rfl ?_
    refine fW_goto 34 dX7_valueOf_12 rfl ?_
    exact fW_iret rfl (by decide) (by decide) dX7_valueOf_34 (rP_i h (by decide))
end MTH
