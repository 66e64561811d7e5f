section MTH
def mX1_firstMark : fMt := (yX1_firstMark, cX1_firstMark, 4, some .int, { frames := 1, cells := 0, slots := 0, locals := 40 })
theorem miX1_firstMark : fMv mX1_firstMark 2 := ⟨⟨fM 864 (by decide +kernel) rfl, fM 98 (by decide +kernel) rfl, ⟨by decide +kernel, by decide +kernel⟩, by decide +kernel⟩, fM 862 (by decide +kernel) rfl, fM 863 (by decide +kernel) rfl⟩
def L_X1_firstMark_6 (o : Nat) (M : fMem) (k : Option (Int)) : Nat → Int → Int → Option (Int)
  | 0, _, _ => none
  | n + 1, v1, v3 => (if (M o 3) ≤ v3 then k else (if 0 ≤ v3 ∧ v3 < Ln (o + 3) then (if (M (o + 3) v3) = ((-1)) then L_X1_firstMark_6 o M k n v1 (v3 + 1) else (if 0 ≤ v3 ∧ v3 < Ln (o + 2) then (if (M (o + 2) v3) = v1 then some (M (o + 3) v3) else L_X1_firstMark_6 o M k n v1 (v3 + 1)) else none)) else none))
set_option maxRecDepth 100000 in
set_option maxHeartbeats 4000000 in
theorem l_X1_firstMark_6 {G : fG} (hg : gbt G = true) {o : Nat} (ho : fTyp o 1) {M : fMem} {q : Int} {k : Option (Int)} (hk : k = some q → fW G mX1_firstMark (fEm G mX1_firstMark (rP M q) fNo) 0 0 47 [some (rv G o), none, none, none] [] M) : ∀ (n : Nat) (v1 : Int) (v3 : Int), rg v1 → rg v3 → L_X1_firstMark_6 o M k n v1 v3 = some q → fW G mX1_firstMark (fEm G mX1_firstMark (rP M q) fNo) 0 0 6 [some (rv G o), some (iv v1), none, some (iv v3)] [] M := by
  intro n
  induction n with
  | zero =>
    intro v1 v3 gv1 gv3 h
    rw [L_X1_firstMark_6] at h
    exact absurd h (by simp)
  | succ n ih =>
    intro v1 v3 gv1 gv3 h
    rw [L_X1_firstMark_6] at h
    refine fW_rg (fun hR => ?_)
    refine fW_iload_n 7 dX1_firstMark_6 rfl rfl ?_
    refine fW_aload_n 8 dX1_firstMark_7 rfl rfl ?_
    refine fW_getI 11 3 (ji := 3) hg clX1 rfl (by decide) rfl ho wd_344 dX1_firstMark_8 rfl ?_
    refine fW_icmp_ge 14 47 gv3 (hR o 3) dX1_firstMark_11 rfl rfl (fun c1 => ?_) (fun c1 => ?_)
    · replace h := fTt h c1
      exact fW_sb (hk h) ⟨rfl, trivial⟩
    · replace h := fFf h c1
      refine fW_aload_n 15 dX1_firstMark_14 rfl rfl ?_
      refine fW_getR 18 (r := o + 3) 2 hg clX1 (by decide) rfl ho (tf_1_2 ho) wd_343 dX1_firstMark_15 rfl ?_
      refine fW_iload_n 19 dX1_firstMark_18 rfl rfl ?_
      obtain ⟨c2, h⟩ := fS h
      refine fW_iald 20 hg (tt_1_2 ho) c2 dX1_firstMark_19 rfl ?_
      refine fW_iconst 21 dX1_firstMark_20 rfl ?_
      refine fW_icmp_eq 24 41 (hR (o + 3) v3) (by decide) dX1_firstMark_21 rfl rfl (fun c3 => ?_) (fun c3 => ?_)
      · replace h := fTt h c3
        refine fW_iinc 44 (ls' := [some (rv G o), some (iv v1), none, some (iv (v3 + 1))]) dX1_firstMark_41 rfl rfl rfl (by decide) ?_
        refine fW_goto 6 dX1_firstMark_44 rfl ?_
        exact fW_sb (ih v1 (v3 + 1) gv1 (rg_succ' gv3 (hR o 3) c1) h) ⟨rfl, rfl, rfl, trivial⟩
      · replace h := fFf h c3
        refine fW_aload_n 25 dX1_firstMark_24 rfl rfl ?_
        refine fW_getR 28 (r := o + 2) 1 hg clX1 (by decide) rfl ho (tf_1_1 ho) wd_342 dX1_firstMark_25 rfl ?_
        refine fW_iload_n 29 dX1_firstMark_28 rfl rfl ?_
        obtain ⟨c4, h⟩ := fS h
        refine fW_iald 30 hg (tt_1_1 ho) c4 dX1_firstMark_29 rfl ?_
        refine fW_iload_n 31 dX1_firstMark_30 rfl rfl ?_
        refine fW_icmp_ne 34 41 (hR (o + 2) v3) gv1 dX1_firstMark_31 rfl rfl (fun c5 => ?_) (fun c5 => ?_)
        · replace h := fFf h c5
          refine fW_iinc 44 (ls' := [some (rv G o), some (iv v1), none, some (iv (v3 + 1))]) dX1_firstMark_41 rfl rfl rfl (by decide) ?_
          refine fW_goto 6 dX1_firstMark_44 rfl ?_
          exact fW_sb (ih v1 (v3 + 1) gv1 (rg_succ' gv3 (hR o 3) c1) h) ⟨rfl, rfl, rfl, trivial⟩
        · replace h := fTt h c5
          refine fW_aload_n 35 dX1_firstMark_34 rfl rfl ?_
          refine fW_getR 38 (r := o + 3) 2 hg clX1 (by decide) rfl ho (tf_1_2 ho) wd_343 dX1_firstMark_35 rfl ?_
          refine fW_iload_n 39 dX1_firstMark_38 rfl rfl ?_
          refine fW_iald 40 hg (tt_1_2 ho) c2 dX1_firstMark_39 rfl ?_
          exact fW_iret rfl (by decide) (by decide) dX1_firstMark_40 (rP_i h (hR (o + 3) v3))
def f_X1_firstMark (o : Nat) (a1 : Int) (a2 : Int) (M : fMem) : Option (Int) := L_X1_firstMark_6 o M (some ((-1))) 20000 a1 (max a2 0)
set_option maxRecDepth 100000 in
set_option maxHeartbeats 4000000 in
theorem s_X1_firstMark {G : fG} (hg : gbt G = true) {o : Nat} (ho : fTyp o 1) {a1 : Int} (ga1 : rg a1) {a2 : Int} (ga2 : rg a2) {M : fMem} {q : Int} (h : f_X1_firstMark o a1 a2 M = some q) : fSp G mX1_firstMark [rv G o, iv a1, iv a2] M (rP M q) fNo := by
  refine fSp_of (by decide +kernel) (by decide +kernel) (fC1 rfl (fC1 rfl (fC1 rfl fC0))) (Nat.le_of_ble_eq_true rfl) ?_
  show fW G mX1_firstMark (fEm G mX1_firstMark (rP M q) fNo) 0 0 0 [some (rv G o), some (iv a1), some (iv a2), none] [] M
  rw [f_X1_firstMark] at h
  refine fW_rg (fun hR => ?_)
  refine fW_iload_n 1 dX1_firstMark_0 rfl rfl ?_
  refine fW_iconst 2 dX1_firstMark_1 rfl ?_
  refine fW_mmax 5 ga2 (by decide) wd_339 (by decide) (Nat.le_of_ble_eq_true rfl) (by decide) (by decide) dX1_firstMark_2 rfl ?_
  refine fW_istore_n 6 (ls' := [some (rv G o), some (iv a1), some (iv a2), some (iv (max a2 0))]) dX1_firstMark_5 rfl rfl rfl (by decide) ?_
  refine fW_sb (l_X1_firstMark_6 hg ho ?_ 20000 a1 (max a2 0) ga1 (rg_max ga2 (by decide)) h) ⟨rfl, rfl, rfl, trivial⟩
  intro  h
  refine fW_iconst 48 dX1_firstMark_47 rfl ?_
  exact fW_iret rfl (by decide) (by decide) dX1_firstMark_48 (rP_i h (by decide))
def mAF_fill : fMt := (⟨"java/util/Arrays", "fill", "([II)V"⟩, prog_22_method_103_code, 4, none, { frames := 0, cells := 0, slots := 0, locals := 0 })
theorem dAF_fill_0 : decode prog_22_method_103_code 0 = .ok (.iconst 0, 1) := by decide +kernel
theorem dAF_fill_1 : decode prog_22_method_103_code 1 = .ok (.istore_n 2, 1) := by decide +kernel
theorem dAF_fill_2 : decode prog_22_method_103_code 2 = .ok (.aload_n 0, 1) := by decide +kernel
theorem dAF_fill_3 : decode prog_22_method_103_code 3 = .ok (.arraylength, 1) := by decide +kernel
theorem dAF_fill_4 : decode prog_22_method_103_code 4 = .ok (.istore_n 3, 1) := by decide +kernel
theorem dAF_fill_5 : decode prog_22_method_103_code 5 = .ok (.iload_n 2, 1) := by decide +kernel
theorem dAF_fill_6 : decode prog_22_method_103_code 6 = .ok (.iload_n 3, 1) := by decide +kernel
theorem dAF_fill_7 : decode prog_22_method_103_code 7 = .ok (.if_icmp .ge 13, 3) := by decide +kernel
theorem dAF_fill_10 : decode prog_22_method_103_code 10 = .ok (.aload_n 0, 1) := by decide +kernel
theorem dAF_fill_11 : decode prog_22_method_103_code 11 = .ok (.iload_n 2, 1) := by decide +kernel
theorem dAF_fill_12 : decode prog_22_method_103_code 12 = .ok (.iload_n 1, 1) := by decide +kernel
theorem dAF_fill_13 : decode prog_22_method_103_code 13 = .ok (.iastore, 1) := by decide +kernel
theorem dAF_fill_14 : decode prog_22_method_103_code 14 = .ok (.iinc 2 1, 3) := by decide +kernel
theorem dAF_fill_17 : decode prog_22_method_103_code 17 = .ok (.goto (-12), 3) := by decide +kernel
theorem dAF_fill_20 : decode prog_22_method_103_code 20 = .ok (.return_, 1) := by decide +kernel
theorem miAF_fill : fMs mAF_fill 2 := ⟨⟨fM 632 (by decide +kernel) rfl, fM 106 (by decide +kernel) rfl, ⟨by decide +kernel, by decide +kernel⟩, by decide +kernel⟩, fM 631 (by decide +kernel) rfl⟩
def L_AF_fill_5  (k : fMem → Option (fMem)) : Nat → Nat → Int → Int → Int → fMem → Option (fMem)
  | 0, _, _, _, _, _ => none
  | n + 1, w0, v1, v2, v3, M => (if v3 ≤ v2 then k  M else (if 0 ≤ v2 ∧ v2 < Ln w0 then ((some (mset M w0 v2 v1)).bind fun (N3 : fMem) => L_AF_fill_5  k n w0 v1 (v2 + 1) v3 N3) else none))
set_option maxRecDepth 100000 in
set_option maxHeartbeats 4000000 in
theorem l_AF_fill_5 {G : fG} (hg : gbt G = true)  {q : fMem} {k : fMem → Option (fMem)} (hk : ∀ (M : fMem), k M = some q → fW G mAF_fill (fEm G mAF_fill (rV q) fNo) 0 0 20 [none, none, none, none] [] M) : ∀ (n : Nat) (w0 : Nat) (v1 : Int) (v2 : Int) (v3 : Int) (M : fMem), fTyp w0 12 → rg v1 → rg v2 → rg v3 → L_AF_fill_5 k n w0 v1 v2 v3 M = some q → fW G mAF_fill (fEm G mAF_fill (rV q) fNo) 0 0 5 [some (rv G w0), some (iv v1), some (iv v2), some (iv v3)] [] M := by
  intro n
  induction n with
  | zero =>
    intro w0 v1 v2 v3 M tw0 gv1 gv2 gv3 h
    rw [L_AF_fill_5] at h
    exact absurd h (by simp)
  | succ n ih =>
    intro w0 v1 v2 v3 M tw0 gv1 gv2 gv3 h
    rw [L_AF_fill_5] at h
    refine fW_rg (fun hR => ?_)
    refine fW_iload_n 6 dAF_fill_5 rfl rfl ?_
    refine fW_iload_n 7 dAF_fill_6 rfl rfl ?_
    refine fW_icmp_ge 10 20 gv2 gv3 dAF_fill_7 rfl rfl (fun c1 => ?_) (fun c1 => ?_)
    · replace h := fTt h c1
      exact fW_sb (hk M h) trivial
    · replace h := fFf h c1
      refine fW_aload_n 11 dAF_fill_10 rfl rfl ?_
      refine fW_iload_n 12 dAF_fill_11 rfl rfl ?_
      refine fW_iload_n 13 dAF_fill_12 rfl rfl ?_
      obtain ⟨c2, h⟩ := fS h
      obtain ⟨N3, e3, h⟩ := fBd h
      replace e3 := Option.some.inj e3
      refine fW_iast 14 hg tw0 c2 gv1 dAF_fill_13 rfl ?_
      rw [e3]
      refine fW_rg (fun hR3 => ?_)
      refine fW_iinc 17 (ls' := [some (rv G w0), some (iv v1), some (iv (v2 + 1)), some (iv v3)]) dAF_fill_14 rfl rfl rfl (by decide) ?_
      refine fW_goto 5 dAF_fill_17 rfl ?_
      exact fW_sb (ih w0 v1 (v2 + 1) v3 N3 tw0 gv1 (rg_succ' gv2 gv3 c1) gv3 h) ⟨rfl, rfl, rfl, rfl, trivial⟩
def f_AF_fill (p1 : Nat) (a2 : Int) (M : fMem) : Option (fMem) := L_AF_fill_5 (fun  (M_4 : fMem) => some M_4) 20000 p1 a2 0 (Ln p1) M
set_option maxRecDepth 100000 in
set_option maxHeartbeats 4000000 in
theorem s_AF_fill {G : fG} (hg : gbt G = true) {p1 : Nat} (hp1 : fTyp p1 12) {a2 : Int} (ga2 : rg a2) {M : fMem} {q : fMem} (h : f_AF_fill p1 a2 M = some q) : fSp G mAF_fill [rv G p1, iv a2] M (rV q) fNo := by
  refine fSp_of (by decide +kernel) (by decide +kernel) (fC1 rfl (fC1 rfl fC0)) (Nat.le_of_ble_eq_true rfl) ?_
  show fW G mAF_fill (fEm G mAF_fill (rV q) fNo) 0 0 0 [some (rv G p1), some (iv a2), none, none] [] M
  rw [f_AF_fill] at h
  refine fW_rg (fun hR => ?_)
  refine fW_iconst 1 dAF_fill_0 rfl ?_
  refine fW_istore_n 2 (ls' := [some (rv G p1), some (iv a2), some (iv 0), none]) dAF_fill_1 rfl rfl rfl (by decide) ?_
  refine fW_aload_n 3 dAF_fill_2 rfl rfl ?_
  refine fW_alen 4 hg hp1 dAF_fill_3 rfl ?_
  refine fW_istore_n 5 (ls' := [some (rv G p1), some (iv a2), some (iv 0), some (iv (Ln p1))]) dAF_fill_4 rfl rfl rfl (by decide) ?_
  refine fW_sb (l_AF_fill_5 hg ?_ 20000 p1 a2 0 (Ln p1) M hp1 ga2 (by decide) (rg_ln p1) h) ⟨rfl, rfl, rfl, rfl, trivial⟩
  intro M_4 h
  refine fW_rg (fun hR_4 => ?_)
  exact fW_vret rfl (by decide) (by decide) dAF_fill_20 (rV_i h)
def mX6_isShut : fMt := (yX6_isShut, cX6_isShut, 1, some .boolean, { frames := 0, cells := 0, slots := 0, locals := 0 })
theorem miX6_isShut : fMv mX6_isShut 0 := ⟨⟨fM 603 (by decide +kernel) rfl, fM 92 (by decide +kernel) rfl, ⟨by decide +kernel, by decide +kernel⟩, by decide +kernel⟩, fM 601 (by decide +kernel) rfl, fM 602 (by decide +kernel) rfl⟩
def f_X6_isShut (o : Nat) (M : fMem) : Option (Int) := (if (M o 2) = 2 then some 1 else some 0)
set_option maxRecDepth 100000 in
set_option maxHeartbeats 4000000 in
theorem s_X6_isShut {G : fG} (hg : gbt G = true) {o : Nat} (ho : fTyp o 6) {M : fMem} {q : Int} (h : f_X6_isShut o M = some q) : fSp G mX6_isShut [rv G o] M (rB M q) fNo := by
  refine fSp_of (by decide +kernel) (by decide +kernel) (fC1 rfl fC0) (Nat.le_of_ble_eq_true rfl) ?_
  show fW G mX6_isShut (fEm G mX6_isShut (rB M q) fNo) 0 0 0 [some (rv G o)] [] M
  rw [f_X6_isShut] at h
  refine fW_rg (fun hR => ?_)
  refine fW_aload_n 1 dX6_isShut_0 rfl rfl ?_
  refine fW_getI 4 2 (ji := 2) hg clX6 rfl (by decide) rfl ho wd_150 dX6_isShut_1 rfl ?_
  refine fW_iconst 5 dX6_isShut_4 rfl ?_
  refine fW_icmp_ne 8 12 (hR o 2) (by decide) dX6_isShut_5 rfl rfl (fun c1 => ?_) (fun c1 => ?_)
  · replace h := fFf h c1
    refine fW_iconst 13 dX6_isShut_12 rfl ?_
    exact fW_zret rfl (by decide) (by decide) (by decide) dX6_isShut_13 (rB_i h (by decide))
  · replace h := fTt h c1
    refine fW_iconst 9 dX6_isShut_8 rfl ?_
    refine fW_goto 13 dX6_isShut_9 rfl ?_
    exact fW_zret rfl (by decide) (by decide) (by decide) dX6_isShut_13 (rB_i h (by decide))
def mX7_insert : fMt := (yX7_insert, cX7_insert, 4, none, { frames := 0, cells := 0, slots := 0, locals := 0 })
theorem miX7_insert : fMv mX7_insert 2 := ⟨⟨fM 607 (by decide +kernel) rfl, fM 91 (by decide +kernel) rfl, ⟨by decide +kernel, by decide +kernel⟩, by decide +kernel⟩, fM 606 (by decide +kernel) rfl, fM 8 (by decide +kernel) rfl⟩
def L_X7_insert_5 (o : Nat) (k : Int → Int → fMem → Option (fMem)) : Nat → Int → Int → Int → fMem → Option (fMem)
  | 0, _, _, _, _ => none
  | n + 1, v1, v2, v3, M => (if v3 ≤ v2 then k v1 v3 M else (if 0 ≤ v3 - 1 ∧ v3 - 1 < 19 then (if 0 ≤ M (o + 2) (v3 - 1) ∧ M (o + 2) (v3 - 1) < 19 then (if 0 ≤ v1 ∧ v1 < 19 then (if (M (o + 3 * v1.toNat + 3) 5) ≤ (M (o + 3 * (M (o + 2) (v3 - 1)).toNat + 3) 5) then k v1 v3 M else (if 0 ≤ v3 ∧ v3 < 19 then ((some (mset M (o + 2) v3 (M (o + 2) (v3 - 1)))).bind fun (N9 : fMem) => L_X7_insert_5 o k n v1 v2 (v3 + -1) N9) else none)) else none) else none) else none))
set_option maxRecDepth 100000 in
set_option maxHeartbeats 4000000 in
theorem l_X7_insert_5 {G : fG} (hg : gbt G = true) {o : Nat} (ho : fTyp o 7) {q : fMem} {k : Int → Int → fMem → Option (fMem)} (hk : ∀ (v1 : Int) (v3 : Int) (M : fMem), rg v1 → rg v3 → k v1 v3 M = some q → fW G mX7_insert (fEm G mX7_insert (rV q) fNo) 0 0 58 [some (rv G o), some (iv v1), none, some (iv v3)] [] M) : ∀ (n : Nat) (v1 : Int) (v2 : Int) (v3 : Int) (M : fMem), rg v1 → rg v2 → rg v3 → L_X7_insert_5 o k n v1 v2 v3 M = some q → fW G mX7_insert (fEm G mX7_insert (rV q) fNo) 0 0 5 [some (rv G o), some (iv v1), some (iv v2), some (iv v3)] [] M := by
  intro n
  induction n with
  | zero =>
    intro v1 v2 v3 M gv1 gv2 gv3 h
    rw [L_X7_insert_5] at h
    exact absurd h (by simp)
  | succ n ih =>
    intro v1 v2 v3 M gv1 gv2 gv3 h
    rw [L_X7_insert_5] at h
    refine fW_rg (fun hR => ?_)
    refine fW_iload_n 6 dX7_insert_5 rfl rfl ?_
    refine fW_iload_n 7 dX7_insert_6 rfl rfl ?_
    refine fW_icmp_le 10 58 gv3 gv2 dX7_insert_7 rfl rfl (fun c1 => ?_) (fun c1 => ?_)
    · replace h := fTt h c1
      exact fW_sb (hk v1 v3 M gv1 gv3 h) ⟨rfl, rfl, rfl, trivial⟩
    · replace h := fFf h c1
      refine fW_aload_n 11 dX7_insert_10 rfl rfl ?_
      refine fW_getR 14 (r := o + 1) 0 hg clX7 (by decide) rfl ho (tf_7_0 ho) wd_180 dX7_insert_11 rfl ?_
      refine fW_aload_n 15 dX7_insert_14 rfl rfl ?_
      refine fW_getR 18 (r := o + 2) 1 hg clX7 (by decide) rfl ho (tf_7_1 ho) wd_186 dX7_insert_15 rfl ?_
      refine fW_iload_n 19 dX7_insert_18 rfl rfl ?_
      refine fW_iconst 20 dX7_insert_19 rfl ?_
      refine fW_isub 21 dX7_insert_20 rfl ?_
      obtain ⟨c2, h⟩ := fS h
      refine fW_iald 22 hg (tt_7_1 ho) ⟨c2.1, by rw [lf_7_1 ho]; exact c2.2⟩ dX7_insert_21 rfl ?_
      obtain ⟨c3, h⟩ := fS h
      have t4 := ta_16 (r := o + 3 * (M (o + 2) (v3 - 1)).toNat + 3) (tt_7_0 ho) c3 (by omega)
      refine fW_aald 23 4 hg (tt_7_0 ho) (by decide) (by decide) t4.1 t4.2.2 rfl dX7_insert_22 rfl ?_
      refine fW_getI 26 5 (ji := 5) hg clX6 rfl (by decide) rfl t4.2.1 wd_164 dX7_insert_23 rfl ?_
      refine fW_aload_n 27 dX7_insert_26 rfl rfl ?_
      refine fW_getR 30 (r := o + 1) 0 hg clX7 (by decide) rfl ho (tf_7_0 ho) wd_180 dX7_insert_27 rfl ?_
      refine fW_iload_n 31 dX7_insert_30 rfl rfl ?_
      obtain ⟨c5, h⟩ := fS h
      have t6 := ta_16 (r := o + 3 * v1.toNat + 3) (tt_7_0 ho) c5 (by omega)
      refine fW_aald 32 4 hg (tt_7_0 ho) (by decide) (by decide) t6.1 t6.2.2 rfl dX7_insert_31 rfl ?_
      refine fW_getI 35 5 (ji := 5) hg clX6 rfl (by decide) rfl t6.2.1 wd_164 dX7_insert_32 rfl ?_
      refine fW_icmp_ge 38 58 (hR (o + 3 * (M (o + 2) (v3 - 1)).toNat + 3) 5) (hR (o + 3 * v1.toNat + 3) 5) dX7_insert_35 rfl rfl (fun c7 => ?_) (fun c7 => ?_)
      · replace h := fTt h c7
        exact fW_sb (hk v1 v3 M gv1 gv3 h) ⟨rfl, rfl, rfl, trivial⟩
      · replace h := fFf h c7
        refine fW_aload_n 39 dX7_insert_38 rfl rfl ?_
        refine fW_getR 42 (r := o + 2) 1 hg clX7 (by decide) rfl ho (tf_7_1 ho) wd_186 dX7_insert_39 rfl ?_
        refine fW_iload_n 43 dX7_insert_42 rfl rfl ?_
        refine fW_aload_n 44 dX7_insert_43 rfl rfl ?_
        refine fW_getR 47 (r := o + 2) 1 hg clX7 (by decide) rfl ho (tf_7_1 ho) wd_186 dX7_insert_44 rfl ?_
        refine fW_iload_n 48 dX7_insert_47 rfl rfl ?_
        refine fW_iconst 49 dX7_insert_48 rfl ?_
        refine fW_isub 50 dX7_insert_49 rfl ?_
        refine fW_iald 51 hg (tt_7_1 ho) ⟨c2.1, by rw [lf_7_1 ho]; exact c2.2⟩ dX7_insert_50 rfl ?_
        obtain ⟨c8, h⟩ := fS h
        obtain ⟨N9, e9, h⟩ := fBd h
        replace e9 := Option.some.inj e9
        refine fW_iast 52 hg (tt_7_1 ho) ⟨c8.1, by rw [lf_7_1 ho]; exact c8.2⟩ (hR (o + 2) (v3 - 1)) dX7_insert_51 rfl ?_
        rw [e9]
        refine fW_rg (fun hR9 => ?_)
        refine fW_iinc 55 (ls' := [some (rv G o), some (iv v1), some (iv v2), some (iv (v3 + -1))]) dX7_insert_52 rfl rfl rfl (by decide) ?_
        refine fW_goto 5 dX7_insert_55 rfl ?_
        exact fW_sb (ih v1 v2 (v3 + -1) N9 gv1 gv2 (rg_pred' gv3 gv2 c1) h) ⟨rfl, rfl, rfl, rfl, trivial⟩
def j_X7_insert_58 (o : Nat) (v1 : Int) (v3 : Int) (M : fMem) : Option (fMem) := (if 0 ≤ v3 ∧ v3 < 19 then ((some (mset M (o + 2) v3 v1)).bind fun (N12 : fMem) => (if -2147483648 ≤ (N12 o 2) + 1 ∧ (N12 o 2) + 1 < 2147483648 then ((some (mset N12 o 2 ((N12 o 2) + 1))).bind fun (N14 : fMem) => some N14) else none)) else none)
set_option maxRecDepth 100000 in
set_option maxHeartbeats 4000000 in
theorem i_X7_insert_58 {G : fG} (hg : gbt G = true) {o : Nat} (ho : fTyp o 7) {v1 : Int} {v3 : Int} (gv1 : rg v1) (gv3 : rg v3) {M : fMem} {q : fMem} (h : j_X7_insert_58 o v1 v3 M = some q) : fW G mX7_insert (fEm G mX7_insert (rV q) fNo) 0 0 58 [some (rv G o), some (iv v1), none, some (iv v3)] [] M := by
  rw [j_X7_insert_58] at h
  refine fW_rg (fun hR => ?_)
  refine fW_aload_n 59 dX7_insert_58 rfl rfl ?_
  refine fW_getR 62 (r := o + 2) 1 hg clX7 (by decide) rfl ho (tf_7_1 ho) wd_186 dX7_insert_59 rfl ?_
  refine fW_iload_n 63 dX7_insert_62 rfl rfl ?_
  refine fW_iload_n 64 dX7_insert_63 rfl rfl ?_
  obtain ⟨c11, h⟩ := fS h
  obtain ⟨N12, e12, h⟩ := fBd h
  replace e12 := Option.some.inj e12
  refine fW_iast 65 hg (tt_7_1 ho) ⟨c11.1, by rw [lf_7_1 ho]; exact c11.2⟩ gv1 dX7_insert_64 rfl ?_
  rw [e12]
  refine fW_rg (fun hR12 => ?_)
  refine fW_aload_n 66 dX7_insert_65 rfl rfl ?_
  refine fW_dup 67 dX7_insert_66 rfl rfl ?_
  refine fW_getI 70 2 (ji := 2) hg clX7 rfl (by decide) rfl ho wd_190 dX7_insert_67 rfl ?_
  refine fW_iconst 71 dX7_insert_70 rfl ?_
  refine fW_iadd 72 dX7_insert_71 rfl ?_
  obtain ⟨c13, h⟩ := fS h
  obtain ⟨N14, e14, h⟩ := fBd h
  replace e14 := Option.some.inj e14
  refine fW_putI 75 2 (ji := 2) hg clX7 rfl (by decide) rfl rfl rfl ho c13 wd_190 dX7_insert_72 rfl ?_
  rw [e14]
  refine fW_rg (fun hR14 => ?_)
  exact fW_vret rfl (by decide) (by decide) dX7_insert_75 (rV_i h)
def f_X7_insert (o : Nat) (a1 : Int) (a2 : Int) (M : fMem) : Option (fMem) := L_X7_insert_5 o (fun (v1_10 : Int) (v3_10 : Int) (M_10 : fMem) => j_X7_insert_58 o v1_10 v3_10 M_10) 20000 a1 a2 (M o 2) M
set_option maxRecDepth 100000 in
set_option maxHeartbeats 4000000 in
theorem s_X7_insert {G : fG} (hg : gbt G = true) {o : Nat} (ho : fTyp o 7) {a1 : Int} (ga1 : rg a1) {a2 : Int} (ga2 : rg a2) {M : fMem} {q : fMem} (h : f_X7_insert o a1 a2 M = some q) : fSp G mX7_insert [rv G o, iv a1, iv a2] M (rV q) fNo := by
  refine fSp_of (by decide +kernel) (by decide +kernel) (fC1 rfl (fC1 rfl (fC1 rfl fC0))) (Nat.le_of_ble_eq_true rfl) ?_
  show fW G mX7_insert (fEm G mX7_insert (rV q) fNo) 0 0 0 [some (rv G o), some (iv a1), some (iv a2), none] [] M
  rw [f_X7_insert] at h
  refine fW_rg (fun hR => ?_)
  refine fW_aload_n 1 dX7_insert_0 rfl rfl ?_
  refine fW_getI 4 2 (ji := 2) hg clX7 rfl (by decide) rfl ho wd_190 dX7_insert_1 rfl ?_
  refine fW_istore_n 5 (ls' := [some (rv G o), some (iv a1), some (iv a2), some (iv (M o 2))]) dX7_insert_4 rfl rfl rfl (by decide) ?_
  refine fW_sb (l_X7_insert_5 hg ho ?_ 20000 a1 a2 (M o 2) M ga1 ga2 (hR o 2) h) ⟨rfl, rfl, rfl, rfl, trivial⟩
  intro v1_10 v3_10 M_10 gv1_10 gv3_10 h
  refine fW_rg (fun hR_10 => ?_)
  exact fW_sb (i_X7_insert_58 hg ho gv1_10 gv3_10 h) ⟨rfl, rfl, rfl, trivial⟩
def mX7_arrange : fMt := (yX7_arrange, cX7_arrange, 4, some .int, { frames := 1, cells := 0, slots := 0, locals := 40 })
theorem miX7_arrange : fMv mX7_arrange 0 := ⟨⟨fM 599 (by decide +kernel) rfl, fM 91 (by decide +kernel) rfl, ⟨by decide +kernel, by decide +kernel⟩, by decide +kernel⟩, fM 597 (by decide +kernel) rfl, fM 598 (by decide +kernel) rfl⟩
def L_X7_arrange_24 (o : Nat) (k : Int → fMem → Option (Int × fMem)) : Nat → Int → Int → Int → fMem → Option (Int × fMem)
  | 0, _, _, _, _ => none
  | n + 1, v1, v2, v3, M => (if 0 ≤ v1 ∧ v1 < 9 then (if (ER v1) ≤ v3 then k v1 M else (if 0 ≤ v3 ∧ v3 < 19 then ((f_X6_isShut (o + 3 * v3.toNat + 3) M).bind fun (r8 : Int) => (if r8 = 0 then L_X7_arrange_24 o k n v1 v2 (v3 + 1) M else ((f_X7_insert o v3 v2 M).bind fun (r10 : fMem) => L_X7_arrange_24 o k n v1 v2 (v3 + 1) r10))) else none)) else none)
set_option maxRecDepth 100000 in
set_option maxHeartbeats 4000000 in
theorem l_X7_arrange_24 {G : fG} (hg : gbt G = true) {o : Nat} (ho : fTyp o 7) {q : Int × fMem} {k : Int → fMem → Option (Int × fMem)} (hk : ∀ (v1 : Int) (M : fMem), rg v1 → k v1 M = some q → fW G mX7_arrange (fEm G mX7_arrange (rP q.2 q.1) fNo) 0 0 57 [some (rv G o), some (iv v1), none, none] [] M) : ∀ (n : Nat) (v1 : Int) (v2 : Int) (v3 : Int) (M : fMem), rg v1 → rg v2 → rg v3 → L_X7_arrange_24 o k n v1 v2 v3 M = some q → fW G mX7_arrange (fEm G mX7_arrange (rP q.2 q.1) fNo) 0 0 24 [some (rv G o), some (iv v1), some (iv v2), some (iv v3)] [] M := by
  intro n
  induction n with
  | zero =>
    intro v1 v2 v3 M gv1 gv2 gv3 h
    rw [L_X7_arrange_24] at h
    exact absurd h (by simp)
  | succ n ih =>
    intro v1 v2 v3 M gv1 gv2 gv3 h
    rw [L_X7_arrange_24] at h
    refine fW_rg (fun hR => ?_)
    refine fW_iload_n 25 dX7_arrange_24 rfl rfl ?_
    refine fW_getsN 28 (host := "RowStore") 1 (by decide) (by decide +kernel) dX7_arrange_25 rfl ?_
    refine fW_iload_n 29 dX7_arrange_28 rfl rfl ?_
    obtain ⟨c4, h⟩ := fS h
    refine fW_sald 30 1 (by decide) c4 dX7_arrange_29 rfl ?_
    rw [show SV 1 v1 = ER v1 from rfl]
    refine fW_icmp_ge 33 57 gv3 (rg_ER c4) dX7_arrange_30 rfl rfl (fun c5 => ?_) (fun c5 => ?_)
    · replace h := fTt h c5
      exact fW_sb (hk v1 M gv1 h) ⟨rfl, rfl, trivial⟩
    · replace h := fFf h c5
      refine fW_aload_n 34 dX7_arrange_33 rfl rfl ?_
      refine fW_getR 37 (r := o + 1) 0 hg clX7 (by decide) rfl ho (tf_7_0 ho) wd_180 dX7_arrange_34 rfl ?_
      refine fW_iload_n 38 dX7_arrange_37 rfl rfl ?_
      obtain ⟨c6, h⟩ := fS h
      have t7 := ta_16 (r := o + 3 * v3.toNat + 3) (tt_7_0 ho) c6 (by omega)
      refine fW_aald 39 4 hg (tt_7_0 ho) (by decide) (by decide) t7.1 t7.2.2 rfl dX7_arrange_38 rfl ?_
      obtain ⟨r8, e8, h⟩ := fBd h
      refine fW_cB (fI_V (as := []) (rest := []) miX6_isShut hg clX6 rfl t7.2.1 wd_600 (fRoom_of rfl) rfl (Nat.le_of_ble_eq_true rfl) dX7_arrange_39) (s_X6_isShut hg t7.2.1 e8) rfl rfl rfl (fun g8 => ?_)
      refine fW_if_eq 45 51 (rg_z g8) dX7_arrange_42 rfl rfl (fun c9 => ?_) (fun c9 => ?_)
      · replace h := fTt h c9
        refine fW_iinc 54 (ls' := [some (rv G o), some (iv v1), some (iv v2), some (iv (v3 + 1))]) dX7_arrange_51 rfl rfl rfl (by decide) ?_
        refine fW_goto 24 dX7_arrange_54 rfl ?_
        exact fW_sb (ih v1 v2 (v3 + 1) M gv1 gv2 (rg_succ' gv3 (rg_ER c4) c5) h) ⟨rfl, rfl, rfl, rfl, trivial⟩
      · replace h := fFf h c9
        refine fW_aload_n 46 dX7_arrange_45 rfl rfl ?_
        refine fW_iload_n 47 dX7_arrange_46 rfl rfl ?_
        refine fW_iload_n 48 dX7_arrange_47 rfl rfl ?_
        obtain ⟨r10, e10, h⟩ := fBd h
        refine fW_cV (fI_V (as := [iv v3, iv v2]) (rest := []) miX7_insert hg clX7 rfl ho wd_604 (fRoom_of rfl) rfl (Nat.le_of_ble_eq_true rfl) dX7_arrange_48) (s_X7_insert hg ho gv3 gv2 e10) rfl rfl rfl ?_
        refine fW_rg (fun hR11 => ?_)
        refine fW_iinc 54 (ls' := [some (rv G o), some (iv v1), some (iv v2), some (iv (v3 + 1))]) dX7_arrange_51 rfl rfl rfl (by decide) ?_
        refine fW_goto 24 dX7_arrange_54 rfl ?_
        exact fW_sb (ih v1 v2 (v3 + 1) r10 gv1 gv2 (rg_succ' gv3 (rg_ER c4) c5) h) ⟨rfl, rfl, rfl, rfl, trivial⟩
def L_X7_arrange_7 (o : Nat) (k : fMem → Option (Int × fMem)) : Nat → Int → fMem → Option (Int × fMem)
  | 0, _, _ => none
  | n + 1, v1, M => (if 9 ≤ v1 then k  M else (if 0 ≤ v1 ∧ v1 < 9 then L_X7_arrange_24 o (fun (v1_12 : Int) (M_12 : fMem) => (if -2147483648 ≤ v1_12 + 1 ∧ v1_12 + 1 < 2147483648 then L_X7_arrange_7 o k n (v1_12 + 1) M_12 else none)) 20000 v1 (M o 2) (FR v1) M else none))
set_option maxRecDepth 100000 in
set_option maxHeartbeats 4000000 in
theorem l_X7_arrange_7 {G : fG} (hg : gbt G = true) {o : Nat} (ho : fTyp o 7) {q : Int × fMem} {k : fMem → Option (Int × fMem)} (hk : ∀ (M : fMem), k M = some q → fW G mX7_arrange (fEm G mX7_arrange (rP q.2 q.1) fNo) 0 0 63 [some (rv G o), none, none, none] [] M) : ∀ (n : Nat) (v1 : Int) (M : fMem), rg v1 → L_X7_arrange_7 o k n v1 M = some q → fW G mX7_arrange (fEm G mX7_arrange (rP q.2 q.1) fNo) 0 0 7 [some (rv G o), some (iv v1), none, none] [] M := by
  intro n
  induction n with
  | zero =>
    intro v1 M gv1 h
    rw [L_X7_arrange_7] at h
    exact absurd h (by simp)
  | succ n ih =>
    intro v1 M gv1 h
    rw [L_X7_arrange_7] at h
    refine fW_rg (fun hR => ?_)
    refine fW_iload_n 8 dX7_arrange_7 rfl rfl ?_
    refine fW_bipush 10 dX7_arrange_8 rfl (by decide) ?_
    refine fW_icmp_ge 13 63 gv1 (by decide) dX7_arrange_10 rfl rfl (fun c2 => ?_) (fun c2 => ?_)
    · replace h := fTt h c2
      exact fW_sb (hk M h) ⟨rfl, trivial⟩
    · replace h := fFf h c2
      refine fW_aload_n 14 dX7_arrange_13 rfl rfl ?_
      refine fW_getI 17 2 (ji := 2) hg clX7 rfl (by decide) rfl ho wd_190 dX7_arrange_14 rfl ?_
      refine fW_istore_n 18 (ls' := [some (rv G o), some (iv v1), some (iv (M o 2)), none]) dX7_arrange_17 rfl rfl rfl (by decide) ?_
      refine fW_getsN 21 (host := "RowStore") 0 (by decide) (by decide +kernel) dX7_arrange_18 rfl ?_
      refine fW_iload_n 22 dX7_arrange_21 rfl rfl ?_
      obtain ⟨c3, h⟩ := fS h
      refine fW_sald 23 0 (by decide) c3 dX7_arrange_22 rfl ?_
      rw [show SV 0 v1 = FR v1 from rfl]
      refine fW_istore_n 24 (ls' := [some (rv G o), some (iv v1), some (iv (M o 2)), some (iv (FR v1))]) dX7_arrange_23 rfl rfl rfl (by decide) ?_
      refine fW_sb (l_X7_arrange_24 hg ho ?_ 20000 v1 (M o 2) (FR v1) M gv1 (hR o 2) (rg_FR c3) h) ⟨rfl, rfl, rfl, rfl, trivial⟩
      intro v1_12 M_12 gv1_12 h
      refine fW_rg (fun hR_12 => ?_)
      refine fW_iinc 60 (ls' := [some (rv G o), some (iv (v1_12 + 1)), none, none]) dX7_arrange_57 rfl rfl rfl (by decide) ?_
      refine fW_goto 7 dX7_arrange_60 rfl ?_
      obtain ⟨c13, h⟩ := fS h
      exact fW_sb (ih (v1_12 + 1) M_12 c13 h) ⟨rfl, rfl, trivial⟩
def f_X7_arrange (o : Nat) (M : fMem) : Option (Int × fMem) := ((some (mset M o 2 0)).bind fun (N1 : fMem) => L_X7_arrange_7 o (fun  (M_14 : fMem) => some (M_14 o 2, M_14)) 20000 0 N1)
set_option maxRecDepth 100000 in
set_option maxHeartbeats 4000000 in
theorem s_X7_arrange {G : fG} (hg : gbt G = true) {o : Nat} (ho : fTyp o 7) {M : fMem} {q : Int × fMem} (h : f_X7_arrange o M = some q) : fSp G mX7_arrange [rv G o] M (rP q.2 q.1) fNo := by
  refine fSp_of (by decide +kernel) (by decide +kernel) (fC1 rfl fC0) (Nat.le_of_ble_eq_true rfl) ?_
  show fW G mX7_arrange (fEm G mX7_arrange (rP q.2 q.1) fNo) 0 0 0 [some (rv G o), none, none, none] [] M
  rw [f_X7_arrange] at h
  refine fW_rg (fun hR => ?_)
  refine fW_aload_n 1 dX7_arrange_0 rfl rfl ?_
  refine fW_iconst 2 dX7_arrange_1 rfl ?_
  obtain ⟨N1, e1, h⟩ := fBd h
  replace e1 := Option.some.inj e1
  refine fW_putI 5 2 (ji := 2) hg clX7 rfl (by decide) rfl rfl rfl ho (by decide) wd_190 dX7_arrange_2 rfl ?_
  rw [e1]
  refine fW_rg (fun hR1 => ?_)
  refine fW_iconst 6 dX7_arrange_5 rfl ?_
  refine fW_istore_n 7 (ls' := [some (rv G o), some (iv 0), none, none]) dX7_arrange_6 rfl rfl rfl (by decide) ?_
  refine fW_sb (l_X7_arrange_7 hg ho ?_ 20000 0 N1 (by decide) h) ⟨rfl, rfl, trivial⟩
  intro M_14 h
  refine fW_rg (fun hR_14 => ?_)
  refine fW_aload_n 64 dX7_arrange_63 rfl rfl ?_
  refine fW_getI 67 2 (ji := 2) hg clX7 rfl (by decide) rfl ho wd_190 dX7_arrange_64 rfl ?_
  exact fW_iret rfl (by decide) (by decide) dX7_arrange_67 (rI_i h (hR_14 o 2))
def mX10_isKey : fMt := (yX10_isKey, cX10_isKey, 1, some .boolean, { frames := 0, cells := 0, slots := 0, locals := 0 })
theorem miX10_isKey : fMs mX10_isKey 1 := ⟨⟨fM 472 (by decide +kernel) rfl, fM 89 (by decide +kernel) rfl, ⟨by decide +kernel, by decide +kernel⟩, by decide +kernel⟩, fM 471 (by decide +kernel) rfl⟩
def f_X10_isKey (a1 : Int) (M : fMem) : Option (Int) := (if a1 < 0 then some 0 else (if 200 ≤ a1 then some 0 else some 1))
set_option maxRecDepth 100000 in
set_option maxHeartbeats 4000000 in
theorem s_X10_isKey {G : fG}  {a1 : Int} (ga1 : rg a1) {M : fMem} {q : Int} (h : f_X10_isKey a1 M = some q) : fSp G mX10_isKey [iv a1] M (rB M q) fNo := by
  refine fSp_of (by decide +kernel) (by decide +kernel) (fC1 rfl fC0) (Nat.le_of_ble_eq_true rfl) ?_
  show fW G mX10_isKey (fEm G mX10_isKey (rB M q) fNo) 0 0 0 [some (iv a1)] [] M
  rw [f_X10_isKey] at h
  refine fW_rg (fun hR => ?_)
  refine fW_iload_n 1 dX10_isKey_0 rfl rfl ?_
  refine fW_if_lt 4 15 ga1 dX10_isKey_1 rfl rfl (fun c1 => ?_) (fun c1 => ?_)
  · replace h := fTt h c1
    refine fW_iconst 16 dX10_isKey_15 rfl ?_
    exact fW_zret rfl (by decide) (by decide) (by decide) dX10_isKey_16 (rB_i h (by decide))
  · replace h := fFf h c1
    refine fW_iload_n 5 dX10_isKey_4 rfl rfl ?_
    refine fW_sipush 8 dX10_isKey_5 rfl (by decide) ?_
    refine fW_icmp_ge 11 15 ga1 (by decide) dX10_isKey_8 rfl rfl (fun c2 => ?_) (fun c2 => ?_)
    · replace h := fTt h c2
      refine fW_iconst 16 dX10_isKey_15 rfl ?_
      exact fW_zret rfl (by decide) (by decide) (by decide) dX10_isKey_16 (rB_i h (by decide))
    · replace h := fFf h c2
      refine fW_iconst 12 dX10_isKey_11 rfl ?_
      refine fW_goto 16 dX10_isKey_12 rfl ?_
      exact fW_zret rfl (by decide) (by decide) (by decide) dX10_isKey_16 (rB_i h (by decide))
def mX2_readRow : fMt := (yX2_readRow, cX2_readRow, 4, none, { frames := 1, cells := 0, slots := 0, locals := 40 })
theorem miX2_readRow : fMv mX2_readRow 1 := ⟨⟨fM 637 (by decide +kernel) rfl, fM 100 (by decide +kernel) rfl, ⟨by decide +kernel, by decide +kernel⟩, by decide +kernel⟩, fM 636 (by decide +kernel) rfl, fM 9 (by decide +kernel) rfl⟩
def L_X2_readRow_2 (o : Nat) (k : fMem → Option (fMem)) : Nat → Nat → Int → fMem → Option (fMem)
  | 0, _, _, _ => none
  | n + 1, w1, v2, M => (if (M w1 3) ≤ v2 then k  M else ((f_X6_keyAt w1 v2 M).bind fun (r2 : Int) => ((f_X10_isKey r2 M).bind fun (r3 : Int) => (if r3 = 0 then L_X2_readRow_2 o k n w1 (v2 + 1) M else ((f_X6_valueAt w1 v2 M).bind fun (r5 : Int) => (if 0 ≤ r2 ∧ r2 < 200 then ((some (mset M (o + 1) r2 r5)).bind fun (N7 : fMem) => (if -2147483648 ≤ (N7 (o + 2) r2) + 1 ∧ (N7 (o + 2) r2) + 1 < 2147483648 then ((some (mset N7 (o + 2) r2 ((N7 (o + 2) r2) + 1))).bind fun (N9 : fMem) => (if -2147483648 ≤ (N9 o 2) + 1 ∧ (N9 o 2) + 1 < 2147483648 then ((some (mset N9 o 2 ((N9 o 2) + 1))).bind fun (N11 : fMem) => L_X2_readRow_2 o k n w1 (v2 + 1) N11) else none)) else none)) else none))))))
set_option maxRecDepth 100000 in
set_option maxHeartbeats 4000000 in
theorem l_X2_readRow_2 {G : fG} (hg : gbt G = true) {o : Nat} (ho : fTyp o 2) {q : fMem} {k : fMem → Option (fMem)} (hk : ∀ (M : fMem), k M = some q → fW G mX2_readRow (fEm G mX2_readRow (rV q) fNo) 0 0 60 [some (rv G o), none, none, none] [] M) : ∀ (n : Nat) (w1 : Nat) (v2 : Int) (M : fMem), fTyp w1 6 → rg v2 → L_X2_readRow_2 o k n w1 v2 M = some q → fW G mX2_readRow (fEm G mX2_readRow (rV q) fNo) 0 0 2 [some (rv G o), some (rv G w1), some (iv v2), none] [] M := by
  intro n
  induction n with
  | zero =>
    intro w1 v2 M tw1 gv2 h
    rw [L_X2_readRow_2] at h
    exact absurd h (by simp)
  | succ n ih =>
    intro w1 v2 M tw1 gv2 h
    rw [L_X2_readRow_2] at h
    refine fW_rg (fun hR => ?_)
    refine fW_iload_n 3 dX2_readRow_2 rfl rfl ?_
    refine fW_aload_n 4 dX2_readRow_3 rfl rfl ?_
    refine fW_getI 7 3 (ji := 3) hg clX6 rfl (by decide) rfl tw1 wd_155 dX2_readRow_4 rfl ?_
    refine fW_icmp_ge 10 60 gv2 (hR w1 3) dX2_readRow_7 rfl rfl (fun c1 => ?_) (fun c1 => ?_)
    · replace h := fTt h c1
      exact fW_sb (hk M h) ⟨rfl, trivial⟩
    · replace h := fFf h c1
      refine fW_aload_n 11 dX2_readRow_10 rfl rfl ?_
      refine fW_iload_n 12 dX2_readRow_11 rfl rfl ?_
      obtain ⟨r2, e2, h⟩ := fBd h
      refine fW_cP (fI_V (as := [iv v2]) (rest := []) miX6_keyAt hg clX6 rfl tw1 wd_638 (fRoom_of rfl) rfl (Nat.le_of_ble_eq_true rfl) dX2_readRow_12) (s_X6_keyAt hg tw1 gv2 e2) rfl rfl rfl (fun g2 => ?_)
      refine fW_istore_n 16 (ls' := [some (rv G o), some (rv G w1), some (iv v2), some (iv r2)]) dX2_readRow_15 rfl rfl rfl (by decide) ?_
      refine fW_iload_n 17 dX2_readRow_16 rfl rfl ?_
      obtain ⟨r3, e3, h⟩ := fBd h
      refine fW_cB (fI_SN (host := "RowStore") (as := [iv r2]) (rest := []) miX10_isKey (by decide +kernel) (fRoom_of rfl) rfl (Nat.le_of_ble_eq_true rfl) dX2_readRow_17) (s_X10_isKey g2 e3) rfl rfl rfl (fun g3 => ?_)
      refine fW_if_eq 23 54 (rg_z g3) dX2_readRow_20 rfl rfl (fun c4 => ?_) (fun c4 => ?_)
      · replace h := fTt h c4
        refine fW_iinc 57 (ls' := [some (rv G o), some (rv G w1), some (iv (v2 + 1)), some (iv r2)]) dX2_readRow_54 rfl rfl rfl (by decide) ?_
        refine fW_goto 2 dX2_readRow_57 rfl ?_
        exact fW_sb (ih w1 (v2 + 1) M tw1 (rg_succ' gv2 (hR w1 3) c1) h) ⟨rfl, rfl, rfl, trivial⟩
      · replace h := fFf h c4
        refine fW_aload_n 24 dX2_readRow_23 rfl rfl ?_
        refine fW_getR 27 (r := o + 1) 0 hg clX2 (by decide) rfl ho (tf_2_0 ho) wd_404 dX2_readRow_24 rfl ?_
        refine fW_iload_n 28 dX2_readRow_27 rfl rfl ?_
        refine fW_aload_n 29 dX2_readRow_28 rfl rfl ?_
        refine fW_iload_n 30 dX2_readRow_29 rfl rfl ?_
        obtain ⟨r5, e5, h⟩ := fBd h
        refine fW_cP (fI_V (as := [iv v2]) (rest := [iv r2, rv G (o + 1)]) miX6_valueAt hg clX6 rfl tw1 wd_640 (fRoom_of rfl) rfl (Nat.le_of_ble_eq_true rfl) dX2_readRow_30) (s_X6_valueAt hg tw1 gv2 e5) rfl rfl rfl (fun g5 => ?_)
        obtain ⟨c6, h⟩ := fS h
        obtain ⟨N7, e7, h⟩ := fBd h
        replace e7 := Option.some.inj e7
        refine fW_iast 34 hg (tt_2_0 ho) ⟨c6.1, by rw [lf_2_0 ho]; exact c6.2⟩ g5 dX2_readRow_33 rfl ?_
        rw [e7]
        refine fW_rg (fun hR7 => ?_)
        refine fW_aload_n 35 dX2_readRow_34 rfl rfl ?_
        refine fW_getR 38 (r := o + 2) 1 hg clX2 (by decide) rfl ho (tf_2_1 ho) wd_406 dX2_readRow_35 rfl ?_
        refine fW_iload_n 39 dX2_readRow_38 rfl rfl ?_
        refine fW_dup2 40 dX2_readRow_39 rfl rfl rfl ?_
        refine fW_iald 41 hg (tt_2_1 ho) ⟨c6.1, by rw [lf_2_1 ho]; exact c6.2⟩ dX2_readRow_40 rfl ?_
        refine fW_iconst 42 dX2_readRow_41 rfl ?_
        refine fW_iadd 43 dX2_readRow_42 rfl ?_
        obtain ⟨c8, h⟩ := fS h
        obtain ⟨N9, e9, h⟩ := fBd h
        replace e9 := Option.some.inj e9
        refine fW_iast 44 hg (tt_2_1 ho) ⟨c6.1, by rw [lf_2_1 ho]; exact c6.2⟩ c8 dX2_readRow_43 rfl ?_
        rw [e9]
        refine fW_rg (fun hR9 => ?_)
        refine fW_aload_n 45 dX2_readRow_44 rfl rfl ?_
        refine fW_dup 46 dX2_readRow_45 rfl rfl ?_
        refine fW_getI 49 2 (ji := 2) hg clX2 rfl (by decide) rfl ho wd_407 dX2_readRow_46 rfl ?_
        refine fW_iconst 50 dX2_readRow_49 rfl ?_
        refine fW_iadd 51 dX2_readRow_50 rfl ?_
        obtain ⟨c10, h⟩ := fS h
        obtain ⟨N11, e11, h⟩ := fBd h
        replace e11 := Option.some.inj e11
        refine fW_putI 54 2 (ji := 2) hg clX2 rfl (by decide) rfl rfl rfl ho c10 wd_407 dX2_readRow_51 rfl ?_
        rw [e11]
        refine fW_rg (fun hR11 => ?_)
        refine fW_iinc 57 (ls' := [some (rv G o), some (rv G w1), some (iv (v2 + 1)), some (iv r2)]) dX2_readRow_54 rfl rfl rfl (by decide) ?_
        refine fW_goto 2 dX2_readRow_57 rfl ?_
        exact fW_sb (ih w1 (v2 + 1) N11 tw1 (rg_succ' gv2 (hR w1 3) c1) h) ⟨rfl, rfl, rfl, trivial⟩
def f_X2_readRow (o : Nat) (p1 : Nat) (M : fMem) : Option (fMem) := L_X2_readRow_2 o (fun  (M_12 : fMem) => some M_12) 20000 p1 0 M
set_option maxRecDepth 100000 in
set_option maxHeartbeats 4000000 in
theorem s_X2_readRow {G : fG} (hg : gbt G = true) {o : Nat} (ho : fTyp o 2) {p1 : Nat} (hp1 : fTyp p1 6) {M : fMem} {q : fMem} (h : f_X2_readRow o p1 M = some q) : fSp G mX2_readRow [rv G o, rv G p1] M (rV q) fNo := by
  refine fSp_of (by decide +kernel) (by decide +kernel) (fC1 rfl (fC1 rfl fC0)) (Nat.le_of_ble_eq_true rfl) ?_
  show fW G mX2_readRow (fEm G mX2_readRow (rV q) fNo) 0 0 0 [some (rv G o), some (rv G p1), none, none] [] M
  rw [f_X2_readRow] at h
  refine fW_rg (fun hR => ?_)
  refine fW_iconst 1 dX2_readRow_0 rfl ?_
  refine fW_istore_n 2 (ls' := [some (rv G o), some (rv G p1), some (iv 0), none]) dX2_readRow_1 rfl rfl rfl (by decide) ?_
  refine fW_sb (l_X2_readRow_2 hg ho ?_ 20000 p1 0 M hp1 (by decide) h) ⟨rfl, rfl, rfl, trivial⟩
  intro M_12 h
  refine fW_rg (fun hR_12 => ?_)
  exact fW_vret rfl (by decide) (by decide) dX2_readRow_60 (rV_i h)
def mX2_read : fMt := (yX2_read, cX2_read, 3, none, { frames := 2, cells := 0, slots := 0, locals := 80 })
theorem miX2_read : fMv mX2_read 1 := ⟨⟨fM 629 (by decide +kernel) rfl, fM 100 (by decide +kernel) rfl, ⟨by decide +kernel, by decide +kernel⟩, by decide +kernel⟩, fM 627 (by decide +kernel) rfl, fM 628 (by decide +kernel) rfl⟩
def L_X2_read_28 (o : Nat) (k : fMem → Option (fMem)) : Nat → Nat → Int → fMem → Option (fMem)
  | 0, _, _, _ => none
  | n + 1, w1, v2, M => (if v2 < 0 then k  M else (if 0 ≤ v2 ∧ v2 < 19 then (if 0 ≤ M (w1 + 2) v2 ∧ M (w1 + 2) v2 < 19 then ((f_X2_readRow o (w1 + 3 * (M (w1 + 2) v2).toNat + 3) M).bind fun (r13 : fMem) => L_X2_read_28 o k n w1 (v2 + -1) r13) else none) else none))
set_option maxRecDepth 100000 in
set_option maxHeartbeats 4000000 in
theorem l_X2_read_28 {G : fG} (hg : gbt G = true) {o : Nat} (ho : fTyp o 2) {q : fMem} {k : fMem → Option (fMem)} (hk : ∀ (M : fMem), k M = some q → fW G mX2_read (fEm G mX2_read (rV q) fNo) 0 0 53 [some (rv G o), none, none] [] M) : ∀ (n : Nat) (w1 : Nat) (v2 : Int) (M : fMem), fTyp w1 7 → rg v2 → L_X2_read_28 o k n w1 v2 M = some q → fW G mX2_read (fEm G mX2_read (rV q) fNo) 0 0 28 [some (rv G o), some (rv G w1), some (iv v2)] [] M := by
  intro n
  induction n with
  | zero =>
    intro w1 v2 M tw1 gv2 h
    rw [L_X2_read_28] at h
    exact absurd h (by simp)
  | succ n ih =>
    intro w1 v2 M tw1 gv2 h
    rw [L_X2_read_28] at h
    refine fW_rg (fun hR => ?_)
    refine fW_iload_n 29 dX2_read_28 rfl rfl ?_
    refine fW_if_lt 32 53 gv2 dX2_read_29 rfl rfl (fun c9 => ?_) (fun c9 => ?_)
    · replace h := fTt h c9
      exact fW_sb (hk M h) ⟨rfl, trivial⟩
    · replace h := fFf h c9
      refine fW_aload_n 33 dX2_read_32 rfl rfl ?_
      refine fW_aload_n 34 dX2_read_33 rfl rfl ?_
      refine fW_getR 37 (r := w1 + 1) 0 hg clX7 (by decide) rfl tw1 (tf_7_0 tw1) wd_181 dX2_read_34 rfl ?_
      refine fW_aload_n 38 dX2_read_37 rfl rfl ?_
      refine fW_getR 41 (r := w1 + 2) 1 hg clX7 (by decide) rfl tw1 (tf_7_1 tw1) wd_188 dX2_read_38 rfl ?_
      refine fW_iload_n 42 dX2_read_41 rfl rfl ?_
      obtain ⟨c10, h⟩ := fS h
      refine fW_iald 43 hg (tt_7_1 tw1) ⟨c10.1, by rw [lf_7_1 tw1]; exact c10.2⟩ dX2_read_42 rfl ?_
      obtain ⟨c11, h⟩ := fS h
      have t12 := ta_16 (r := w1 + 3 * (M (w1 + 2) v2).toNat + 3) (tt_7_0 tw1) c11 (by omega)
      refine fW_aald 44 4 hg (tt_7_0 tw1) (by decide) (by decide) t12.1 t12.2.2 rfl dX2_read_43 rfl ?_
      obtain ⟨r13, e13, h⟩ := fBd h
      refine fW_cV (fI_V (as := [rv G (w1 + 3 * (M (w1 + 2) v2).toNat + 3)]) (rest := []) miX2_readRow hg clX2 rfl ho wd_634 (fRoom_of rfl) rfl (Nat.le_of_ble_eq_true rfl) dX2_read_44) (s_X2_readRow hg ho t12.2.1 e13) rfl rfl rfl ?_
      refine fW_rg (fun hR14 => ?_)
      refine fW_iinc 50 (ls' := [some (rv G o), some (rv G w1), some (iv (v2 + -1))]) dX2_read_47 rfl rfl rfl (by decide) ?_
      refine fW_goto 28 dX2_read_50 rfl ?_
      exact fW_sb (ih w1 (v2 + -1) r13 tw1 (rg_pred0' gv2 c9) h) ⟨rfl, rfl, rfl, trivial⟩
def f_X2_read (o : Nat) (p1 : Nat) (M : fMem) : Option (fMem) := ((f_AF_fill (o + 1) ((-1)) M).bind fun (r1 : fMem) => ((f_AF_fill (o + 2) 0 r1).bind fun (r3 : fMem) => ((some (mset r3 o 2 0)).bind fun (N5 : fMem) => ((f_X7_arrange p1 N5).bind fun (r6 : Int × fMem) => (if -2147483648 ≤ r6.1 - 1 ∧ r6.1 - 1 < 2147483648 then L_X2_read_28 o (fun  (M_15 : fMem) => some M_15) 20000 p1 (r6.1 - 1) r6.2 else none)))))
set_option maxRecDepth 100000 in
set_option maxHeartbeats 4000000 in
theorem s_X2_read {G : fG} (hg : gbt G = true) {o : Nat} (ho : fTyp o 2) {p1 : Nat} (hp1 : fTyp p1 7) {M : fMem} {q : fMem} (h : f_X2_read o p1 M = some q) : fSp G mX2_read [rv G o, rv G p1] M (rV q) fNo := by
  refine fSp_of (by decide +kernel) (by decide +kernel) (fC1 rfl (fC1 rfl fC0)) (Nat.le_of_ble_eq_true rfl) ?_
  show fW G mX2_read (fEm G mX2_read (rV q) fNo) 0 0 0 [some (rv G o), some (rv G p1), none] [] M
  rw [f_X2_read] at h
  refine fW_rg (fun hR => ?_)
  refine fW_aload_n 1 dX2_read_0 rfl rfl ?_
  refine fW_getR 4 (r := o + 1) 0 hg clX2 (by decide) rfl ho (tf_2_0 ho) wd_404 dX2_read_1 rfl ?_
  refine fW_iconst 5 dX2_read_4 rfl ?_
  obtain ⟨r1, e1, h⟩ := fBd h
  refine fW_cV (fI_SF (as := [rv G (o + 1), iv ((-1))]) (rest := []) miAF_fill wd_630 (fRoom_of rfl) rfl (Nat.le_of_ble_eq_true rfl) dX2_read_5) (s_AF_fill hg (tt_2_0 ho) (by decide) e1) rfl rfl rfl ?_
  refine fW_rg (fun hR2 => ?_)
  refine fW_aload_n 9 dX2_read_8 rfl rfl ?_
  refine fW_getR 12 (r := o + 2) 1 hg clX2 (by decide) rfl ho (tf_2_1 ho) wd_406 dX2_read_9 rfl ?_
  refine fW_iconst 13 dX2_read_12 rfl ?_
  obtain ⟨r3, e3, h⟩ := fBd h
  refine fW_cV (fI_SF (as := [rv G (o + 2), iv 0]) (rest := []) miAF_fill wd_630 (fRoom_of rfl) rfl (Nat.le_of_ble_eq_true rfl) dX2_read_13) (s_AF_fill hg (tt_2_1 ho) (by decide) e3) rfl rfl rfl ?_
  refine fW_rg (fun hR4 => ?_)
  refine fW_aload_n 17 dX2_read_16 rfl rfl ?_
  refine fW_iconst 18 dX2_read_17 rfl ?_
  obtain ⟨N5, e5, h⟩ := fBd h
  replace e5 := Option.some.inj e5
  refine fW_putI 21 2 (ji := 2) hg clX2 rfl (by decide) rfl rfl rfl ho (by decide) wd_407 dX2_read_18 rfl ?_
  rw [e5]
  refine fW_rg (fun hR5 => ?_)
  refine fW_aload_n 22 dX2_read_21 rfl rfl ?_
  obtain ⟨r6, e6, h⟩ := fBd h
  refine fW_cP (fI_V (as := []) (rest := []) miX7_arrange hg clX7 rfl hp1 wd_633 (fRoom_of rfl) rfl (Nat.le_of_ble_eq_true rfl) dX2_read_22) (s_X7_arrange hg hp1 e6) rfl rfl rfl (fun g6 => ?_)
  refine fW_rg (fun hR7 => ?_)
  refine fW_iconst 26 dX2_read_25 rfl ?_
  refine fW_isub 27 dX2_read_26 rfl ?_
  refine fW_istore_n 28 (ls' := [some (rv G o), some (rv G p1), some (iv (r6.1 - 1))]) dX2_read_27 rfl rfl rfl (by decide) ?_
  obtain ⟨c8, h⟩ := fS h
  refine fW_sb (l_X2_read_28 hg ho ?_ 20000 p1 (r6.1 - 1) r6.2 hp1 c8 h) ⟨rfl, rfl, rfl, trivial⟩
  intro M_15 h
  refine fW_rg (fun hR_15 => ?_)
  exact fW_vret rfl (by decide) (by decide) dX2_read_53 (rV_i h)
end MTH
