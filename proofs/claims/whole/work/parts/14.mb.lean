section MTH
def mX0_end : fMt := (yX0_end, cX0_end, 3, none, { frames := 1, cells := 0, slots := 0, locals := 40 })
theorem miX0_end : fMv mX0_end 1 := ⟨⟨fM 523 (by decide +kernel) rfl, fM 90 (by decide +kernel) rfl, ⟨by decide +kernel, by decide +kernel⟩, by decide +kernel⟩, fM 522 (by decide +kernel) rfl, fM 5 (by decide +kernel) rfl⟩
def j_X0_end_65 (o : Nat) (w1 : Nat) (M : fMem) : Option (fMem) := ((some (mset M w1 0 0)).bind fun (N14 : fMem) => (if -2147483648 ≤ (N14 w1 7) + 1 ∧ (N14 w1 7) + 1 < 2147483648 then ((some (mset N14 w1 7 ((N14 w1 7) + 1))).bind fun (N16 : fMem) => some N16) else none))
set_option maxRecDepth 100000 in
set_option maxHeartbeats 4000000 in
theorem i_X0_end_65 {G : fG} (hg : gbt G = true) {o : Nat} (ho : fTyp o 0) {w1 : Nat} (tw1 : fTyp w1 4) {M : fMem} {q : fMem} (h : j_X0_end_65 o w1 M = some q) : fW G mX0_end (fEm G mX0_end (rV q) fNo) 0 0 65 [some (rv G o), some (rv G w1), none] [] M := by
  rw [j_X0_end_65] at h
  refine fW_rg (fun hR => ?_)
  refine fW_aload_n 66 dX0_end_65 rfl rfl ?_
  refine fW_iconst 67 dX0_end_66 rfl ?_
  obtain ⟨N14, e14, h⟩ := fBd h
  replace e14 := Option.some.inj e14
  refine fW_putZ 70 0 (ji := 0) hg clX4 rfl (by decide) rfl rfl rfl tw1 (by decide) wd_207 dX0_end_67 rfl ?_
  rw [e14]
  refine fW_rg (fun hR14 => ?_)
  refine fW_aload_n 71 dX0_end_70 rfl rfl ?_
  refine fW_dup 72 dX0_end_71 rfl rfl ?_
  refine fW_getI 75 7 (ji := 7) hg clX4 rfl (by decide) rfl tw1 wd_223 dX0_end_72 rfl ?_
  refine fW_iconst 76 dX0_end_75 rfl ?_
  refine fW_iadd 77 dX0_end_76 rfl ?_
  obtain ⟨c15, h⟩ := fS h
  obtain ⟨N16, e16, h⟩ := fBd h
  replace e16 := Option.some.inj e16
  refine fW_putI 80 7 (ji := 7) hg clX4 rfl (by decide) rfl rfl rfl tw1 c15 wd_223 dX0_end_77 rfl ?_
  rw [e16]
  refine fW_rg (fun hR16 => ?_)
  exact fW_vret rfl (by decide) (by decide) dX0_end_80 (rV_i h)
def f_X0_end (o : Nat) (p1 : Nat) (M : fMem) : Option (fMem) := (if 0 ≤ M p1 2 ∧ M p1 2 < 19 then ((f_X6_clear (o + 3 * (M p1 2).toNat + 4) 0 M).bind fun (r3 : fMem) => (if 0 ≤ r3 p1 3 ∧ r3 p1 3 < 19 then ((f_X6_clear (o + 3 * (r3 p1 3).toNat + 4) 0 r3).bind fun (r7 : fMem) => (if 0 ≤ r7 p1 4 ∧ r7 p1 4 < 19 then (if (r7 (o + 3 * (r7 p1 4).toNat + 4) 3) = 0 then ((f_X6_clear (o + 3 * (r7 p1 4).toNat + 4) 0 r7).bind fun (r17 : fMem) => j_X0_end_65 o p1 r17) else ((f_X0_shut o (o + 3 * (r7 p1 4).toNat + 4) r7).bind fun (r12 : fMem) => j_X0_end_65 o p1 r12)) else none)) else none)) else none)
set_option maxRecDepth 100000 in
set_option maxHeartbeats 4000000 in
theorem s_X0_end {G : fG} (hg : gbt G = true) {o : Nat} (ho : fTyp o 0) {p1 : Nat} (hp1 : fTyp p1 4) {M : fMem} {q : fMem} (h : f_X0_end o p1 M = some q) : fSp G mX0_end [rv G o, rv G p1] M (rV q) fNo := by
  refine fSp_of (by decide +kernel) (by decide +kernel) (fC1 rfl (fC1 rfl fC0)) (Nat.le_of_ble_eq_true rfl) ?_
  show fW G mX0_end (fEm G mX0_end (rV q) fNo) 0 0 0 [some (rv G o), some (rv G p1), none] [] M
  rw [f_X0_end] at h
  refine fW_rg (fun hR => ?_)
  refine fW_aload_n 1 dX0_end_0 rfl rfl ?_
  refine fW_getR 4 (r := o + 1) 0 hg clX0 (by decide) rfl ho (tf_0_0 ho) wd_247 dX0_end_1 rfl ?_
  refine fW_getR 7 (r := o + 2) 0 hg clX7 (by decide) rfl (tt_0_0 ho) (tf_7_0 (tt_0_0 ho)) wd_183 dX0_end_4 rfl ?_
  refine fW_aload_n 8 dX0_end_7 rfl rfl ?_
  refine fW_getI 11 2 (ji := 2) hg clX4 rfl (by decide) rfl hp1 wd_213 dX0_end_8 rfl ?_
  obtain ⟨c1, h⟩ := fS h
  have t2 := ta_16 (r := o + 3 * (M p1 2).toNat + 4) (tt_7_0 (tt_0_0 ho)) c1 (by omega)
  refine fW_aald 12 4 hg (tt_7_0 (tt_0_0 ho)) (by decide) (by decide) t2.1 t2.2.2 rfl dX0_end_11 rfl ?_
  refine fW_iconst 13 dX0_end_12 rfl ?_
  obtain ⟨r3, e3, h⟩ := fBd h
  refine fW_cV (fI_V (as := [iv 0]) (rest := []) miX6_clear hg clX6 rfl t2.2.1 wd_524 (fRoom_of rfl) rfl (Nat.le_of_ble_eq_true rfl) dX0_end_13) (s_X6_clear hg t2.2.1 (by decide) e3) rfl rfl rfl ?_
  refine fW_rg (fun hR4 => ?_)
  refine fW_aload_n 17 dX0_end_16 rfl rfl ?_
  refine fW_getR 20 (r := o + 1) 0 hg clX0 (by decide) rfl ho (tf_0_0 ho) wd_247 dX0_end_17 rfl ?_
  refine fW_getR 23 (r := o + 2) 0 hg clX7 (by decide) rfl (tt_0_0 ho) (tf_7_0 (tt_0_0 ho)) wd_183 dX0_end_20 rfl ?_
  refine fW_aload_n 24 dX0_end_23 rfl rfl ?_
  refine fW_getI 27 3 (ji := 3) hg clX4 rfl (by decide) rfl hp1 wd_215 dX0_end_24 rfl ?_
  obtain ⟨c5, h⟩ := fS h
  have t6 := ta_16 (r := o + 3 * (r3 p1 3).toNat + 4) (tt_7_0 (tt_0_0 ho)) c5 (by omega)
  refine fW_aald 28 4 hg (tt_7_0 (tt_0_0 ho)) (by decide) (by decide) t6.1 t6.2.2 rfl dX0_end_27 rfl ?_
  refine fW_iconst 29 dX0_end_28 rfl ?_
  obtain ⟨r7, e7, h⟩ := fBd h
  refine fW_cV (fI_V (as := [iv 0]) (rest := []) miX6_clear hg clX6 rfl t6.2.1 wd_524 (fRoom_of rfl) rfl (Nat.le_of_ble_eq_true rfl) dX0_end_29) (s_X6_clear hg t6.2.1 (by decide) e7) rfl rfl rfl ?_
  refine fW_rg (fun hR8 => ?_)
  refine fW_aload_n 33 dX0_end_32 rfl rfl ?_
  refine fW_getR 36 (r := o + 1) 0 hg clX0 (by decide) rfl ho (tf_0_0 ho) wd_247 dX0_end_33 rfl ?_
  refine fW_getR 39 (r := o + 2) 0 hg clX7 (by decide) rfl (tt_0_0 ho) (tf_7_0 (tt_0_0 ho)) wd_183 dX0_end_36 rfl ?_
  refine fW_aload_n 40 dX0_end_39 rfl rfl ?_
  refine fW_getI 43 4 (ji := 4) hg clX4 rfl (by decide) rfl hp1 wd_217 dX0_end_40 rfl ?_
  obtain ⟨c9, h⟩ := fS h
  have t10 := ta_16 (r := o + 3 * (r7 p1 4).toNat + 4) (tt_7_0 (tt_0_0 ho)) c9 (by omega)
  refine fW_aald 44 4 hg (tt_7_0 (tt_0_0 ho)) (by decide) (by decide) t10.1 t10.2.2 rfl dX0_end_43 rfl ?_
  refine fW_astore_n 45 (ls' := [some (rv G o), some (rv G p1), some (rv G (o + 3 * (r7 p1 4).toNat + 4))]) dX0_end_44 rfl rfl rfl (by decide) ?_
  refine fW_aload_n 46 dX0_end_45 rfl rfl ?_
  refine fW_getI 49 3 (ji := 3) hg clX6 rfl (by decide) rfl t10.2.1 wd_159 dX0_end_46 rfl ?_
  refine fW_if_ne 52 60 (hR8 (o + 3 * (r7 p1 4).toNat + 4) 3) dX0_end_49 rfl rfl (fun c11 => ?_) (fun c11 => ?_)
  · replace h := fFf h c11
    refine fW_aload_n 61 dX0_end_60 rfl rfl ?_
    refine fW_aload_n 62 dX0_end_61 rfl rfl ?_
    obtain ⟨r12, e12, h⟩ := fBd h
    refine fW_cV (fI_V (as := [rv G (o + 3 * (r7 p1 4).toNat + 4)]) (rest := []) miX0_shut hg clX0 rfl ho wd_528 (fRoom_of rfl) rfl (Nat.le_of_ble_eq_true rfl) dX0_end_62) (s_X0_shut hg ho t10.2.1 e12) rfl rfl rfl ?_
    refine fW_rg (fun hR13 => ?_)
    exact fW_sb (i_X0_end_65 hg ho hp1 h) ⟨rfl, rfl, trivial⟩
  · replace h := fTt h c11
    refine fW_aload_n 53 dX0_end_52 rfl rfl ?_
    refine fW_iconst 54 dX0_end_53 rfl ?_
    obtain ⟨r17, e17, h⟩ := fBd h
    refine fW_cV (fI_V (as := [iv 0]) (rest := []) miX6_clear hg clX6 rfl t10.2.1 wd_524 (fRoom_of rfl) rfl (Nat.le_of_ble_eq_true rfl) dX0_end_54) (s_X6_clear hg t10.2.1 (by decide) e17) rfl rfl rfl ?_
    refine fW_rg (fun hR18 => ?_)
    refine fW_goto 65 dX0_end_57 rfl ?_
    exact fW_sb (i_X0_end_65 hg ho hp1 h) ⟨rfl, rfl, trivial⟩
def mX7_shutOf : fMt := (yX7_shutOf, cX7_shutOf, 4, some .int, { frames := 0, cells := 0, slots := 0, locals := 0 })
theorem miX7_shutOf : fMv mX7_shutOf 1 := ⟨⟨fM 540 (by decide +kernel) rfl, fM 91 (by decide +kernel) rfl, ⟨by decide +kernel, by decide +kernel⟩, by decide +kernel⟩, fM 538 (by decide +kernel) rfl, fM 539 (by decide +kernel) rfl⟩
def L_X7_shutOf_8 (o : Nat) (M : fMem) (k : Int → Option (Int)) : Nat → Int → Int → Int → Option (Int)
  | 0, _, _, _ => none
  | n + 1, v1, v2, v3 => (if 0 ≤ v1 ∧ v1 < 9 then (if (ER v1) ≤ v3 then k v2 else (if 0 ≤ v3 ∧ v3 < 19 then (if (M (o + 3 * v3.toNat + 3) 2) = 2 then (if -2147483648 ≤ v2 + 1 ∧ v2 + 1 < 2147483648 then L_X7_shutOf_8 o M k n v1 (v2 + 1) (v3 + 1) else none) else (if -2147483648 ≤ v2 + 0 ∧ v2 + 0 < 2147483648 then L_X7_shutOf_8 o M k n v1 (v2 + 0) (v3 + 1) else none)) else none)) else none)
set_option maxRecDepth 100000 in
set_option maxHeartbeats 4000000 in
theorem l_X7_shutOf_8 {G : fG} (hg : gbt G = true) {o : Nat} (ho : fTyp o 7) {M : fMem} {q : Int} {k : Int → Option (Int)} (hk : ∀ (v2 : Int), rg v2 → k v2 = some q → fW G mX7_shutOf (fEm G mX7_shutOf (rP M q) fNo) 0 0 44 [some (rv G o), none, some (iv v2), none] [] M) : ∀ (n : Nat) (v1 : Int) (v2 : Int) (v3 : Int), rg v1 → rg v2 → rg v3 → L_X7_shutOf_8 o M k n v1 v2 v3 = some q → fW G mX7_shutOf (fEm G mX7_shutOf (rP M q) fNo) 0 0 8 [some (rv G o), some (iv v1), some (iv v2), some (iv v3)] [] M := by
  intro n
  induction n with
  | zero =>
    intro v1 v2 v3 gv1 gv2 gv3 h
    rw [L_X7_shutOf_8] at h
    exact absurd h (by simp)
  | succ n ih =>
    intro v1 v2 v3 gv1 gv2 gv3 h
    rw [L_X7_shutOf_8] at h
    refine fW_rg (fun hR => ?_)
    refine fW_iload_n 9 dX7_shutOf_8 rfl rfl ?_
    refine fW_getsN 12 (host := "RowStore") 1 (by decide) (by decide +kernel) dX7_shutOf_9 rfl ?_
    refine fW_iload_n 13 dX7_shutOf_12 rfl rfl ?_
    obtain ⟨c2, h⟩ := fS h
    refine fW_sald 14 1 (by decide) c2 dX7_shutOf_13 rfl ?_
    rw [show SV 1 v1 = ER v1 from rfl]
    refine fW_icmp_ge 17 44 gv3 (rg_ER c2) dX7_shutOf_14 rfl rfl (fun c3 => ?_) (fun c3 => ?_)
    · replace h := fTt h c3
      exact fW_sb (hk v2 gv2 h) ⟨rfl, rfl, trivial⟩
    · replace h := fFf h c3
      refine fW_iload_n 18 dX7_shutOf_17 rfl rfl ?_
      refine fW_aload_n 19 dX7_shutOf_18 rfl rfl ?_
      refine fW_getR 22 (r := o + 1) 0 hg clX7 (by decide) rfl ho (tf_7_0 ho) wd_180 dX7_shutOf_19 rfl ?_
      refine fW_iload_n 23 dX7_shutOf_22 rfl rfl ?_
      obtain ⟨c4, h⟩ := fS h
      have t5 := ta_16 (r := o + 3 * v3.toNat + 3) (tt_7_0 ho) c4 (by omega)
      refine fW_aald 24 4 hg (tt_7_0 ho) (by decide) (by decide) t5.1 t5.2.2 rfl dX7_shutOf_23 rfl ?_
      refine fW_getI 27 2 (ji := 2) hg clX6 rfl (by decide) rfl t5.2.1 wd_152 dX7_shutOf_24 rfl ?_
      refine fW_iconst 28 dX7_shutOf_27 rfl ?_
      refine fW_icmp_ne 31 35 (hR (o + 3 * v3.toNat + 3) 2) (by decide) dX7_shutOf_28 rfl rfl (fun c6 => ?_) (fun c6 => ?_)
      · replace h := fFf h c6
        refine fW_iconst 36 dX7_shutOf_35 rfl ?_
        refine fW_iadd 37 dX7_shutOf_36 rfl ?_
        refine fW_istore_n 38 (ls' := [some (rv G o), some (iv v1), some (iv (v2 + 0)), some (iv v3)]) dX7_shutOf_37 rfl rfl rfl (by decide) ?_
        refine fW_iinc 41 (ls' := [some (rv G o), some (iv v1), some (iv (v2 + 0)), some (iv (v3 + 1))]) dX7_shutOf_38 rfl rfl rfl (by decide) ?_
        refine fW_goto 8 dX7_shutOf_41 rfl ?_
        obtain ⟨c7, h⟩ := fS h
        exact fW_sb (ih v1 (v2 + 0) (v3 + 1) gv1 c7 (rg_succ' gv3 (rg_ER c2) c3) h) ⟨rfl, rfl, rfl, rfl, trivial⟩
      · replace h := fTt h c6
        refine fW_iconst 32 dX7_shutOf_31 rfl ?_
        refine fW_goto 36 dX7_shutOf_32 rfl ?_
        refine fW_iadd 37 dX7_shutOf_36 rfl ?_
        refine fW_istore_n 38 (ls' := [some (rv G o), some (iv v1), some (iv (v2 + 1)), some (iv v3)]) dX7_shutOf_37 rfl rfl rfl (by decide) ?_
        refine fW_iinc 41 (ls' := [some (rv G o), some (iv v1), some (iv (v2 + 1)), some (iv (v3 + 1))]) dX7_shutOf_38 rfl rfl rfl (by decide) ?_
        refine fW_goto 8 dX7_shutOf_41 rfl ?_
        obtain ⟨c8, h⟩ := fS h
        exact fW_sb (ih v1 (v2 + 1) (v3 + 1) gv1 c8 (rg_succ' gv3 (rg_ER c2) c3) h) ⟨rfl, rfl, rfl, rfl, trivial⟩
def f_X7_shutOf (o : Nat) (a1 : Int) (M : fMem) : Option (Int) := (if 0 ≤ a1 ∧ a1 < 9 then L_X7_shutOf_8 o M (fun (v2_9 : Int) => some v2_9) 4 a1 0 (FR a1) else none)
set_option maxRecDepth 100000 in
set_option maxHeartbeats 4000000 in
theorem s_X7_shutOf {G : fG} (hg : gbt G = true) {o : Nat} (ho : fTyp o 7) {a1 : Int} (ga1 : rg a1) {M : fMem} {q : Int} (h : f_X7_shutOf o a1 M = some q) : fSp G mX7_shutOf [rv G o, iv a1] M (rP M q) fNo := by
  refine fSp_of (by decide +kernel) (by decide +kernel) (fC1 rfl (fC1 rfl fC0)) (Nat.le_of_ble_eq_true rfl) ?_
  show fW G mX7_shutOf (fEm G mX7_shutOf (rP M q) fNo) 0 0 0 [some (rv G o), some (iv a1), none, none] [] M
  rw [f_X7_shutOf] at h
  refine fW_rg (fun hR => ?_)
  refine fW_iconst 1 dX7_shutOf_0 rfl ?_
  refine fW_istore_n 2 (ls' := [some (rv G o), some (iv a1), some (iv 0), none]) dX7_shutOf_1 rfl rfl rfl (by decide) ?_
  refine fW_getsN 5 (host := "RowStore") 0 (by decide) (by decide +kernel) dX7_shutOf_2 rfl ?_
  refine fW_iload_n 6 dX7_shutOf_5 rfl rfl ?_
  obtain ⟨c1, h⟩ := fS h
  refine fW_sald 7 0 (by decide) c1 dX7_shutOf_6 rfl ?_
  rw [show SV 0 a1 = FR a1 from rfl]
  refine fW_istore_n 8 (ls' := [some (rv G o), some (iv a1), some (iv 0), some (iv (FR a1))]) dX7_shutOf_7 rfl rfl rfl (by decide) ?_
  refine fW_sb (l_X7_shutOf_8 hg ho ?_ 4 a1 0 (FR a1) ga1 (by decide) (rg_FR c1) h) ⟨rfl, rfl, rfl, rfl, trivial⟩
  intro v2_9 gv2_9 h
  refine fW_iload_n 45 dX7_shutOf_44 rfl rfl ?_
  exact fW_iret rfl (by decide) (by decide) dX7_shutOf_45 (rP_i h gv2_9)
def mX7_nothingBehind : fMt := (yX7_nothingBehind, cX7_nothingBehind, 3, some .boolean, { frames := 0, cells := 0, slots := 0, locals := 0 })
theorem miX7_nothingBehind : fMv mX7_nothingBehind 1 := ⟨⟨fM 548 (by decide +kernel) rfl, fM 91 (by decide +kernel) rfl, ⟨by decide +kernel, by decide +kernel⟩, by decide +kernel⟩, fM 546 (by decide +kernel) rfl, fM 547 (by decide +kernel) rfl⟩
def L_X7_nothingBehind_6 (o : Nat) (M : fMem) (k : Option (Int)) : Nat → Int → Option (Int)
  | 0, _ => none
  | n + 1, v2 => (if 19 ≤ v2 then k else (if 0 ≤ v2 ∧ v2 < 19 then (if (M (o + 3 * v2.toNat + 3) 2) = 2 then some 0 else L_X7_nothingBehind_6 o M k n (v2 + 1)) else none))
set_option maxRecDepth 100000 in
set_option maxHeartbeats 4000000 in
theorem l_X7_nothingBehind_6 {G : fG} (hg : gbt G = true) {o : Nat} (ho : fTyp o 7) {M : fMem} {q : Int} {k : Option (Int)} (hk : k = some q → fW G mX7_nothingBehind (fEm G mX7_nothingBehind (rB M q) fNo) 0 0 33 [some (rv G o), none, none] [] M) : ∀ (n : Nat) (v2 : Int), rg v2 → L_X7_nothingBehind_6 o M k n v2 = some q → fW G mX7_nothingBehind (fEm G mX7_nothingBehind (rB M q) fNo) 0 0 6 [some (rv G o), none, some (iv v2)] [] M := by
  intro n
  induction n with
  | zero =>
    intro v2 gv2 h
    rw [L_X7_nothingBehind_6] at h
    exact absurd h (by simp)
  | succ n ih =>
    intro v2 gv2 h
    rw [L_X7_nothingBehind_6] at h
    refine fW_rg (fun hR => ?_)
    refine fW_iload_n 7 dX7_nothingBehind_6 rfl rfl ?_
    refine fW_bipush 9 dX7_nothingBehind_7 rfl (by decide) ?_
    refine fW_icmp_ge 12 33 gv2 (by decide) dX7_nothingBehind_9 rfl rfl (fun c2 => ?_) (fun c2 => ?_)
    · replace h := fTt h c2
      exact fW_sb (hk h) ⟨rfl, trivial⟩
    · replace h := fFf h c2
      refine fW_aload_n 13 dX7_nothingBehind_12 rfl rfl ?_
      refine fW_getR 16 (r := o + 1) 0 hg clX7 (by decide) rfl ho (tf_7_0 ho) wd_180 dX7_nothingBehind_13 rfl ?_
      refine fW_iload_n 17 dX7_nothingBehind_16 rfl rfl ?_
      obtain ⟨c3, h⟩ := fS h
      have t4 := ta_16 (r := o + 3 * v2.toNat + 3) (tt_7_0 ho) c3 (by omega)
      refine fW_aald 18 4 hg (tt_7_0 ho) (by decide) (by decide) t4.1 t4.2.2 rfl dX7_nothingBehind_17 rfl ?_
      refine fW_getI 21 2 (ji := 2) hg clX6 rfl (by decide) rfl t4.2.1 wd_152 dX7_nothingBehind_18 rfl ?_
      refine fW_iconst 22 dX7_nothingBehind_21 rfl ?_
      refine fW_icmp_ne 25 27 (hR (o + 3 * v2.toNat + 3) 2) (by decide) dX7_nothingBehind_22 rfl rfl (fun c5 => ?_) (fun c5 => ?_)
      · replace h := fFf h c5
        refine fW_iinc 30 (ls' := [some (rv G o), none, some (iv (v2 + 1))]) dX7_nothingBehind_27 rfl rfl rfl (by decide) ?_
        refine fW_goto 6 dX7_nothingBehind_30 rfl ?_
        exact fW_sb (ih (v2 + 1) (rg_succ' gv2 (by decide) c2) h) ⟨rfl, rfl, trivial⟩
      · replace h := fTt h c5
        refine fW_iconst 26 dX7_nothingBehind_25 rfl ?_
        exact fW_zret rfl (by decide) (by decide) (by decide) dX7_nothingBehind_26 (rB_i h (by decide))
def f_X7_nothingBehind (o : Nat) (a1 : Int) (M : fMem) : Option (Int) := (if 0 ≤ a1 ∧ a1 < 9 then L_X7_nothingBehind_6 o M (some 1) 20000 (ER a1) else none)
set_option maxRecDepth 100000 in
set_option maxHeartbeats 4000000 in
theorem s_X7_nothingBehind {G : fG} (hg : gbt G = true) {o : Nat} (ho : fTyp o 7) {a1 : Int} (ga1 : rg a1) {M : fMem} {q : Int} (h : f_X7_nothingBehind o a1 M = some q) : fSp G mX7_nothingBehind [rv G o, iv a1] M (rB M q) fNo := by
  refine fSp_of (by decide +kernel) (by decide +kernel) (fC1 rfl (fC1 rfl fC0)) (Nat.le_of_ble_eq_true rfl) ?_
  show fW G mX7_nothingBehind (fEm G mX7_nothingBehind (rB M q) fNo) 0 0 0 [some (rv G o), some (iv a1), none] [] M
  rw [f_X7_nothingBehind] at h
  refine fW_rg (fun hR => ?_)
  refine fW_getsN 3 (host := "RowStore") 1 (by decide) (by decide +kernel) dX7_nothingBehind_0 rfl ?_
  refine fW_iload_n 4 dX7_nothingBehind_3 rfl rfl ?_
  obtain ⟨c1, h⟩ := fS h
  refine fW_sald 5 1 (by decide) c1 dX7_nothingBehind_4 rfl ?_
  rw [show SV 1 a1 = ER a1 from rfl]
  refine fW_istore_n 6 (ls' := [some (rv G o), some (iv a1), some (iv (ER a1))]) dX7_nothingBehind_5 rfl rfl rfl (by decide) ?_
  refine fW_sb (l_X7_nothingBehind_6 hg ho ?_ 20000 (ER a1) (rg_ER c1) h) ⟨rfl, rfl, trivial⟩
  intro  h
  refine fW_iconst 34 dX7_nothingBehind_33 rfl ?_
  exact fW_zret rfl (by decide) (by decide) (by decide) dX7_nothingBehind_34 (rB_i h (by decide))
def mX7_youngestBut : fMt := (yX7_youngestBut, cX7_youngestBut, 5, some .int, { frames := 0, cells := 0, slots := 0, locals := 0 })
theorem miX7_youngestBut : fMv mX7_youngestBut 2 := ⟨⟨fM 552 (by decide +kernel) rfl, fM 91 (by decide +kernel) rfl, ⟨by decide +kernel, by decide +kernel⟩, by decide +kernel⟩, fM 550 (by decide +kernel) rfl, fM 551 (by decide +kernel) rfl⟩
def L_X7_youngestBut_9 (o : Nat) (M : fMem) (k : Int → Option (Int)) : Nat → Int → Int → Int → Int → Option (Int)
  | 0, _, _, _, _ => none
  | n + 1, v1, v2, v3, v4 => (if 0 ≤ v1 ∧ v1 < 9 then (if (ER v1) ≤ v4 then k v3 else (if 0 ≤ v4 ∧ v4 < 19 then (if (M (o + 3 * v4.toNat + 3) 2) = 2 then (if v4 = v2 then L_X7_youngestBut_9 o M k n v1 v2 v3 (v4 + 1) else (if v3 = ((-1)) then L_X7_youngestBut_9 o M k n v1 v2 v4 (v4 + 1) else (if 0 ≤ v3 ∧ v3 < 19 then (if (M (o + 3 * v4.toNat + 3) 5) ≤ (M (o + 3 * v3.toNat + 3) 5) then L_X7_youngestBut_9 o M k n v1 v2 v3 (v4 + 1) else L_X7_youngestBut_9 o M k n v1 v2 v4 (v4 + 1)) else none))) else L_X7_youngestBut_9 o M k n v1 v2 v3 (v4 + 1)) else none)) else none)
set_option maxRecDepth 100000 in
set_option maxHeartbeats 4000000 in
theorem l_X7_youngestBut_9 {G : fG} (hg : gbt G = true) {o : Nat} (ho : fTyp o 7) {M : fMem} {q : Int} {k : Int → Option (Int)} (hk : ∀ (v3 : Int), rg v3 → k v3 = some q → fW G mX7_youngestBut (fEm G mX7_youngestBut (rP M q) fNo) 0 0 75 [some (rv G o), none, none, some (iv v3), none] [] M) : ∀ (n : Nat) (v1 : Int) (v2 : Int) (v3 : Int) (v4 : Int), rg v1 → rg v2 → rg v3 → rg v4 → L_X7_youngestBut_9 o M k n v1 v2 v3 v4 = some q → fW G mX7_youngestBut (fEm G mX7_youngestBut (rP M q) fNo) 0 0 9 [some (rv G o), some (iv v1), some (iv v2), some (iv v3), some (iv v4)] [] M := by
  intro n
  induction n with
  | zero =>
    intro v1 v2 v3 v4 gv1 gv2 gv3 gv4 h
    rw [L_X7_youngestBut_9] at h
    exact absurd h (by simp)
  | succ n ih =>
    intro v1 v2 v3 v4 gv1 gv2 gv3 gv4 h
    rw [L_X7_youngestBut_9] at h
    refine fW_rg (fun hR => ?_)
    refine fW_iload 11 dX7_youngestBut_9 rfl rfl ?_
    refine fW_getsN 14 (host := "RowStore") 1 (by decide) (by decide +kernel) dX7_youngestBut_11 rfl ?_
    refine fW_iload_n 15 dX7_youngestBut_14 rfl rfl ?_
    obtain ⟨c2, h⟩ := fS h
    refine fW_sald 16 1 (by decide) c2 dX7_youngestBut_15 rfl ?_
    rw [show SV 1 v1 = ER v1 from rfl]
    refine fW_icmp_ge 19 75 gv4 (rg_ER c2) dX7_youngestBut_16 rfl rfl (fun c3 => ?_) (fun c3 => ?_)
    · replace h := fTt h c3
      exact fW_sb (hk v3 gv3 h) ⟨rfl, rfl, trivial⟩
    · replace h := fFf h c3
      refine fW_aload_n 20 dX7_youngestBut_19 rfl rfl ?_
      refine fW_getR 23 (r := o + 1) 0 hg clX7 (by decide) rfl ho (tf_7_0 ho) wd_180 dX7_youngestBut_20 rfl ?_
      refine fW_iload 25 dX7_youngestBut_23 rfl rfl ?_
      obtain ⟨c4, h⟩ := fS h
      have t5 := ta_16 (r := o + 3 * v4.toNat + 3) (tt_7_0 ho) c4 (by omega)
      refine fW_aald 26 4 hg (tt_7_0 ho) (by decide) (by decide) t5.1 t5.2.2 rfl dX7_youngestBut_25 rfl ?_
      refine fW_getI 29 2 (ji := 2) hg clX6 rfl (by decide) rfl t5.2.1 wd_152 dX7_youngestBut_26 rfl ?_
      refine fW_iconst 30 dX7_youngestBut_29 rfl ?_
      refine fW_icmp_ne 33 69 (hR (o + 3 * v4.toNat + 3) 2) (by decide) dX7_youngestBut_30 rfl rfl (fun c6 => ?_) (fun c6 => ?_)
      · replace h := fFf h c6
        refine fW_iinc 72 (ls' := [some (rv G o), some (iv v1), some (iv v2), some (iv v3), some (iv (v4 + 1))]) dX7_youngestBut_69 rfl rfl rfl (by decide) ?_
        refine fW_goto 9 dX7_youngestBut_72 rfl ?_
        exact fW_sb (ih v1 v2 v3 (v4 + 1) gv1 gv2 gv3 (rg_succ' gv4 (rg_ER c2) c3) h) ⟨rfl, rfl, rfl, rfl, rfl, trivial⟩
      · replace h := fTt h c6
        refine fW_iload 35 dX7_youngestBut_33 rfl rfl ?_
        refine fW_iload_n 36 dX7_youngestBut_35 rfl rfl ?_
        refine fW_icmp_eq 39 69 gv4 gv2 dX7_youngestBut_36 rfl rfl (fun c7 => ?_) (fun c7 => ?_)
        · replace h := fTt h c7
          refine fW_iinc 72 (ls' := [some (rv G o), some (iv v1), some (iv v2), some (iv v3), some (iv (v4 + 1))]) dX7_youngestBut_69 rfl rfl rfl (by decide) ?_
          refine fW_goto 9 dX7_youngestBut_72 rfl ?_
          exact fW_sb (ih v1 v2 v3 (v4 + 1) gv1 gv2 gv3 (rg_succ' gv4 (rg_ER c2) c3) h) ⟨rfl, rfl, rfl, rfl, rfl, trivial⟩
        · replace h := fFf h c7
          refine fW_iload_n 40 dX7_youngestBut_39 rfl rfl ?_
          refine fW_iconst 41 dX7_youngestBut_40 rfl ?_
          refine fW_icmp_eq 44 66 gv3 (by decide) dX7_youngestBut_41 rfl rfl (fun c8 => ?_) (fun c8 => ?_)
          · replace h := fTt h c8
            refine fW_iload 68 dX7_youngestBut_66 rfl rfl ?_
            refine fW_istore_n 69 (ls' := [some (rv G o), some (iv v1), some (iv v2), some (iv v4), some (iv v4)]) dX7_youngestBut_68 rfl rfl rfl (by decide) ?_
            refine fW_iinc 72 (ls' := [some (rv G o), some (iv v1), some (iv v2), some (iv v4), some (iv (v4 + 1))]) dX7_youngestBut_69 rfl rfl rfl (by decide) ?_
            refine fW_goto 9 dX7_youngestBut_72 rfl ?_
            exact fW_sb (ih v1 v2 v4 (v4 + 1) gv1 gv2 gv4 (rg_succ' gv4 (rg_ER c2) c3) h) ⟨rfl, rfl, rfl, rfl, rfl, trivial⟩
          · replace h := fFf h c8
            refine fW_aload_n 45 dX7_youngestBut_44 rfl rfl ?_
            refine fW_getR 48 (r := o + 1) 0 hg clX7 (by decide) rfl ho (tf_7_0 ho) wd_180 dX7_youngestBut_45 rfl ?_
            refine fW_iload 50 dX7_youngestBut_48 rfl rfl ?_
            have t9 := ta_16 (r := o + 3 * v4.toNat + 3) (tt_7_0 ho) c4 (by omega)
            refine fW_aald 51 4 hg (tt_7_0 ho) (by decide) (by decide) t9.1 t9.2.2 rfl dX7_youngestBut_50 rfl ?_
            refine fW_getI 54 5 (ji := 5) hg clX6 rfl (by decide) rfl t9.2.1 wd_164 dX7_youngestBut_51 rfl ?_
            refine fW_aload_n 55 dX7_youngestBut_54 rfl rfl ?_
            refine fW_getR 58 (r := o + 1) 0 hg clX7 (by decide) rfl ho (tf_7_0 ho) wd_180 dX7_youngestBut_55 rfl ?_
            refine fW_iload_n 59 dX7_youngestBut_58 rfl rfl ?_
            obtain ⟨c10, h⟩ := fS h
            have t11 := ta_16 (r := o + 3 * v3.toNat + 3) (tt_7_0 ho) c10 (by omega)
            refine fW_aald 60 4 hg (tt_7_0 ho) (by decide) (by decide) t11.1 t11.2.2 rfl dX7_youngestBut_59 rfl ?_
            refine fW_getI 63 5 (ji := 5) hg clX6 rfl (by decide) rfl t11.2.1 wd_164 dX7_youngestBut_60 rfl ?_
            refine fW_icmp_le 66 69 (hR (o + 3 * v4.toNat + 3) 5) (hR (o + 3 * v3.toNat + 3) 5) dX7_youngestBut_63 rfl rfl (fun c12 => ?_) (fun c12 => ?_)
            · replace h := fTt h c12
              refine fW_iinc 72 (ls' := [some (rv G o), some (iv v1), some (iv v2), some (iv v3), some (iv (v4 + 1))]) dX7_youngestBut_69 rfl rfl rfl (by decide) ?_
              refine fW_goto 9 dX7_youngestBut_72 rfl ?_
              exact fW_sb (ih v1 v2 v3 (v4 + 1) gv1 gv2 gv3 (rg_succ' gv4 (rg_ER c2) c3) h) ⟨rfl, rfl, rfl, rfl, rfl, trivial⟩
            · replace h := fFf h c12
              refine fW_iload 68 dX7_youngestBut_66 rfl rfl ?_
              refine fW_istore_n 69 (ls' := [some (rv G o), some (iv v1), some (iv v2), some (iv v4), some (iv v4)]) dX7_youngestBut_68 rfl rfl rfl (by decide) ?_
              refine fW_iinc 72 (ls' := [some (rv G o), some (iv v1), some (iv v2), some (iv v4), some (iv (v4 + 1))]) dX7_youngestBut_69 rfl rfl rfl (by decide) ?_
              refine fW_goto 9 dX7_youngestBut_72 rfl ?_
              exact fW_sb (ih v1 v2 v4 (v4 + 1) gv1 gv2 gv4 (rg_succ' gv4 (rg_ER c2) c3) h) ⟨rfl, rfl, rfl, rfl, rfl, trivial⟩
def f_X7_youngestBut (o : Nat) (a1 : Int) (a2 : Int) (M : fMem) : Option (Int) := (if 0 ≤ a1 ∧ a1 < 9 then L_X7_youngestBut_9 o M (fun (v3_13 : Int) => some v3_13) 4 a1 a2 ((-1)) (FR a1) else none)
set_option maxRecDepth 100000 in
set_option maxHeartbeats 4000000 in
theorem s_X7_youngestBut {G : fG} (hg : gbt G = true) {o : Nat} (ho : fTyp o 7) {a1 : Int} (ga1 : rg a1) {a2 : Int} (ga2 : rg a2) {M : fMem} {q : Int} (h : f_X7_youngestBut o a1 a2 M = some q) : fSp G mX7_youngestBut [rv G o, iv a1, iv a2] M (rP M q) fNo := by
  refine fSp_of (by decide +kernel) (by decide +kernel) (fC1 rfl (fC1 rfl (fC1 rfl fC0))) (Nat.le_of_ble_eq_true rfl) ?_
  show fW G mX7_youngestBut (fEm G mX7_youngestBut (rP M q) fNo) 0 0 0 [some (rv G o), some (iv a1), some (iv a2), none, none] [] M
  rw [f_X7_youngestBut] at h
  refine fW_rg (fun hR => ?_)
  refine fW_iconst 1 dX7_youngestBut_0 rfl ?_
  refine fW_istore_n 2 (ls' := [some (rv G o), some (iv a1), some (iv a2), some (iv ((-1))), none]) dX7_youngestBut_1 rfl rfl rfl (by decide) ?_
  refine fW_getsN 5 (host := "RowStore") 0 (by decide) (by decide +kernel) dX7_youngestBut_2 rfl ?_
  refine fW_iload_n 6 dX7_youngestBut_5 rfl rfl ?_
  obtain ⟨c1, h⟩ := fS h
  refine fW_sald 7 0 (by decide) c1 dX7_youngestBut_6 rfl ?_
  rw [show SV 0 a1 = FR a1 from rfl]
  refine fW_istore 9 (ls' := [some (rv G o), some (iv a1), some (iv a2), some (iv ((-1))), some (iv (FR a1))]) dX7_youngestBut_7 rfl rfl (by decide) ?_
  refine fW_sb (l_X7_youngestBut_9 hg ho ?_ 4 a1 a2 ((-1)) (FR a1) ga1 ga2 (by decide) (rg_FR c1) h) ⟨rfl, rfl, rfl, rfl, rfl, trivial⟩
  intro v3_13 gv3_13 h
  refine fW_iload_n 76 dX7_youngestBut_75 rfl rfl ?_
  exact fW_iret rfl (by decide) (by decide) dX7_youngestBut_76 (rP_i h gv3_13)
def mX0_begin : fMt := (yX0_begin, cX0_begin, 4, none, { frames := 1, cells := 0, slots := 0, locals := 40 })
theorem miX0_begin : fMv mX0_begin 2 := ⟨⟨fM 544 (by decide +kernel) rfl, fM 90 (by decide +kernel) rfl, ⟨by decide +kernel, by decide +kernel⟩, by decide +kernel⟩, fM 543 (by decide +kernel) rfl, fM 6 (by decide +kernel) rfl⟩
def f_X0_begin (o : Nat) (a1 : Int) (a2 : Int) (M : fMem) : Option (fMem) := (if 0 ≤ a1 ∧ a1 < 9 then ((some (mset M (o + a1.toNat + 62) 0 1)).bind fun (N3 : fMem) => ((f_X7_nothingBehind (o + 1) a1 N3).bind fun (r4 : Int) => ((some (mset N3 (o + a1.toNat + 62) 1 r4)).bind fun (N5 : fMem) => ((f_X7_youngestBut (o + 1) a1 ((-1)) N5).bind fun (r6 : Int) => ((some (mset N5 (o + a1.toNat + 62) 2 r6)).bind fun (N7 : fMem) => ((f_X7_youngestBut (o + 1) a1 (N7 (o + a1.toNat + 62) 2) N7).bind fun (r8 : Int) => ((some (mset N7 (o + a1.toNat + 62) 3 r8)).bind fun (N9 : fMem) => ((some (mset N9 (o + a1.toNat + 62) 4 a2)).bind fun (N10 : fMem) => ((some (mset N10 (o + a1.toNat + 62) 5 0)).bind fun (N11 : fMem) => ((some (mset N11 (o + a1.toNat + 62) 6 0)).bind fun (N12 : fMem) => (if 0 ≤ a2 ∧ a2 < 19 then ((f_X6_clear (o + 3 * a2.toNat + 4) 1 N12).bind fun (r15 : fMem) => some r15) else none))))))))))) else none)
set_option maxRecDepth 100000 in
set_option maxHeartbeats 4000000 in
theorem s_X0_begin {G : fG} (hg : gbt G = true) {o : Nat} (ho : fTyp o 0) {a1 : Int} (ga1 : rg a1) {a2 : Int} (ga2 : rg a2) {M : fMem} {q : fMem} (h : f_X0_begin o a1 a2 M = some q) : fSp G mX0_begin [rv G o, iv a1, iv a2] M (rV q) fNo := by
  refine fSp_of (by decide +kernel) (by decide +kernel) (fC1 rfl (fC1 rfl (fC1 rfl fC0))) (Nat.le_of_ble_eq_true rfl) ?_
  show fW G mX0_begin (fEm G mX0_begin (rV q) fNo) 0 0 0 [some (rv G o), some (iv a1), some (iv a2), none] [] M
  rw [f_X0_begin] at h
  refine fW_rg (fun hR => ?_)
  refine fW_aload_n 1 dX0_begin_0 rfl rfl ?_
  refine fW_getR 4 (r := o + 61) 1 hg clX0 (by decide) rfl ho (tf_0_1 ho) wd_249 dX0_begin_1 rfl ?_
  refine fW_iload_n 5 dX0_begin_4 rfl rfl ?_
  obtain ⟨c1, h⟩ := fS h
  have t2 := ta_15 (r := o + a1.toNat + 62) (tt_0_1 ho) c1 (by omega)
  refine fW_aald 6 3 hg (tt_0_1 ho) (by decide) (by decide) t2.1 t2.2.2 rfl dX0_begin_5 rfl ?_
  refine fW_astore_n 7 (ls' := [some (rv G o), some (iv a1), some (iv a2), some (rv G (o + a1.toNat + 62))]) dX0_begin_6 rfl rfl rfl (by decide) ?_
  refine fW_aload_n 8 dX0_begin_7 rfl rfl ?_
  refine fW_iconst 9 dX0_begin_8 rfl ?_
  obtain ⟨N3, e3, h⟩ := fBd h
  replace e3 := Option.some.inj e3
  refine fW_putZ 12 0 (ji := 0) hg clX4 rfl (by decide) rfl rfl rfl t2.2.1 (by decide) wd_207 dX0_begin_9 rfl ?_
  rw [e3]
  refine fW_rg (fun hR3 => ?_)
  refine fW_aload_n 13 dX0_begin_12 rfl rfl ?_
  refine fW_aload_n 14 dX0_begin_13 rfl rfl ?_
  refine fW_getR 17 (r := o + 1) 0 hg clX0 (by decide) rfl ho (tf_0_0 ho) wd_247 dX0_begin_14 rfl ?_
  refine fW_iload_n 18 dX0_begin_17 rfl rfl ?_
  obtain ⟨r4, e4, h⟩ := fBd h
  refine fW_cB (fI_V (as := [iv a1]) (rest := [rv G (o + a1.toNat + 62)]) miX7_nothingBehind hg clX7 rfl (tt_0_0 ho) wd_545 (fRoom_of rfl) rfl (Nat.le_of_ble_eq_true rfl) dX0_begin_18) (s_X7_nothingBehind hg (tt_0_0 ho) ga1 e4) rfl rfl rfl (fun g4 => ?_)
  obtain ⟨N5, e5, h⟩ := fBd h
  replace e5 := Option.some.inj e5
  refine fW_putZ 24 1 (ji := 1) hg clX4 rfl (by decide) rfl rfl rfl t2.2.1 g4 wd_210 dX0_begin_21 rfl ?_
  rw [e5]
  refine fW_rg (fun hR5 => ?_)
  refine fW_aload_n 25 dX0_begin_24 rfl rfl ?_
  refine fW_aload_n 26 dX0_begin_25 rfl rfl ?_
  refine fW_getR 29 (r := o + 1) 0 hg clX0 (by decide) rfl ho (tf_0_0 ho) wd_247 dX0_begin_26 rfl ?_
  refine fW_iload_n 30 dX0_begin_29 rfl rfl ?_
  refine fW_iconst 31 dX0_begin_30 rfl ?_
  obtain ⟨r6, e6, h⟩ := fBd h
  refine fW_cP (fI_V (as := [iv a1, iv ((-1))]) (rest := [rv G (o + a1.toNat + 62)]) miX7_youngestBut hg clX7 rfl (tt_0_0 ho) wd_549 (fRoom_of rfl) rfl (Nat.le_of_ble_eq_true rfl) dX0_begin_31) (s_X7_youngestBut hg (tt_0_0 ho) ga1 (by decide) e6) rfl rfl rfl (fun g6 => ?_)
  obtain ⟨N7, e7, h⟩ := fBd h
  replace e7 := Option.some.inj e7
  refine fW_putI 37 2 (ji := 2) hg clX4 rfl (by decide) rfl rfl rfl t2.2.1 g6 wd_213 dX0_begin_34 rfl ?_
  rw [e7]
  refine fW_rg (fun hR7 => ?_)
  refine fW_aload_n 38 dX0_begin_37 rfl rfl ?_
  refine fW_aload_n 39 dX0_begin_38 rfl rfl ?_
  refine fW_getR 42 (r := o + 1) 0 hg clX0 (by decide) rfl ho (tf_0_0 ho) wd_247 dX0_begin_39 rfl ?_
  refine fW_iload_n 43 dX0_begin_42 rfl rfl ?_
  refine fW_aload_n 44 dX0_begin_43 rfl rfl ?_
  refine fW_getI 47 2 (ji := 2) hg clX4 rfl (by decide) rfl t2.2.1 wd_213 dX0_begin_44 rfl ?_
  obtain ⟨r8, e8, h⟩ := fBd h
  refine fW_cP (fI_V (as := [iv a1, iv (N7 (o + a1.toNat + 62) 2)]) (rest := [rv G (o + a1.toNat + 62)]) miX7_youngestBut hg clX7 rfl (tt_0_0 ho) wd_549 (fRoom_of rfl) rfl (Nat.le_of_ble_eq_true rfl) dX0_begin_47) (s_X7_youngestBut hg (tt_0_0 ho) ga1 (hR7 (o + a1.toNat + 62) 2) e8) rfl rfl rfl (fun g8 => ?_)
  obtain ⟨N9, e9, h⟩ := fBd h
  replace e9 := Option.some.inj e9
  refine fW_putI 53 3 (ji := 3) hg clX4 rfl (by decide) rfl rfl rfl t2.2.1 g8 wd_215 dX0_begin_50 rfl ?_
  rw [e9]
  refine fW_rg (fun hR9 => ?_)
  refine fW_aload_n 54 dX0_begin_53 rfl rfl ?_
  refine fW_iload_n 55 dX0_begin_54 rfl rfl ?_
  obtain ⟨N10, e10, h⟩ := fBd h
  replace e10 := Option.some.inj e10
  refine fW_putI 58 4 (ji := 4) hg clX4 rfl (by decide) rfl rfl rfl t2.2.1 ga2 wd_217 dX0_begin_55 rfl ?_
  rw [e10]
  refine fW_rg (fun hR10 => ?_)
  refine fW_aload_n 59 dX0_begin_58 rfl rfl ?_
  refine fW_iconst 60 dX0_begin_59 rfl ?_
  obtain ⟨N11, e11, h⟩ := fBd h
  replace e11 := Option.some.inj e11
  refine fW_putI 63 5 (ji := 5) hg clX4 rfl (by decide) rfl rfl rfl t2.2.1 (by decide) wd_219 dX0_begin_60 rfl ?_
  rw [e11]
  refine fW_rg (fun hR11 => ?_)
  refine fW_aload_n 64 dX0_begin_63 rfl rfl ?_
  refine fW_iconst 65 dX0_begin_64 rfl ?_
  obtain ⟨N12, e12, h⟩ := fBd h
  replace e12 := Option.some.inj e12
  refine fW_putI 68 6 (ji := 6) hg clX4 rfl (by decide) rfl rfl rfl t2.2.1 (by decide) wd_221 dX0_begin_65 rfl ?_
  rw [e12]
  refine fW_rg (fun hR12 => ?_)
  refine fW_aload_n 69 dX0_begin_68 rfl rfl ?_
  refine fW_getR 72 (r := o + 1) 0 hg clX0 (by decide) rfl ho (tf_0_0 ho) wd_247 dX0_begin_69 rfl ?_
  refine fW_getR 75 (r := o + 2) 0 hg clX7 (by decide) rfl (tt_0_0 ho) (tf_7_0 (tt_0_0 ho)) wd_183 dX0_begin_72 rfl ?_
  refine fW_iload_n 76 dX0_begin_75 rfl rfl ?_
  obtain ⟨c13, h⟩ := fS h
  have t14 := ta_16 (r := o + 3 * a2.toNat + 4) (tt_7_0 (tt_0_0 ho)) c13 (by omega)
  refine fW_aald 77 4 hg (tt_7_0 (tt_0_0 ho)) (by decide) (by decide) t14.1 t14.2.2 rfl dX0_begin_76 rfl ?_
  refine fW_iconst 78 dX0_begin_77 rfl ?_
  obtain ⟨r15, e15, h⟩ := fBd h
  refine fW_cV (fI_V (as := [iv 1]) (rest := []) miX6_clear hg clX6 rfl t14.2.1 wd_524 (fRoom_of rfl) rfl (Nat.le_of_ble_eq_true rfl) dX0_begin_78) (s_X6_clear hg t14.2.1 (by decide) e15) rfl rfl rfl ?_
  refine fW_rg (fun hR16 => ?_)
  exact fW_vret rfl (by decide) (by decide) dX0_begin_81 (rV_i h)
def mX0_askLevels : fMt := (yX0_askLevels, cX0_askLevels, 3, none, { frames := 2, cells := 0, slots := 0, locals := 80 })
theorem miX0_askLevels : fMv mX0_askLevels 0 := ⟨⟨fM 535 (by decide +kernel) rfl, fM 90 (by decide +kernel) rfl, ⟨by decide +kernel, by decide +kernel⟩, by decide +kernel⟩, fM 533 (by decide +kernel) rfl, fM 534 (by decide +kernel) rfl⟩
def L_X0_askLevels_3 (o : Nat) (k : fMem → Option (fMem)) : Nat → Int → fMem → Option (fMem)
  | 0, _, _ => none
  | n + 1, v1, M => (if v1 < 0 then k  M else (if -2147483648 ≤ v1 + 1 ∧ v1 + 1 < 2147483648 then ((f_X7_firstFree (o + 1) (min (v1 + 1) 8) M).bind fun (r3 : Int) => (if 0 ≤ v1 ∧ v1 < 9 then (if (M (o + v1.toNat + 62) 0) = 0 then (if r3 = ((-1)) then L_X0_askLevels_3 o k n (v1 + -1) M else ((f_X7_shutOf (o + 1) v1 M).bind fun (r8 : Int) => (if r8 = 2 then ((f_X0_begin o v1 r3 M).bind fun (r10 : fMem) => L_X0_askLevels_3 o k n (v1 + -1) r10) else L_X0_askLevels_3 o k n (v1 + -1) M))) else L_X0_askLevels_3 o k n (v1 + -1) M) else none)) else none))
set_option maxRecDepth 100000 in
set_option maxHeartbeats 4000000 in
theorem l_X0_askLevels_3 {G : fG} (hg : gbt G = true) {o : Nat} (ho : fTyp o 0) {q : fMem} {k : fMem → Option (fMem)} (hk : ∀ (M : fMem), k M = some q → fW G mX0_askLevels (fEm G mX0_askLevels (rV q) fNo) 0 0 64 [some (rv G o), none, none] [] M) : ∀ (n : Nat) (v1 : Int) (M : fMem), rg v1 → L_X0_askLevels_3 o k n v1 M = some q → fW G mX0_askLevels (fEm G mX0_askLevels (rV q) fNo) 0 0 3 [some (rv G o), some (iv v1), none] [] M := by
  intro n
  induction n with
  | zero =>
    intro v1 M gv1 h
    rw [L_X0_askLevels_3] at h
    exact absurd h (by simp)
  | succ n ih =>
    intro v1 M gv1 h
    rw [L_X0_askLevels_3] at h
    refine fW_rg (fun hR => ?_)
    refine fW_iload_n 4 dX0_askLevels_3 rfl rfl ?_
    refine fW_if_lt 7 64 gv1 dX0_askLevels_4 rfl rfl (fun c1 => ?_) (fun c1 => ?_)
    · replace h := fTt h c1
      exact fW_sb (hk M h) ⟨rfl, trivial⟩
    · replace h := fFf h c1
      refine fW_aload_n 8 dX0_askLevels_7 rfl rfl ?_
      refine fW_getR 11 (r := o + 1) 0 hg clX0 (by decide) rfl ho (tf_0_0 ho) wd_247 dX0_askLevels_8 rfl ?_
      refine fW_iload_n 12 dX0_askLevels_11 rfl rfl ?_
      refine fW_iconst 13 dX0_askLevels_12 rfl ?_
      refine fW_iadd 14 dX0_askLevels_13 rfl ?_
      refine fW_bipush 16 dX0_askLevels_14 rfl (by decide) ?_
      obtain ⟨c2, h⟩ := fS h
      refine fW_mmin 19 c2 (by decide) wd_536 (by decide) (Nat.le_of_ble_eq_true rfl) (by decide) (by decide) dX0_askLevels_16 rfl ?_
      obtain ⟨r3, e3, h⟩ := fBd h
      refine fW_cP (fI_V (as := [iv (min (v1 + 1) 8)]) (rest := []) miX7_firstFree hg clX7 rfl (tt_0_0 ho) wd_486 (fRoom_of rfl) rfl (Nat.le_of_ble_eq_true rfl) dX0_askLevels_19) (s_X7_firstFree hg (tt_0_0 ho) (rg_min c2 (by decide)) e3) rfl rfl rfl (fun g3 => ?_)
      refine fW_istore_n 23 (ls' := [some (rv G o), some (iv v1), some (iv r3)]) dX0_askLevels_22 rfl rfl rfl (by decide) ?_
      refine fW_aload_n 24 dX0_askLevels_23 rfl rfl ?_
      refine fW_getR 27 (r := o + 61) 1 hg clX0 (by decide) rfl ho (tf_0_1 ho) wd_249 dX0_askLevels_24 rfl ?_
      refine fW_iload_n 28 dX0_askLevels_27 rfl rfl ?_
      obtain ⟨c4, h⟩ := fS h
      have t5 := ta_15 (r := o + v1.toNat + 62) (tt_0_1 ho) c4 (by omega)
      refine fW_aald 29 3 hg (tt_0_1 ho) (by decide) (by decide) t5.1 t5.2.2 rfl dX0_askLevels_28 rfl ?_
      refine fW_getI 32 0 (ji := 0) hg clX4 rfl (by decide) rfl t5.2.1 wd_207 dX0_askLevels_29 rfl ?_
      refine fW_if_ne 35 58 (hR (o + v1.toNat + 62) 0) dX0_askLevels_32 rfl rfl (fun c6 => ?_) (fun c6 => ?_)
      · replace h := fFf h c6
        refine fW_iinc 61 (ls' := [some (rv G o), some (iv (v1 + -1)), some (iv r3)]) dX0_askLevels_58 rfl rfl rfl (by decide) ?_
        refine fW_goto 3 dX0_askLevels_61 rfl ?_
        exact fW_sb (ih (v1 + -1) M (rg_pred0' gv1 c1) h) ⟨rfl, rfl, trivial⟩
      · replace h := fTt h c6
        refine fW_iload_n 36 dX0_askLevels_35 rfl rfl ?_
        refine fW_iconst 37 dX0_askLevels_36 rfl ?_
        refine fW_icmp_eq 40 58 g3 (by decide) dX0_askLevels_37 rfl rfl (fun c7 => ?_) (fun c7 => ?_)
        · replace h := fTt h c7
          refine fW_iinc 61 (ls' := [some (rv G o), some (iv (v1 + -1)), some (iv r3)]) dX0_askLevels_58 rfl rfl rfl (by decide) ?_
          refine fW_goto 3 dX0_askLevels_61 rfl ?_
          exact fW_sb (ih (v1 + -1) M (rg_pred0' gv1 c1) h) ⟨rfl, rfl, trivial⟩
        · replace h := fFf h c7
          refine fW_aload_n 41 dX0_askLevels_40 rfl rfl ?_
          refine fW_getR 44 (r := o + 1) 0 hg clX0 (by decide) rfl ho (tf_0_0 ho) wd_247 dX0_askLevels_41 rfl ?_
          refine fW_iload_n 45 dX0_askLevels_44 rfl rfl ?_
          obtain ⟨r8, e8, h⟩ := fBd h
          refine fW_cP (fI_V (as := [iv v1]) (rest := []) miX7_shutOf hg clX7 rfl (tt_0_0 ho) wd_537 (fRoom_of rfl) rfl (Nat.le_of_ble_eq_true rfl) dX0_askLevels_45) (s_X7_shutOf hg (tt_0_0 ho) gv1 e8) rfl rfl rfl (fun g8 => ?_)
          refine fW_iconst 49 dX0_askLevels_48 rfl ?_
          refine fW_icmp_ne 52 58 g8 (by decide) dX0_askLevels_49 rfl rfl (fun c9 => ?_) (fun c9 => ?_)
          · replace h := fFf h c9
            refine fW_iinc 61 (ls' := [some (rv G o), some (iv (v1 + -1)), some (iv r3)]) dX0_askLevels_58 rfl rfl rfl (by decide) ?_
            refine fW_goto 3 dX0_askLevels_61 rfl ?_
            exact fW_sb (ih (v1 + -1) M (rg_pred0' gv1 c1) h) ⟨rfl, rfl, trivial⟩
          · replace h := fTt h c9
            refine fW_aload_n 53 dX0_askLevels_52 rfl rfl ?_
            refine fW_iload_n 54 dX0_askLevels_53 rfl rfl ?_
            refine fW_iload_n 55 dX0_askLevels_54 rfl rfl ?_
            obtain ⟨r10, e10, h⟩ := fBd h
            refine fW_cV (fI_V (as := [iv v1, iv r3]) (rest := []) miX0_begin hg clX0 rfl ho wd_541 (fRoom_of rfl) rfl (Nat.le_of_ble_eq_true rfl) dX0_askLevels_55) (s_X0_begin hg ho gv1 g3 e10) rfl rfl rfl ?_
            refine fW_rg (fun hR11 => ?_)
            refine fW_iinc 61 (ls' := [some (rv G o), some (iv (v1 + -1)), some (iv r3)]) dX0_askLevels_58 rfl rfl rfl (by decide) ?_
            refine fW_goto 3 dX0_askLevels_61 rfl ?_
            exact fW_sb (ih (v1 + -1) r10 (rg_pred0' gv1 c1) h) ⟨rfl, rfl, trivial⟩
def f_X0_askLevels (o : Nat) (M : fMem) : Option (fMem) := L_X0_askLevels_3 o (fun  (M_12 : fMem) => some M_12) 20000 8 M
set_option maxRecDepth 100000 in
set_option maxHeartbeats 4000000 in
theorem s_X0_askLevels {G : fG} (hg : gbt G = true) {o : Nat} (ho : fTyp o 0) {M : fMem} {q : fMem} (h : f_X0_askLevels o M = some q) : fSp G mX0_askLevels [rv G o] M (rV q) fNo := by
  refine fSp_of (by decide +kernel) (by decide +kernel) (fC1 rfl fC0) (Nat.le_of_ble_eq_true rfl) ?_
  show fW G mX0_askLevels (fEm G mX0_askLevels (rV q) fNo) 0 0 0 [some (rv G o), none, none] [] M
  rw [f_X0_askLevels] at h
  refine fW_rg (fun hR => ?_)
  refine fW_bipush 2 dX0_askLevels_0 rfl (by decide) ?_
  refine fW_istore_n 3 (ls' := [some (rv G o), some (iv 8), none]) dX0_askLevels_2 rfl rfl rfl (by decide) ?_
  refine fW_sb (l_X0_askLevels_3 hg ho ?_ 20000 8 M (by decide) h) ⟨rfl, rfl, trivial⟩
  intro M_12 h
  refine fW_rg (fun hR_12 => ?_)
  exact fW_vret rfl (by decide) (by decide) dX0_askLevels_64 (rV_i h)
end MTH
