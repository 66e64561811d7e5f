section MTH
def mX10_isCalm : fMt := (yX10_isCalm, cX10_isCalm, 4, some .boolean, { frames := 6, cells := 0, slots := 0, locals := 240 })
theorem miX10_isCalm : fMv mX10_isCalm 2 := ⟨⟨fM 1122 (by decide +kernel) rfl, fM 89 (by decide +kernel) rfl, ⟨by decide +kernel, by decide +kernel⟩, by decide +kernel⟩, fM 1121 (by decide +kernel) rfl, fM 27 (by decide +kernel) rfl⟩
def L_X10_isCalm_21  (k : fMem → Option (Int × fMem)) : Nat → Int → Int → fMem → Option (Int × fMem)
  | 0, _, _, _ => none
  | n + 1, v1, v3, M => (if v1 ≤ v3 then k  M else ((f_X10_keyAhead v3 M).bind fun (r5 : Int) => ((f_X0_act 72 r5 0 M).bind fun (r6 : Int × fMem) => (if (r6.2 72 6) = (r6.2 1 6) then L_X10_isCalm_21  k n v1 (v3 + 1) r6.2 else some (0, r6.2)))))
set_option maxRecDepth 100000 in
set_option maxHeartbeats 4000000 in
theorem l_X10_isCalm_21 {G : fG} (hg : gbt G = true)  {q : Int × fMem} {k : fMem → Option (Int × fMem)} (hk : ∀ (M : fMem), k M = some q → fW G mX10_isCalm (fEm G mX10_isCalm (rB q.2 q.1) fNo) 0 0 64 [some (rv G 0), none, none, none] [] M) : ∀ (n : Nat) (v1 : Int) (v3 : Int) (M : fMem), rg v1 → rg v3 → L_X10_isCalm_21 k n v1 v3 M = some q → fW G mX10_isCalm (fEm G mX10_isCalm (rB q.2 q.1) fNo) 0 0 21 [some (rv G 0), some (iv v1), none, some (iv v3)] [] M := by
  intro n
  induction n with
  | zero =>
    intro v1 v3 M gv1 gv3 h
    rw [L_X10_isCalm_21] at h
    exact absurd h (by simp)
  | succ n ih =>
    intro v1 v3 M gv1 gv3 h
    rw [L_X10_isCalm_21] at h
    refine fW_rg (fun hR => ?_)
    refine fW_iload_n 22 dX10_isCalm_21 rfl rfl ?_
    refine fW_iload_n 23 dX10_isCalm_22 rfl rfl ?_
    refine fW_icmp_ge 26 64 gv3 gv1 dX10_isCalm_23 rfl rfl (fun c4 => ?_) (fun c4 => ?_)
    · replace h := fTt h c4
      exact fW_sb (hk M h) ⟨rfl, trivial⟩
    · replace h := fFf h c4
      refine fW_aload_n 27 dX10_isCalm_26 rfl rfl ?_
      refine fW_getR 30 (r := 72) 1 hg clX10 (by decide) rfl tc_0 tf_10_1 wd_418 dX10_isCalm_27 rfl ?_
      refine fW_iload_n 31 dX10_isCalm_30 rfl rfl ?_
      obtain ⟨r5, e5, h⟩ := fBd h
      refine fW_cP (fI_S (as := [iv v3]) (rest := [rv G 72]) miX10_keyAhead rfl wd_1109 (fRoom_of rfl) rfl (Nat.le_of_ble_eq_true rfl) dX10_isCalm_31) (s_X10_keyAhead gv3 e5) rfl rfl rfl (fun g5 => ?_)
      refine fW_iconst 35 dX10_isCalm_34 rfl ?_
      obtain ⟨r6, e6, h⟩ := fBd h
      refine fW_cP (fI_V (as := [iv r5, iv 0]) (rest := []) miX0_act hg clX0 rfl tc_72 wd_477 (fRoom_of rfl) rfl (Nat.le_of_ble_eq_true rfl) dX10_isCalm_35) (s_X0_act hg tc_72 g5 (by decide) e6) rfl rfl rfl (fun g6 => ?_)
      refine fW_rg (fun hR7 => ?_)
      refine fW_pop 39 dX10_isCalm_38 rfl rfl ?_
      refine fW_aload_n 40 dX10_isCalm_39 rfl rfl ?_
      refine fW_getR 43 (r := 72) 1 hg clX10 (by decide) rfl tc_0 tf_10_1 wd_418 dX10_isCalm_40 rfl ?_
      refine fW_getI 46 6 (ji := 6) hg clX0 rfl (by decide) rfl tc_72 wd_259 dX10_isCalm_43 rfl ?_
      refine fW_aload_n 47 dX10_isCalm_46 rfl rfl ?_
      refine fW_getR 50 (r := 1) 0 hg clX10 (by decide) rfl tc_0 tf_10_0 wd_417 dX10_isCalm_47 rfl ?_
      refine fW_getI 53 6 (ji := 6) hg clX0 rfl (by decide) rfl tc_1 wd_259 dX10_isCalm_50 rfl ?_
      refine fW_icmp_eq 56 58 (hR7 72 6) (hR7 1 6) dX10_isCalm_53 rfl rfl (fun c8 => ?_) (fun c8 => ?_)
      · replace h := fTt h c8
        refine fW_iinc 61 (ls' := [some (rv G 0), some (iv v1), none, some (iv (v3 + 1))]) dX10_isCalm_58 rfl rfl rfl (by decide) ?_
        refine fW_goto 21 dX10_isCalm_61 rfl ?_
        exact fW_sb (ih v1 (v3 + 1) r6.2 gv1 (rg_succ' gv3 gv1 c4) h) ⟨rfl, rfl, rfl, trivial⟩
      · replace h := fFf h c8
        refine fW_iconst 57 dX10_isCalm_56 rfl ?_
        exact fW_zret rfl (by decide) (by decide) (by decide) dX10_isCalm_57 (rBI_i h (by decide))
def f_X10_isCalm (a1 : Int) (a2 : Int) (M : fMem) : Option (Int × fMem) := ((f_X0_copyFrom 72 1 M).bind fun (r1 : fMem) => ((some (mset r1 72 2 a2)).bind fun (N3 : fMem) => L_X10_isCalm_21 (fun  (M_9 : fMem) => some (1, M_9)) 20000 a1 0 N3))
set_option maxRecDepth 100000 in
set_option maxHeartbeats 4000000 in
theorem s_X10_isCalm {G : fG} (hg : gbt G = true) {a1 : Int} (ga1 : rg a1) {a2 : Int} (ga2 : rg a2) {M : fMem} {q : Int × fMem} (h : f_X10_isCalm a1 a2 M = some q) : fSp G mX10_isCalm [rv G 0, iv a1, iv a2] M (rB q.2 q.1) fNo := by
  refine fSp_of (by decide +kernel) (by decide +kernel) (fC1 rfl (fC1 rfl (fC1 rfl fC0))) (Nat.le_of_ble_eq_true rfl) ?_
  show fW G mX10_isCalm (fEm G mX10_isCalm (rB q.2 q.1) fNo) 0 0 0 [some (rv G 0), some (iv a1), some (iv a2), none] [] M
  rw [f_X10_isCalm] at h
  refine fW_rg (fun hR => ?_)
  refine fW_aload_n 1 dX10_isCalm_0 rfl rfl ?_
  refine fW_getR 4 (r := 72) 1 hg clX10 (by decide) rfl tc_0 tf_10_1 wd_418 dX10_isCalm_1 rfl ?_
  refine fW_aload_n 5 dX10_isCalm_4 rfl rfl ?_
  refine fW_getR 8 (r := 1) 0 hg clX10 (by decide) rfl tc_0 tf_10_0 wd_417 dX10_isCalm_5 rfl ?_
  obtain ⟨r1, e1, h⟩ := fBd h
  refine fW_cV (fI_V (as := [rv G 1]) (rest := []) miX0_copyFrom hg clX0 rfl tc_72 wd_1097 (fRoom_of rfl) rfl (Nat.le_of_ble_eq_true rfl) dX10_isCalm_8) (s_X0_copyFrom hg tc_72 tc_1 e1) rfl rfl rfl ?_
  refine fW_rg (fun hR2 => ?_)
  refine fW_aload_n 12 dX10_isCalm_11 rfl rfl ?_
  refine fW_getR 15 (r := 72) 1 hg clX10 (by decide) rfl tc_0 tf_10_1 wd_418 dX10_isCalm_12 rfl ?_
  refine fW_iload_n 16 dX10_isCalm_15 rfl rfl ?_
  obtain ⟨N3, e3, h⟩ := fBd h
  replace e3 := Option.some.inj e3
  refine fW_putI 19 2 (ji := 2) hg clX0 rfl (by decide) rfl rfl rfl tc_72 ga2 wd_252 dX10_isCalm_16 rfl ?_
  rw [e3]
  refine fW_rg (fun hR3 => ?_)
  refine fW_iconst 20 dX10_isCalm_19 rfl ?_
  refine fW_istore_n 21 (ls' := [some (rv G 0), some (iv a1), some (iv a2), some (iv 0)]) dX10_isCalm_20 rfl rfl rfl (by decide) ?_
  refine fW_sb (l_X10_isCalm_21 hg ?_ 20000 a1 0 N3 ga1 (by decide) h) ⟨rfl, rfl, rfl, trivial⟩
  intro M_9 h
  refine fW_rg (fun hR_9 => ?_)
  refine fW_iconst 65 dX10_isCalm_64 rfl ?_
  exact fW_zret rfl (by decide) (by decide) (by decide) dX10_isCalm_65 (rBI_i h (by decide))
def mX10_calm : fMt := (yX10_calm, cX10_calm, 3, some .int, { frames := 7, cells := 1, slots := 6, locals := 280 })
theorem miX10_calm : fMv mX10_calm 1 := ⟨⟨fM 1118 (by decide +kernel) rfl, fM 89 (by decide +kernel) rfl, ⟨by decide +kernel, by decide +kernel⟩, by decide +kernel⟩, fM 1116 (by decide +kernel) rfl, fM 1117 (by decide +kernel) rfl⟩
def L_X10_calm_6  (k : fMem → Option (Int × Int × fMem)) : Nat → Int → Int → fMem → Option (Int × Int × fMem)
  | 0, _, _, _ => none
  | n + 1, v1, v2, M => (if 40 < v2 then k  M else ((f_X10_isCalm v1 v2 M).bind fun (r3 : Int × fMem) => (if r3.1 = 0 then (if -2147483648 ≤ v2 + 1 ∧ v2 + 1 < 2147483648 then L_X10_calm_6  k n v1 (v2 + 1) r3.2 else none) else some (0, v2, r3.2))))
set_option maxRecDepth 100000 in
set_option maxHeartbeats 4000000 in
theorem l_X10_calm_6 {G : fG} (hg : gbt G = true)  {q : Int × Int × fMem} {k : fMem → Option (Int × Int × fMem)} (hk : ∀ (M : fMem), k M = some q → fW G mX10_calm (fEm G mX10_calm (rT q) (xT q.1 q.2.2)) 1 6 29 [some (rv G 0), none, none] [] M) : ∀ (n : Nat) (v1 : Int) (v2 : Int) (M : fMem), rg v1 → rg v2 → L_X10_calm_6 k n v1 v2 M = some q → fW G mX10_calm (fEm G mX10_calm (rT q) (xT q.1 q.2.2)) 1 6 6 [some (rv G 0), some (iv v1), some (iv v2)] [] M := by
  intro n
  induction n with
  | zero =>
    intro v1 v2 M gv1 gv2 h
    rw [L_X10_calm_6] at h
    exact absurd h (by simp)
  | succ n ih =>
    intro v1 v2 M gv1 gv2 h
    rw [L_X10_calm_6] at h
    refine fW_rg (fun hR => ?_)
    refine fW_iload_n 7 dX10_calm_6 rfl rfl ?_
    refine fW_bipush 9 dX10_calm_7 rfl (by decide) ?_
    refine fW_icmp_gt 12 29 gv2 (by decide) dX10_calm_9 rfl rfl (fun c2 => ?_) (fun c2 => ?_)
    · replace h := fTt h c2
      exact fW_sb (hk M h) ⟨rfl, trivial⟩
    · replace h := fFf h c2
      refine fW_aload_n 13 dX10_calm_12 rfl rfl ?_
      refine fW_iload_n 14 dX10_calm_13 rfl rfl ?_
      refine fW_iload_n 15 dX10_calm_14 rfl rfl ?_
      obtain ⟨r3, e3, h⟩ := fBd h
      refine fW_cB (fI_V (as := [iv v1, iv v2]) (rest := []) miX10_isCalm hg clX10 rfl tc_0 wd_1119 (fRoom_of rfl) rfl (Nat.le_of_ble_eq_true rfl) dX10_calm_15) (s_X10_isCalm hg gv1 gv2 e3) rfl rfl rfl (fun g3 => ?_)
      refine fW_rg (fun hR4 => ?_)
      refine fW_if_eq 21 23 (rg_z g3) dX10_calm_18 rfl rfl (fun c5 => ?_) (fun c5 => ?_)
      · replace h := fTt h c5
        refine fW_iinc 26 (ls' := [some (rv G 0), some (iv v1), some (iv (v2 + 1))]) dX10_calm_23 rfl rfl rfl (by decide) ?_
        refine fW_goto 6 dX10_calm_26 rfl ?_
        obtain ⟨c6, h⟩ := fS h
        exact fW_sb (ih v1 (v2 + 1) r3.2 gv1 c6 h) ⟨rfl, rfl, rfl, trivial⟩
      · replace h := fFf h c5
        refine fW_iload_n 22 dX10_calm_21 rfl rfl ?_
        exact fW_iret rfl (by decide) (by decide) dX10_calm_22 (rT_i h gv2)
def f_X10_calm (a1 : Int) (M : fMem) : Option (Int × Int × fMem) := ((f_X10_needActs a1 M).bind fun (r1 : Int) => (if r1 = 0 then L_X10_calm_6 (fun  (M_7 : fMem) => some (0, (-1), M_7)) 20000 a1 0 M else some (r1, 0, M)))
set_option maxRecDepth 100000 in
set_option maxHeartbeats 4000000 in
theorem s_X10_calm {G : fG} (hg : gbt G = true) {a1 : Int} (ga1 : rg a1) {M : fMem} {q : Int × Int × fMem} (h : f_X10_calm a1 M = some q) : fSp G mX10_calm [rv G 0, iv a1] M (rT q) (xT q.1 q.2.2) := by
  refine fSp_of (by decide +kernel) (by decide +kernel) (fC1 rfl (fC1 rfl fC0)) (Nat.le_of_ble_eq_true rfl) ?_
  show fW G mX10_calm (fEm G mX10_calm (rT q) (xT q.1 q.2.2)) 0 0 0 [some (rv G 0), some (iv a1), none] [] M
  rw [f_X10_calm] at h
  refine fW_rg (fun hR => ?_)
  refine fW_iload_n 1 dX10_calm_0 rfl rfl ?_
  obtain ⟨r1, e1, h⟩ := fBd h
  refine fW_cU 1 6 (by decide +kernel) (fI_S (as := [iv a1]) (rest := []) miX10_needActs rfl wd_1078 (fRoom_of rfl) rfl (Nat.le_of_ble_eq_true rfl) dX10_calm_1) (s_X10_needActs hg ga1 e1) rfl rfl rfl (by decide) (by decide) (fun cx => xU_T cx (fFf h cx)) (fun cx => ?_)
  replace h := fTt h cx
  refine fW_iconst 5 dX10_calm_4 rfl ?_
  refine fW_istore_n 6 (ls' := [some (rv G 0), some (iv a1), some (iv 0)]) dX10_calm_5 rfl rfl rfl (by decide) ?_
  refine fW_sb (l_X10_calm_6 hg ?_ 20000 a1 0 M ga1 (by decide) h) ⟨rfl, rfl, rfl, trivial⟩
  intro M_7 h
  refine fW_rg (fun hR_7 => ?_)
  refine fW_iconst 30 dX10_calm_29 rfl ?_
  exact fW_iret rfl (by decide) (by decide) dX10_calm_30 (rT_i h (by decide))
def mX10_due : fMt := (yX10_due, cX10_due, 3, some .int, { frames := 7, cells := 1, slots := 6, locals := 280 })
theorem miX10_due : fMv mX10_due 1 := ⟨⟨fM 1129 (by decide +kernel) rfl, fM 89 (by decide +kernel) rfl, ⟨by decide +kernel, by decide +kernel⟩, by decide +kernel⟩, fM 1127 (by decide +kernel) rfl, fM 1128 (by decide +kernel) rfl⟩
def L_X10_due_17  (k : fMem → Option (Int × Int × fMem)) : Nat → Int → Int → fMem → Option (Int × Int × fMem)
  | 0, _, _, _ => none
  | n + 1, v1, v2, M => (if 64 ≤ v2 then k  M else ((f_X10_keyAhead v2 M).bind fun (r5 : Int) => ((f_X0_act 72 r5 0 M).bind fun (r6 : Int × fMem) => (if 0 ≤ v1 ∧ v1 < 9 then (if (r6.2 (v1.toNat + 134) 7) = (r6.2 (v1.toNat + 63) 7) then L_X10_due_17  k n v1 (v2 + 1) r6.2 else some (0, v2 + 1, r6.2)) else none))))
set_option maxRecDepth 100000 in
set_option maxHeartbeats 4000000 in
theorem l_X10_due_17 {G : fG} (hg : gbt G = true)  {q : Int × Int × fMem} {k : fMem → Option (Int × Int × fMem)} (hk : ∀ (M : fMem), k M = some q → fW G mX10_due (fEm G mX10_due (rT q) (xT q.1 q.2.2)) 1 6 73 [some (rv G 0), none, none] [] M) : ∀ (n : Nat) (v1 : Int) (v2 : Int) (M : fMem), rg v1 → rg v2 → L_X10_due_17 k n v1 v2 M = some q → fW G mX10_due (fEm G mX10_due (rT q) (xT q.1 q.2.2)) 1 6 17 [some (rv G 0), some (iv v1), some (iv v2)] [] M := by
  intro n
  induction n with
  | zero =>
    intro v1 v2 M gv1 gv2 h
    rw [L_X10_due_17] at h
    exact absurd h (by simp)
  | succ n ih =>
    intro v1 v2 M gv1 gv2 h
    rw [L_X10_due_17] at h
    refine fW_rg (fun hR => ?_)
    refine fW_iload_n 18 dX10_due_17 rfl rfl ?_
    refine fW_bipush 20 dX10_due_18 rfl (by decide) ?_
    refine fW_icmp_ge 23 73 gv2 (by decide) dX10_due_20 rfl rfl (fun c4 => ?_) (fun c4 => ?_)
    · replace h := fTt h c4
      exact fW_sb (hk M h) ⟨rfl, trivial⟩
    · replace h := fFf h c4
      refine fW_aload_n 24 dX10_due_23 rfl rfl ?_
      refine fW_getR 27 (r := 72) 1 hg clX10 (by decide) rfl tc_0 tf_10_1 wd_418 dX10_due_24 rfl ?_
      refine fW_iload_n 28 dX10_due_27 rfl rfl ?_
      obtain ⟨r5, e5, h⟩ := fBd h
      refine fW_cP (fI_S (as := [iv v2]) (rest := [rv G 72]) miX10_keyAhead rfl wd_1109 (fRoom_of rfl) rfl (Nat.le_of_ble_eq_true rfl) dX10_due_28) (s_X10_keyAhead gv2 e5) rfl rfl rfl (fun g5 => ?_)
      refine fW_iconst 32 dX10_due_31 rfl ?_
      obtain ⟨r6, e6, h⟩ := fBd h
      refine fW_cP (fI_V (as := [iv r5, iv 0]) (rest := []) miX0_act hg clX0 rfl tc_72 wd_477 (fRoom_of rfl) rfl (Nat.le_of_ble_eq_true rfl) dX10_due_32) (s_X0_act hg tc_72 g5 (by decide) e6) rfl rfl rfl (fun g6 => ?_)
      refine fW_rg (fun hR7 => ?_)
      refine fW_pop 36 dX10_due_35 rfl rfl ?_
      refine fW_aload_n 37 dX10_due_36 rfl rfl ?_
      refine fW_getR 40 (r := 72) 1 hg clX10 (by decide) rfl tc_0 tf_10_1 wd_418 dX10_due_37 rfl ?_
      refine fW_getR 43 (r := 133) 1 hg clX0 (by decide) rfl tc_72 (tf_0_1 tc_72) wd_250 dX10_due_40 rfl ?_
      refine fW_iload_n 44 dX10_due_43 rfl rfl ?_
      obtain ⟨c8, h⟩ := fS h
      have t9 := ta_15 (r := v1.toNat + 134) (tt_0_1 tc_72) c8 (by omega)
      refine fW_aald 45 3 hg (tt_0_1 tc_72) (by decide) (by decide) t9.1 t9.2.2 rfl dX10_due_44 rfl ?_
      refine fW_getI 48 7 (ji := 7) hg clX4 rfl (by decide) rfl t9.2.1 wd_224 dX10_due_45 rfl ?_
      refine fW_aload_n 49 dX10_due_48 rfl rfl ?_
      refine fW_getR 52 (r := 1) 0 hg clX10 (by decide) rfl tc_0 tf_10_0 wd_417 dX10_due_49 rfl ?_
      refine fW_getR 55 (r := 62) 1 hg clX0 (by decide) rfl tc_1 (tf_0_1 tc_1) wd_250 dX10_due_52 rfl ?_
      refine fW_iload_n 56 dX10_due_55 rfl rfl ?_
      have t10 := ta_15 (r := v1.toNat + 63) (tt_0_1 tc_1) c8 (by omega)
      refine fW_aald 57 3 hg (tt_0_1 tc_1) (by decide) (by decide) t10.1 t10.2.2 rfl dX10_due_56 rfl ?_
      refine fW_getI 60 7 (ji := 7) hg clX4 rfl (by decide) rfl t10.2.1 wd_224 dX10_due_57 rfl ?_
      refine fW_icmp_eq 63 67 (hR7 (v1.toNat + 134) 7) (hR7 (v1.toNat + 63) 7) dX10_due_60 rfl rfl (fun c11 => ?_) (fun c11 => ?_)
      · replace h := fTt h c11
        refine fW_iinc 70 (ls' := [some (rv G 0), some (iv v1), some (iv (v2 + 1))]) dX10_due_67 rfl rfl rfl (by decide) ?_
        refine fW_goto 17 dX10_due_70 rfl ?_
        exact fW_sb (ih v1 (v2 + 1) r6.2 gv1 (rg_succ' gv2 (by decide) c4) h) ⟨rfl, rfl, rfl, trivial⟩
      · replace h := fFf h c11
        refine fW_iload_n 64 dX10_due_63 rfl rfl ?_
        refine fW_iconst 65 dX10_due_64 rfl ?_
        refine fW_iadd 66 dX10_due_65 rfl ?_
        exact fW_iret rfl (by decide) (by decide) dX10_due_66 (rT_i h (rg_succ' gv2 (by decide) c4))
def f_X10_due (a1 : Int) (M : fMem) : Option (Int × Int × fMem) := ((f_X10_needLevel a1 M).bind fun (r1 : Int) => (if r1 = 0 then ((f_X0_copyFrom 72 1 M).bind fun (r2 : fMem) => L_X10_due_17 (fun  (M_12 : fMem) => some (0, (-1), M_12)) 20000 a1 0 r2) else some (r1, 0, M)))
set_option maxRecDepth 100000 in
set_option maxHeartbeats 4000000 in
theorem s_X10_due {G : fG} (hg : gbt G = true) {a1 : Int} (ga1 : rg a1) {M : fMem} {q : Int × Int × fMem} (h : f_X10_due a1 M = some q) : fSp G mX10_due [rv G 0, iv a1] M (rT q) (xT q.1 q.2.2) := by
  refine fSp_of (by decide +kernel) (by decide +kernel) (fC1 rfl (fC1 rfl fC0)) (Nat.le_of_ble_eq_true rfl) ?_
  show fW G mX10_due (fEm G mX10_due (rT q) (xT q.1 q.2.2)) 0 0 0 [some (rv G 0), some (iv a1), none] [] M
  rw [f_X10_due] at h
  refine fW_rg (fun hR => ?_)
  refine fW_iload_n 1 dX10_due_0 rfl rfl ?_
  obtain ⟨r1, e1, h⟩ := fBd h
  refine fW_cU 1 6 (by decide +kernel) (fI_S (as := [iv a1]) (rest := []) miX10_needLevel rfl wd_884 (fRoom_of rfl) rfl (Nat.le_of_ble_eq_true rfl) dX10_due_1) (s_X10_needLevel hg ga1 e1) rfl rfl rfl (by decide) (by decide) (fun cx => xU_T cx (fFf h cx)) (fun cx => ?_)
  replace h := fTt h cx
  refine fW_aload_n 5 dX10_due_4 rfl rfl ?_
  refine fW_getR 8 (r := 72) 1 hg clX10 (by decide) rfl tc_0 tf_10_1 wd_418 dX10_due_5 rfl ?_
  refine fW_aload_n 9 dX10_due_8 rfl rfl ?_
  refine fW_getR 12 (r := 1) 0 hg clX10 (by decide) rfl tc_0 tf_10_0 wd_417 dX10_due_9 rfl ?_
  obtain ⟨r2, e2, h⟩ := fBd h
  refine fW_cV (fI_V (as := [rv G 1]) (rest := []) miX0_copyFrom hg clX0 rfl tc_72 wd_1097 (fRoom_of rfl) rfl (Nat.le_of_ble_eq_true rfl) dX10_due_12) (s_X0_copyFrom hg tc_72 tc_1 e2) rfl rfl rfl ?_
  refine fW_rg (fun hR3 => ?_)
  refine fW_iconst 16 dX10_due_15 rfl ?_
  refine fW_istore_n 17 (ls' := [some (rv G 0), some (iv a1), some (iv 0)]) dX10_due_16 rfl rfl rfl (by decide) ?_
  refine fW_sb (l_X10_due_17 hg ?_ 20000 a1 0 r2 ga1 (by decide) h) ⟨rfl, rfl, rfl, trivial⟩
  intro M_12 h
  refine fW_rg (fun hR_12 => ?_)
  refine fW_iconst 74 dX10_due_73 rfl ?_
  exact fW_iret rfl (by decide) (by decide) dX10_due_74 (rT_i h (by decide))
def mX10_leastLevelFor : fMt := (yX10_leastLevelFor, cX10_leastLevelFor, 2, some .int, { frames := 0, cells := 0, slots := 0, locals := 0 })
theorem miX10_leastLevelFor : fMs mX10_leastLevelFor 1 := ⟨⟨fM 660 (by decide +kernel) rfl, fM 89 (by decide +kernel) rfl, ⟨by decide +kernel, by decide +kernel⟩, by decide +kernel⟩, fM 659 (by decide +kernel) rfl⟩
def L_X10_leastLevelFor_2  (M : fMem) (k : Int → Option (Int)) : Nat → Int → Int → Option (Int)
  | 0, _, _ => none
  | n + 1, v0, v1 => (if 8 ≤ v1 then k v1 else (if 0 ≤ v1 ∧ v1 < 32 then (if -2147483648 ≤ (1 : Int) * 2 ^ v1.toNat ∧ (1 : Int) * 2 ^ v1.toNat < 2147483648 then (if v0 ≤ ((1 : Int) * 2 ^ v1.toNat) then k v1 else L_X10_leastLevelFor_2 M k n v0 (v1 + 1)) else none) else none))
set_option maxRecDepth 100000 in
set_option maxHeartbeats 4000000 in
theorem l_X10_leastLevelFor_2 {G : fG}   {M : fMem} {q : Int} {k : Int → Option (Int)} (hk : ∀ (v1 : Int), rg v1 → k v1 = some q → fW G mX10_leastLevelFor (fEm G mX10_leastLevelFor (rP M q) fNo) 0 0 21 [none, some (iv v1)] [] M) : ∀ (n : Nat) (v0 : Int) (v1 : Int), rg v0 → rg v1 → L_X10_leastLevelFor_2 M k n v0 v1 = some q → fW G mX10_leastLevelFor (fEm G mX10_leastLevelFor (rP M q) fNo) 0 0 2 [some (iv v0), some (iv v1)] [] M := by
  intro n
  induction n with
  | zero =>
    intro v0 v1 gv0 gv1 h
    rw [L_X10_leastLevelFor_2] at h
    exact absurd h (by simp)
  | succ n ih =>
    intro v0 v1 gv0 gv1 h
    rw [L_X10_leastLevelFor_2] at h
    refine fW_rg (fun hR => ?_)
    refine fW_iload_n 3 dX10_leastLevelFor_2 rfl rfl ?_
    refine fW_bipush 5 dX10_leastLevelFor_3 rfl (by decide) ?_
    refine fW_icmp_ge 8 21 gv1 (by decide) dX10_leastLevelFor_5 rfl rfl (fun c1 => ?_) (fun c1 => ?_)
    · replace h := fTt h c1
      exact fW_sb (hk v1 gv1 h) ⟨rfl, trivial⟩
    · replace h := fFf h c1
      refine fW_iconst 9 dX10_leastLevelFor_8 rfl ?_
      refine fW_iload_n 10 dX10_leastLevelFor_9 rfl rfl ?_
      obtain ⟨c2, h⟩ := fS h
      refine fW_ishl 11 c2 dX10_leastLevelFor_10 rfl ?_
      refine fW_iload_n 12 dX10_leastLevelFor_11 rfl rfl ?_
      obtain ⟨c3, h⟩ := fS h
      refine fW_icmp_ge 15 21 c3 gv0 dX10_leastLevelFor_12 rfl rfl (fun c4 => ?_) (fun c4 => ?_)
      · replace h := fTt h c4
        exact fW_sb (hk v1 gv1 h) ⟨rfl, trivial⟩
      · replace h := fFf h c4
        refine fW_iinc 18 (ls' := [some (iv v0), some (iv (v1 + 1))]) dX10_leastLevelFor_15 rfl rfl rfl (by decide) ?_
        refine fW_goto 2 dX10_leastLevelFor_18 rfl ?_
        exact fW_sb (ih v0 (v1 + 1) gv0 (rg_succ' gv1 (by decide) c1) h) ⟨rfl, rfl, trivial⟩
def f_X10_leastLevelFor (a1 : Int) (M : fMem) : Option (Int) := L_X10_leastLevelFor_2 M (fun (v1_5 : Int) => some v1_5) 20000 a1 0
set_option maxRecDepth 100000 in
set_option maxHeartbeats 4000000 in
theorem s_X10_leastLevelFor {G : fG}  {a1 : Int} (ga1 : rg a1) {M : fMem} {q : Int} (h : f_X10_leastLevelFor a1 M = some q) : fSp G mX10_leastLevelFor [iv a1] M (rP M q) fNo := by
  refine fSp_of (by decide +kernel) (by decide +kernel) (fC1 rfl fC0) (Nat.le_of_ble_eq_true rfl) ?_
  show fW G mX10_leastLevelFor (fEm G mX10_leastLevelFor (rP M q) fNo) 0 0 0 [some (iv a1), none] [] M
  rw [f_X10_leastLevelFor] at h
  refine fW_rg (fun hR => ?_)
  refine fW_iconst 1 dX10_leastLevelFor_0 rfl ?_
  refine fW_istore_n 2 (ls' := [some (iv a1), some (iv 0)]) dX10_leastLevelFor_1 rfl rfl rfl (by decide) ?_
  refine fW_sb (l_X10_leastLevelFor_2  ?_ 20000 a1 0 ga1 (by decide) h) ⟨rfl, rfl, trivial⟩
  intro v1_5 gv1_5 h
  refine fW_iload_n 22 dX10_leastLevelFor_21 rfl rfl ?_
  exact fW_iret rfl (by decide) (by decide) dX10_leastLevelFor_22 (rP_i h gv1_5)
def mX10_pack : fMt := (yX10_pack, cX10_pack, 4, some .int, { frames := 3, cells := 0, slots := 0, locals := 120 })
theorem miX10_pack : fMv mX10_pack 0 := ⟨⟨fM 625 (by decide +kernel) rfl, fM 89 (by decide +kernel) rfl, ⟨by decide +kernel, by decide +kernel⟩, by decide +kernel⟩, fM 623 (by decide +kernel) rfl, fM 624 (by decide +kernel) rfl⟩
def L_X10_pack_66  (k : Int → Nat → fMem → Option (Int × fMem)) : Nat → Int → Nat → Int → fMem → Option (Int × fMem)
  | 0, _, _, _, _ => none
  | n + 1, v1, w2, v3, M => (if 200 ≤ v3 then k v1 w2 M else ((f_X2_has 232 v3 M).bind fun (r13 : Int) => (if r13 = 0 then L_X10_pack_66  k n v1 w2 (v3 + 1) M else (if 0 ≤ v3 ∧ v3 < 200 then ((f_X6_append w2 v3 (M 233 v3) M).bind fun (r16 : fMem) => L_X10_pack_66  k n v1 w2 (v3 + 1) r16) else none))))
set_option maxRecDepth 100000 in
set_option maxHeartbeats 4000000 in
theorem l_X10_pack_66 {G : fG} (hg : gbt G = true)  {q : Int × fMem} {k : Int → Nat → fMem → Option (Int × fMem)} (hk : ∀ (v1 : Int) (w2 : Nat) (M : fMem), rg v1 → fTyp w2 6 → k v1 w2 M = some q → fW G mX10_pack (fEm G mX10_pack (rP q.2 q.1) fNo) 0 0 104 [some (rv G 0), some (iv v1), some (rv G w2), none] [] M) : ∀ (n : Nat) (v1 : Int) (w2 : Nat) (v3 : Int) (M : fMem), rg v1 → fTyp w2 6 → rg v3 → L_X10_pack_66 k n v1 w2 v3 M = some q → fW G mX10_pack (fEm G mX10_pack (rP q.2 q.1) fNo) 0 0 66 [some (rv G 0), some (iv v1), some (rv G w2), some (iv v3)] [] M := by
  intro n
  induction n with
  | zero =>
    intro v1 w2 v3 M gv1 tw2 gv3 h
    rw [L_X10_pack_66] at h
    exact absurd h (by simp)
  | succ n ih =>
    intro v1 w2 v3 M gv1 tw2 gv3 h
    rw [L_X10_pack_66] at h
    refine fW_rg (fun hR => ?_)
    refine fW_iload_n 67 dX10_pack_66 rfl rfl ?_
    refine fW_sipush 70 dX10_pack_67 rfl (by decide) ?_
    refine fW_icmp_ge 73 104 gv3 (by decide) dX10_pack_70 rfl rfl (fun c12 => ?_) (fun c12 => ?_)
    · replace h := fTt h c12
      exact fW_sb (hk v1 w2 M gv1 tw2 h) ⟨rfl, rfl, rfl, trivial⟩
    · replace h := fFf h c12
      refine fW_aload_n 74 dX10_pack_73 rfl rfl ?_
      refine fW_getR 77 (r := 232) 8 hg clX10 (by decide) rfl tc_0 tf_10_8 wd_425 dX10_pack_74 rfl ?_
      refine fW_iload_n 78 dX10_pack_77 rfl rfl ?_
      obtain ⟨r13, e13, h⟩ := fBd h
      refine fW_cB (fI_V (as := [iv v3]) (rest := []) miX2_has hg clX2 rfl tc_232 wd_665 (fRoom_of rfl) rfl (Nat.le_of_ble_eq_true rfl) dX10_pack_78) (s_X2_has hg tc_232 gv3 e13) rfl rfl rfl (fun g13 => ?_)
      refine fW_if_eq 84 98 (rg_z g13) dX10_pack_81 rfl rfl (fun c14 => ?_) (fun c14 => ?_)
      · replace h := fTt h c14
        refine fW_iinc 101 (ls' := [some (rv G 0), some (iv v1), some (rv G w2), some (iv (v3 + 1))]) dX10_pack_98 rfl rfl rfl (by decide) ?_
        refine fW_goto 66 dX10_pack_101 rfl ?_
        exact fW_sb (ih v1 w2 (v3 + 1) M gv1 tw2 (rg_succ' gv3 (by decide) c12) h) ⟨rfl, rfl, rfl, rfl, trivial⟩
      · replace h := fFf h c14
        refine fW_aload_n 85 dX10_pack_84 rfl rfl ?_
        refine fW_iload_n 86 dX10_pack_85 rfl rfl ?_
        refine fW_aload_n 87 dX10_pack_86 rfl rfl ?_
        refine fW_getR 90 (r := 232) 8 hg clX10 (by decide) rfl tc_0 tf_10_8 wd_425 dX10_pack_87 rfl ?_
        refine fW_getR 93 (r := 233) 0 hg clX2 (by decide) rfl tc_232 (tf_2_0 tc_232) wd_405 dX10_pack_90 rfl ?_
        refine fW_iload_n 94 dX10_pack_93 rfl rfl ?_
        obtain ⟨c15, h⟩ := fS h
        refine fW_iald 95 hg (tt_2_0 tc_232) ⟨c15.1, by rw [lf_2_0 tc_232]; exact c15.2⟩ dX10_pack_94 rfl ?_
        obtain ⟨r16, e16, h⟩ := fBd h
        refine fW_cV (fI_V (as := [iv v3, iv (M 233 v3)]) (rest := []) miX6_append hg clX6 rfl tw2 wd_666 (fRoom_of rfl) rfl (Nat.le_of_ble_eq_true rfl) dX10_pack_95) (s_X6_append hg tw2 gv3 (hR 233 v3) e16) rfl rfl rfl ?_
        refine fW_rg (fun hR17 => ?_)
        refine fW_iinc 101 (ls' := [some (rv G 0), some (iv v1), some (rv G w2), some (iv (v3 + 1))]) dX10_pack_98 rfl rfl rfl (by decide) ?_
        refine fW_goto 66 dX10_pack_101 rfl ?_
        exact fW_sb (ih v1 w2 (v3 + 1) r16 gv1 tw2 (rg_succ' gv3 (by decide) c12) h) ⟨rfl, rfl, rfl, rfl, trivial⟩
def f_X10_pack  (M : fMem) : Option (Int × fMem) := ((f_X2_read 232 2 M).bind fun (r1 : fMem) => ((f_X0_freeAll 1 r1).bind fun (r3 : fMem) => ((some (mset r3 0 11 1)).bind fun (N5 : fMem) => ((f_X2_keysThere 232 0 199 N5).bind fun (r6 : Int) => (if r6 = 0 then some (0, N5) else ((f_X10_leastLevelFor r6 N5).bind fun (r8 : Int) => ((f_X10_at r8 0 N5).bind fun (r9 : Int) => (if 0 ≤ r9 ∧ r9 < 19 then L_X10_pack_66 (fun (v1_18 : Int) (w2_18 : Nat) (M_18 : fMem) => ((f_X0_shut 1 w2_18 M_18).bind fun (r19 : fMem) => some (v1_18, r19))) 20000 r6 (3 * r9.toNat + 5) 0 N5 else none))))))))
set_option maxRecDepth 100000 in
set_option maxHeartbeats 4000000 in
theorem s_X10_pack {G : fG} (hg : gbt G = true)  {M : fMem} {q : Int × fMem} (h : f_X10_pack M = some q) : fSp G mX10_pack [rv G 0] M (rP q.2 q.1) fNo := by
  refine fSp_of (by decide +kernel) (by decide +kernel) (fC1 rfl fC0) (Nat.le_of_ble_eq_true rfl) ?_
  show fW G mX10_pack (fEm G mX10_pack (rP q.2 q.1) fNo) 0 0 0 [some (rv G 0), none, none, none] [] M
  rw [f_X10_pack] at h
  refine fW_rg (fun hR => ?_)
  refine fW_aload_n 1 dX10_pack_0 rfl rfl ?_
  refine fW_getR 4 (r := 232) 8 hg clX10 (by decide) rfl tc_0 tf_10_8 wd_425 dX10_pack_1 rfl ?_
  refine fW_aload_n 5 dX10_pack_4 rfl rfl ?_
  refine fW_getR 8 (r := 1) 0 hg clX10 (by decide) rfl tc_0 tf_10_0 wd_417 dX10_pack_5 rfl ?_
  refine fW_getR 11 (r := 2) 0 hg clX0 (by decide) rfl tc_1 (tf_0_0 tc_1) wd_248 dX10_pack_8 rfl ?_
  obtain ⟨r1, e1, h⟩ := fBd h
  refine fW_cV (fI_V (as := [rv G 2]) (rest := []) miX2_read hg clX2 rfl tc_232 wd_626 (fRoom_of rfl) rfl (Nat.le_of_ble_eq_true rfl) dX10_pack_11) (s_X2_read hg tc_232 (tt_0_0 tc_1) e1) rfl rfl rfl ?_
  refine fW_rg (fun hR2 => ?_)
  refine fW_aload_n 15 dX10_pack_14 rfl rfl ?_
  refine fW_getR 18 (r := 1) 0 hg clX10 (by decide) rfl tc_0 tf_10_0 wd_417 dX10_pack_15 rfl ?_
  obtain ⟨r3, e3, h⟩ := fBd h
  refine fW_cV (fI_V (as := []) (rest := []) miX0_freeAll hg clX0 rfl tc_1 wd_641 (fRoom_of rfl) rfl (Nat.le_of_ble_eq_true rfl) dX10_pack_18) (s_X0_freeAll hg tc_1 e3) rfl rfl rfl ?_
  refine fW_rg (fun hR4 => ?_)
  refine fW_aload_n 22 dX10_pack_21 rfl rfl ?_
  refine fW_iconst 23 dX10_pack_22 rfl ?_
  obtain ⟨N5, e5, h⟩ := fBd h
  replace e5 := Option.some.inj e5
  refine fW_putZ 26 11 (ji := 11) hg clX10 rfl (by decide) rfl rfl rfl tc_0 (by decide) wd_428 dX10_pack_23 rfl ?_
  rw [e5]
  refine fW_rg (fun hR5 => ?_)
  refine fW_aload_n 27 dX10_pack_26 rfl rfl ?_
  refine fW_getR 30 (r := 232) 8 hg clX10 (by decide) rfl tc_0 tf_10_8 wd_425 dX10_pack_27 rfl ?_
  refine fW_iconst 31 dX10_pack_30 rfl ?_
  refine fW_sipush 34 dX10_pack_31 rfl (by decide) ?_
  obtain ⟨r6, e6, h⟩ := fBd h
  refine fW_cP (fI_V (as := [iv 0, iv 199]) (rest := []) miX2_keysThere hg clX2 rfl tc_232 wd_650 (fRoom_of rfl) rfl (Nat.le_of_ble_eq_true rfl) dX10_pack_34) (s_X2_keysThere hg tc_232 (by decide) (by decide) e6) rfl rfl rfl (fun g6 => ?_)
  refine fW_istore_n 38 (ls' := [some (rv G 0), some (iv r6), none, none]) dX10_pack_37 rfl rfl rfl (by decide) ?_
  refine fW_iload_n 39 dX10_pack_38 rfl rfl ?_
  refine fW_if_ne 42 44 g6 dX10_pack_39 rfl rfl (fun c7 => ?_) (fun c7 => ?_)
  · replace h := fFf h c7
    refine fW_aload_n 45 dX10_pack_44 rfl rfl ?_
    refine fW_getR 48 (r := 1) 0 hg clX10 (by decide) rfl tc_0 tf_10_0 wd_417 dX10_pack_45 rfl ?_
    refine fW_getR 51 (r := 2) 0 hg clX0 (by decide) rfl tc_1 (tf_0_0 tc_1) wd_248 dX10_pack_48 rfl ?_
    refine fW_getR 54 (r := 3) 0 hg clX7 (by decide) rfl (tt_0_0 tc_1) (tf_7_0 (tt_0_0 tc_1)) wd_185 dX10_pack_51 rfl ?_
    refine fW_iload_n 55 dX10_pack_54 rfl rfl ?_
    obtain ⟨r8, e8, h⟩ := fBd h
    refine fW_cP (fI_S (as := [iv r6]) (rest := [rv G 3]) miX10_leastLevelFor rfl wd_658 (fRoom_of rfl) rfl (Nat.le_of_ble_eq_true rfl) dX10_pack_55) (s_X10_leastLevelFor g6 e8) rfl rfl rfl (fun g8 => ?_)
    refine fW_iconst 59 dX10_pack_58 rfl ?_
    obtain ⟨r9, e9, h⟩ := fBd h
    refine fW_cP (fI_S (as := [iv r8, iv 0]) (rest := [rv G 3]) miX10_at rfl wd_661 (fRoom_of rfl) rfl (Nat.le_of_ble_eq_true rfl) dX10_pack_59) (s_X10_at hg g8 (by decide) e9) rfl rfl rfl (fun g9 => ?_)
    obtain ⟨c10, h⟩ := fS h
    have t11 := ta_16 (r := 3 * r9.toNat + 5) (tt_7_0 (tt_0_0 tc_1)) c10 (by omega)
    refine fW_aald 63 4 hg (tt_7_0 (tt_0_0 tc_1)) (by decide) (by decide) t11.1 t11.2.2 rfl dX10_pack_62 rfl ?_
    refine fW_astore_n 64 (ls' := [some (rv G 0), some (iv r6), some (rv G (3 * r9.toNat + 5)), none]) dX10_pack_63 rfl rfl rfl (by decide) ?_
    refine fW_iconst 65 dX10_pack_64 rfl ?_
    refine fW_istore_n 66 (ls' := [some (rv G 0), some (iv r6), some (rv G (3 * r9.toNat + 5)), some (iv 0)]) dX10_pack_65 rfl rfl rfl (by decide) ?_
    refine fW_sb (l_X10_pack_66 hg ?_ 20000 r6 (3 * r9.toNat + 5) 0 N5 g6 t11.2.1 (by decide) h) ⟨rfl, rfl, rfl, rfl, trivial⟩
    intro v1_18 w2_18 M_18 gv1_18 tw2_18 h
    refine fW_rg (fun hR_18 => ?_)
    refine fW_aload_n 105 dX10_pack_104 rfl rfl ?_
    refine fW_getR 108 (r := 1) 0 hg clX10 (by decide) rfl tc_0 tf_10_0 wd_417 dX10_pack_105 rfl ?_
    refine fW_aload_n 109 dX10_pack_108 rfl rfl ?_
    obtain ⟨r19, e19, h⟩ := fBd h
    refine fW_cV (fI_V (as := [rv G w2_18]) (rest := []) miX0_shut hg clX0 rfl tc_1 wd_667 (fRoom_of rfl) rfl (Nat.le_of_ble_eq_true rfl) dX10_pack_109) (s_X0_shut hg tc_1 tw2_18 e19) rfl rfl rfl ?_
    refine fW_rg (fun hR20 => ?_)
    refine fW_iload_n 113 dX10_pack_112 rfl rfl ?_
    exact fW_iret rfl (by decide) (by decide) dX10_pack_113 (rI_i h gv1_18)
  · replace h := fTt h c7
    refine fW_iconst 43 dX10_pack_42 rfl ?_
    exact fW_iret rfl (by decide) (by decide) dX10_pack_43 (rI_i h (by decide))
def mX10_isView : fMt := (yX10_isView, cX10_isView, 1, some .boolean, { frames := 0, cells := 0, slots := 0, locals := 0 })
theorem miX10_isView : fMs mX10_isView 1 := ⟨⟨fM 674 (by decide +kernel) rfl, fM 89 (by decide +kernel) rfl, ⟨by decide +kernel, by decide +kernel⟩, by decide +kernel⟩, fM 673 (by decide +kernel) rfl⟩
def f_X10_isView (a1 : Int) (M : fMem) : Option (Int) := (if a1 < 0 then some 0 else (if 3 ≤ a1 then some 0 else some 1))
set_option maxRecDepth 100000 in
set_option maxHeartbeats 4000000 in
theorem s_X10_isView {G : fG}  {a1 : Int} (ga1 : rg a1) {M : fMem} {q : Int} (h : f_X10_isView a1 M = some q) : fSp G mX10_isView [iv a1] M (rB M q) fNo := by
  refine fSp_of (by decide +kernel) (by decide +kernel) (fC1 rfl fC0) (Nat.le_of_ble_eq_true rfl) ?_
  show fW G mX10_isView (fEm G mX10_isView (rB M q) fNo) 0 0 0 [some (iv a1)] [] M
  rw [f_X10_isView] at h
  refine fW_rg (fun hR => ?_)
  refine fW_iload_n 1 dX10_isView_0 rfl rfl ?_
  refine fW_if_lt 4 13 ga1 dX10_isView_1 rfl rfl (fun c1 => ?_) (fun c1 => ?_)
  · replace h := fTt h c1
    refine fW_iconst 14 dX10_isView_13 rfl ?_
    exact fW_zret rfl (by decide) (by decide) (by decide) dX10_isView_14 (rB_i h (by decide))
  · replace h := fFf h c1
    refine fW_iload_n 5 dX10_isView_4 rfl rfl ?_
    refine fW_iconst 6 dX10_isView_5 rfl ?_
    refine fW_icmp_ge 9 13 ga1 (by decide) dX10_isView_6 rfl rfl (fun c2 => ?_) (fun c2 => ?_)
    · replace h := fTt h c2
      refine fW_iconst 14 dX10_isView_13 rfl ?_
      exact fW_zret rfl (by decide) (by decide) (by decide) dX10_isView_14 (rB_i h (by decide))
    · replace h := fFf h c2
      refine fW_iconst 10 dX10_isView_9 rfl ?_
      refine fW_goto 14 dX10_isView_10 rfl ?_
      exact fW_zret rfl (by decide) (by decide) (by decide) dX10_isView_14 (rB_i h (by decide))
def mX10_view : fMt := (yX10_view, cX10_view, 2, some .int, { frames := 4, cells := 0, slots := 0, locals := 160 })
theorem miX10_view : fMv mX10_view 1 := ⟨⟨fM 671 (by decide +kernel) rfl, fM 89 (by decide +kernel) rfl, ⟨by decide +kernel, by decide +kernel⟩, by decide +kernel⟩, fM 669 (by decide +kernel) rfl, fM 670 (by decide +kernel) rfl⟩
def f_X10_view (a1 : Int) (M : fMem) : Option (Int × fMem) := ((f_X10_isView a1 M).bind fun (r1 : Int) => (if r1 = 0 then some ((-1), M) else (if 0 ≤ a1 ∧ a1 < 3 then ((f_X7_copyShut (60 * a1.toNat + 238) 2 M).bind fun (r5 : fMem) => ((some (mset r5 144 a1 1)).bind fun (N7 : fMem) => ((f_X7_arrange (60 * a1.toNat + 238) N7).bind fun (r9 : Int × fMem) => some (r9.1, r9.2)))) else none)))
set_option maxRecDepth 100000 in
set_option maxHeartbeats 4000000 in
theorem s_X10_view {G : fG} (hg : gbt G = true) {a1 : Int} (ga1 : rg a1) {M : fMem} {q : Int × fMem} (h : f_X10_view a1 M = some q) : fSp G mX10_view [rv G 0, iv a1] M (rP q.2 q.1) fNo := by
  refine fSp_of (by decide +kernel) (by decide +kernel) (fC1 rfl (fC1 rfl fC0)) (Nat.le_of_ble_eq_true rfl) ?_
  show fW G mX10_view (fEm G mX10_view (rP q.2 q.1) fNo) 0 0 0 [some (rv G 0), some (iv a1)] [] M
  rw [f_X10_view] at h
  refine fW_rg (fun hR => ?_)
  refine fW_iload_n 1 dX10_view_0 rfl rfl ?_
  obtain ⟨r1, e1, h⟩ := fBd h
  refine fW_cB (fI_S (as := [iv a1]) (rest := []) miX10_isView rfl wd_672 (fRoom_of rfl) rfl (Nat.le_of_ble_eq_true rfl) dX10_view_1) (s_X10_isView ga1 e1) rfl rfl rfl (fun g1 => ?_)
  refine fW_if_ne 7 9 (rg_z g1) dX10_view_4 rfl rfl (fun c2 => ?_) (fun c2 => ?_)
  · replace h := fFf h c2
    refine fW_aload_n 10 dX10_view_9 rfl rfl ?_
    refine fW_getR 13 (r := 143) 2 hg clX10 (by decide) rfl tc_0 tf_10_2 wd_419 dX10_view_10 rfl ?_
    refine fW_iload_n 14 dX10_view_13 rfl rfl ?_
    obtain ⟨c3, h⟩ := fS h
    have t4 := ta_17 (r := 60 * a1.toNat + 238) tc_143 c3 (by omega)
    refine fW_aald 15 5 hg tc_143 (by decide) (by decide) t4.1 t4.2.2 rfl dX10_view_14 rfl ?_
    refine fW_aload_n 16 dX10_view_15 rfl rfl ?_
    refine fW_getR 19 (r := 1) 0 hg clX10 (by decide) rfl tc_0 tf_10_0 wd_417 dX10_view_16 rfl ?_
    refine fW_getR 22 (r := 2) 0 hg clX0 (by decide) rfl tc_1 (tf_0_0 tc_1) wd_248 dX10_view_19 rfl ?_
    obtain ⟨r5, e5, h⟩ := fBd h
    refine fW_cV (fI_V (as := [rv G 2]) (rest := []) miX7_copyShut hg clX7 rfl t4.2.1 wd_675 (fRoom_of rfl) rfl (Nat.le_of_ble_eq_true rfl) dX10_view_22) (s_X7_copyShut hg t4.2.1 (tt_0_0 tc_1) e5) rfl rfl rfl ?_
    refine fW_rg (fun hR6 => ?_)
    refine fW_aload_n 26 dX10_view_25 rfl rfl ?_
    refine fW_getR 29 (r := 144) 3 hg clX10 (by decide) rfl tc_0 tf_10_3 wd_420 dX10_view_26 rfl ?_
    refine fW_iload_n 30 dX10_view_29 rfl rfl ?_
    refine fW_iconst 31 dX10_view_30 rfl ?_
    obtain ⟨N7, e7, h⟩ := fBd h
    replace e7 := Option.some.inj e7
    refine fW_zast 32 hg tc_144 ⟨c3.1, by rw [show Ln 144 = 3 from rfl]; exact c3.2⟩ (by decide) dX10_view_31 rfl ?_
    rw [e7]
    refine fW_rg (fun hR7 => ?_)
    refine fW_aload_n 33 dX10_view_32 rfl rfl ?_
    refine fW_getR 36 (r := 143) 2 hg clX10 (by decide) rfl tc_0 tf_10_2 wd_419 dX10_view_33 rfl ?_
    refine fW_iload_n 37 dX10_view_36 rfl rfl ?_
    have t8 := ta_17 (r := 60 * a1.toNat + 238) tc_143 c3 (by omega)
    refine fW_aald 38 5 hg tc_143 (by decide) (by decide) t8.1 t8.2.2 rfl dX10_view_37 rfl ?_
    obtain ⟨r9, e9, h⟩ := fBd h
    refine fW_cP (fI_V (as := []) (rest := []) miX7_arrange hg clX7 rfl t8.2.1 wd_596 (fRoom_of rfl) rfl (Nat.le_of_ble_eq_true rfl) dX10_view_38) (s_X7_arrange hg t8.2.1 e9) rfl rfl rfl (fun g9 => ?_)
    refine fW_rg (fun hR10 => ?_)
    exact fW_iret rfl (by decide) (by decide) dX10_view_41 (rI_i h g9)
  · replace h := fTt h c2
    refine fW_iconst 8 dX10_view_7 rfl ?_
    exact fW_iret rfl (by decide) (by decide) dX10_view_8 (rI_i h (by decide))
def mX10_isTaken : fMt := (yX10_isTaken, cX10_isTaken, 2, some .boolean, { frames := 1, cells := 0, slots := 0, locals := 40 })
theorem miX10_isTaken : fMv mX10_isTaken 1 := ⟨⟨fM 694 (by decide +kernel) rfl, fM 89 (by decide +kernel) rfl, ⟨by decide +kernel, by decide +kernel⟩, by decide +kernel⟩, fM 693 (by decide +kernel) rfl, fM 10 (by decide +kernel) rfl⟩
def f_X10_isTaken (a1 : Int) (M : fMem) : Option (Int) := ((f_X10_isView a1 M).bind fun (r1 : Int) => (if r1 = 0 then some 0 else (if 0 ≤ a1 ∧ a1 < 3 then (if (M 144 a1) = 0 then some 0 else some 1) else none)))
set_option maxRecDepth 100000 in
set_option maxHeartbeats 4000000 in
theorem s_X10_isTaken {G : fG} (hg : gbt G = true) {a1 : Int} (ga1 : rg a1) {M : fMem} {q : Int} (h : f_X10_isTaken a1 M = some q) : fSp G mX10_isTaken [rv G 0, iv a1] M (rB M q) fNo := by
  refine fSp_of (by decide +kernel) (by decide +kernel) (fC1 rfl (fC1 rfl fC0)) (Nat.le_of_ble_eq_true rfl) ?_
  show fW G mX10_isTaken (fEm G mX10_isTaken (rB M q) fNo) 0 0 0 [some (rv G 0), some (iv a1)] [] M
  rw [f_X10_isTaken] at h
  refine fW_rg (fun hR => ?_)
  refine fW_iload_n 1 dX10_isTaken_0 rfl rfl ?_
  obtain ⟨r1, e1, h⟩ := fBd h
  refine fW_cB (fI_S (as := [iv a1]) (rest := []) miX10_isView rfl wd_672 (fRoom_of rfl) rfl (Nat.le_of_ble_eq_true rfl) dX10_isTaken_1) (s_X10_isView ga1 e1) rfl rfl rfl (fun g1 => ?_)
  refine fW_if_eq 7 20 (rg_z g1) dX10_isTaken_4 rfl rfl (fun c2 => ?_) (fun c2 => ?_)
  · replace h := fTt h c2
    refine fW_iconst 21 dX10_isTaken_20 rfl ?_
    exact fW_zret rfl (by decide) (by decide) (by decide) dX10_isTaken_21 (rB_i h (by decide))
  · replace h := fFf h c2
    refine fW_aload_n 8 dX10_isTaken_7 rfl rfl ?_
    refine fW_getR 11 (r := 144) 3 hg clX10 (by decide) rfl tc_0 tf_10_3 wd_420 dX10_isTaken_8 rfl ?_
    refine fW_iload_n 12 dX10_isTaken_11 rfl rfl ?_
    obtain ⟨c3, h⟩ := fS h
    refine fW_zald 13 hg tc_144 ⟨c3.1, by rw [show Ln 144 = 3 from rfl]; exact c3.2⟩ dX10_isTaken_12 rfl ?_
    refine fW_if_eq 16 20 (hR 144 a1) dX10_isTaken_13 rfl rfl (fun c4 => ?_) (fun c4 => ?_)
    · replace h := fTt h c4
      refine fW_iconst 21 dX10_isTaken_20 rfl ?_
      exact fW_zret rfl (by decide) (by decide) (by decide) dX10_isTaken_21 (rB_i h (by decide))
    · replace h := fFf h c4
      refine fW_iconst 17 dX10_isTaken_16 rfl ?_
      refine fW_goto 21 dX10_isTaken_17 rfl ?_
      exact fW_zret rfl (by decide) (by decide) (by decide) dX10_isTaken_21 (rB_i h (by decide))
def mX10_leave : fMt := (yX10_leave, cX10_leave, 2, some .int, { frames := 2, cells := 0, slots := 0, locals := 80 })
theorem miX10_leave : fMv mX10_leave 1 := ⟨⟨fM 690 (by decide +kernel) rfl, fM 89 (by decide +kernel) rfl, ⟨by decide +kernel, by decide +kernel⟩, by decide +kernel⟩, fM 688 (by decide +kernel) rfl, fM 689 (by decide +kernel) rfl⟩
def f_X10_leave (a1 : Int) (M : fMem) : Option (Int × fMem) := ((f_X10_isTaken a1 M).bind fun (r1 : Int) => (if r1 = 0 then some ((-1), M) else (if 0 ≤ a1 ∧ a1 < 3 then ((some (mset M 144 a1 0)).bind fun (N4 : fMem) => ((f_X7_arrange (60 * a1.toNat + 238) N4).bind fun (r6 : Int × fMem) => some (r6.1, r6.2))) else none)))
set_option maxRecDepth 100000 in
set_option maxHeartbeats 4000000 in
theorem s_X10_leave {G : fG} (hg : gbt G = true) {a1 : Int} (ga1 : rg a1) {M : fMem} {q : Int × fMem} (h : f_X10_leave a1 M = some q) : fSp G mX10_leave [rv G 0, iv a1] M (rP q.2 q.1) fNo := by
  refine fSp_of (by decide +kernel) (by decide +kernel) (fC1 rfl (fC1 rfl fC0)) (Nat.le_of_ble_eq_true rfl) ?_
  show fW G mX10_leave (fEm G mX10_leave (rP q.2 q.1) fNo) 0 0 0 [some (rv G 0), some (iv a1)] [] M
  rw [f_X10_leave] at h
  refine fW_rg (fun hR => ?_)
  refine fW_aload_n 1 dX10_leave_0 rfl rfl ?_
  refine fW_iload_n 2 dX10_leave_1 rfl rfl ?_
  obtain ⟨r1, e1, h⟩ := fBd h
  refine fW_cB (fI_V (as := [iv a1]) (rest := []) miX10_isTaken hg clX10 rfl tc_0 wd_691 (fRoom_of rfl) rfl (Nat.le_of_ble_eq_true rfl) dX10_leave_2) (s_X10_isTaken hg ga1 e1) rfl rfl rfl (fun g1 => ?_)
  refine fW_if_ne 8 10 (rg_z g1) dX10_leave_5 rfl rfl (fun c2 => ?_) (fun c2 => ?_)
  · replace h := fFf h c2
    refine fW_aload_n 11 dX10_leave_10 rfl rfl ?_
    refine fW_getR 14 (r := 144) 3 hg clX10 (by decide) rfl tc_0 tf_10_3 wd_420 dX10_leave_11 rfl ?_
    refine fW_iload_n 15 dX10_leave_14 rfl rfl ?_
    refine fW_iconst 16 dX10_leave_15 rfl ?_
    obtain ⟨c3, h⟩ := fS h
    obtain ⟨N4, e4, h⟩ := fBd h
    replace e4 := Option.some.inj e4
    refine fW_zast 17 hg tc_144 ⟨c3.1, by rw [show Ln 144 = 3 from rfl]; exact c3.2⟩ (by decide) dX10_leave_16 rfl ?_
    rw [e4]
    refine fW_rg (fun hR4 => ?_)
    refine fW_aload_n 18 dX10_leave_17 rfl rfl ?_
    refine fW_getR 21 (r := 143) 2 hg clX10 (by decide) rfl tc_0 tf_10_2 wd_419 dX10_leave_18 rfl ?_
    refine fW_iload_n 22 dX10_leave_21 rfl rfl ?_
    have t5 := ta_17 (r := 60 * a1.toNat + 238) tc_143 c3 (by omega)
    refine fW_aald 23 5 hg tc_143 (by decide) (by decide) t5.1 t5.2.2 rfl dX10_leave_22 rfl ?_
    obtain ⟨r6, e6, h⟩ := fBd h
    refine fW_cP (fI_V (as := []) (rest := []) miX7_arrange hg clX7 rfl t5.2.1 wd_596 (fRoom_of rfl) rfl (Nat.le_of_ble_eq_true rfl) dX10_leave_23) (s_X7_arrange hg t5.2.1 e6) rfl rfl rfl (fun g6 => ?_)
    refine fW_rg (fun hR7 => ?_)
    exact fW_iret rfl (by decide) (by decide) dX10_leave_26 (rI_i h g6)
  · replace h := fTt h c2
    refine fW_iconst 9 dX10_leave_8 rfl ?_
    exact fW_iret rfl (by decide) (by decide) dX10_leave_9 (rI_i h (by decide))
def mX10_needTaken : fMt := (yX10_needTaken, cX10_needTaken, 2, none, { frames := 6, cells := 1, slots := 6, locals := 240 })
theorem miX10_needTaken : fMv mX10_needTaken 1 := ⟨⟨fM 1140 (by decide +kernel) rfl, fM 89 (by decide +kernel) rfl, ⟨by decide +kernel, by decide +kernel⟩, by decide +kernel⟩, fM 1139 (by decide +kernel) rfl, fM 28 (by decide +kernel) rfl⟩
def f_X10_needTaken (a1 : Int) (M : fMem) : Option (Int) := ((f_X10_isTaken a1 M).bind fun (r1 : Int) => (if r1 = 0 then some (1 : Int) else some (0 : Int)))
set_option maxRecDepth 100000 in
set_option maxHeartbeats 4000000 in
theorem s_X10_needTaken {G : fG} (hg : gbt G = true) {a1 : Int} (ga1 : rg a1) {M : fMem} {q : Int} (h : f_X10_needTaken a1 M = some q) : fSp G mX10_needTaken [rv G 0, iv a1] M (rU M q) (xT q M) := by
  refine fSp_of (by decide +kernel) (by decide +kernel) (fC1 rfl (fC1 rfl fC0)) (Nat.le_of_ble_eq_true rfl) ?_
  show fW G mX10_needTaken (fEm G mX10_needTaken (rU M q) (xT q M)) 0 0 0 [some (rv G 0), some (iv a1)] [] M
  rw [f_X10_needTaken] at h
  refine fW_rg (fun hR => ?_)
  refine fW_aload_n 1 dX10_needTaken_0 rfl rfl ?_
  refine fW_iload_n 2 dX10_needTaken_1 rfl rfl ?_
  obtain ⟨r1, e1, h⟩ := fBd h
  refine fW_cB (fI_V (as := [iv a1]) (rest := []) miX10_isTaken hg clX10 rfl tc_0 wd_691 (fRoom_of rfl) rfl (Nat.le_of_ble_eq_true rfl) dX10_needTaken_2) (s_X10_isTaken hg ga1 e1) rfl rfl rfl (fun g1 => ?_)
  refine fW_if_ne 8 19 (rg_z g1) dX10_needTaken_5 rfl rfl (fun c2 => ?_) (fun c2 => ?_)
  · replace h := fFf h c2
    exact fW_vret rfl (by decide) (by decide) dX10_needTaken_19 (rU_i h)
  · replace h := fTt h c2
    exact fW_throwW hg rfl th1 (text := _) (fStr_403) dX10_needTaken_8 dX10_needTaken_11 dX10_needTaken_12 dX10_needTaken_15 dX10_needTaken_18 (by decide) (Nat.le_of_ble_eq_true rfl) (by decide) (by decide) (xU_1 h)
end MTH
