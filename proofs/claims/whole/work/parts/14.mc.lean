section MTH
def mX0_step : fMt := (yX0_step, cX0_step, 2, some .boolean, { frames := 3, cells := 0, slots := 0, locals := 120 })
theorem miX0_step : fMv mX0_step 0 := ⟨⟨fM 495 (by decide +kernel) rfl, fM 90 (by decide +kernel) rfl, ⟨by decide +kernel, by decide +kernel⟩, by decide +kernel⟩, fM 494 (by decide +kernel) rfl, fM 2 (by decide +kernel) rfl⟩
def L_X0_step_2 (o : Nat) (k : fMem → Option (Int × fMem)) : Nat → Int → fMem → Option (Int × fMem)
  | 0, _, _ => none
  | n + 1, v1, M => (if 9 ≤ v1 then k  M else (if 0 ≤ v1 ∧ v1 < 9 then (if (M (o + v1.toNat + 62) 0) = 0 then L_X0_step_2 o k n (v1 + 1) M else ((f_X0_stepOf o (o + v1.toNat + 62) M).bind fun (r6 : fMem) => (if -2147483648 ≤ (r6 o 5) + 1 ∧ (r6 o 5) + 1 < 2147483648 then ((some (mset r6 o 5 ((r6 o 5) + 1))).bind fun (N9 : fMem) => ((f_X0_leftOf o v1 N9).bind fun (r10 : Int) => (if r10 = 0 then ((f_X0_end o (o + v1.toNat + 62) N9).bind fun (r13 : fMem) => ((f_X0_askLevels o r13).bind fun (r15 : fMem) => some (1, r15))) else some (1, N9)))) else none))) else none))
set_option maxRecDepth 100000 in
set_option maxHeartbeats 4000000 in
theorem l_X0_step_2 {G : fG} (hg : gbt G = true) {o : Nat} (ho : fTyp o 0) {q : Int × fMem} {k : fMem → Option (Int × fMem)} (hk : ∀ (M : fMem), k M = some q → fW G mX0_step (fEm G mX0_step (rB q.2 q.1) fNo) 0 0 70 [some (rv G o), none] [] M) : ∀ (n : Nat) (v1 : Int) (M : fMem), rg v1 → L_X0_step_2 o k n v1 M = some q → fW G mX0_step (fEm G mX0_step (rB q.2 q.1) fNo) 0 0 2 [some (rv G o), some (iv v1)] [] M := by
  intro n
  induction n with
  | zero =>
    intro v1 M gv1 h
    rw [L_X0_step_2] at h
    exact absurd h (by simp)
  | succ n ih =>
    intro v1 M gv1 h
    rw [L_X0_step_2] at h
    refine fW_rg (fun hR => ?_)
    refine fW_iload_n 3 dX0_step_2 rfl rfl ?_
    refine fW_bipush 5 dX0_step_3 rfl (by decide) ?_
    refine fW_icmp_ge 8 70 gv1 (by decide) dX0_step_5 rfl rfl (fun c1 => ?_) (fun c1 => ?_)
    · replace h := fTt h c1
      exact fW_sb (hk M h) ⟨rfl, trivial⟩
    · replace h := fFf h c1
      refine fW_aload_n 9 dX0_step_8 rfl rfl ?_
      refine fW_getR 12 (r := o + 61) 1 hg clX0 (by decide) rfl ho (tf_0_1 ho) wd_249 dX0_step_9 rfl ?_
      refine fW_iload_n 13 dX0_step_12 rfl rfl ?_
      obtain ⟨c2, h⟩ := fS h
      have t3 := ta_15 (r := o + v1.toNat + 62) (tt_0_1 ho) c2 (by omega)
      refine fW_aald 14 3 hg (tt_0_1 ho) (by decide) (by decide) t3.1 t3.2.2 rfl dX0_step_13 rfl ?_
      refine fW_getI 17 0 (ji := 0) hg clX4 rfl (by decide) rfl t3.2.1 wd_207 dX0_step_14 rfl ?_
      refine fW_if_eq 20 64 (hR (o + v1.toNat + 62) 0) dX0_step_17 rfl rfl (fun c4 => ?_) (fun c4 => ?_)
      · replace h := fTt h c4
        refine fW_iinc 67 (ls' := [some (rv G o), some (iv (v1 + 1))]) dX0_step_64 rfl rfl rfl (by decide) ?_
        refine fW_goto 2 dX0_step_67 rfl ?_
        exact fW_sb (ih (v1 + 1) M (rg_succ' gv1 (by decide) c1) h) ⟨rfl, rfl, trivial⟩
      · replace h := fFf h c4
        refine fW_aload_n 21 dX0_step_20 rfl rfl ?_
        refine fW_aload_n 22 dX0_step_21 rfl rfl ?_
        refine fW_getR 25 (r := o + 61) 1 hg clX0 (by decide) rfl ho (tf_0_1 ho) wd_249 dX0_step_22 rfl ?_
        refine fW_iload_n 26 dX0_step_25 rfl rfl ?_
        have t5 := ta_15 (r := o + v1.toNat + 62) (tt_0_1 ho) c2 (by omega)
        refine fW_aald 27 3 hg (tt_0_1 ho) (by decide) (by decide) t5.1 t5.2.2 rfl dX0_step_26 rfl ?_
        obtain ⟨r6, e6, h⟩ := fBd h
        refine fW_cV (fI_V (as := [rv G (o + v1.toNat + 62)]) (rest := []) miX0_stepOf hg clX0 rfl ho wd_496 (fRoom_of rfl) rfl (Nat.le_of_ble_eq_true rfl) dX0_step_27) (s_X0_stepOf hg ho t5.2.1 e6) rfl rfl rfl ?_
        refine fW_rg (fun hR7 => ?_)
        refine fW_aload_n 31 dX0_step_30 rfl rfl ?_
        refine fW_dup 32 dX0_step_31 rfl rfl ?_
        refine fW_getI 35 5 (ji := 5) hg clX0 rfl (by decide) rfl ho wd_256 dX0_step_32 rfl ?_
        refine fW_iconst 36 dX0_step_35 rfl ?_
        refine fW_iadd 37 dX0_step_36 rfl ?_
        obtain ⟨c8, h⟩ := fS h
        obtain ⟨N9, e9, h⟩ := fBd h
        replace e9 := Option.some.inj e9
        refine fW_putI 40 5 (ji := 5) hg clX0 rfl (by decide) rfl rfl rfl ho c8 wd_256 dX0_step_37 rfl ?_
        rw [e9]
        refine fW_rg (fun hR9 => ?_)
        refine fW_aload_n 41 dX0_step_40 rfl rfl ?_
        refine fW_iload_n 42 dX0_step_41 rfl rfl ?_
        obtain ⟨r10, e10, h⟩ := fBd h
        refine fW_cP (fI_V (as := [iv v1]) (rest := []) miX0_leftOf hg clX0 rfl ho wd_516 (fRoom_of rfl) rfl (Nat.le_of_ble_eq_true rfl) dX0_step_42) (s_X0_leftOf hg ho gv1 e10) rfl rfl rfl (fun g10 => ?_)
        refine fW_if_ne 48 62 g10 dX0_step_45 rfl rfl (fun c11 => ?_) (fun c11 => ?_)
        · replace h := fFf h c11
          refine fW_iconst 63 dX0_step_62 rfl ?_
          exact fW_zret rfl (by decide) (by decide) (by decide) dX0_step_63 (rBI_i h (by decide))
        · replace h := fTt h c11
          refine fW_aload_n 49 dX0_step_48 rfl rfl ?_
          refine fW_aload_n 50 dX0_step_49 rfl rfl ?_
          refine fW_getR 53 (r := o + 61) 1 hg clX0 (by decide) rfl ho (tf_0_1 ho) wd_249 dX0_step_50 rfl ?_
          refine fW_iload_n 54 dX0_step_53 rfl rfl ?_
          have t12 := ta_15 (r := o + v1.toNat + 62) (tt_0_1 ho) c2 (by omega)
          refine fW_aald 55 3 hg (tt_0_1 ho) (by decide) (by decide) t12.1 t12.2.2 rfl dX0_step_54 rfl ?_
          obtain ⟨r13, e13, h⟩ := fBd h
          refine fW_cV (fI_V (as := [rv G (o + v1.toNat + 62)]) (rest := []) miX0_end hg clX0 rfl ho wd_520 (fRoom_of rfl) rfl (Nat.le_of_ble_eq_true rfl) dX0_step_55) (s_X0_end hg ho t12.2.1 e13) rfl rfl rfl ?_
          refine fW_rg (fun hR14 => ?_)
          refine fW_aload_n 59 dX0_step_58 rfl rfl ?_
          obtain ⟨r15, e15, h⟩ := fBd h
          refine fW_cV (fI_V (as := []) (rest := []) miX0_askLevels hg clX0 rfl ho wd_532 (fRoom_of rfl) rfl (Nat.le_of_ble_eq_true rfl) dX0_step_59) (s_X0_askLevels hg ho e15) rfl rfl rfl ?_
          refine fW_rg (fun hR16 => ?_)
          refine fW_iconst 63 dX0_step_62 rfl ?_
          exact fW_zret rfl (by decide) (by decide) (by decide) dX0_step_63 (rBI_i h (by decide))
def f_X0_step (o : Nat) (M : fMem) : Option (Int × fMem) := L_X0_step_2 o (fun  (M_17 : fMem) => some (0, M_17)) 20000 0 M
set_option maxRecDepth 100000 in
set_option maxHeartbeats 4000000 in
theorem s_X0_step {G : fG} (hg : gbt G = true) {o : Nat} (ho : fTyp o 0) {M : fMem} {q : Int × fMem} (h : f_X0_step o M = some q) : fSp G mX0_step [rv G o] M (rB q.2 q.1) fNo := by
  refine fSp_of (by decide +kernel) (by decide +kernel) (fC1 rfl fC0) (Nat.le_of_ble_eq_true rfl) ?_
  show fW G mX0_step (fEm G mX0_step (rB q.2 q.1) fNo) 0 0 0 [some (rv G o), none] [] M
  rw [f_X0_step] at h
  refine fW_rg (fun hR => ?_)
  refine fW_iconst 1 dX0_step_0 rfl ?_
  refine fW_istore_n 2 (ls' := [some (rv G o), some (iv 0)]) dX0_step_1 rfl rfl rfl (by decide) ?_
  refine fW_sb (l_X0_step_2 hg ho ?_ 20000 0 M (by decide) h) ⟨rfl, rfl, trivial⟩
  intro M_17 h
  refine fW_rg (fun hR_17 => ?_)
  refine fW_iconst 71 dX0_step_70 rfl ?_
  exact fW_zret rfl (by decide) (by decide) (by decide) dX0_step_71 (rBI_i h (by decide))
def mX0_makeRoom : fMt := (yX0_makeRoom, cX0_makeRoom, 2, some .int, { frames := 4, cells := 0, slots := 0, locals := 160 })
theorem miX0_makeRoom : fMv mX0_makeRoom 0 := ⟨⟨fM 484 (by decide +kernel) rfl, fM 90 (by decide +kernel) rfl, ⟨by decide +kernel, by decide +kernel⟩, by decide +kernel⟩, fM 483 (by decide +kernel) rfl, fM 1 (by decide +kernel) rfl⟩
def L_X0_makeRoom_2 (o : Nat) (k : Int → fMem → Option (Int × fMem)) : Nat → Int → fMem → Option (Int × fMem)
  | 0, _, _ => none
  | n + 1, v1, M => (if 1000000 ≤ v1 then k v1 M else ((f_X7_firstFree (o + 1) 0 M).bind fun (r2 : Int) => (if r2 = ((-1)) then ((f_X0_step o M).bind fun (r4 : Int × fMem) => (if r4.1 = 0 then k v1 r4.2 else L_X0_makeRoom_2 o k n (v1 + 1) r4.2)) else k v1 M)))
set_option maxRecDepth 100000 in
set_option maxHeartbeats 4000000 in
theorem l_X0_makeRoom_2 {G : fG} (hg : gbt G = true) {o : Nat} (ho : fTyp o 0) {q : Int × fMem} {k : Int → fMem → Option (Int × fMem)} (hk : ∀ (v1 : Int) (M : fMem), rg v1 → k v1 M = some q → fW G mX0_makeRoom (fEm G mX0_makeRoom (rP q.2 q.1) fNo) 0 0 33 [some (rv G o), some (iv v1)] [] M) : ∀ (n : Nat) (v1 : Int) (M : fMem), rg v1 → L_X0_makeRoom_2 o k n v1 M = some q → fW G mX0_makeRoom (fEm G mX0_makeRoom (rP q.2 q.1) fNo) 0 0 2 [some (rv G o), some (iv v1)] [] M := by
  intro n
  induction n with
  | zero =>
    intro v1 M gv1 h
    rw [L_X0_makeRoom_2] at h
    exact absurd h (by simp)
  | succ n ih =>
    intro v1 M gv1 h
    rw [L_X0_makeRoom_2] at h
    refine fW_rg (fun hR => ?_)
    refine fW_iload_n 3 dX0_makeRoom_2 rfl rfl ?_
    refine fW_ldc 5 (v := 1000000) dX0_makeRoom_3 rfl wd_mill ?_
    refine fW_icmp_ge 8 33 gv1 (by decide) dX0_makeRoom_5 rfl rfl (fun c1 => ?_) (fun c1 => ?_)
    · replace h := fTt h c1
      exact fW_sb (hk v1 M gv1 h) ⟨rfl, rfl, trivial⟩
    · replace h := fFf h c1
      refine fW_aload_n 9 dX0_makeRoom_8 rfl rfl ?_
      refine fW_getR 12 (r := o + 1) 0 hg clX0 (by decide) rfl ho (tf_0_0 ho) wd_247 dX0_makeRoom_9 rfl ?_
      refine fW_iconst 13 dX0_makeRoom_12 rfl ?_
      obtain ⟨r2, e2, h⟩ := fBd h
      refine fW_cP (fI_V (as := [iv 0]) (rest := []) miX7_firstFree hg clX7 rfl (tt_0_0 ho) wd_486 (fRoom_of rfl) rfl (Nat.le_of_ble_eq_true rfl) dX0_makeRoom_13) (s_X7_firstFree hg (tt_0_0 ho) (by decide) e2) rfl rfl rfl (fun g2 => ?_)
      refine fW_iconst 17 dX0_makeRoom_16 rfl ?_
      refine fW_icmp_ne 20 33 g2 (by decide) dX0_makeRoom_17 rfl rfl (fun c3 => ?_) (fun c3 => ?_)
      · replace h := fFf h c3
        exact fW_sb (hk v1 M gv1 h) ⟨rfl, rfl, trivial⟩
      · replace h := fTt h c3
        refine fW_aload_n 21 dX0_makeRoom_20 rfl rfl ?_
        obtain ⟨r4, e4, h⟩ := fBd h
        refine fW_cB (fI_V (as := []) (rest := []) miX0_step hg clX0 rfl ho wd_492 (fRoom_of rfl) rfl (Nat.le_of_ble_eq_true rfl) dX0_makeRoom_21) (s_X0_step hg ho e4) rfl rfl rfl (fun g4 => ?_)
        refine fW_rg (fun hR5 => ?_)
        refine fW_if_eq 27 33 (rg_z g4) dX0_makeRoom_24 rfl rfl (fun c6 => ?_) (fun c6 => ?_)
        · replace h := fTt h c6
          exact fW_sb (hk v1 r4.2 gv1 h) ⟨rfl, rfl, trivial⟩
        · replace h := fFf h c6
          refine fW_iinc 30 (ls' := [some (rv G o), some (iv (v1 + 1))]) dX0_makeRoom_27 rfl rfl rfl (by decide) ?_
          refine fW_goto 2 dX0_makeRoom_30 rfl ?_
          exact fW_sb (ih (v1 + 1) r4.2 (rg_succ' gv1 (by decide) c1) h) ⟨rfl, rfl, trivial⟩
def f_X0_makeRoom (o : Nat) (M : fMem) : Option (Int × fMem) := L_X0_makeRoom_2 o (fun (v1_7 : Int) (M_7 : fMem) => some (v1_7, M_7)) 2000000 0 M
set_option maxRecDepth 100000 in
set_option maxHeartbeats 4000000 in
theorem s_X0_makeRoom {G : fG} (hg : gbt G = true) {o : Nat} (ho : fTyp o 0) {M : fMem} {q : Int × fMem} (h : f_X0_makeRoom o M = some q) : fSp G mX0_makeRoom [rv G o] M (rP q.2 q.1) fNo := by
  refine fSp_of (by decide +kernel) (by decide +kernel) (fC1 rfl fC0) (Nat.le_of_ble_eq_true rfl) ?_
  show fW G mX0_makeRoom (fEm G mX0_makeRoom (rP q.2 q.1) fNo) 0 0 0 [some (rv G o), none] [] M
  rw [f_X0_makeRoom] at h
  refine fW_rg (fun hR => ?_)
  refine fW_iconst 1 dX0_makeRoom_0 rfl ?_
  refine fW_istore_n 2 (ls' := [some (rv G o), some (iv 0)]) dX0_makeRoom_1 rfl rfl rfl (by decide) ?_
  refine fW_sb (l_X0_makeRoom_2 hg ho ?_ 2000000 0 M (by decide) h) ⟨rfl, rfl, trivial⟩
  intro v1_7 M_7 gv1_7 h
  refine fW_rg (fun hR_7 => ?_)
  refine fW_iload_n 34 dX0_makeRoom_33 rfl rfl ?_
  exact fW_iret rfl (by decide) (by decide) dX0_makeRoom_34 (rI_i h gv1_7)
def mX0_layFirst : fMt := (yX0_layFirst, cX0_layFirst, 4, none, { frames := 1, cells := 0, slots := 0, locals := 40 })
theorem miX0_layFirst : fMv mX0_layFirst 2 := ⟨⟨fM 556 (by decide +kernel) rfl, fM 90 (by decide +kernel) rfl, ⟨by decide +kernel, by decide +kernel⟩, by decide +kernel⟩, fM 555 (by decide +kernel) rfl, fM 7 (by decide +kernel) rfl⟩
def f_X0_layFirst (o : Nat) (a1 : Int) (a2 : Int) (M : fMem) : Option (fMem) := ((f_X7_firstFree (o + 1) 0 M).bind fun (r1 : Int) => (if r1 = ((-1)) then some M else (if 0 ≤ r1 ∧ r1 < 19 then ((f_X6_clear (o + 3 * r1.toNat + 4) 0 M).bind fun (r5 : fMem) => ((f_X6_append (o + 3 * r1.toNat + 4) a1 a2 r5).bind fun (r8 : fMem) => ((f_X0_shut o (o + 3 * r1.toNat + 4) r8).bind fun (r11 : fMem) => some r11))) else none)))
set_option maxRecDepth 100000 in
set_option maxHeartbeats 4000000 in
theorem s_X0_layFirst {G : fG} (hg : gbt G = true) {o : Nat} (ho : fTyp o 0) {a1 : Int} (ga1 : rg a1) {a2 : Int} (ga2 : rg a2) {M : fMem} {q : fMem} (h : f_X0_layFirst o a1 a2 M = some q) : fSp G mX0_layFirst [rv G o, iv a1, iv a2] M (rV q) fNo := by
  refine fSp_of (by decide +kernel) (by decide +kernel) (fC1 rfl (fC1 rfl (fC1 rfl fC0))) (Nat.le_of_ble_eq_true rfl) ?_
  show fW G mX0_layFirst (fEm G mX0_layFirst (rV q) fNo) 0 0 0 [some (rv G o), some (iv a1), some (iv a2), none] [] M
  rw [f_X0_layFirst] at h
  refine fW_rg (fun hR => ?_)
  refine fW_aload_n 1 dX0_layFirst_0 rfl rfl ?_
  refine fW_getR 4 (r := o + 1) 0 hg clX0 (by decide) rfl ho (tf_0_0 ho) wd_247 dX0_layFirst_1 rfl ?_
  refine fW_iconst 5 dX0_layFirst_4 rfl ?_
  obtain ⟨r1, e1, h⟩ := fBd h
  refine fW_cP (fI_V (as := [iv 0]) (rest := []) miX7_firstFree hg clX7 rfl (tt_0_0 ho) wd_486 (fRoom_of rfl) rfl (Nat.le_of_ble_eq_true rfl) dX0_layFirst_5) (s_X7_firstFree hg (tt_0_0 ho) (by decide) e1) rfl rfl rfl (fun g1 => ?_)
  refine fW_istore_n 9 (ls' := [some (rv G o), some (iv a1), some (iv a2), some (iv r1)]) dX0_layFirst_8 rfl rfl rfl (by decide) ?_
  refine fW_iload_n 10 dX0_layFirst_9 rfl rfl ?_
  refine fW_iconst 11 dX0_layFirst_10 rfl ?_
  refine fW_icmp_eq 14 54 g1 (by decide) dX0_layFirst_11 rfl rfl (fun c2 => ?_) (fun c2 => ?_)
  · replace h := fTt h c2
    exact fW_vret rfl (by decide) (by decide) dX0_layFirst_54 (rV_i h)
  · replace h := fFf h c2
    refine fW_aload_n 15 dX0_layFirst_14 rfl rfl ?_
    refine fW_getR 18 (r := o + 1) 0 hg clX0 (by decide) rfl ho (tf_0_0 ho) wd_247 dX0_layFirst_15 rfl ?_
    refine fW_getR 21 (r := o + 2) 0 hg clX7 (by decide) rfl (tt_0_0 ho) (tf_7_0 (tt_0_0 ho)) wd_183 dX0_layFirst_18 rfl ?_
    refine fW_iload_n 22 dX0_layFirst_21 rfl rfl ?_
    obtain ⟨c3, h⟩ := fS h
    have t4 := ta_16 (r := o + 3 * r1.toNat + 4) (tt_7_0 (tt_0_0 ho)) c3 (by omega)
    refine fW_aald 23 4 hg (tt_7_0 (tt_0_0 ho)) (by decide) (by decide) t4.1 t4.2.2 rfl dX0_layFirst_22 rfl ?_
    refine fW_iconst 24 dX0_layFirst_23 rfl ?_
    obtain ⟨r5, e5, h⟩ := fBd h
    refine fW_cV (fI_V (as := [iv 0]) (rest := []) miX6_clear hg clX6 rfl t4.2.1 wd_524 (fRoom_of rfl) rfl (Nat.le_of_ble_eq_true rfl) dX0_layFirst_24) (s_X6_clear hg t4.2.1 (by decide) e5) rfl rfl rfl ?_
    refine fW_rg (fun hR6 => ?_)
    refine fW_aload_n 28 dX0_layFirst_27 rfl rfl ?_
    refine fW_getR 31 (r := o + 1) 0 hg clX0 (by decide) rfl ho (tf_0_0 ho) wd_247 dX0_layFirst_28 rfl ?_
    refine fW_getR 34 (r := o + 2) 0 hg clX7 (by decide) rfl (tt_0_0 ho) (tf_7_0 (tt_0_0 ho)) wd_183 dX0_layFirst_31 rfl ?_
    refine fW_iload_n 35 dX0_layFirst_34 rfl rfl ?_
    have t7 := ta_16 (r := o + 3 * r1.toNat + 4) (tt_7_0 (tt_0_0 ho)) c3 (by omega)
    refine fW_aald 36 4 hg (tt_7_0 (tt_0_0 ho)) (by decide) (by decide) t7.1 t7.2.2 rfl dX0_layFirst_35 rfl ?_
    refine fW_iload_n 37 dX0_layFirst_36 rfl rfl ?_
    refine fW_iload_n 38 dX0_layFirst_37 rfl rfl ?_
    obtain ⟨r8, e8, h⟩ := fBd h
    refine fW_cV (fI_V (as := [iv a1, iv a2]) (rest := []) miX6_append hg clX6 rfl t7.2.1 wd_512 (fRoom_of rfl) rfl (Nat.le_of_ble_eq_true rfl) dX0_layFirst_38) (s_X6_append hg t7.2.1 ga1 ga2 e8) rfl rfl rfl ?_
    refine fW_rg (fun hR9 => ?_)
    refine fW_aload_n 42 dX0_layFirst_41 rfl rfl ?_
    refine fW_aload_n 43 dX0_layFirst_42 rfl rfl ?_
    refine fW_getR 46 (r := o + 1) 0 hg clX0 (by decide) rfl ho (tf_0_0 ho) wd_247 dX0_layFirst_43 rfl ?_
    refine fW_getR 49 (r := o + 2) 0 hg clX7 (by decide) rfl (tt_0_0 ho) (tf_7_0 (tt_0_0 ho)) wd_183 dX0_layFirst_46 rfl ?_
    refine fW_iload_n 50 dX0_layFirst_49 rfl rfl ?_
    have t10 := ta_16 (r := o + 3 * r1.toNat + 4) (tt_7_0 (tt_0_0 ho)) c3 (by omega)
    refine fW_aald 51 4 hg (tt_7_0 (tt_0_0 ho)) (by decide) (by decide) t10.1 t10.2.2 rfl dX0_layFirst_50 rfl ?_
    obtain ⟨r11, e11, h⟩ := fBd h
    refine fW_cV (fI_V (as := [rv G (o + 3 * r1.toNat + 4)]) (rest := []) miX0_shut hg clX0 rfl ho wd_528 (fRoom_of rfl) rfl (Nat.le_of_ble_eq_true rfl) dX0_layFirst_51) (s_X0_shut hg ho t10.2.1 e11) rfl rfl rfl ?_
    refine fW_rg (fun hR12 => ?_)
    exact fW_vret rfl (by decide) (by decide) dX0_layFirst_54 (rV_i h)
def mX0_takeSteps : fMt := (yX0_takeSteps, cX0_takeSteps, 3, some .int, { frames := 4, cells := 0, slots := 0, locals := 160 })
theorem miX0_takeSteps : fMv mX0_takeSteps 1 := ⟨⟨fM 560 (by decide +kernel) rfl, fM 90 (by decide +kernel) rfl, ⟨by decide +kernel, by decide +kernel⟩, by decide +kernel⟩, fM 558 (by decide +kernel) rfl, fM 559 (by decide +kernel) rfl⟩
def L_X0_takeSteps_2 (o : Nat) (k : Int → fMem → Option (Int × fMem)) : Nat → Int → Int → fMem → Option (Int × fMem)
  | 0, _, _, _ => none
  | n + 1, v1, v2, M => (if v1 ≤ v2 then k v2 M else ((f_X0_step o M).bind fun (r2 : Int × fMem) => (if r2.1 = 0 then k v2 r2.2 else L_X0_takeSteps_2 o k n v1 (v2 + 1) r2.2)))
set_option maxRecDepth 100000 in
set_option maxHeartbeats 4000000 in
theorem l_X0_takeSteps_2 {G : fG} (hg : gbt G = true) {o : Nat} (ho : fTyp o 0) {q : Int × fMem} {k : Int → fMem → Option (Int × fMem)} (hk : ∀ (v2 : Int) (M : fMem), rg v2 → k v2 M = some q → fW G mX0_takeSteps (fEm G mX0_takeSteps (rP q.2 q.1) fNo) 0 0 20 [some (rv G o), none, some (iv v2)] [] M) : ∀ (n : Nat) (v1 : Int) (v2 : Int) (M : fMem), rg v1 → rg v2 → L_X0_takeSteps_2 o k n v1 v2 M = some q → fW G mX0_takeSteps (fEm G mX0_takeSteps (rP q.2 q.1) fNo) 0 0 2 [some (rv G o), some (iv v1), some (iv v2)] [] M := by
  intro n
  induction n with
  | zero =>
    intro v1 v2 M gv1 gv2 h
    rw [L_X0_takeSteps_2] at h
    exact absurd h (by simp)
  | succ n ih =>
    intro v1 v2 M gv1 gv2 h
    rw [L_X0_takeSteps_2] at h
    refine fW_rg (fun hR => ?_)
    refine fW_iload_n 3 dX0_takeSteps_2 rfl rfl ?_
    refine fW_iload_n 4 dX0_takeSteps_3 rfl rfl ?_
    refine fW_icmp_ge 7 20 gv2 gv1 dX0_takeSteps_4 rfl rfl (fun c1 => ?_) (fun c1 => ?_)
    · replace h := fTt h c1
      exact fW_sb (hk v2 M gv2 h) ⟨rfl, rfl, trivial⟩
    · replace h := fFf h c1
      refine fW_aload_n 8 dX0_takeSteps_7 rfl rfl ?_
      obtain ⟨r2, e2, h⟩ := fBd h
      refine fW_cB (fI_V (as := []) (rest := []) miX0_step hg clX0 rfl ho wd_492 (fRoom_of rfl) rfl (Nat.le_of_ble_eq_true rfl) dX0_takeSteps_8) (s_X0_step hg ho e2) rfl rfl rfl (fun g2 => ?_)
      refine fW_rg (fun hR3 => ?_)
      refine fW_if_eq 14 20 (rg_z g2) dX0_takeSteps_11 rfl rfl (fun c4 => ?_) (fun c4 => ?_)
      · replace h := fTt h c4
        exact fW_sb (hk v2 r2.2 gv2 h) ⟨rfl, rfl, trivial⟩
      · replace h := fFf h c4
        refine fW_iinc 17 (ls' := [some (rv G o), some (iv v1), some (iv (v2 + 1))]) dX0_takeSteps_14 rfl rfl rfl (by decide) ?_
        refine fW_goto 2 dX0_takeSteps_17 rfl ?_
        exact fW_sb (ih v1 (v2 + 1) r2.2 gv1 (rg_succ' gv2 gv1 c1) h) ⟨rfl, rfl, rfl, trivial⟩
def f_X0_takeSteps (o : Nat) (a1 : Int) (M : fMem) : Option (Int × fMem) := L_X0_takeSteps_2 o (fun (v2_5 : Int) (M_5 : fMem) => some (v2_5, M_5)) 20000 a1 0 M
set_option maxRecDepth 100000 in
set_option maxHeartbeats 4000000 in
theorem s_X0_takeSteps {G : fG} (hg : gbt G = true) {o : Nat} (ho : fTyp o 0) {a1 : Int} (ga1 : rg a1) {M : fMem} {q : Int × fMem} (h : f_X0_takeSteps o a1 M = some q) : fSp G mX0_takeSteps [rv G o, iv a1] M (rP q.2 q.1) fNo := by
  refine fSp_of (by decide +kernel) (by decide +kernel) (fC1 rfl (fC1 rfl fC0)) (Nat.le_of_ble_eq_true rfl) ?_
  show fW G mX0_takeSteps (fEm G mX0_takeSteps (rP q.2 q.1) fNo) 0 0 0 [some (rv G o), some (iv a1), none] [] M
  rw [f_X0_takeSteps] at h
  refine fW_rg (fun hR => ?_)
  refine fW_iconst 1 dX0_takeSteps_0 rfl ?_
  refine fW_istore_n 2 (ls' := [some (rv G o), some (iv a1), some (iv 0)]) dX0_takeSteps_1 rfl rfl rfl (by decide) ?_
  refine fW_sb (l_X0_takeSteps_2 hg ho ?_ 20000 a1 0 M ga1 (by decide) h) ⟨rfl, rfl, rfl, trivial⟩
  intro v2_5 M_5 gv2_5 h
  refine fW_rg (fun hR_5 => ?_)
  refine fW_iload_n 21 dX0_takeSteps_20 rfl rfl ?_
  exact fW_iret rfl (by decide) (by decide) dX0_takeSteps_21 (rI_i h gv2_5)
def mX0_act : fMt := (yX0_act, cX0_act, 5, some .int, { frames := 5, cells := 0, slots := 0, locals := 200 })
theorem miX0_act : fMv mX0_act 2 := ⟨⟨fM 480 (by decide +kernel) rfl, fM 90 (by decide +kernel) rfl, ⟨by decide +kernel, by decide +kernel⟩, by decide +kernel⟩, fM 478 (by decide +kernel) rfl, fM 479 (by decide +kernel) rfl⟩
def f_X0_act (o : Nat) (a1 : Int) (a2 : Int) (M : fMem) : Option (Int × fMem) := ((f_X0_makeRoom o M).bind fun (r1 : Int × fMem) => ((f_X0_layFirst o a1 a2 r1.2).bind fun (r3 : fMem) => ((f_X0_askLevels o r3).bind fun (r5 : fMem) => ((f_X0_takeSteps o (r5 o 2) r5).bind fun (r7 : Int × fMem) => (if -2147483648 ≤ (r7.2 o 4) + 1 ∧ (r7.2 o 4) + 1 < 2147483648 then ((some (mset r7.2 o 4 ((r7.2 o 4) + 1))).bind fun (N10 : fMem) => (if -2147483648 ≤ (N10 o 6) + r1.1 ∧ (N10 o 6) + r1.1 < 2147483648 then ((some (mset N10 o 6 ((N10 o 6) + r1.1))).bind fun (N12 : fMem) => (if -2147483648 ≤ r1.1 + r7.1 ∧ r1.1 + r7.1 < 2147483648 then ((some (mset N12 o 7 (max (N12 o 7) (r1.1 + r7.1)))).bind fun (N14 : fMem) => some (r1.1 + r7.1, N14)) else none)) else none)) else none)))))
set_option maxRecDepth 100000 in
set_option maxHeartbeats 4000000 in
theorem s_X0_act {G : fG} (hg : gbt G = true) {o : Nat} (ho : fTyp o 0) {a1 : Int} (ga1 : rg a1) {a2 : Int} (ga2 : rg a2) {M : fMem} {q : Int × fMem} (h : f_X0_act o a1 a2 M = some q) : fSp G mX0_act [rv G o, iv a1, iv a2] M (rP q.2 q.1) fNo := by
  refine fSp_of (by decide +kernel) (by decide +kernel) (fC1 rfl (fC1 rfl (fC1 rfl fC0))) (Nat.le_of_ble_eq_true rfl) ?_
  show fW G mX0_act (fEm G mX0_act (rP q.2 q.1) fNo) 0 0 0 [some (rv G o), some (iv a1), some (iv a2), none, none] [] M
  rw [f_X0_act] at h
  refine fW_rg (fun hR => ?_)
  refine fW_aload_n 1 dX0_act_0 rfl rfl ?_
  obtain ⟨r1, e1, h⟩ := fBd h
  refine fW_cP (fI_V (as := []) (rest := []) miX0_makeRoom hg clX0 rfl ho wd_481 (fRoom_of rfl) rfl (Nat.le_of_ble_eq_true rfl) dX0_act_1) (s_X0_makeRoom hg ho e1) rfl rfl rfl (fun g1 => ?_)
  refine fW_rg (fun hR2 => ?_)
  refine fW_istore_n 5 (ls' := [some (rv G o), some (iv a1), some (iv a2), some (iv r1.1), none]) dX0_act_4 rfl rfl rfl (by decide) ?_
  refine fW_aload_n 6 dX0_act_5 rfl rfl ?_
  refine fW_iload_n 7 dX0_act_6 rfl rfl ?_
  refine fW_iload_n 8 dX0_act_7 rfl rfl ?_
  obtain ⟨r3, e3, h⟩ := fBd h
  refine fW_cV (fI_V (as := [iv a1, iv a2]) (rest := []) miX0_layFirst hg clX0 rfl ho wd_553 (fRoom_of rfl) rfl (Nat.le_of_ble_eq_true rfl) dX0_act_8) (s_X0_layFirst hg ho ga1 ga2 e3) rfl rfl rfl ?_
  refine fW_rg (fun hR4 => ?_)
  refine fW_aload_n 12 dX0_act_11 rfl rfl ?_
  obtain ⟨r5, e5, h⟩ := fBd h
  refine fW_cV (fI_V (as := []) (rest := []) miX0_askLevels hg clX0 rfl ho wd_532 (fRoom_of rfl) rfl (Nat.le_of_ble_eq_true rfl) dX0_act_12) (s_X0_askLevels hg ho e5) rfl rfl rfl ?_
  refine fW_rg (fun hR6 => ?_)
  refine fW_iload_n 16 dX0_act_15 rfl rfl ?_
  refine fW_aload_n 17 dX0_act_16 rfl rfl ?_
  refine fW_aload_n 18 dX0_act_17 rfl rfl ?_
  refine fW_getI 21 2 (ji := 2) hg clX0 rfl (by decide) rfl ho wd_251 dX0_act_18 rfl ?_
  obtain ⟨r7, e7, h⟩ := fBd h
  refine fW_cP (fI_V (as := [iv (r5 o 2)]) (rest := [iv r1.1]) miX0_takeSteps hg clX0 rfl ho wd_557 (fRoom_of rfl) rfl (Nat.le_of_ble_eq_true rfl) dX0_act_21) (s_X0_takeSteps hg ho (hR6 o 2) e7) rfl rfl rfl (fun g7 => ?_)
  refine fW_rg (fun hR8 => ?_)
  refine fW_iadd 25 dX0_act_24 rfl ?_
  refine fW_istore 27 (ls' := [some (rv G o), some (iv a1), some (iv a2), some (iv r1.1), some (iv (r1.1 + r7.1))]) dX0_act_25 rfl rfl (by decide) ?_
  refine fW_aload_n 28 dX0_act_27 rfl rfl ?_
  refine fW_dup 29 dX0_act_28 rfl rfl ?_
  refine fW_getI 32 4 (ji := 4) hg clX0 rfl (by decide) rfl ho wd_254 dX0_act_29 rfl ?_
  refine fW_iconst 33 dX0_act_32 rfl ?_
  refine fW_iadd 34 dX0_act_33 rfl ?_
  obtain ⟨c9, h⟩ := fS h
  obtain ⟨N10, e10, h⟩ := fBd h
  replace e10 := Option.some.inj e10
  refine fW_putI 37 4 (ji := 4) hg clX0 rfl (by decide) rfl rfl rfl ho c9 wd_254 dX0_act_34 rfl ?_
  rw [e10]
  refine fW_rg (fun hR10 => ?_)
  refine fW_aload_n 38 dX0_act_37 rfl rfl ?_
  refine fW_dup 39 dX0_act_38 rfl rfl ?_
  refine fW_getI 42 6 (ji := 6) hg clX0 rfl (by decide) rfl ho wd_258 dX0_act_39 rfl ?_
  refine fW_iload_n 43 dX0_act_42 rfl rfl ?_
  refine fW_iadd 44 dX0_act_43 rfl ?_
  obtain ⟨c11, h⟩ := fS h
  obtain ⟨N12, e12, h⟩ := fBd h
  replace e12 := Option.some.inj e12
  refine fW_putI 47 6 (ji := 6) hg clX0 rfl (by decide) rfl rfl rfl ho c11 wd_258 dX0_act_44 rfl ?_
  rw [e12]
  refine fW_rg (fun hR12 => ?_)
  refine fW_aload_n 48 dX0_act_47 rfl rfl ?_
  refine fW_aload_n 49 dX0_act_48 rfl rfl ?_
  refine fW_getI 52 7 (ji := 7) hg clX0 rfl (by decide) rfl ho wd_260 dX0_act_49 rfl ?_
  refine fW_iload 54 dX0_act_52 rfl rfl ?_
  obtain ⟨c13, h⟩ := fS h
  refine fW_mmax 57 (hR12 o 7) c13 wd_561 (by decide) (Nat.le_of_ble_eq_true rfl) (by decide) (by decide) dX0_act_54 rfl ?_
  obtain ⟨N14, e14, h⟩ := fBd h
  replace e14 := Option.some.inj e14
  refine fW_putI 60 7 (ji := 7) hg clX0 rfl (by decide) rfl rfl rfl ho (rg_max (hR12 o 7) c13) wd_260 dX0_act_57 rfl ?_
  rw [e14]
  refine fW_rg (fun hR14 => ?_)
  refine fW_iload 62 dX0_act_60 rfl rfl ?_
  exact fW_iret rfl (by decide) (by decide) dX0_act_62 (rI_i h c13)
def mX0_merging : fMt := (yX0_merging, cX0_merging, 3, some .int, { frames := 0, cells := 0, slots := 0, locals := 0 })
theorem miX0_merging : fMv mX0_merging 0 := ⟨⟨fM 1052 (by decide +kernel) rfl, fM 90 (by decide +kernel) rfl, ⟨by decide +kernel, by decide +kernel⟩, by decide +kernel⟩, fM 1050 (by decide +kernel) rfl, fM 1051 (by decide +kernel) rfl⟩
def L_X0_merging_4 (o : Nat) (M : fMem) (k : Int → Option (Int)) : Nat → Int → Int → Option (Int)
  | 0, _, _ => none
  | n + 1, v1, v2 => (if 9 ≤ v2 then k v1 else (if 0 ≤ v2 ∧ v2 < 9 then (if (M (o + v2.toNat + 62) 0) = 0 then (if -2147483648 ≤ v1 + 0 ∧ v1 + 0 < 2147483648 then L_X0_merging_4 o M k n (v1 + 0) (v2 + 1) else none) else (if -2147483648 ≤ v1 + 1 ∧ v1 + 1 < 2147483648 then L_X0_merging_4 o M k n (v1 + 1) (v2 + 1) else none)) else none))
set_option maxRecDepth 100000 in
set_option maxHeartbeats 4000000 in
theorem l_X0_merging_4 {G : fG} (hg : gbt G = true) {o : Nat} (ho : fTyp o 0) {M : fMem} {q : Int} {k : Int → Option (Int)} (hk : ∀ (v1 : Int), rg v1 → k v1 = some q → fW G mX0_merging (fEm G mX0_merging (rP M q) fNo) 0 0 36 [some (rv G o), some (iv v1), none] [] M) : ∀ (n : Nat) (v1 : Int) (v2 : Int), rg v1 → rg v2 → L_X0_merging_4 o M k n v1 v2 = some q → fW G mX0_merging (fEm G mX0_merging (rP M q) fNo) 0 0 4 [some (rv G o), some (iv v1), some (iv v2)] [] M := by
  intro n
  induction n with
  | zero =>
    intro v1 v2 gv1 gv2 h
    rw [L_X0_merging_4] at h
    exact absurd h (by simp)
  | succ n ih =>
    intro v1 v2 gv1 gv2 h
    rw [L_X0_merging_4] at h
    refine fW_rg (fun hR => ?_)
    refine fW_iload_n 5 dX0_merging_4 rfl rfl ?_
    refine fW_bipush 7 dX0_merging_5 rfl (by decide) ?_
    refine fW_icmp_ge 10 36 gv2 (by decide) dX0_merging_7 rfl rfl (fun c1 => ?_) (fun c1 => ?_)
    · replace h := fTt h c1
      exact fW_sb (hk v1 gv1 h) ⟨rfl, rfl, trivial⟩
    · replace h := fFf h c1
      refine fW_iload_n 11 dX0_merging_10 rfl rfl ?_
      refine fW_aload_n 12 dX0_merging_11 rfl rfl ?_
      refine fW_getR 15 (r := o + 61) 1 hg clX0 (by decide) rfl ho (tf_0_1 ho) wd_249 dX0_merging_12 rfl ?_
      refine fW_iload_n 16 dX0_merging_15 rfl rfl ?_
      obtain ⟨c2, h⟩ := fS h
      have t3 := ta_15 (r := o + v2.toNat + 62) (tt_0_1 ho) c2 (by omega)
      refine fW_aald 17 3 hg (tt_0_1 ho) (by decide) (by decide) t3.1 t3.2.2 rfl dX0_merging_16 rfl ?_
      refine fW_getI 20 0 (ji := 0) hg clX4 rfl (by decide) rfl t3.2.1 wd_207 dX0_merging_17 rfl ?_
      refine fW_if_eq 23 27 (hR (o + v2.toNat + 62) 0) dX0_merging_20 rfl rfl (fun c4 => ?_) (fun c4 => ?_)
      · replace h := fTt h c4
        refine fW_iconst 28 dX0_merging_27 rfl ?_
        refine fW_iadd 29 dX0_merging_28 rfl ?_
        refine fW_istore_n 30 (ls' := [some (rv G o), some (iv (v1 + 0)), some (iv v2)]) dX0_merging_29 rfl rfl rfl (by decide) ?_
        refine fW_iinc 33 (ls' := [some (rv G o), some (iv (v1 + 0)), some (iv (v2 + 1))]) dX0_merging_30 rfl rfl rfl (by decide) ?_
        refine fW_goto 4 dX0_merging_33 rfl ?_
        obtain ⟨c5, h⟩ := fS h
        exact fW_sb (ih (v1 + 0) (v2 + 1) c5 (rg_succ' gv2 (by decide) c1) h) ⟨rfl, rfl, rfl, trivial⟩
      · replace h := fFf h c4
        refine fW_iconst 24 dX0_merging_23 rfl ?_
        refine fW_goto 28 dX0_merging_24 rfl ?_
        refine fW_iadd 29 dX0_merging_28 rfl ?_
        refine fW_istore_n 30 (ls' := [some (rv G o), some (iv (v1 + 1)), some (iv v2)]) dX0_merging_29 rfl rfl rfl (by decide) ?_
        refine fW_iinc 33 (ls' := [some (rv G o), some (iv (v1 + 1)), some (iv (v2 + 1))]) dX0_merging_30 rfl rfl rfl (by decide) ?_
        refine fW_goto 4 dX0_merging_33 rfl ?_
        obtain ⟨c6, h⟩ := fS h
        exact fW_sb (ih (v1 + 1) (v2 + 1) c6 (rg_succ' gv2 (by decide) c1) h) ⟨rfl, rfl, rfl, trivial⟩
def f_X0_merging (o : Nat) (M : fMem) : Option (Int) := L_X0_merging_4 o M (fun (v1_7 : Int) => some v1_7) 20000 0 0
set_option maxRecDepth 100000 in
set_option maxHeartbeats 4000000 in
theorem s_X0_merging {G : fG} (hg : gbt G = true) {o : Nat} (ho : fTyp o 0) {M : fMem} {q : Int} (h : f_X0_merging o M = some q) : fSp G mX0_merging [rv G o] M (rP M q) fNo := by
  refine fSp_of (by decide +kernel) (by decide +kernel) (fC1 rfl fC0) (Nat.le_of_ble_eq_true rfl) ?_
  show fW G mX0_merging (fEm G mX0_merging (rP M q) fNo) 0 0 0 [some (rv G o), none, none] [] M
  rw [f_X0_merging] at h
  refine fW_rg (fun hR => ?_)
  refine fW_iconst 1 dX0_merging_0 rfl ?_
  refine fW_istore_n 2 (ls' := [some (rv G o), some (iv 0), none]) dX0_merging_1 rfl rfl rfl (by decide) ?_
  refine fW_iconst 3 dX0_merging_2 rfl ?_
  refine fW_istore_n 4 (ls' := [some (rv G o), some (iv 0), some (iv 0)]) dX0_merging_3 rfl rfl rfl (by decide) ?_
  refine fW_sb (l_X0_merging_4 hg ho ?_ 20000 0 0 (by decide) (by decide) h) ⟨rfl, rfl, rfl, trivial⟩
  intro v1_7 gv1_7 h
  refine fW_iload_n 37 dX0_merging_36 rfl rfl ?_
  exact fW_iret rfl (by decide) (by decide) dX0_merging_37 (rP_i h gv1_7)
def mX7_freeAll : fMt := (yX7_freeAll, cX7_freeAll, 2, none, { frames := 1, cells := 0, slots := 0, locals := 40 })
theorem miX7_freeAll : fMv mX7_freeAll 0 := ⟨⟨fM 648 (by decide +kernel) rfl, fM 91 (by decide +kernel) rfl, ⟨by decide +kernel, by decide +kernel⟩, by decide +kernel⟩, fM 646 (by decide +kernel) rfl, fM 647 (by decide +kernel) rfl⟩
def L_X7_freeAll_2 (o : Nat) (k : fMem → Option (fMem)) : Nat → Int → fMem → Option (fMem)
  | 0, _, _ => none
  | n + 1, v1, M => (if 19 ≤ v1 then k  M else (if 0 ≤ v1 ∧ v1 < 19 then ((f_X6_clear (o + 3 * v1.toNat + 3) 0 M).bind fun (r4 : fMem) => L_X7_freeAll_2 o k n (v1 + 1) r4) else none))
set_option maxRecDepth 100000 in
set_option maxHeartbeats 4000000 in
theorem l_X7_freeAll_2 {G : fG} (hg : gbt G = true) {o : Nat} (ho : fTyp o 7) {q : fMem} {k : fMem → Option (fMem)} (hk : ∀ (M : fMem), k M = some q → fW G mX7_freeAll (fEm G mX7_freeAll (rV q) fNo) 0 0 24 [some (rv G o), none] [] M) : ∀ (n : Nat) (v1 : Int) (M : fMem), rg v1 → L_X7_freeAll_2 o k n v1 M = some q → fW G mX7_freeAll (fEm G mX7_freeAll (rV q) fNo) 0 0 2 [some (rv G o), some (iv v1)] [] M := by
  intro n
  induction n with
  | zero =>
    intro v1 M gv1 h
    rw [L_X7_freeAll_2] at h
    exact absurd h (by simp)
  | succ n ih =>
    intro v1 M gv1 h
    rw [L_X7_freeAll_2] at h
    refine fW_rg (fun hR => ?_)
    refine fW_iload_n 3 dX7_freeAll_2 rfl rfl ?_
    refine fW_bipush 5 dX7_freeAll_3 rfl (by decide) ?_
    refine fW_icmp_ge 8 24 gv1 (by decide) dX7_freeAll_5 rfl rfl (fun c1 => ?_) (fun c1 => ?_)
    · replace h := fTt h c1
      exact fW_sb (hk M h) ⟨rfl, trivial⟩
    · replace h := fFf h c1
      refine fW_aload_n 9 dX7_freeAll_8 rfl rfl ?_
      refine fW_getR 12 (r := o + 1) 0 hg clX7 (by decide) rfl ho (tf_7_0 ho) wd_180 dX7_freeAll_9 rfl ?_
      refine fW_iload_n 13 dX7_freeAll_12 rfl rfl ?_
      obtain ⟨c2, h⟩ := fS h
      have t3 := ta_16 (r := o + 3 * v1.toNat + 3) (tt_7_0 ho) c2 (by omega)
      refine fW_aald 14 4 hg (tt_7_0 ho) (by decide) (by decide) t3.1 t3.2.2 rfl dX7_freeAll_13 rfl ?_
      refine fW_iconst 15 dX7_freeAll_14 rfl ?_
      obtain ⟨r4, e4, h⟩ := fBd h
      refine fW_cV (fI_V (as := [iv 0]) (rest := []) miX6_clear hg clX6 rfl t3.2.1 wd_649 (fRoom_of rfl) rfl (Nat.le_of_ble_eq_true rfl) dX7_freeAll_15) (s_X6_clear hg t3.2.1 (by decide) e4) rfl rfl rfl ?_
      refine fW_rg (fun hR5 => ?_)
      refine fW_iinc 21 (ls' := [some (rv G o), some (iv (v1 + 1))]) dX7_freeAll_18 rfl rfl rfl (by decide) ?_
      refine fW_goto 2 dX7_freeAll_21 rfl ?_
      exact fW_sb (ih (v1 + 1) r4 (rg_succ' gv1 (by decide) c1) h) ⟨rfl, rfl, trivial⟩
def f_X7_freeAll (o : Nat) (M : fMem) : Option (fMem) := L_X7_freeAll_2 o (fun  (M_6 : fMem) => some M_6) 20000 0 M
set_option maxRecDepth 100000 in
set_option maxHeartbeats 4000000 in
theorem s_X7_freeAll {G : fG} (hg : gbt G = true) {o : Nat} (ho : fTyp o 7) {M : fMem} {q : fMem} (h : f_X7_freeAll o M = some q) : fSp G mX7_freeAll [rv G o] M (rV q) fNo := by
  refine fSp_of (by decide +kernel) (by decide +kernel) (fC1 rfl fC0) (Nat.le_of_ble_eq_true rfl) ?_
  show fW G mX7_freeAll (fEm G mX7_freeAll (rV q) fNo) 0 0 0 [some (rv G o), none] [] M
  rw [f_X7_freeAll] at h
  refine fW_rg (fun hR => ?_)
  refine fW_iconst 1 dX7_freeAll_0 rfl ?_
  refine fW_istore_n 2 (ls' := [some (rv G o), some (iv 0)]) dX7_freeAll_1 rfl rfl rfl (by decide) ?_
  refine fW_sb (l_X7_freeAll_2 hg ho ?_ 20000 0 M (by decide) h) ⟨rfl, rfl, trivial⟩
  intro M_6 h
  refine fW_rg (fun hR_6 => ?_)
  exact fW_vret rfl (by decide) (by decide) dX7_freeAll_24 (rV_i h)
def mX0_freeAll : fMt := (yX0_freeAll, cX0_freeAll, 2, none, { frames := 2, cells := 0, slots := 0, locals := 80 })
theorem miX0_freeAll : fMv mX0_freeAll 0 := ⟨⟨fM 644 (by decide +kernel) rfl, fM 90 (by decide +kernel) rfl, ⟨by decide +kernel, by decide +kernel⟩, by decide +kernel⟩, fM 642 (by decide +kernel) rfl, fM 643 (by decide +kernel) rfl⟩
def L_X0_freeAll_9 (o : Nat) (k : fMem → Option (fMem)) : Nat → Int → fMem → Option (fMem)
  | 0, _, _ => none
  | n + 1, v1, M => (if 9 ≤ v1 then k  M else (if 0 ≤ v1 ∧ v1 < 9 then ((some (mset M (o + v1.toNat + 62) 0 0)).bind fun (N6 : fMem) => L_X0_freeAll_9 o k n (v1 + 1) N6) else none))
set_option maxRecDepth 100000 in
set_option maxHeartbeats 4000000 in
theorem l_X0_freeAll_9 {G : fG} (hg : gbt G = true) {o : Nat} (ho : fTyp o 0) {q : fMem} {k : fMem → Option (fMem)} (hk : ∀ (M : fMem), k M = some q → fW G mX0_freeAll (fEm G mX0_freeAll (rV q) fNo) 0 0 31 [some (rv G o), none] [] M) : ∀ (n : Nat) (v1 : Int) (M : fMem), rg v1 → L_X0_freeAll_9 o k n v1 M = some q → fW G mX0_freeAll (fEm G mX0_freeAll (rV q) fNo) 0 0 9 [some (rv G o), some (iv v1)] [] M := by
  intro n
  induction n with
  | zero =>
    intro v1 M gv1 h
    rw [L_X0_freeAll_9] at h
    exact absurd h (by simp)
  | succ n ih =>
    intro v1 M gv1 h
    rw [L_X0_freeAll_9] at h
    refine fW_rg (fun hR => ?_)
    refine fW_iload_n 10 dX0_freeAll_9 rfl rfl ?_
    refine fW_bipush 12 dX0_freeAll_10 rfl (by decide) ?_
    refine fW_icmp_ge 15 31 gv1 (by decide) dX0_freeAll_12 rfl rfl (fun c3 => ?_) (fun c3 => ?_)
    · replace h := fTt h c3
      exact fW_sb (hk M h) ⟨rfl, trivial⟩
    · replace h := fFf h c3
      refine fW_aload_n 16 dX0_freeAll_15 rfl rfl ?_
      refine fW_getR 19 (r := o + 61) 1 hg clX0 (by decide) rfl ho (tf_0_1 ho) wd_249 dX0_freeAll_16 rfl ?_
      refine fW_iload_n 20 dX0_freeAll_19 rfl rfl ?_
      obtain ⟨c4, h⟩ := fS h
      have t5 := ta_15 (r := o + v1.toNat + 62) (tt_0_1 ho) c4 (by omega)
      refine fW_aald 21 3 hg (tt_0_1 ho) (by decide) (by decide) t5.1 t5.2.2 rfl dX0_freeAll_20 rfl ?_
      refine fW_iconst 22 dX0_freeAll_21 rfl ?_
      obtain ⟨N6, e6, h⟩ := fBd h
      replace e6 := Option.some.inj e6
      refine fW_putZ 25 0 (ji := 0) hg clX4 rfl (by decide) rfl rfl rfl t5.2.1 (by decide) wd_207 dX0_freeAll_22 rfl ?_
      rw [e6]
      refine fW_rg (fun hR6 => ?_)
      refine fW_iinc 28 (ls' := [some (rv G o), some (iv (v1 + 1))]) dX0_freeAll_25 rfl rfl rfl (by decide) ?_
      refine fW_goto 9 dX0_freeAll_28 rfl ?_
      exact fW_sb (ih (v1 + 1) N6 (rg_succ' gv1 (by decide) c3) h) ⟨rfl, rfl, trivial⟩
def f_X0_freeAll (o : Nat) (M : fMem) : Option (fMem) := ((f_X7_freeAll (o + 1) M).bind fun (r1 : fMem) => L_X0_freeAll_9 o (fun  (M_7 : fMem) => some M_7) 20000 0 r1)
set_option maxRecDepth 100000 in
set_option maxHeartbeats 4000000 in
theorem s_X0_freeAll {G : fG} (hg : gbt G = true) {o : Nat} (ho : fTyp o 0) {M : fMem} {q : fMem} (h : f_X0_freeAll o M = some q) : fSp G mX0_freeAll [rv G o] M (rV q) fNo := by
  refine fSp_of (by decide +kernel) (by decide +kernel) (fC1 rfl fC0) (Nat.le_of_ble_eq_true rfl) ?_
  show fW G mX0_freeAll (fEm G mX0_freeAll (rV q) fNo) 0 0 0 [some (rv G o), none] [] M
  rw [f_X0_freeAll] at h
  refine fW_rg (fun hR => ?_)
  refine fW_aload_n 1 dX0_freeAll_0 rfl rfl ?_
  refine fW_getR 4 (r := o + 1) 0 hg clX0 (by decide) rfl ho (tf_0_0 ho) wd_247 dX0_freeAll_1 rfl ?_
  obtain ⟨r1, e1, h⟩ := fBd h
  refine fW_cV (fI_V (as := []) (rest := []) miX7_freeAll hg clX7 rfl (tt_0_0 ho) wd_645 (fRoom_of rfl) rfl (Nat.le_of_ble_eq_true rfl) dX0_freeAll_4) (s_X7_freeAll hg (tt_0_0 ho) e1) rfl rfl rfl ?_
  refine fW_rg (fun hR2 => ?_)
  refine fW_iconst 8 dX0_freeAll_7 rfl ?_
  refine fW_istore_n 9 (ls' := [some (rv G o), some (iv 0)]) dX0_freeAll_8 rfl rfl rfl (by decide) ?_
  refine fW_sb (l_X0_freeAll_9 hg ho ?_ 20000 0 r1 (by decide) h) ⟨rfl, rfl, trivial⟩
  intro M_7 h
  refine fW_rg (fun hR_7 => ?_)
  exact fW_vret rfl (by decide) (by decide) dX0_freeAll_31 (rV_i h)
def mX6_copyFrom : fMt := (yX6_copyFrom, cX6_copyFrom, 2, none, { frames := 2, cells := 0, slots := 0, locals := 80 })
theorem miX6_copyFrom : fMv mX6_copyFrom 1 := ⟨⟨fM 682 (by decide +kernel) rfl, fM 92 (by decide +kernel) rfl, ⟨by decide +kernel, by decide +kernel⟩, by decide +kernel⟩, fM 680 (by decide +kernel) rfl, fM 681 (by decide +kernel) rfl⟩
def f_X6_copyFrom (o : Nat) (p1 : Nat) (M : fMem) : Option (fMem) := ((some (mset M o 2 (M p1 2))).bind fun (N1 : fMem) => ((some (mset N1 o 3 (min (N1 p1 3) (Ln (o + 1))))).bind fun (N2 : fMem) => ((some (mset N2 o 4 (N2 p1 4))).bind fun (N3 : fMem) => ((some (mset N3 o 5 (N3 p1 5))).bind fun (N4 : fMem) => (if 0 ≤ N4 o 3 ∧ N4 o 3 ≤ Ln (p1 + 1) ∧ N4 o 3 ≤ Ln (o + 1) then ((some (acpy N4 (p1 + 1) (o + 1) (N4 o 3))).bind fun (N6 : fMem) => (if 0 ≤ N6 o 3 ∧ N6 o 3 ≤ Ln (p1 + 2) ∧ N6 o 3 ≤ Ln (o + 2) then ((some (acpy N6 (p1 + 2) (o + 2) (N6 o 3))).bind fun (N8 : fMem) => some N8) else none)) else none)))))
set_option maxRecDepth 100000 in
set_option maxHeartbeats 4000000 in
theorem s_X6_copyFrom {G : fG} (hg : gbt G = true) {o : Nat} (ho : fTyp o 6) {p1 : Nat} (hp1 : fTyp p1 6) {M : fMem} {q : fMem} (h : f_X6_copyFrom o p1 M = some q) : fSp G mX6_copyFrom [rv G o, rv G p1] M (rV q) fNo := by
  refine fSp_of (by decide +kernel) (by decide +kernel) (fC1 rfl (fC1 rfl fC0)) (Nat.le_of_ble_eq_true rfl) ?_
  show fW G mX6_copyFrom (fEm G mX6_copyFrom (rV q) fNo) 0 0 0 [some (rv G o), some (rv G p1)] [] M
  rw [f_X6_copyFrom] at h
  refine fW_rg (fun hR => ?_)
  refine fW_aload_n 1 dX6_copyFrom_0 rfl rfl ?_
  refine fW_aload_n 2 dX6_copyFrom_1 rfl rfl ?_
  refine fW_getI 5 2 (ji := 2) hg clX6 rfl (by decide) rfl hp1 wd_150 dX6_copyFrom_2 rfl ?_
  obtain ⟨N1, e1, h⟩ := fBd h
  replace e1 := Option.some.inj e1
  refine fW_putI 8 2 (ji := 2) hg clX6 rfl (by decide) rfl rfl rfl ho (hR p1 2) wd_150 dX6_copyFrom_5 rfl ?_
  rw [e1]
  refine fW_rg (fun hR1 => ?_)
  refine fW_aload_n 9 dX6_copyFrom_8 rfl rfl ?_
  refine fW_aload_n 10 dX6_copyFrom_9 rfl rfl ?_
  refine fW_getI 13 3 (ji := 3) hg clX6 rfl (by decide) rfl hp1 wd_154 dX6_copyFrom_10 rfl ?_
  refine fW_aload_n 14 dX6_copyFrom_13 rfl rfl ?_
  refine fW_getR 17 (r := o + 1) 0 hg clX6 (by decide) rfl ho (tf_6_0 ho) wd_147 dX6_copyFrom_14 rfl ?_
  refine fW_alen 18 hg (tt_6_0 ho) dX6_copyFrom_17 rfl ?_
  refine fW_mmin 21 (hR1 p1 3) (rg_ln (o + 1)) wd_683 (by decide) (Nat.le_of_ble_eq_true rfl) (by decide) (by decide) dX6_copyFrom_18 rfl ?_
  obtain ⟨N2, e2, h⟩ := fBd h
  replace e2 := Option.some.inj e2
  refine fW_putI 24 3 (ji := 3) hg clX6 rfl (by decide) rfl rfl rfl ho (rg_min (hR1 p1 3) (rg_ln (o + 1))) wd_154 dX6_copyFrom_21 rfl ?_
  rw [e2]
  refine fW_rg (fun hR2 => ?_)
  refine fW_aload_n 25 dX6_copyFrom_24 rfl rfl ?_
  refine fW_aload_n 26 dX6_copyFrom_25 rfl rfl ?_
  refine fW_getI 29 4 (ji := 4) hg clX6 rfl (by decide) rfl hp1 wd_161 dX6_copyFrom_26 rfl ?_
  obtain ⟨N3, e3, h⟩ := fBd h
  replace e3 := Option.some.inj e3
  refine fW_putI 32 4 (ji := 4) hg clX6 rfl (by decide) rfl rfl rfl ho (hR2 p1 4) wd_161 dX6_copyFrom_29 rfl ?_
  rw [e3]
  refine fW_rg (fun hR3 => ?_)
  refine fW_aload_n 33 dX6_copyFrom_32 rfl rfl ?_
  refine fW_aload_n 34 dX6_copyFrom_33 rfl rfl ?_
  refine fW_getI 37 5 (ji := 5) hg clX6 rfl (by decide) rfl hp1 wd_163 dX6_copyFrom_34 rfl ?_
  obtain ⟨N4, e4, h⟩ := fBd h
  replace e4 := Option.some.inj e4
  refine fW_putI 40 5 (ji := 5) hg clX6 rfl (by decide) rfl rfl rfl ho (hR3 p1 5) wd_163 dX6_copyFrom_37 rfl ?_
  rw [e4]
  refine fW_rg (fun hR4 => ?_)
  refine fW_aload_n 41 dX6_copyFrom_40 rfl rfl ?_
  refine fW_getR 44 (r := p1 + 1) 0 hg clX6 (by decide) rfl hp1 (tf_6_0 hp1) wd_147 dX6_copyFrom_41 rfl ?_
  refine fW_iconst 45 dX6_copyFrom_44 rfl ?_
  refine fW_aload_n 46 dX6_copyFrom_45 rfl rfl ?_
  refine fW_getR 49 (r := o + 1) 0 hg clX6 (by decide) rfl ho (tf_6_0 ho) wd_147 dX6_copyFrom_46 rfl ?_
  refine fW_iconst 50 dX6_copyFrom_49 rfl ?_
  refine fW_aload_n 51 dX6_copyFrom_50 rfl rfl ?_
  refine fW_getI 54 3 (ji := 3) hg clX6 rfl (by decide) rfl ho wd_154 dX6_copyFrom_51 rfl ?_
  obtain ⟨c5, h⟩ := fS h
  obtain ⟨N6, e6, h⟩ := fBd h
  replace e6 := Option.some.inj e6
  refine fW_acopy 57 hg (tt_6_0 hp1) (tt_6_0 ho) c5 wd_684 (by decide) (Nat.le_of_ble_eq_true rfl) dX6_copyFrom_54 rfl ?_
  rw [e6]
  refine fW_rg (fun hR6 => ?_)
  refine fW_aload_n 58 dX6_copyFrom_57 rfl rfl ?_
  refine fW_getR 61 (r := p1 + 2) 1 hg clX6 (by decide) rfl hp1 (tf_6_1 hp1) wd_149 dX6_copyFrom_58 rfl ?_
  refine fW_iconst 62 dX6_copyFrom_61 rfl ?_
  refine fW_aload_n 63 dX6_copyFrom_62 rfl rfl ?_
  refine fW_getR 66 (r := o + 2) 1 hg clX6 (by decide) rfl ho (tf_6_1 ho) wd_149 dX6_copyFrom_63 rfl ?_
  refine fW_iconst 67 dX6_copyFrom_66 rfl ?_
  refine fW_aload_n 68 dX6_copyFrom_67 rfl rfl ?_
  refine fW_getI 71 3 (ji := 3) hg clX6 rfl (by decide) rfl ho wd_154 dX6_copyFrom_68 rfl ?_
  obtain ⟨c7, h⟩ := fS h
  obtain ⟨N8, e8, h⟩ := fBd h
  replace e8 := Option.some.inj e8
  refine fW_acopy 74 hg (tt_6_1 hp1) (tt_6_1 ho) c7 wd_684 (by decide) (Nat.le_of_ble_eq_true rfl) dX6_copyFrom_71 rfl ?_
  rw [e8]
  refine fW_rg (fun hR8 => ?_)
  exact fW_vret rfl (by decide) (by decide) dX6_copyFrom_74 (rV_i h)
end MTH
