section MTH
def mX7_copyFrom : fMt := (yX7_copyFrom, cX7_copyFrom, 3, none, { frames := 3, cells := 0, slots := 0, locals := 120 })
theorem miX7_copyFrom : fMv mX7_copyFrom 1 := ⟨⟨fM 1104 (by decide +kernel) rfl, fM 91 (by decide +kernel) rfl, ⟨by decide +kernel, by decide +kernel⟩, by decide +kernel⟩, fM 1102 (by decide +kernel) rfl, fM 1103 (by decide +kernel) rfl⟩
def L_X7_copyFrom_2 (o : Nat) (k : fMem → Option (fMem)) : Nat → Nat → Int → fMem → Option (fMem)
  | 0, _, _, _ => none
  | n + 1, w1, v2, M => (if 19 ≤ v2 then k  M else (if 0 ≤ v2 ∧ v2 < 19 then ((f_X6_copyFrom (o + 3 * v2.toNat + 3) (w1 + 3 * v2.toNat + 3) M).bind fun (r5 : fMem) => L_X7_copyFrom_2 o k n w1 (v2 + 1) r5) else none))
set_option maxRecDepth 100000 in
set_option maxHeartbeats 4000000 in
theorem l_X7_copyFrom_2 {G : fG} (hg : gbt G = true) {o : Nat} (ho : fTyp o 7) {q : fMem} {k : fMem → Option (fMem)} (hk : ∀ (M : fMem), k M = some q → fW G mX7_copyFrom (fEm G mX7_copyFrom (rV q) fNo) 0 0 29 [some (rv G o), none, none] [] M) : ∀ (n : Nat) (w1 : Nat) (v2 : Int) (M : fMem), fTyp w1 7 → rg v2 → L_X7_copyFrom_2 o k n w1 v2 M = some q → fW G mX7_copyFrom (fEm G mX7_copyFrom (rV q) fNo) 0 0 2 [some (rv G o), some (rv G w1), some (iv v2)] [] M := by
  intro n
  induction n with
  | zero =>
    intro w1 v2 M tw1 gv2 h
    rw [L_X7_copyFrom_2] at h
    exact absurd h (by simp)
  | succ n ih =>
    intro w1 v2 M tw1 gv2 h
    rw [L_X7_copyFrom_2] at h
    refine fW_rg (fun hR => ?_)
    refine fW_iload_n 3 dX7_copyFrom_2 rfl rfl ?_
    refine fW_bipush 5 dX7_copyFrom_3 rfl (by decide) ?_
    refine fW_icmp_ge 8 29 gv2 (by decide) dX7_copyFrom_5 rfl rfl (fun c1 => ?_) (fun c1 => ?_)
    · replace h := fTt h c1
      exact fW_sb (hk M h) ⟨rfl, trivial⟩
    · replace h := fFf h c1
      refine fW_aload_n 9 dX7_copyFrom_8 rfl rfl ?_
      refine fW_getR 12 (r := o + 1) 0 hg clX7 (by decide) rfl ho (tf_7_0 ho) wd_180 dX7_copyFrom_9 rfl ?_
      refine fW_iload_n 13 dX7_copyFrom_12 rfl rfl ?_
      obtain ⟨c2, h⟩ := fS h
      have t3 := ta_16 (r := o + 3 * v2.toNat + 3) (tt_7_0 ho) c2 (by omega)
      refine fW_aald 14 4 hg (tt_7_0 ho) (by decide) (by decide) t3.1 t3.2.2 rfl dX7_copyFrom_13 rfl ?_
      refine fW_aload_n 15 dX7_copyFrom_14 rfl rfl ?_
      refine fW_getR 18 (r := w1 + 1) 0 hg clX7 (by decide) rfl tw1 (tf_7_0 tw1) wd_180 dX7_copyFrom_15 rfl ?_
      refine fW_iload_n 19 dX7_copyFrom_18 rfl rfl ?_
      have t4 := ta_16 (r := w1 + 3 * v2.toNat + 3) (tt_7_0 tw1) c2 (by omega)
      refine fW_aald 20 4 hg (tt_7_0 tw1) (by decide) (by decide) t4.1 t4.2.2 rfl dX7_copyFrom_19 rfl ?_
      obtain ⟨r5, e5, h⟩ := fBd h
      refine fW_cV (fI_V (as := [rv G (w1 + 3 * v2.toNat + 3)]) (rest := []) miX6_copyFrom hg clX6 rfl t3.2.1 wd_679 (fRoom_of rfl) rfl (Nat.le_of_ble_eq_true rfl) dX7_copyFrom_20) (s_X6_copyFrom hg t3.2.1 t4.2.1 e5) rfl rfl rfl ?_
      refine fW_rg (fun hR6 => ?_)
      refine fW_iinc 26 (ls' := [some (rv G o), some (rv G w1), some (iv (v2 + 1))]) dX7_copyFrom_23 rfl rfl rfl (by decide) ?_
      refine fW_goto 2 dX7_copyFrom_26 rfl ?_
      exact fW_sb (ih w1 (v2 + 1) r5 tw1 (rg_succ' gv2 (by decide) c1) h) ⟨rfl, rfl, rfl, trivial⟩
def f_X7_copyFrom (o : Nat) (p1 : Nat) (M : fMem) : Option (fMem) := L_X7_copyFrom_2 o (fun  (M_7 : fMem) => some M_7) 20000 p1 0 M
set_option maxRecDepth 100000 in
set_option maxHeartbeats 4000000 in
theorem s_X7_copyFrom {G : fG} (hg : gbt G = true) {o : Nat} (ho : fTyp o 7) {p1 : Nat} (hp1 : fTyp p1 7) {M : fMem} {q : fMem} (h : f_X7_copyFrom o p1 M = some q) : fSp G mX7_copyFrom [rv G o, rv G p1] M (rV q) fNo := by
  refine fSp_of (by decide +kernel) (by decide +kernel) (fC1 rfl (fC1 rfl fC0)) (Nat.le_of_ble_eq_true rfl) ?_
  show fW G mX7_copyFrom (fEm G mX7_copyFrom (rV q) fNo) 0 0 0 [some (rv G o), some (rv G p1), none] [] M
  rw [f_X7_copyFrom] at h
  refine fW_rg (fun hR => ?_)
  refine fW_iconst 1 dX7_copyFrom_0 rfl ?_
  refine fW_istore_n 2 (ls' := [some (rv G o), some (rv G p1), some (iv 0)]) dX7_copyFrom_1 rfl rfl rfl (by decide) ?_
  refine fW_sb (l_X7_copyFrom_2 hg ho ?_ 20000 p1 0 M hp1 (by decide) h) ⟨rfl, rfl, rfl, trivial⟩
  intro M_7 h
  refine fW_rg (fun hR_7 => ?_)
  exact fW_vret rfl (by decide) (by decide) dX7_copyFrom_29 (rV_i h)
def mX4_copyFrom : fMt := (yX4_copyFrom, cX4_copyFrom, 2, none, { frames := 0, cells := 0, slots := 0, locals := 0 })
theorem miX4_copyFrom : fMv mX4_copyFrom 1 := ⟨⟨fM 1108 (by decide +kernel) rfl, fM 94 (by decide +kernel) rfl, ⟨by decide +kernel, by decide +kernel⟩, by decide +kernel⟩, fM 1106 (by decide +kernel) rfl, fM 1107 (by decide +kernel) rfl⟩
def f_X4_copyFrom (o : Nat) (p1 : Nat) (M : fMem) : Option (fMem) := (if 0 ≤ M p1 0 ∧ M p1 0 ≤ 1 then ((some (mset M o 0 (M p1 0))).bind fun (N2 : fMem) => (if 0 ≤ N2 p1 1 ∧ N2 p1 1 ≤ 1 then ((some (mset N2 o 1 (N2 p1 1))).bind fun (N4 : fMem) => ((some (mset N4 o 2 (N4 p1 2))).bind fun (N5 : fMem) => ((some (mset N5 o 3 (N5 p1 3))).bind fun (N6 : fMem) => ((some (mset N6 o 4 (N6 p1 4))).bind fun (N7 : fMem) => ((some (mset N7 o 5 (N7 p1 5))).bind fun (N8 : fMem) => ((some (mset N8 o 6 (N8 p1 6))).bind fun (N9 : fMem) => ((some (mset N9 o 7 (N9 p1 7))).bind fun (N10 : fMem) => ((some (mset N10 o 8 (N10 p1 8))).bind fun (N11 : fMem) => some N11)))))))) else none)) else none)
set_option maxRecDepth 100000 in
set_option maxHeartbeats 4000000 in
theorem s_X4_copyFrom {G : fG} (hg : gbt G = true) {o : Nat} (ho : fTyp o 4) {p1 : Nat} (hp1 : fTyp p1 4) {M : fMem} {q : fMem} (h : f_X4_copyFrom o p1 M = some q) : fSp G mX4_copyFrom [rv G o, rv G p1] M (rV q) fNo := by
  refine fSp_of (by decide +kernel) (by decide +kernel) (fC1 rfl (fC1 rfl fC0)) (Nat.le_of_ble_eq_true rfl) ?_
  show fW G mX4_copyFrom (fEm G mX4_copyFrom (rV q) fNo) 0 0 0 [some (rv G o), some (rv G p1)] [] M
  rw [f_X4_copyFrom] at h
  refine fW_rg (fun hR => ?_)
  refine fW_aload_n 1 dX4_copyFrom_0 rfl rfl ?_
  refine fW_aload_n 2 dX4_copyFrom_1 rfl rfl ?_
  refine fW_getI 5 0 (ji := 0) hg clX4 rfl (by decide) rfl hp1 wd_206 dX4_copyFrom_2 rfl ?_
  obtain ⟨c1, h⟩ := fS h
  obtain ⟨N2, e2, h⟩ := fBd h
  replace e2 := Option.some.inj e2
  refine fW_putZ 8 0 (ji := 0) hg clX4 rfl (by decide) rfl rfl rfl ho c1 wd_206 dX4_copyFrom_5 rfl ?_
  rw [e2]
  refine fW_rg (fun hR2 => ?_)
  refine fW_aload_n 9 dX4_copyFrom_8 rfl rfl ?_
  refine fW_aload_n 10 dX4_copyFrom_9 rfl rfl ?_
  refine fW_getI 13 1 (ji := 1) hg clX4 rfl (by decide) rfl hp1 wd_209 dX4_copyFrom_10 rfl ?_
  obtain ⟨c3, h⟩ := fS h
  obtain ⟨N4, e4, h⟩ := fBd h
  replace e4 := Option.some.inj e4
  refine fW_putZ 16 1 (ji := 1) hg clX4 rfl (by decide) rfl rfl rfl ho c3 wd_209 dX4_copyFrom_13 rfl ?_
  rw [e4]
  refine fW_rg (fun hR4 => ?_)
  refine fW_aload_n 17 dX4_copyFrom_16 rfl rfl ?_
  refine fW_aload_n 18 dX4_copyFrom_17 rfl rfl ?_
  refine fW_getI 21 2 (ji := 2) hg clX4 rfl (by decide) rfl hp1 wd_212 dX4_copyFrom_18 rfl ?_
  obtain ⟨N5, e5, h⟩ := fBd h
  replace e5 := Option.some.inj e5
  refine fW_putI 24 2 (ji := 2) hg clX4 rfl (by decide) rfl rfl rfl ho (hR4 p1 2) wd_212 dX4_copyFrom_21 rfl ?_
  rw [e5]
  refine fW_rg (fun hR5 => ?_)
  refine fW_aload_n 25 dX4_copyFrom_24 rfl rfl ?_
  refine fW_aload_n 26 dX4_copyFrom_25 rfl rfl ?_
  refine fW_getI 29 3 (ji := 3) hg clX4 rfl (by decide) rfl hp1 wd_214 dX4_copyFrom_26 rfl ?_
  obtain ⟨N6, e6, h⟩ := fBd h
  replace e6 := Option.some.inj e6
  refine fW_putI 32 3 (ji := 3) hg clX4 rfl (by decide) rfl rfl rfl ho (hR5 p1 3) wd_214 dX4_copyFrom_29 rfl ?_
  rw [e6]
  refine fW_rg (fun hR6 => ?_)
  refine fW_aload_n 33 dX4_copyFrom_32 rfl rfl ?_
  refine fW_aload_n 34 dX4_copyFrom_33 rfl rfl ?_
  refine fW_getI 37 4 (ji := 4) hg clX4 rfl (by decide) rfl hp1 wd_216 dX4_copyFrom_34 rfl ?_
  obtain ⟨N7, e7, h⟩ := fBd h
  replace e7 := Option.some.inj e7
  refine fW_putI 40 4 (ji := 4) hg clX4 rfl (by decide) rfl rfl rfl ho (hR6 p1 4) wd_216 dX4_copyFrom_37 rfl ?_
  rw [e7]
  refine fW_rg (fun hR7 => ?_)
  refine fW_aload_n 41 dX4_copyFrom_40 rfl rfl ?_
  refine fW_aload_n 42 dX4_copyFrom_41 rfl rfl ?_
  refine fW_getI 45 5 (ji := 5) hg clX4 rfl (by decide) rfl hp1 wd_218 dX4_copyFrom_42 rfl ?_
  obtain ⟨N8, e8, h⟩ := fBd h
  replace e8 := Option.some.inj e8
  refine fW_putI 48 5 (ji := 5) hg clX4 rfl (by decide) rfl rfl rfl ho (hR7 p1 5) wd_218 dX4_copyFrom_45 rfl ?_
  rw [e8]
  refine fW_rg (fun hR8 => ?_)
  refine fW_aload_n 49 dX4_copyFrom_48 rfl rfl ?_
  refine fW_aload_n 50 dX4_copyFrom_49 rfl rfl ?_
  refine fW_getI 53 6 (ji := 6) hg clX4 rfl (by decide) rfl hp1 wd_220 dX4_copyFrom_50 rfl ?_
  obtain ⟨N9, e9, h⟩ := fBd h
  replace e9 := Option.some.inj e9
  refine fW_putI 56 6 (ji := 6) hg clX4 rfl (by decide) rfl rfl rfl ho (hR8 p1 6) wd_220 dX4_copyFrom_53 rfl ?_
  rw [e9]
  refine fW_rg (fun hR9 => ?_)
  refine fW_aload_n 57 dX4_copyFrom_56 rfl rfl ?_
  refine fW_aload_n 58 dX4_copyFrom_57 rfl rfl ?_
  refine fW_getI 61 7 (ji := 7) hg clX4 rfl (by decide) rfl hp1 wd_222 dX4_copyFrom_58 rfl ?_
  obtain ⟨N10, e10, h⟩ := fBd h
  replace e10 := Option.some.inj e10
  refine fW_putI 64 7 (ji := 7) hg clX4 rfl (by decide) rfl rfl rfl ho (hR9 p1 7) wd_222 dX4_copyFrom_61 rfl ?_
  rw [e10]
  refine fW_rg (fun hR10 => ?_)
  refine fW_aload_n 65 dX4_copyFrom_64 rfl rfl ?_
  refine fW_aload_n 66 dX4_copyFrom_65 rfl rfl ?_
  refine fW_getI 69 8 (ji := 8) hg clX4 rfl (by decide) rfl hp1 wd_225 dX4_copyFrom_66 rfl ?_
  obtain ⟨N11, e11, h⟩ := fBd h
  replace e11 := Option.some.inj e11
  refine fW_putI 72 8 (ji := 8) hg clX4 rfl (by decide) rfl rfl rfl ho (hR10 p1 8) wd_225 dX4_copyFrom_69 rfl ?_
  rw [e11]
  refine fW_rg (fun hR11 => ?_)
  exact fW_vret rfl (by decide) (by decide) dX4_copyFrom_72 (rV_i h)
def mX0_copyFrom : fMt := (yX0_copyFrom, cX0_copyFrom, 3, none, { frames := 4, cells := 0, slots := 0, locals := 160 })
theorem miX0_copyFrom : fMv mX0_copyFrom 1 := ⟨⟨fM 1100 (by decide +kernel) rfl, fM 90 (by decide +kernel) rfl, ⟨by decide +kernel, by decide +kernel⟩, by decide +kernel⟩, fM 1098 (by decide +kernel) rfl, fM 1099 (by decide +kernel) rfl⟩
def L_X0_copyFrom_13 (o : Nat) (k : Nat → fMem → Option (fMem)) : Nat → Nat → Int → fMem → Option (fMem)
  | 0, _, _, _ => none
  | n + 1, w1, v2, M => (if 9 ≤ v2 then k w1 M else (if 0 ≤ v2 ∧ v2 < 9 then ((f_X4_copyFrom (o + v2.toNat + 62) (w1 + v2.toNat + 62) M).bind fun (r7 : fMem) => L_X0_copyFrom_13 o k n w1 (v2 + 1) r7) else none))
set_option maxRecDepth 100000 in
set_option maxHeartbeats 4000000 in
theorem l_X0_copyFrom_13 {G : fG} (hg : gbt G = true) {o : Nat} (ho : fTyp o 0) {q : fMem} {k : Nat → fMem → Option (fMem)} (hk : ∀ (w1 : Nat) (M : fMem), fTyp w1 0 → k w1 M = some q → fW G mX0_copyFrom (fEm G mX0_copyFrom (rV q) fNo) 0 0 40 [some (rv G o), some (rv G w1), none] [] M) : ∀ (n : Nat) (w1 : Nat) (v2 : Int) (M : fMem), fTyp w1 0 → rg v2 → L_X0_copyFrom_13 o k n w1 v2 M = some q → fW G mX0_copyFrom (fEm G mX0_copyFrom (rV q) fNo) 0 0 13 [some (rv G o), some (rv G w1), some (iv v2)] [] M := by
  intro n
  induction n with
  | zero =>
    intro w1 v2 M tw1 gv2 h
    rw [L_X0_copyFrom_13] at h
    exact absurd h (by simp)
  | succ n ih =>
    intro w1 v2 M tw1 gv2 h
    rw [L_X0_copyFrom_13] at h
    refine fW_rg (fun hR => ?_)
    refine fW_iload_n 14 dX0_copyFrom_13 rfl rfl ?_
    refine fW_bipush 16 dX0_copyFrom_14 rfl (by decide) ?_
    refine fW_icmp_ge 19 40 gv2 (by decide) dX0_copyFrom_16 rfl rfl (fun c3 => ?_) (fun c3 => ?_)
    · replace h := fTt h c3
      exact fW_sb (hk w1 M tw1 h) ⟨rfl, rfl, trivial⟩
    · replace h := fFf h c3
      refine fW_aload_n 20 dX0_copyFrom_19 rfl rfl ?_
      refine fW_getR 23 (r := o + 61) 1 hg clX0 (by decide) rfl ho (tf_0_1 ho) wd_249 dX0_copyFrom_20 rfl ?_
      refine fW_iload_n 24 dX0_copyFrom_23 rfl rfl ?_
      obtain ⟨c4, h⟩ := fS h
      have t5 := ta_15 (r := o + v2.toNat + 62) (tt_0_1 ho) c4 (by omega)
      refine fW_aald 25 3 hg (tt_0_1 ho) (by decide) (by decide) t5.1 t5.2.2 rfl dX0_copyFrom_24 rfl ?_
      refine fW_aload_n 26 dX0_copyFrom_25 rfl rfl ?_
      refine fW_getR 29 (r := w1 + 61) 1 hg clX0 (by decide) rfl tw1 (tf_0_1 tw1) wd_249 dX0_copyFrom_26 rfl ?_
      refine fW_iload_n 30 dX0_copyFrom_29 rfl rfl ?_
      have t6 := ta_15 (r := w1 + v2.toNat + 62) (tt_0_1 tw1) c4 (by omega)
      refine fW_aald 31 3 hg (tt_0_1 tw1) (by decide) (by decide) t6.1 t6.2.2 rfl dX0_copyFrom_30 rfl ?_
      obtain ⟨r7, e7, h⟩ := fBd h
      refine fW_cV (fI_V (as := [rv G (w1 + v2.toNat + 62)]) (rest := []) miX4_copyFrom hg clX4 rfl t5.2.1 wd_1105 (fRoom_of rfl) rfl (Nat.le_of_ble_eq_true rfl) dX0_copyFrom_31) (s_X4_copyFrom hg t5.2.1 t6.2.1 e7) rfl rfl rfl ?_
      refine fW_rg (fun hR8 => ?_)
      refine fW_iinc 37 (ls' := [some (rv G o), some (rv G w1), some (iv (v2 + 1))]) dX0_copyFrom_34 rfl rfl rfl (by decide) ?_
      refine fW_goto 13 dX0_copyFrom_37 rfl ?_
      exact fW_sb (ih w1 (v2 + 1) r7 tw1 (rg_succ' gv2 (by decide) c3) h) ⟨rfl, rfl, rfl, trivial⟩
def f_X0_copyFrom (o : Nat) (p1 : Nat) (M : fMem) : Option (fMem) := ((f_X7_copyFrom (o + 1) (p1 + 1) M).bind fun (r1 : fMem) => L_X0_copyFrom_13 o (fun (w1_9 : Nat) (M_9 : fMem) => ((some (mset M_9 o 2 (M_9 w1_9 2))).bind fun (N10 : fMem) => ((some (mset N10 o 3 (N10 w1_9 3))).bind fun (N11 : fMem) => ((some (mset N11 o 4 (N11 w1_9 4))).bind fun (N12 : fMem) => ((some (mset N12 o 5 (N12 w1_9 5))).bind fun (N13 : fMem) => ((some (mset N13 o 6 (N13 w1_9 6))).bind fun (N14 : fMem) => ((some (mset N14 o 7 (N14 w1_9 7))).bind fun (N15 : fMem) => ((some (mset N15 o 8 (N15 w1_9 8))).bind fun (N16 : fMem) => ((some (mset N16 o 9 (N16 w1_9 9))).bind fun (N17 : fMem) => some N17))))))))) 20000 p1 0 r1)
set_option maxRecDepth 100000 in
set_option maxHeartbeats 4000000 in
theorem s_X0_copyFrom {G : fG} (hg : gbt G = true) {o : Nat} (ho : fTyp o 0) {p1 : Nat} (hp1 : fTyp p1 0) {M : fMem} {q : fMem} (h : f_X0_copyFrom o p1 M = some q) : fSp G mX0_copyFrom [rv G o, rv G p1] M (rV q) fNo := by
  refine fSp_of (by decide +kernel) (by decide +kernel) (fC1 rfl (fC1 rfl fC0)) (Nat.le_of_ble_eq_true rfl) ?_
  show fW G mX0_copyFrom (fEm G mX0_copyFrom (rV q) fNo) 0 0 0 [some (rv G o), some (rv G p1), none] [] M
  rw [f_X0_copyFrom] at h
  refine fW_rg (fun hR => ?_)
  refine fW_aload_n 1 dX0_copyFrom_0 rfl rfl ?_
  refine fW_getR 4 (r := o + 1) 0 hg clX0 (by decide) rfl ho (tf_0_0 ho) wd_247 dX0_copyFrom_1 rfl ?_
  refine fW_aload_n 5 dX0_copyFrom_4 rfl rfl ?_
  refine fW_getR 8 (r := p1 + 1) 0 hg clX0 (by decide) rfl hp1 (tf_0_0 hp1) wd_247 dX0_copyFrom_5 rfl ?_
  obtain ⟨r1, e1, h⟩ := fBd h
  refine fW_cV (fI_V (as := [rv G (p1 + 1)]) (rest := []) miX7_copyFrom hg clX7 rfl (tt_0_0 ho) wd_1101 (fRoom_of rfl) rfl (Nat.le_of_ble_eq_true rfl) dX0_copyFrom_8) (s_X7_copyFrom hg (tt_0_0 ho) (tt_0_0 hp1) e1) rfl rfl rfl ?_
  refine fW_rg (fun hR2 => ?_)
  refine fW_iconst 12 dX0_copyFrom_11 rfl ?_
  refine fW_istore_n 13 (ls' := [some (rv G o), some (rv G p1), some (iv 0)]) dX0_copyFrom_12 rfl rfl rfl (by decide) ?_
  refine fW_sb (l_X0_copyFrom_13 hg ho ?_ 20000 p1 0 r1 hp1 (by decide) h) ⟨rfl, rfl, rfl, trivial⟩
  intro w1_9 M_9 tw1_9 h
  refine fW_rg (fun hR_9 => ?_)
  refine fW_aload_n 41 dX0_copyFrom_40 rfl rfl ?_
  refine fW_aload_n 42 dX0_copyFrom_41 rfl rfl ?_
  refine fW_getI 45 2 (ji := 2) hg clX0 rfl (by decide) rfl tw1_9 wd_251 dX0_copyFrom_42 rfl ?_
  obtain ⟨N10, e10, h⟩ := fBd h
  replace e10 := Option.some.inj e10
  refine fW_putI 48 2 (ji := 2) hg clX0 rfl (by decide) rfl rfl rfl ho (hR_9 w1_9 2) wd_251 dX0_copyFrom_45 rfl ?_
  rw [e10]
  refine fW_rg (fun hR10 => ?_)
  refine fW_aload_n 49 dX0_copyFrom_48 rfl rfl ?_
  refine fW_aload_n 50 dX0_copyFrom_49 rfl rfl ?_
  refine fW_getI 53 3 (ji := 3) hg clX0 rfl (by decide) rfl tw1_9 wd_253 dX0_copyFrom_50 rfl ?_
  obtain ⟨N11, e11, h⟩ := fBd h
  replace e11 := Option.some.inj e11
  refine fW_putI 56 3 (ji := 3) hg clX0 rfl (by decide) rfl rfl rfl ho (hR10 w1_9 3) wd_253 dX0_copyFrom_53 rfl ?_
  rw [e11]
  refine fW_rg (fun hR11 => ?_)
  refine fW_aload_n 57 dX0_copyFrom_56 rfl rfl ?_
  refine fW_aload_n 58 dX0_copyFrom_57 rfl rfl ?_
  refine fW_getI 61 4 (ji := 4) hg clX0 rfl (by decide) rfl tw1_9 wd_254 dX0_copyFrom_58 rfl ?_
  obtain ⟨N12, e12, h⟩ := fBd h
  replace e12 := Option.some.inj e12
  refine fW_putI 64 4 (ji := 4) hg clX0 rfl (by decide) rfl rfl rfl ho (hR11 w1_9 4) wd_254 dX0_copyFrom_61 rfl ?_
  rw [e12]
  refine fW_rg (fun hR12 => ?_)
  refine fW_aload_n 65 dX0_copyFrom_64 rfl rfl ?_
  refine fW_aload_n 66 dX0_copyFrom_65 rfl rfl ?_
  refine fW_getI 69 5 (ji := 5) hg clX0 rfl (by decide) rfl tw1_9 wd_256 dX0_copyFrom_66 rfl ?_
  obtain ⟨N13, e13, h⟩ := fBd h
  replace e13 := Option.some.inj e13
  refine fW_putI 72 5 (ji := 5) hg clX0 rfl (by decide) rfl rfl rfl ho (hR12 w1_9 5) wd_256 dX0_copyFrom_69 rfl ?_
  rw [e13]
  refine fW_rg (fun hR13 => ?_)
  refine fW_aload_n 73 dX0_copyFrom_72 rfl rfl ?_
  refine fW_aload_n 74 dX0_copyFrom_73 rfl rfl ?_
  refine fW_getI 77 6 (ji := 6) hg clX0 rfl (by decide) rfl tw1_9 wd_258 dX0_copyFrom_74 rfl ?_
  obtain ⟨N14, e14, h⟩ := fBd h
  replace e14 := Option.some.inj e14
  refine fW_putI 80 6 (ji := 6) hg clX0 rfl (by decide) rfl rfl rfl ho (hR13 w1_9 6) wd_258 dX0_copyFrom_77 rfl ?_
  rw [e14]
  refine fW_rg (fun hR14 => ?_)
  refine fW_aload_n 81 dX0_copyFrom_80 rfl rfl ?_
  refine fW_aload_n 82 dX0_copyFrom_81 rfl rfl ?_
  refine fW_getI 85 7 (ji := 7) hg clX0 rfl (by decide) rfl tw1_9 wd_260 dX0_copyFrom_82 rfl ?_
  obtain ⟨N15, e15, h⟩ := fBd h
  replace e15 := Option.some.inj e15
  refine fW_putI 88 7 (ji := 7) hg clX0 rfl (by decide) rfl rfl rfl ho (hR14 w1_9 7) wd_260 dX0_copyFrom_85 rfl ?_
  rw [e15]
  refine fW_rg (fun hR15 => ?_)
  refine fW_aload_n 89 dX0_copyFrom_88 rfl rfl ?_
  refine fW_aload_n 90 dX0_copyFrom_89 rfl rfl ?_
  refine fW_getI 93 8 (ji := 8) hg clX0 rfl (by decide) rfl tw1_9 wd_262 dX0_copyFrom_90 rfl ?_
  obtain ⟨N16, e16, h⟩ := fBd h
  replace e16 := Option.some.inj e16
  refine fW_putI 96 8 (ji := 8) hg clX0 rfl (by decide) rfl rfl rfl ho (hR15 w1_9 8) wd_262 dX0_copyFrom_93 rfl ?_
  rw [e16]
  refine fW_rg (fun hR16 => ?_)
  refine fW_aload_n 97 dX0_copyFrom_96 rfl rfl ?_
  refine fW_aload_n 98 dX0_copyFrom_97 rfl rfl ?_
  refine fW_getI 101 9 (ji := 9) hg clX0 rfl (by decide) rfl tw1_9 wd_264 dX0_copyFrom_98 rfl ?_
  obtain ⟨N17, e17, h⟩ := fBd h
  replace e17 := Option.some.inj e17
  refine fW_putI 104 9 (ji := 9) hg clX0 rfl (by decide) rfl rfl rfl ho (hR16 w1_9 9) wd_264 dX0_copyFrom_101 rfl ?_
  rw [e17]
  refine fW_rg (fun hR17 => ?_)
  exact fW_vret rfl (by decide) (by decide) dX0_copyFrom_104 (rV_i h)
def mX1_clear : fMt := (yX1_clear, cX1_clear, 1, none, { frames := 0, cells := 0, slots := 0, locals := 0 })
theorem miX1_clear : fMv mX1_clear 0 := ⟨⟨fM 794 (by decide +kernel) rfl, fM 98 (by decide +kernel) rfl, ⟨by decide +kernel, by decide +kernel⟩, by decide +kernel⟩, fM 792 (by decide +kernel) rfl, fM 793 (by decide +kernel) rfl⟩
def f_X1_clear (o : Nat) (M : fMem) : Option (fMem) := ((some (mset M o 3 0)).bind fun (N1 : fMem) => ((some (mset N1 o 4 0)).bind fun (N2 : fMem) => some N2))
set_option maxRecDepth 100000 in
set_option maxHeartbeats 4000000 in
theorem s_X1_clear {G : fG} (hg : gbt G = true) {o : Nat} (ho : fTyp o 1) {M : fMem} {q : fMem} (h : f_X1_clear o M = some q) : fSp G mX1_clear [rv G o] M (rV q) fNo := by
  refine fSp_of (by decide +kernel) (by decide +kernel) (fC1 rfl fC0) (Nat.le_of_ble_eq_true rfl) ?_
  show fW G mX1_clear (fEm G mX1_clear (rV q) fNo) 0 0 0 [some (rv G o)] [] M
  rw [f_X1_clear] at h
  refine fW_rg (fun hR => ?_)
  refine fW_aload_n 1 dX1_clear_0 rfl rfl ?_
  refine fW_iconst 2 dX1_clear_1 rfl ?_
  obtain ⟨N1, e1, h⟩ := fBd h
  replace e1 := Option.some.inj e1
  refine fW_putI 5 3 (ji := 3) hg clX1 rfl (by decide) rfl rfl rfl ho (by decide) wd_344 dX1_clear_2 rfl ?_
  rw [e1]
  refine fW_rg (fun hR1 => ?_)
  refine fW_aload_n 6 dX1_clear_5 rfl rfl ?_
  refine fW_iconst 7 dX1_clear_6 rfl ?_
  obtain ⟨N2, e2, h⟩ := fBd h
  replace e2 := Option.some.inj e2
  refine fW_putI 10 4 (ji := 4) hg clX1 rfl (by decide) rfl rfl rfl ho (by decide) wd_348 dX1_clear_7 rfl ?_
  rw [e2]
  refine fW_rg (fun hR2 => ?_)
  exact fW_vret rfl (by decide) (by decide) dX1_clear_10 (rV_i h)
def mX1_append : fMt := (yX1_append, cX1_append, 4, none, { frames := 0, cells := 0, slots := 0, locals := 0 })
theorem miX1_append : fMv mX1_append 3 := ⟨⟨fM 817 (by decide +kernel) rfl, fM 98 (by decide +kernel) rfl, ⟨by decide +kernel, by decide +kernel⟩, by decide +kernel⟩, fM 815 (by decide +kernel) rfl, fM 816 (by decide +kernel) rfl⟩
def f_X1_append (o : Nat) (a1 : Int) (a2 : Int) (a3 : Int) (M : fMem) : Option (fMem) := (if (Ln (o + 1)) ≤ (M o 3) then some M else (if 0 ≤ M o 3 ∧ M o 3 < Ln (o + 1) then ((some (mset M (o + 1) (M o 3) a1)).bind fun (N3 : fMem) => (if 0 ≤ N3 o 3 ∧ N3 o 3 < Ln (o + 2) then ((some (mset N3 (o + 2) (N3 o 3) a2)).bind fun (N5 : fMem) => (if 0 ≤ N5 o 3 ∧ N5 o 3 < Ln (o + 3) then ((some (mset N5 (o + 3) (N5 o 3) a3)).bind fun (N7 : fMem) => (if -2147483648 ≤ (N7 o 3) + 1 ∧ (N7 o 3) + 1 < 2147483648 then ((some (mset N7 o 3 ((N7 o 3) + 1))).bind fun (N9 : fMem) => (if a3 = ((-1)) then (if -2147483648 ≤ (N9 o 4) + 0 ∧ (N9 o 4) + 0 < 2147483648 then ((some (mset N9 o 4 ((N9 o 4) + 0))).bind fun (N14 : fMem) => some N14) else none) else (if -2147483648 ≤ (N9 o 4) + 1 ∧ (N9 o 4) + 1 < 2147483648 then ((some (mset N9 o 4 ((N9 o 4) + 1))).bind fun (N12 : fMem) => some N12) else none))) else none)) else none)) else none)) else none))
set_option maxRecDepth 100000 in
set_option maxHeartbeats 4000000 in
theorem s_X1_append {G : fG} (hg : gbt G = true) {o : Nat} (ho : fTyp o 1) {a1 : Int} (ga1 : rg a1) {a2 : Int} (ga2 : rg a2) {a3 : Int} (ga3 : rg a3) {M : fMem} {q : fMem} (h : f_X1_append o a1 a2 a3 M = some q) : fSp G mX1_append [rv G o, iv a1, iv a2, iv a3] M (rV q) fNo := by
  refine fSp_of (by decide +kernel) (by decide +kernel) (fC1 rfl (fC1 rfl (fC1 rfl (fC1 rfl fC0)))) (Nat.le_of_ble_eq_true rfl) ?_
  show fW G mX1_append (fEm G mX1_append (rV q) fNo) 0 0 0 [some (rv G o), some (iv a1), some (iv a2), some (iv a3)] [] M
  rw [f_X1_append] at h
  refine fW_rg (fun hR => ?_)
  refine fW_aload_n 1 dX1_append_0 rfl rfl ?_
  refine fW_getI 4 3 (ji := 3) hg clX1 rfl (by decide) rfl ho wd_344 dX1_append_1 rfl ?_
  refine fW_aload_n 5 dX1_append_4 rfl rfl ?_
  refine fW_getR 8 (r := o + 1) 0 hg clX1 (by decide) rfl ho (tf_1_0 ho) wd_340 dX1_append_5 rfl ?_
  refine fW_alen 9 hg (tt_1_0 ho) dX1_append_8 rfl ?_
  refine fW_icmp_ge 12 71 (hR o 3) (rg_ln (o + 1)) dX1_append_9 rfl rfl (fun c1 => ?_) (fun c1 => ?_)
  · replace h := fTt h c1
    exact fW_vret rfl (by decide) (by decide) dX1_append_71 (rV_i h)
  · replace h := fFf h c1
    refine fW_aload_n 13 dX1_append_12 rfl rfl ?_
    refine fW_getR 16 (r := o + 1) 0 hg clX1 (by decide) rfl ho (tf_1_0 ho) wd_340 dX1_append_13 rfl ?_
    refine fW_aload_n 17 dX1_append_16 rfl rfl ?_
    refine fW_getI 20 3 (ji := 3) hg clX1 rfl (by decide) rfl ho wd_344 dX1_append_17 rfl ?_
    refine fW_iload_n 21 dX1_append_20 rfl rfl ?_
    obtain ⟨c2, h⟩ := fS h
    obtain ⟨N3, e3, h⟩ := fBd h
    replace e3 := Option.some.inj e3
    refine fW_iast 22 hg (tt_1_0 ho) c2 ga1 dX1_append_21 rfl ?_
    rw [e3]
    refine fW_rg (fun hR3 => ?_)
    refine fW_aload_n 23 dX1_append_22 rfl rfl ?_
    refine fW_getR 26 (r := o + 2) 1 hg clX1 (by decide) rfl ho (tf_1_1 ho) wd_342 dX1_append_23 rfl ?_
    refine fW_aload_n 27 dX1_append_26 rfl rfl ?_
    refine fW_getI 30 3 (ji := 3) hg clX1 rfl (by decide) rfl ho wd_344 dX1_append_27 rfl ?_
    refine fW_iload_n 31 dX1_append_30 rfl rfl ?_
    obtain ⟨c4, h⟩ := fS h
    obtain ⟨N5, e5, h⟩ := fBd h
    replace e5 := Option.some.inj e5
    refine fW_iast 32 hg (tt_1_1 ho) c4 ga2 dX1_append_31 rfl ?_
    rw [e5]
    refine fW_rg (fun hR5 => ?_)
    refine fW_aload_n 33 dX1_append_32 rfl rfl ?_
    refine fW_getR 36 (r := o + 3) 2 hg clX1 (by decide) rfl ho (tf_1_2 ho) wd_343 dX1_append_33 rfl ?_
    refine fW_aload_n 37 dX1_append_36 rfl rfl ?_
    refine fW_getI 40 3 (ji := 3) hg clX1 rfl (by decide) rfl ho wd_344 dX1_append_37 rfl ?_
    refine fW_iload_n 41 dX1_append_40 rfl rfl ?_
    obtain ⟨c6, h⟩ := fS h
    obtain ⟨N7, e7, h⟩ := fBd h
    replace e7 := Option.some.inj e7
    refine fW_iast 42 hg (tt_1_2 ho) c6 ga3 dX1_append_41 rfl ?_
    rw [e7]
    refine fW_rg (fun hR7 => ?_)
    refine fW_aload_n 43 dX1_append_42 rfl rfl ?_
    refine fW_dup 44 dX1_append_43 rfl rfl ?_
    refine fW_getI 47 3 (ji := 3) hg clX1 rfl (by decide) rfl ho wd_344 dX1_append_44 rfl ?_
    refine fW_iconst 48 dX1_append_47 rfl ?_
    refine fW_iadd 49 dX1_append_48 rfl ?_
    obtain ⟨c8, h⟩ := fS h
    obtain ⟨N9, e9, h⟩ := fBd h
    replace e9 := Option.some.inj e9
    refine fW_putI 52 3 (ji := 3) hg clX1 rfl (by decide) rfl rfl rfl ho c8 wd_344 dX1_append_49 rfl ?_
    rw [e9]
    refine fW_rg (fun hR9 => ?_)
    refine fW_aload_n 53 dX1_append_52 rfl rfl ?_
    refine fW_dup 54 dX1_append_53 rfl rfl ?_
    refine fW_getI 57 4 (ji := 4) hg clX1 rfl (by decide) rfl ho wd_348 dX1_append_54 rfl ?_
    refine fW_iload_n 58 dX1_append_57 rfl rfl ?_
    refine fW_iconst 59 dX1_append_58 rfl ?_
    refine fW_icmp_ne 62 66 ga3 (by decide) dX1_append_59 rfl rfl (fun c10 => ?_) (fun c10 => ?_)
    · replace h := fFf h c10
      refine fW_iconst 67 dX1_append_66 rfl ?_
      refine fW_iadd 68 dX1_append_67 rfl ?_
      obtain ⟨c11, h⟩ := fS h
      obtain ⟨N12, e12, h⟩ := fBd h
      replace e12 := Option.some.inj e12
      refine fW_putI 71 4 (ji := 4) hg clX1 rfl (by decide) rfl rfl rfl ho c11 wd_348 dX1_append_68 rfl ?_
      rw [e12]
      refine fW_rg (fun hR12 => ?_)
      exact fW_vret rfl (by decide) (by decide) dX1_append_71 (rV_i h)
    · replace h := fTt h c10
      refine fW_iconst 63 dX1_append_62 rfl ?_
      refine fW_goto 67 dX1_append_63 rfl ?_
      refine fW_iadd 68 dX1_append_67 rfl ?_
      obtain ⟨c13, h⟩ := fS h
      obtain ⟨N14, e14, h⟩ := fBd h
      replace e14 := Option.some.inj e14
      refine fW_putI 71 4 (ji := 4) hg clX1 rfl (by decide) rfl rfl rfl ho c13 wd_348 dX1_append_68 rfl ?_
      rw [e14]
      refine fW_rg (fun hR14 => ?_)
      exact fW_vret rfl (by decide) (by decide) dX1_append_71 (rV_i h)
def mX1_keyAt : fMt := (yX1_keyAt, cX1_keyAt, 2, some .int, { frames := 0, cells := 0, slots := 0, locals := 0 })
theorem miX1_keyAt : fMv mX1_keyAt 1 := ⟨⟨fM 812 (by decide +kernel) rfl, fM 98 (by decide +kernel) rfl, ⟨by decide +kernel, by decide +kernel⟩, by decide +kernel⟩, fM 810 (by decide +kernel) rfl, fM 811 (by decide +kernel) rfl⟩
def f_X1_keyAt (o : Nat) (a1 : Int) (M : fMem) : Option (Int) := (if a1 < 0 then some 200 else (if (M o 3) ≤ a1 then some 200 else (if 0 ≤ a1 ∧ a1 < Ln (o + 1) then some (M (o + 1) a1) else none)))
set_option maxRecDepth 100000 in
set_option maxHeartbeats 4000000 in
theorem s_X1_keyAt {G : fG} (hg : gbt G = true) {o : Nat} (ho : fTyp o 1) {a1 : Int} (ga1 : rg a1) {M : fMem} {q : Int} (h : f_X1_keyAt o a1 M = some q) : fSp G mX1_keyAt [rv G o, iv a1] M (rP M q) fNo := by
  refine fSp_of (by decide +kernel) (by decide +kernel) (fC1 rfl (fC1 rfl fC0)) (Nat.le_of_ble_eq_true rfl) ?_
  show fW G mX1_keyAt (fEm G mX1_keyAt (rP M q) fNo) 0 0 0 [some (rv G o), some (iv a1)] [] M
  rw [f_X1_keyAt] at h
  refine fW_rg (fun hR => ?_)
  refine fW_iload_n 1 dX1_keyAt_0 rfl rfl ?_
  refine fW_if_lt 4 21 ga1 dX1_keyAt_1 rfl rfl (fun c1 => ?_) (fun c1 => ?_)
  · replace h := fTt h c1
    refine fW_sipush 24 dX1_keyAt_21 rfl (by decide) ?_
    exact fW_iret rfl (by decide) (by decide) dX1_keyAt_24 (rP_i h (by decide))
  · replace h := fFf h c1
    refine fW_iload_n 5 dX1_keyAt_4 rfl rfl ?_
    refine fW_aload_n 6 dX1_keyAt_5 rfl rfl ?_
    refine fW_getI 9 3 (ji := 3) hg clX1 rfl (by decide) rfl ho wd_344 dX1_keyAt_6 rfl ?_
    refine fW_icmp_ge 12 21 ga1 (hR o 3) dX1_keyAt_9 rfl rfl (fun c2 => ?_) (fun c2 => ?_)
    · replace h := fTt h c2
      refine fW_sipush 24 dX1_keyAt_21 rfl (by decide) ?_
      exact fW_iret rfl (by decide) (by decide) dX1_keyAt_24 (rP_i h (by decide))
    · replace h := fFf h c2
      refine fW_aload_n 13 dX1_keyAt_12 rfl rfl ?_
      refine fW_getR 16 (r := o + 1) 0 hg clX1 (by decide) rfl ho (tf_1_0 ho) wd_340 dX1_keyAt_13 rfl ?_
      refine fW_iload_n 17 dX1_keyAt_16 rfl rfl ?_
      obtain ⟨c3, h⟩ := fS h
      refine fW_iald 18 hg (tt_1_0 ho) c3 dX1_keyAt_17 rfl ?_
      refine fW_goto 24 dX1_keyAt_18 rfl ?_
      exact fW_iret rfl (by decide) (by decide) dX1_keyAt_24 (rP_i h (hR (o + 1) a1))
def mX1_valueAt : fMt := (yX1_valueAt, cX1_valueAt, 2, some .int, { frames := 0, cells := 0, slots := 0, locals := 0 })
theorem miX1_valueAt : fMv mX1_valueAt 1 := ⟨⟨fM 1025 (by decide +kernel) rfl, fM 98 (by decide +kernel) rfl, ⟨by decide +kernel, by decide +kernel⟩, by decide +kernel⟩, fM 1023 (by decide +kernel) rfl, fM 1024 (by decide +kernel) rfl⟩
def f_X1_valueAt (o : Nat) (a1 : Int) (M : fMem) : Option (Int) := (if a1 < 0 then some ((-1)) else (if (M o 3) ≤ a1 then some ((-1)) else (if 0 ≤ a1 ∧ a1 < Ln (o + 2) then some (M (o + 2) a1) else none)))
set_option maxRecDepth 100000 in
set_option maxHeartbeats 4000000 in
theorem s_X1_valueAt {G : fG} (hg : gbt G = true) {o : Nat} (ho : fTyp o 1) {a1 : Int} (ga1 : rg a1) {M : fMem} {q : Int} (h : f_X1_valueAt o a1 M = some q) : fSp G mX1_valueAt [rv G o, iv a1] M (rP M q) fNo := by
  refine fSp_of (by decide +kernel) (by decide +kernel) (fC1 rfl (fC1 rfl fC0)) (Nat.le_of_ble_eq_true rfl) ?_
  show fW G mX1_valueAt (fEm G mX1_valueAt (rP M q) fNo) 0 0 0 [some (rv G o), some (iv a1)] [] M
  rw [f_X1_valueAt] at h
  refine fW_rg (fun hR => ?_)
  refine fW_iload_n 1 dX1_valueAt_0 rfl rfl ?_
  refine fW_if_lt 4 21 ga1 dX1_valueAt_1 rfl rfl (fun c1 => ?_) (fun c1 => ?_)
  · replace h := fTt h c1
    refine fW_iconst 22 dX1_valueAt_21 rfl ?_
    exact fW_iret rfl (by decide) (by decide) dX1_valueAt_22 (rP_i h (by decide))
  · replace h := fFf h c1
    refine fW_iload_n 5 dX1_valueAt_4 rfl rfl ?_
    refine fW_aload_n 6 dX1_valueAt_5 rfl rfl ?_
    refine fW_getI 9 3 (ji := 3) hg clX1 rfl (by decide) rfl ho wd_344 dX1_valueAt_6 rfl ?_
    refine fW_icmp_ge 12 21 ga1 (hR o 3) dX1_valueAt_9 rfl rfl (fun c2 => ?_) (fun c2 => ?_)
    · replace h := fTt h c2
      refine fW_iconst 22 dX1_valueAt_21 rfl ?_
      exact fW_iret rfl (by decide) (by decide) dX1_valueAt_22 (rP_i h (by decide))
    · replace h := fFf h c2
      refine fW_aload_n 13 dX1_valueAt_12 rfl rfl ?_
      refine fW_getR 16 (r := o + 2) 1 hg clX1 (by decide) rfl ho (tf_1_1 ho) wd_342 dX1_valueAt_13 rfl ?_
      refine fW_iload_n 17 dX1_valueAt_16 rfl rfl ?_
      obtain ⟨c3, h⟩ := fS h
      refine fW_iald 18 hg (tt_1_1 ho) c3 dX1_valueAt_17 rfl ?_
      refine fW_goto 22 dX1_valueAt_18 rfl ?_
      exact fW_iret rfl (by decide) (by decide) dX1_valueAt_22 (rP_i h (hR (o + 2) a1))
def mX1_placeAt : fMt := (yX1_placeAt, cX1_placeAt, 2, some .int, { frames := 0, cells := 0, slots := 0, locals := 0 })
theorem miX1_placeAt : fMv mX1_placeAt 1 := ⟨⟨fM 869 (by decide +kernel) rfl, fM 98 (by decide +kernel) rfl, ⟨by decide +kernel, by decide +kernel⟩, by decide +kernel⟩, fM 867 (by decide +kernel) rfl, fM 868 (by decide +kernel) rfl⟩
def f_X1_placeAt (o : Nat) (a1 : Int) (M : fMem) : Option (Int) := (if a1 < 0 then some ((-1)) else (if (M o 3) ≤ a1 then some ((-1)) else (if 0 ≤ a1 ∧ a1 < Ln (o + 3) then some (M (o + 3) a1) else none)))
set_option maxRecDepth 100000 in
set_option maxHeartbeats 4000000 in
theorem s_X1_placeAt {G : fG} (hg : gbt G = true) {o : Nat} (ho : fTyp o 1) {a1 : Int} (ga1 : rg a1) {M : fMem} {q : Int} (h : f_X1_placeAt o a1 M = some q) : fSp G mX1_placeAt [rv G o, iv a1] M (rP M q) fNo := by
  refine fSp_of (by decide +kernel) (by decide +kernel) (fC1 rfl (fC1 rfl fC0)) (Nat.le_of_ble_eq_true rfl) ?_
  show fW G mX1_placeAt (fEm G mX1_placeAt (rP M q) fNo) 0 0 0 [some (rv G o), some (iv a1)] [] M
  rw [f_X1_placeAt] at h
  refine fW_rg (fun hR => ?_)
  refine fW_iload_n 1 dX1_placeAt_0 rfl rfl ?_
  refine fW_if_lt 4 21 ga1 dX1_placeAt_1 rfl rfl (fun c1 => ?_) (fun c1 => ?_)
  · replace h := fTt h c1
    refine fW_iconst 22 dX1_placeAt_21 rfl ?_
    exact fW_iret rfl (by decide) (by decide) dX1_placeAt_22 (rP_i h (by decide))
  · replace h := fFf h c1
    refine fW_iload_n 5 dX1_placeAt_4 rfl rfl ?_
    refine fW_aload_n 6 dX1_placeAt_5 rfl rfl ?_
    refine fW_getI 9 3 (ji := 3) hg clX1 rfl (by decide) rfl ho wd_344 dX1_placeAt_6 rfl ?_
    refine fW_icmp_ge 12 21 ga1 (hR o 3) dX1_placeAt_9 rfl rfl (fun c2 => ?_) (fun c2 => ?_)
    · replace h := fTt h c2
      refine fW_iconst 22 dX1_placeAt_21 rfl ?_
      exact fW_iret rfl (by decide) (by decide) dX1_placeAt_22 (rP_i h (by decide))
    · replace h := fFf h c2
      refine fW_aload_n 13 dX1_placeAt_12 rfl rfl ?_
      refine fW_getR 16 (r := o + 3) 2 hg clX1 (by decide) rfl ho (tf_1_2 ho) wd_343 dX1_placeAt_13 rfl ?_
      refine fW_iload_n 17 dX1_placeAt_16 rfl rfl ?_
      obtain ⟨c3, h⟩ := fS h
      refine fW_iald 18 hg (tt_1_2 ho) c3 dX1_placeAt_17 rfl ?_
      refine fW_goto 22 dX1_placeAt_18 rfl ?_
      exact fW_iret rfl (by decide) (by decide) dX1_placeAt_22 (rP_i h (hR (o + 3) a1))
def mX1_kindAt : fMt := (yX1_kindAt, cX1_kindAt, 2, some .int, { frames := 1, cells := 0, slots := 0, locals := 40 })
theorem miX1_kindAt : fMv mX1_kindAt 1 := ⟨⟨fM 1020 (by decide +kernel) rfl, fM 98 (by decide +kernel) rfl, ⟨by decide +kernel, by decide +kernel⟩, by decide +kernel⟩, fM 1018 (by decide +kernel) rfl, fM 1019 (by decide +kernel) rfl⟩
def f_X1_kindAt (o : Nat) (a1 : Int) (M : fMem) : Option (Int) := ((f_X1_placeAt o a1 M).bind fun (r1 : Int) => (if r1 = ((-1)) then ((f_X1_valueAt o a1 M).bind fun (r3 : Int) => (if r3 = ((-1)) then some 1 else some 0)) else some 2))
set_option maxRecDepth 100000 in
set_option maxHeartbeats 4000000 in
theorem s_X1_kindAt {G : fG} (hg : gbt G = true) {o : Nat} (ho : fTyp o 1) {a1 : Int} (ga1 : rg a1) {M : fMem} {q : Int} (h : f_X1_kindAt o a1 M = some q) : fSp G mX1_kindAt [rv G o, iv a1] M (rP M q) fNo := by
  refine fSp_of (by decide +kernel) (by decide +kernel) (fC1 rfl (fC1 rfl fC0)) (Nat.le_of_ble_eq_true rfl) ?_
  show fW G mX1_kindAt (fEm G mX1_kindAt (rP M q) fNo) 0 0 0 [some (rv G o), some (iv a1)] [] M
  rw [f_X1_kindAt] at h
  refine fW_rg (fun hR => ?_)
  refine fW_aload_n 1 dX1_kindAt_0 rfl rfl ?_
  refine fW_iload_n 2 dX1_kindAt_1 rfl rfl ?_
  obtain ⟨r1, e1, h⟩ := fBd h
  refine fW_cP (fI_V (as := [iv a1]) (rest := []) miX1_placeAt hg clX1 rfl ho wd_1021 (fRoom_of rfl) rfl (Nat.le_of_ble_eq_true rfl) dX1_kindAt_2) (s_X1_placeAt hg ho ga1 e1) rfl rfl rfl (fun g1 => ?_)
  refine fW_iconst 6 dX1_kindAt_5 rfl ?_
  refine fW_icmp_eq 9 11 g1 (by decide) dX1_kindAt_6 rfl rfl (fun c2 => ?_) (fun c2 => ?_)
  · replace h := fTt h c2
    refine fW_aload_n 12 dX1_kindAt_11 rfl rfl ?_
    refine fW_iload_n 13 dX1_kindAt_12 rfl rfl ?_
    obtain ⟨r3, e3, h⟩ := fBd h
    refine fW_cP (fI_V (as := [iv a1]) (rest := []) miX1_valueAt hg clX1 rfl ho wd_1022 (fRoom_of rfl) rfl (Nat.le_of_ble_eq_true rfl) dX1_kindAt_13) (s_X1_valueAt hg ho ga1 e3) rfl rfl rfl (fun g3 => ?_)
    refine fW_iconst 17 dX1_kindAt_16 rfl ?_
    refine fW_icmp_ne 20 24 g3 (by decide) dX1_kindAt_17 rfl rfl (fun c4 => ?_) (fun c4 => ?_)
    · replace h := fFf h c4
      refine fW_iconst 25 dX1_kindAt_24 rfl ?_
      exact fW_iret rfl (by decide) (by decide) dX1_kindAt_25 (rP_i h (by decide))
    · replace h := fTt h c4
      refine fW_iconst 21 dX1_kindAt_20 rfl ?_
      refine fW_goto 25 dX1_kindAt_21 rfl ?_
      exact fW_iret rfl (by decide) (by decide) dX1_kindAt_25 (rP_i h (by decide))
  · replace h := fFf h c2
    refine fW_iconst 10 dX1_kindAt_9 rfl ?_
    exact fW_iret rfl (by decide) (by decide) dX1_kindAt_10 (rP_i h (by decide))
def mX1_lastMark : fMt := (yX1_lastMark, cX1_lastMark, 4, some .int, { frames := 1, cells := 0, slots := 0, locals := 40 })
theorem miX1_lastMark : fMv mX1_lastMark 2 := ⟨⟨fM 859 (by decide +kernel) rfl, fM 98 (by decide +kernel) rfl, ⟨by decide +kernel, by decide +kernel⟩, by decide +kernel⟩, fM 857 (by decide +kernel) rfl, fM 858 (by decide +kernel) rfl⟩
def L_X1_lastMark_11 (o : Nat) (M : fMem) (k : Option (Int)) : Nat → Int → Int → Option (Int)
  | 0, _, _ => none
  | n + 1, v1, v3 => (if v3 < 0 then k else (if 0 ≤ v3 ∧ v3 < Ln (o + 3) then (if (M (o + 3) v3) = ((-1)) then L_X1_lastMark_11 o M k n v1 (v3 + -1) else (if 0 ≤ v3 ∧ v3 < Ln (o + 2) then (if (M (o + 2) v3) = v1 then some (M (o + 3) v3) else L_X1_lastMark_11 o M k n v1 (v3 + -1)) else none)) else none))
set_option maxRecDepth 100000 in
set_option maxHeartbeats 4000000 in
theorem l_X1_lastMark_11 {G : fG} (hg : gbt G = true) {o : Nat} (ho : fTyp o 1) {M : fMem} {q : Int} {k : Option (Int)} (hk : k = some q → fW G mX1_lastMark (fEm G mX1_lastMark (rP M q) fNo) 0 0 48 [some (rv G o), none, none, none] [] M) : ∀ (n : Nat) (v1 : Int) (v3 : Int), rg v1 → rg v3 → L_X1_lastMark_11 o M k n v1 v3 = some q → fW G mX1_lastMark (fEm G mX1_lastMark (rP M q) fNo) 0 0 11 [some (rv G o), some (iv v1), none, some (iv v3)] [] M := by
  intro n
  induction n with
  | zero =>
    intro v1 v3 gv1 gv3 h
    rw [L_X1_lastMark_11] at h
    exact absurd h (by simp)
  | succ n ih =>
    intro v1 v3 gv1 gv3 h
    rw [L_X1_lastMark_11] at h
    refine fW_rg (fun hR => ?_)
    refine fW_iload_n 12 dX1_lastMark_11 rfl rfl ?_
    refine fW_if_lt 15 48 gv3 dX1_lastMark_12 rfl rfl (fun c2 => ?_) (fun c2 => ?_)
    · replace h := fTt h c2
      exact fW_sb (hk h) ⟨rfl, trivial⟩
    · replace h := fFf h c2
      refine fW_aload_n 16 dX1_lastMark_15 rfl rfl ?_
      refine fW_getR 19 (r := o + 3) 2 hg clX1 (by decide) rfl ho (tf_1_2 ho) wd_343 dX1_lastMark_16 rfl ?_
      refine fW_iload_n 20 dX1_lastMark_19 rfl rfl ?_
      obtain ⟨c3, h⟩ := fS h
      refine fW_iald 21 hg (tt_1_2 ho) c3 dX1_lastMark_20 rfl ?_
      refine fW_iconst 22 dX1_lastMark_21 rfl ?_
      refine fW_icmp_eq 25 42 (hR (o + 3) v3) (by decide) dX1_lastMark_22 rfl rfl (fun c4 => ?_) (fun c4 => ?_)
      · replace h := fTt h c4
        refine fW_iinc 45 (ls' := [some (rv G o), some (iv v1), none, some (iv (v3 + -1))]) dX1_lastMark_42 rfl rfl rfl (by decide) ?_
        refine fW_goto 11 dX1_lastMark_45 rfl ?_
        exact fW_sb (ih v1 (v3 + -1) gv1 (rg_pred0' gv3 c2) h) ⟨rfl, rfl, rfl, trivial⟩
      · replace h := fFf h c4
        refine fW_aload_n 26 dX1_lastMark_25 rfl rfl ?_
        refine fW_getR 29 (r := o + 2) 1 hg clX1 (by decide) rfl ho (tf_1_1 ho) wd_342 dX1_lastMark_26 rfl ?_
        refine fW_iload_n 30 dX1_lastMark_29 rfl rfl ?_
        obtain ⟨c5, h⟩ := fS h
        refine fW_iald 31 hg (tt_1_1 ho) c5 dX1_lastMark_30 rfl ?_
        refine fW_iload_n 32 dX1_lastMark_31 rfl rfl ?_
        refine fW_icmp_ne 35 42 (hR (o + 2) v3) gv1 dX1_lastMark_32 rfl rfl (fun c6 => ?_) (fun c6 => ?_)
        · replace h := fFf h c6
          refine fW_iinc 45 (ls' := [some (rv G o), some (iv v1), none, some (iv (v3 + -1))]) dX1_lastMark_42 rfl rfl rfl (by decide) ?_
          refine fW_goto 11 dX1_lastMark_45 rfl ?_
          exact fW_sb (ih v1 (v3 + -1) gv1 (rg_pred0' gv3 c2) h) ⟨rfl, rfl, rfl, trivial⟩
        · replace h := fTt h c6
          refine fW_aload_n 36 dX1_lastMark_35 rfl rfl ?_
          refine fW_getR 39 (r := o + 3) 2 hg clX1 (by decide) rfl ho (tf_1_2 ho) wd_343 dX1_lastMark_36 rfl ?_
          refine fW_iload_n 40 dX1_lastMark_39 rfl rfl ?_
          refine fW_iald 41 hg (tt_1_2 ho) c3 dX1_lastMark_40 rfl ?_
          exact fW_iret rfl (by decide) (by decide) dX1_lastMark_41 (rP_i h (hR (o + 3) v3))
def f_X1_lastMark (o : Nat) (a1 : Int) (a2 : Int) (M : fMem) : Option (Int) := (if -2147483648 ≤ (min a2 (M o 3)) - 1 ∧ (min a2 (M o 3)) - 1 < 2147483648 then L_X1_lastMark_11 o M (some ((-1))) 20000 a1 ((min a2 (M o 3)) - 1) else none)
set_option maxRecDepth 100000 in
set_option maxHeartbeats 4000000 in
theorem s_X1_lastMark {G : fG} (hg : gbt G = true) {o : Nat} (ho : fTyp o 1) {a1 : Int} (ga1 : rg a1) {a2 : Int} (ga2 : rg a2) {M : fMem} {q : Int} (h : f_X1_lastMark o a1 a2 M = some q) : fSp G mX1_lastMark [rv G o, iv a1, iv a2] M (rP M q) fNo := by
  refine fSp_of (by decide +kernel) (by decide +kernel) (fC1 rfl (fC1 rfl (fC1 rfl fC0))) (Nat.le_of_ble_eq_true rfl) ?_
  show fW G mX1_lastMark (fEm G mX1_lastMark (rP M q) fNo) 0 0 0 [some (rv G o), some (iv a1), some (iv a2), none] [] M
  rw [f_X1_lastMark] at h
  refine fW_rg (fun hR => ?_)
  refine fW_iload_n 1 dX1_lastMark_0 rfl rfl ?_
  refine fW_aload_n 2 dX1_lastMark_1 rfl rfl ?_
  refine fW_getI 5 3 (ji := 3) hg clX1 rfl (by decide) rfl ho wd_344 dX1_lastMark_2 rfl ?_
  refine fW_mmin 8 ga2 (hR o 3) wd_860 (by decide) (Nat.le_of_ble_eq_true rfl) (by decide) (by decide) dX1_lastMark_5 rfl ?_
  refine fW_iconst 9 dX1_lastMark_8 rfl ?_
  refine fW_isub 10 dX1_lastMark_9 rfl ?_
  refine fW_istore_n 11 (ls' := [some (rv G o), some (iv a1), some (iv a2), some (iv ((min a2 (M o 3)) - 1))]) dX1_lastMark_10 rfl rfl rfl (by decide) ?_
  obtain ⟨c1, h⟩ := fS h
  refine fW_sb (l_X1_lastMark_11 hg ho ?_ 20000 a1 ((min a2 (M o 3)) - 1) ga1 c1 h) ⟨rfl, rfl, rfl, trivial⟩
  intro  h
  refine fW_iconst 49 dX1_lastMark_48 rfl ?_
  exact fW_iret rfl (by decide) (by decide) dX1_lastMark_49 (rP_i h (by decide))
end MTH
