section MTH
def mX6_copyFrom : fMt := (yX6_copyFrom, cX6_copyFrom, 2, none, { frames := 2, cells := 0, slots := 0, locals := 80 })
theorem miX6_copyFrom : fMv mX6_copyFrom 1 := ⟨⟨fM 682 (by decide +kernel) rfl, fM 92 (by decide +kernel) rfl, ⟨by decide +kernel, by decide +kernel⟩, by decide +kernel⟩, fM 680 (by decide +kernel) rfl, fM 681 (by decide +kernel) rfl⟩
def f_X6_copyFrom (o : Nat) (p1 : Nat) (M : fMem) : Option (fMem) := (if 0 ≤ (mset (mset (mset (mset M o 2 (M p1 2)) o 3 (min ((mset M o 2 (M p1 2)) p1 3) (Ln (o + 1)))) o 4 ((mset (mset M o 2 (M p1 2)) o 3 (min ((mset M o 2 (M p1 2)) p1 3) (Ln (o + 1)))) p1 4)) o 5 ((mset (mset (mset M o 2 (M p1 2)) o 3 (min ((mset M o 2 (M p1 2)) p1 3) (Ln (o + 1)))) o 4 ((mset (mset M o 2 (M p1 2)) o 3 (min ((mset M o 2 (M p1 2)) p1 3) (Ln (o + 1)))) p1 4)) p1 5)) o 3 ∧ (mset (mset (mset (mset M o 2 (M p1 2)) o 3 (min ((mset M o 2 (M p1 2)) p1 3) (Ln (o + 1)))) o 4 ((mset (mset M o 2 (M p1 2)) o 3 (min ((mset M o 2 (M p1 2)) p1 3) (Ln (o + 1)))) p1 4)) o 5 ((mset (mset (mset M o 2 (M p1 2)) o 3 (min ((mset M o 2 (M p1 2)) p1 3) (Ln (o + 1)))) o 4 ((mset (mset M o 2 (M p1 2)) o 3 (min ((mset M o 2 (M p1 2)) p1 3) (Ln (o + 1)))) p1 4)) p1 5)) o 3 ≤ Ln (p1 + 1) ∧ (mset (mset (mset (mset M o 2 (M p1 2)) o 3 (min ((mset M o 2 (M p1 2)) p1 3) (Ln (o + 1)))) o 4 ((mset (mset M o 2 (M p1 2)) o 3 (min ((mset M o 2 (M p1 2)) p1 3) (Ln (o + 1)))) p1 4)) o 5 ((mset (mset (mset M o 2 (M p1 2)) o 3 (min ((mset M o 2 (M p1 2)) p1 3) (Ln (o + 1)))) o 4 ((mset (mset M o 2 (M p1 2)) o 3 (min ((mset M o 2 (M p1 2)) p1 3) (Ln (o + 1)))) p1 4)) p1 5)) o 3 ≤ Ln (o + 1) then (if 0 ≤ (acpy (mset (mset (mset (mset M o 2 (M p1 2)) o 3 (min ((mset M o 2 (M p1 2)) p1 3) (Ln (o + 1)))) o 4 ((mset (mset M o 2 (M p1 2)) o 3 (min ((mset M o 2 (M p1 2)) p1 3) (Ln (o + 1)))) p1 4)) o 5 ((mset (mset (mset M o 2 (M p1 2)) o 3 (min ((mset M o 2 (M p1 2)) p1 3) (Ln (o + 1)))) o 4 ((mset (mset M o 2 (M p1 2)) o 3 (min ((mset M o 2 (M p1 2)) p1 3) (Ln (o + 1)))) p1 4)) p1 5)) (p1 + 1) (o + 1) ((mset (mset (mset (mset M o 2 (M p1 2)) o 3 (min ((mset M o 2 (M p1 2)) p1 3) (Ln (o + 1)))) o 4 ((mset (mset M o 2 (M p1 2)) o 3 (min ((mset M o 2 (M p1 2)) p1 3) (Ln (o + 1)))) p1 4)) o 5 ((mset (mset (mset M o 2 (M p1 2)) o 3 (min ((mset M o 2 (M p1 2)) p1 3) (Ln (o + 1)))) o 4 ((mset (mset M o 2 (M p1 2)) o 3 (min ((mset M o 2 (M p1 2)) p1 3) (Ln (o + 1)))) p1 4)) p1 5)) o 3)) o 3 ∧ (acpy (mset (mset (mset (mset M o 2 (M p1 2)) o 3 (min ((mset M o 2 (M p1 2)) p1 3) (Ln (o + 1)))) o 4 ((mset (mset M o 2 (M p1 2)) o 3 (min ((mset M o 2 (M p1 2)) p1 3) (Ln (o + 1)))) p1 4)) o 5 ((mset (mset (mset M o 2 (M p1 2)) o 3 (min ((mset M o 2 (M p1 2)) p1 3) (Ln (o + 1)))) o 4 ((mset (mset M o 2 (M p1 2)) o 3 (min ((mset M o 2 (M p1 2)) p1 3) (Ln (o + 1)))) p1 4)) p1 5)) (p1 + 1) (o + 1) ((mset (mset (mset (mset M o 2 (M p1 2)) o 3 (min ((mset M o 2 (M p1 2)) p1 3) (Ln (o + 1)))) o 4 ((mset (mset M o 2 (M p1 2)) o 3 (min ((mset M o 2 (M p1 2)) p1 3) (Ln (o + 1)))) p1 4)) o 5 ((mset (mset (mset M o 2 (M p1 2)) o 3 (min ((mset M o 2 (M p1 2)) p1 3) (Ln (o + 1)))) o 4 ((mset (mset M o 2 (M p1 2)) o 3 (min ((mset M o 2 (M p1 2)) p1 3) (Ln (o + 1)))) p1 4)) p1 5)) o 3)) o 3 ≤ Ln (p1 + 2) ∧ (acpy (mset (mset (mset (mset M o 2 (M p1 2)) o 3 (min ((mset M o 2 (M p1 2)) p1 3) (Ln (o + 1)))) o 4 ((mset (mset M o 2 (M p1 2)) o 3 (min ((mset M o 2 (M p1 2)) p1 3) (Ln (o + 1)))) p1 4)) o 5 ((mset (mset (mset M o 2 (M p1 2)) o 3 (min ((mset M o 2 (M p1 2)) p1 3) (Ln (o + 1)))) o 4 ((mset (mset M o 2 (M p1 2)) o 3 (min ((mset M o 2 (M p1 2)) p1 3) (Ln (o + 1)))) p1 4)) p1 5)) (p1 + 1) (o + 1) ((mset (mset (mset (mset M o 2 (M p1 2)) o 3 (min ((mset M o 2 (M p1 2)) p1 3) (Ln (o + 1)))) o 4 ((mset (mset M o 2 (M p1 2)) o 3 (min ((mset M o 2 (M p1 2)) p1 3) (Ln (o + 1)))) p1 4)) o 5 ((mset (mset (mset M o 2 (M p1 2)) o 3 (min ((mset M o 2 (M p1 2)) p1 3) (Ln (o + 1)))) o 4 ((mset (mset M o 2 (M p1 2)) o 3 (min ((mset M o 2 (M p1 2)) p1 3) (Ln (o + 1)))) p1 4)) p1 5)) o 3)) o 3 ≤ Ln (o + 2) then some (acpy (acpy (mset (mset (mset (mset M o 2 (M p1 2)) o 3 (min ((mset M o 2 (M p1 2)) p1 3) (Ln (o + 1)))) o 4 ((mset (mset M o 2 (M p1 2)) o 3 (min ((mset M o 2 (M p1 2)) p1 3) (Ln (o + 1)))) p1 4)) o 5 ((mset (mset (mset M o 2 (M p1 2)) o 3 (min ((mset M o 2 (M p1 2)) p1 3) (Ln (o + 1)))) o 4 ((mset (mset M o 2 (M p1 2)) o 3 (min ((mset M o 2 (M p1 2)) p1 3) (Ln (o + 1)))) p1 4)) p1 5)) (p1 + 1) (o + 1) ((mset (mset (mset (mset M o 2 (M p1 2)) o 3 (min ((mset M o 2 (M p1 2)) p1 3) (Ln (o + 1)))) o 4 ((mset (mset M o 2 (M p1 2)) o 3 (min ((mset M o 2 (M p1 2)) p1 3) (Ln (o + 1)))) p1 4)) o 5 ((mset (mset (mset M o 2 (M p1 2)) o 3 (min ((mset M o 2 (M p1 2)) p1 3) (Ln (o + 1)))) o 4 ((mset (mset M o 2 (M p1 2)) o 3 (min ((mset M o 2 (M p1 2)) p1 3) (Ln (o + 1)))) p1 4)) p1 5)) o 3)) (p1 + 2) (o + 2) ((acpy (mset (mset (mset (mset M o 2 (M p1 2)) o 3 (min ((mset M o 2 (M p1 2)) p1 3) (Ln (o + 1)))) o 4 ((mset (mset M o 2 (M p1 2)) o 3 (min ((mset M o 2 (M p1 2)) p1 3) (Ln (o + 1)))) p1 4)) o 5 ((mset (mset (mset M o 2 (M p1 2)) o 3 (min ((mset M o 2 (M p1 2)) p1 3) (Ln (o + 1)))) o 4 ((mset (mset M o 2 (M p1 2)) o 3 (min ((mset M o 2 (M p1 2)) p1 3) (Ln (o + 1)))) p1 4)) p1 5)) (p1 + 1) (o + 1) ((mset (mset (mset (mset M o 2 (M p1 2)) o 3 (min ((mset M o 2 (M p1 2)) p1 3) (Ln (o + 1)))) o 4 ((mset (mset M o 2 (M p1 2)) o 3 (min ((mset M o 2 (M p1 2)) p1 3) (Ln (o + 1)))) p1 4)) o 5 ((mset (mset (mset M o 2 (M p1 2)) o 3 (min ((mset M o 2 (M p1 2)) p1 3) (Ln (o + 1)))) o 4 ((mset (mset M o 2 (M p1 2)) o 3 (min ((mset M o 2 (M p1 2)) p1 3) (Ln (o + 1)))) p1 4)) p1 5)) o 3)) o 3)) else none) else none)
set_option maxRecDepth 100000 in
set_option maxHeartbeats 4000000 in
theorem s_X6_copyFrom {G : fG} (hg : gbt G = true) {o : Nat} (ho : fTyp o 6) {p1 : Nat} (hp1 : fTyp p1 6) {M : fMem} {q : fMem} (h : f_X6_copyFrom o p1 M = some q) : fSp G mX6_copyFrom [rv G o, rv G p1] M (rV q) fNo := by
  refine fSp_of (by decide +kernel) (by decide +kernel) (fC1 rfl (fC1 rfl fC0)) (Nat.le_of_ble_eq_true rfl) ?_
  show fW G mX6_copyFrom (fEm G mX6_copyFrom (rV q) fNo) 0 0 0 [some (rv G o), some (rv G p1)] [] M
  rw [f_X6_copyFrom] at h
  refine fW_rg (fun hR => ?_)
  refine fW_aload_n 1 dX6_copyFrom_0 rfl rfl ?_
  refine fW_aload_n 2 dX6_copyFrom_1 rfl rfl ?_
  refine fW_getI 5 2 (ji := 2) hg clX6 rfl (by decide) rfl hp1 wd_150 dX6_copyFrom_2 rfl ?_
  refine fW_putI 8 2 (ji := 2) hg clX6 rfl (by decide) rfl rfl rfl ho (hR p1 2) wd_150 dX6_copyFrom_5 rfl ?_
  refine fW_rg (fun hR1 => ?_)
  refine fW_aload_n 9 dX6_copyFrom_8 rfl rfl ?_
  refine fW_aload_n 10 dX6_copyFrom_9 rfl rfl ?_
  refine fW_getI 13 3 (ji := 3) hg clX6 rfl (by decide) rfl hp1 wd_154 dX6_copyFrom_10 rfl ?_
  refine fW_aload_n 14 dX6_copyFrom_13 rfl rfl ?_
  refine fW_getR 17 (r := o + 1) 0 hg clX6 (by decide) rfl ho (tf_6_0 ho) wd_147 dX6_copyFrom_14 rfl ?_
  refine fW_alen 18 hg (tt_6_0 ho) dX6_copyFrom_17 rfl ?_
  refine fW_mmin 21 (hR1 p1 3) (rg_ln (o + 1)) wd_683 (by decide) (Nat.le_of_ble_eq_true rfl) (by decide) (by decide) dX6_copyFrom_18 rfl ?_
  refine fW_putI 24 3 (ji := 3) hg clX6 rfl (by decide) rfl rfl rfl ho (rg_min (hR1 p1 3) (rg_ln (o + 1))) wd_154 dX6_copyFrom_21 rfl ?_
  refine fW_rg (fun hR2 => ?_)
  refine fW_aload_n 25 dX6_copyFrom_24 rfl rfl ?_
  refine fW_aload_n 26 dX6_copyFrom_25 rfl rfl ?_
  refine fW_getI 29 4 (ji := 4) hg clX6 rfl (by decide) rfl hp1 wd_161 dX6_copyFrom_26 rfl ?_
  refine fW_putI 32 4 (ji := 4) hg clX6 rfl (by decide) rfl rfl rfl ho (hR2 p1 4) wd_161 dX6_copyFrom_29 rfl ?_
  refine fW_rg (fun hR3 => ?_)
  refine fW_aload_n 33 dX6_copyFrom_32 rfl rfl ?_
  refine fW_aload_n 34 dX6_copyFrom_33 rfl rfl ?_
  refine fW_getI 37 5 (ji := 5) hg clX6 rfl (by decide) rfl hp1 wd_163 dX6_copyFrom_34 rfl ?_
  refine fW_putI 40 5 (ji := 5) hg clX6 rfl (by decide) rfl rfl rfl ho (hR3 p1 5) wd_163 dX6_copyFrom_37 rfl ?_
  refine fW_rg (fun hR4 => ?_)
  refine fW_aload_n 41 dX6_copyFrom_40 rfl rfl ?_
  refine fW_getR 44 (r := p1 + 1) 0 hg clX6 (by decide) rfl hp1 (tf_6_0 hp1) wd_147 dX6_copyFrom_41 rfl ?_
  refine fW_iconst 45 dX6_copyFrom_44 rfl ?_
  refine fW_aload_n 46 dX6_copyFrom_45 rfl rfl ?_
  refine fW_getR 49 (r := o + 1) 0 hg clX6 (by decide) rfl ho (tf_6_0 ho) wd_147 dX6_copyFrom_46 rfl ?_
  refine fW_iconst 50 dX6_copyFrom_49 rfl ?_
  refine fW_aload_n 51 dX6_copyFrom_50 rfl rfl ?_
  refine fW_getI 54 3 (ji := 3) hg clX6 rfl (by decide) rfl ho wd_154 dX6_copyFrom_51 rfl ?_
  obtain ⟨c5, h⟩ := fS h
  refine fW_acopy 57 hg (tt_6_0 hp1) (tt_6_0 ho) c5 wd_684 (by decide) (Nat.le_of_ble_eq_true rfl) dX6_copyFrom_54 rfl ?_
  refine fW_rg (fun hR6 => ?_)
  refine fW_aload_n 58 dX6_copyFrom_57 rfl rfl ?_
  refine fW_getR 61 (r := p1 + 2) 1 hg clX6 (by decide) rfl hp1 (tf_6_1 hp1) wd_149 dX6_copyFrom_58 rfl ?_
  refine fW_iconst 62 dX6_copyFrom_61 rfl ?_
  refine fW_aload_n 63 dX6_copyFrom_62 rfl rfl ?_
  refine fW_getR 66 (r := o + 2) 1 hg clX6 (by decide) rfl ho (tf_6_1 ho) wd_149 dX6_copyFrom_63 rfl ?_
  refine fW_iconst 67 dX6_copyFrom_66 rfl ?_
  refine fW_aload_n 68 dX6_copyFrom_67 rfl rfl ?_
  refine fW_getI 71 3 (ji := 3) hg clX6 rfl (by decide) rfl ho wd_154 dX6_copyFrom_68 rfl ?_
  obtain ⟨c7, h⟩ := fS h
  refine fW_acopy 74 hg (tt_6_1 hp1) (tt_6_1 ho) c7 wd_684 (by decide) (Nat.le_of_ble_eq_true rfl) dX6_copyFrom_71 rfl ?_
  refine fW_rg (fun hR8 => ?_)
  exact fW_vret rfl (by decide) (by decide) dX6_copyFrom_74 (rV_i h)
def mX7_copyFrom : fMt := (yX7_copyFrom, cX7_copyFrom, 3, none, { frames := 3, cells := 0, slots := 0, locals := 120 })
theorem miX7_copyFrom : fMv mX7_copyFrom 1 := ⟨⟨fM 1104 (by decide +kernel) rfl, fM 91 (by decide +kernel) rfl, ⟨by decide +kernel, by decide +kernel⟩, by decide +kernel⟩, fM 1102 (by decide +kernel) rfl, fM 1103 (by decide +kernel) rfl⟩
def L_X7_copyFrom_2 (o : Nat) (k : fMem → Option (fMem)) : Nat → Nat → Int → fMem → Option (fMem)
  | 0, _, _, _ => none
  | n + 1, w1, v2, M => (if 19 ≤ v2 then k  M else (if 0 ≤ v2 ∧ v2 < 19 then (if 0 ≤ v2 ∧ v2 < 19 then ((f_X6_copyFrom (o + 3 * v2.toNat + 3) (w1 + 3 * v2.toNat + 3) M).bind fun (r6 : fMem) => L_X7_copyFrom_2 o k n w1 (v2 + 1) r6) else none) else none))
set_option maxRecDepth 100000 in
set_option maxHeartbeats 4000000 in
theorem l_X7_copyFrom_2 {G : fG} (hg : gbt G = true) {o : Nat} (ho : fTyp o 7) {q : fMem} {k : fMem → Option (fMem)} (hk : ∀ (M : fMem), k M = some q → fW G mX7_copyFrom (fEm G mX7_copyFrom (rV q) fNo) 0 0 29 [some (rv G o), none, none] [] M) : ∀ (n : Nat) (w1 : Nat) (v2 : Int) (M : fMem), fTyp w1 7 → rg v2 → L_X7_copyFrom_2 o k n w1 v2 M = some q → fW G mX7_copyFrom (fEm G mX7_copyFrom (rV q) fNo) 0 0 2 [some (rv G o), some (rv G w1), some (iv v2)] [] M := by
  intro n
  induction n with
  | zero =>
    intro w1 v2 M tw1 gv2 h
    rw [L_X7_copyFrom_2] at h
    exact absurd h (by simp)
  | succ n ih =>
    intro w1 v2 M tw1 gv2 h
    rw [L_X7_copyFrom_2] at h
    refine fW_rg (fun hR => ?_)
    refine fW_iload_n 3 dX7_copyFrom_2 rfl rfl ?_
    refine fW_bipush 5 dX7_copyFrom_3 rfl (by decide) ?_
    refine fW_icmp_ge 8 29 gv2 (by decide) dX7_copyFrom_5 rfl rfl (fun c1 => ?_) (fun c1 => ?_)
    · replace h := fTt h c1
      exact fW_sb (hk M h) ⟨rfl, trivial⟩
    · replace h := fFf h c1
      refine fW_aload_n 9 dX7_copyFrom_8 rfl rfl ?_
      refine fW_getR 12 (r := o + 1) 0 hg clX7 (by decide) rfl ho (tf_7_0 ho) wd_180 dX7_copyFrom_9 rfl ?_
      refine fW_iload_n 13 dX7_copyFrom_12 rfl rfl ?_
      obtain ⟨c2, h⟩ := fS h
      have t3 := ta_16 (r := o + 3 * v2.toNat + 3) (tt_7_0 ho) c2 (by omega)
      refine fW_aald 14 4 hg (tt_7_0 ho) (by decide) (by decide) t3.1 t3.2.2 rfl dX7_copyFrom_13 rfl ?_
      refine fW_aload_n 15 dX7_copyFrom_14 rfl rfl ?_
      refine fW_getR 18 (r := w1 + 1) 0 hg clX7 (by decide) rfl tw1 (tf_7_0 tw1) wd_180 dX7_copyFrom_15 rfl ?_
      refine fW_iload_n 19 dX7_copyFrom_18 rfl rfl ?_
      obtain ⟨c4, h⟩ := fS h
      have t5 := ta_16 (r := w1 + 3 * v2.toNat + 3) (tt_7_0 tw1) c4 (by omega)
      refine fW_aald 20 4 hg (tt_7_0 tw1) (by decide) (by decide) t5.1 t5.2.2 rfl dX7_copyFrom_19 rfl ?_
      obtain ⟨r6, e6, h⟩ := fBd h
      refine fW_cV (fI_V (as := [rv G (w1 + 3 * v2.toNat + 3)]) (rest := []) miX6_copyFrom hg clX6 rfl t3.2.1 wd_679 (fRoom_of rfl) rfl (Nat.le_of_ble_eq_true rfl) dX7_copyFrom_20) (s_X6_copyFrom hg t3.2.1 t5.2.1 e6) rfl rfl rfl ?_
      refine fW_rg (fun hR7 => ?_)
      refine fW_iinc 26 (ls' := [some (rv G o), some (rv G w1), some (iv (v2 + 1))]) dX7_copyFrom_23 rfl rfl rfl (by decide) ?_
      refine fW_goto 2 dX7_copyFrom_26 rfl ?_
      exact fW_sb (ih w1 (v2 + 1) r6 tw1 (rg_succ' gv2 (by decide) c1) h) ⟨rfl, rfl, rfl, trivial⟩
def f_X7_copyFrom (o : Nat) (p1 : Nat) (M : fMem) : Option (fMem) := L_X7_copyFrom_2 o (fun  (M_8 : fMem) => some M_8) 20000 p1 0 M
set_option maxRecDepth 100000 in
set_option maxHeartbeats 4000000 in
theorem s_X7_copyFrom {G : fG} (hg : gbt G = true) {o : Nat} (ho : fTyp o 7) {p1 : Nat} (hp1 : fTyp p1 7) {M : fMem} {q : fMem} (h : f_X7_copyFrom o p1 M = some q) : fSp G mX7_copyFrom [rv G o, rv G p1] M (rV q) fNo := by
  refine fSp_of (by decide +kernel) (by decide +kernel) (fC1 rfl (fC1 rfl fC0)) (Nat.le_of_ble_eq_true rfl) ?_
  show fW G mX7_copyFrom (fEm G mX7_copyFrom (rV q) fNo) 0 0 0 [some (rv G o), some (rv G p1), none] [] M
  rw [f_X7_copyFrom] at h
  refine fW_rg (fun hR => ?_)
  refine fW_iconst 1 dX7_copyFrom_0 rfl ?_
  refine fW_istore_n 2 (ls' := [some (rv G o), some (rv G p1), some (iv 0)]) dX7_copyFrom_1 rfl rfl rfl (by decide) ?_
  refine fW_sb (l_X7_copyFrom_2 hg ho ?_ 20000 p1 0 M hp1 (by decide) h) ⟨rfl, rfl, rfl, trivial⟩
  intro M_8 h
  refine fW_rg (fun hR_8 => ?_)
  exact fW_vret rfl (by decide) (by decide) dX7_copyFrom_29 (rV_i h)
def mX4_copyFrom : fMt := (yX4_copyFrom, cX4_copyFrom, 2, none, { frames := 0, cells := 0, slots := 0, locals := 0 })
theorem miX4_copyFrom : fMv mX4_copyFrom 1 := ⟨⟨fM 1108 (by decide +kernel) rfl, fM 94 (by decide +kernel) rfl, ⟨by decide +kernel, by decide +kernel⟩, by decide +kernel⟩, fM 1106 (by decide +kernel) rfl, fM 1107 (by decide +kernel) rfl⟩
def f_X4_copyFrom (o : Nat) (p1 : Nat) (M : fMem) : Option (fMem) := (if 0 ≤ M p1 0 ∧ M p1 0 ≤ 1 then (if 0 ≤ (mset M o 0 (M p1 0)) p1 1 ∧ (mset M o 0 (M p1 0)) p1 1 ≤ 1 then some (mset (mset (mset (mset (mset (mset (mset (mset (mset M o 0 (M p1 0)) o 1 ((mset M o 0 (M p1 0)) p1 1)) o 2 ((mset (mset M o 0 (M p1 0)) o 1 ((mset M o 0 (M p1 0)) p1 1)) p1 2)) o 3 ((mset (mset (mset M o 0 (M p1 0)) o 1 ((mset M o 0 (M p1 0)) p1 1)) o 2 ((mset (mset M o 0 (M p1 0)) o 1 ((mset M o 0 (M p1 0)) p1 1)) p1 2)) p1 3)) o 4 ((mset (mset (mset (mset M o 0 (M p1 0)) o 1 ((mset M o 0 (M p1 0)) p1 1)) o 2 ((mset (mset M o 0 (M p1 0)) o 1 ((mset M o 0 (M p1 0)) p1 1)) p1 2)) o 3 ((mset (mset (mset M o 0 (M p1 0)) o 1 ((mset M o 0 (M p1 0)) p1 1)) o 2 ((mset (mset M o 0 (M p1 0)) o 1 ((mset M o 0 (M p1 0)) p1 1)) p1 2)) p1 3)) p1 4)) o 5 ((mset (mset (mset (mset (mset M o 0 (M p1 0)) o 1 ((mset M o 0 (M p1 0)) p1 1)) o 2 ((mset (mset M o 0 (M p1 0)) o 1 ((mset M o 0 (M p1 0)) p1 1)) p1 2)) o 3 ((mset (mset (mset M o 0 (M p1 0)) o 1 ((mset M o 0 (M p1 0)) p1 1)) o 2 ((mset (mset M o 0 (M p1 0)) o 1 ((mset M o 0 (M p1 0)) p1 1)) p1 2)) p1 3)) o 4 ((mset (mset (mset (mset M o 0 (M p1 0)) o 1 ((mset M o 0 (M p1 0)) p1 1)) o 2 ((mset (mset M o 0 (M p1 0)) o 1 ((mset M o 0 (M p1 0)) p1 1)) p1 2)) o 3 ((mset (mset (mset M o 0 (M p1 0)) o 1 ((mset M o 0 (M p1 0)) p1 1)) o 2 ((mset (mset M o 0 (M p1 0)) o 1 ((mset M o 0 (M p1 0)) p1 1)) p1 2)) p1 3)) p1 4)) p1 5)) o 6 ((mset (mset (mset (mset (mset (mset M o 0 (M p1 0)) o 1 ((mset M o 0 (M p1 0)) p1 1)) o 2 ((mset (mset M o 0 (M p1 0)) o 1 ((mset M o 0 (M p1 0)) p1 1)) p1 2)) o 3 ((mset (mset (mset M o 0 (M p1 0)) o 1 ((mset M o 0 (M p1 0)) p1 1)) o 2 ((mset (mset M o 0 (M p1 0)) o 1 ((mset M o 0 (M p1 0)) p1 1)) p1 2)) p1 3)) o 4 ((mset (mset (mset (mset M o 0 (M p1 0)) o 1 ((mset M o 0 (M p1 0)) p1 1)) o 2 ((mset (mset M o 0 (M p1 0)) o 1 ((mset M o 0 (M p1 0)) p1 1)) p1 2)) o 3 ((mset (mset (mset M o 0 (M p1 0)) o 1 ((mset M o 0 (M p1 0)) p1 1)) o 2 ((mset (mset M o 0 (M p1 0)) o 1 ((mset M o 0 (M p1 0)) p1 1)) p1 2)) p1 3)) p1 4)) o 5 ((mset (mset (mset (mset (mset M o 0 (M p1 0)) o 1 ((mset M o 0 (M p1 0)) p1 1)) o 2 ((mset (mset M o 0 (M p1 0)) o 1 ((mset M o 0 (M p1 0)) p1 1)) p1 2)) o 3 ((mset (mset (mset M o 0 (M p1 0)) o 1 ((mset M o 0 (M p1 0)) p1 1)) o 2 ((mset (mset M o 0 (M p1 0)) o 1 ((mset M o 0 (M p1 0)) p1 1)) p1 2)) p1 3)) o 4 ((mset (mset (mset (mset M o 0 (M p1 0)) o 1 ((mset M o 0 (M p1 0)) p1 1)) o 2 ((mset (mset M o 0 (M p1 0)) o 1 ((mset M o 0 (M p1 0)) p1 1)) p1 2)) o 3 ((mset (mset (mset M o 0 (M p1 0)) o 1 ((mset M o 0 (M p1 0)) p1 1)) o 2 ((mset (mset M o 0 (M p1 0)) o 1 ((mset M o 0 (M p1 0)) p1 1)) p1 2)) p1 3)) p1 4)) p1 5)) p1 6)) o 7 ((mset (mset (mset (mset (mset (mset (mset M o 0 (M p1 0)) o 1 ((mset M o 0 (M p1 0)) p1 1)) o 2 ((mset (mset M o 0 (M p1 0)) o 1 ((mset M o 0 (M p1 0)) p1 1)) p1 2)) o 3 ((mset (mset (mset M o 0 (M p1 0)) o 1 ((mset M o 0 (M p1 0)) p1 1)) o 2 ((mset (mset M o 0 (M p1 0)) o 1 ((mset M o 0 (M p1 0)) p1 1)) p1 2)) p1 3)) o 4 ((mset (mset (mset (mset M o 0 (M p1 0)) o 1 ((mset M o 0 (M p1 0)) p1 1)) o 2 ((mset (mset M o 0 (M p1 0)) o 1 ((mset M o 0 (M p1 0)) p1 1)) p1 2)) o 3 ((mset (mset (mset M o 0 (M p1 0)) o 1 ((mset M o 0 (M p1 0)) p1 1)) o 2 ((mset (mset M o 0 (M p1 0)) o 1 ((mset M o 0 (M p1 0)) p1 1)) p1 2)) p1 3)) p1 4)) o 5 ((mset (mset (mset (mset (mset M o 0 (M p1 0)) o 1 ((mset M o 0 (M p1 0)) p1 1)) o 2 ((mset (mset M o 0 (M p1 0)) o 1 ((mset M o 0 (M p1 0)) p1 1)) p1 2)) o 3 ((mset (mset (mset M o 0 (M p1 0)) o 1 ((mset M o 0 (M p1 0)) p1 1)) o 2 ((mset (mset M o 0 (M p1 0)) o 1 ((mset M o 0 (M p1 0)) p1 1)) p1 2)) p1 3)) o 4 ((mset (mset (mset (mset M o 0 (M p1 0)) o 1 ((mset M o 0 (M p1 0)) p1 1)) o 2 ((mset (mset M o 0 (M p1 0)) o 1 ((mset M o 0 (M p1 0)) p1 1)) p1 2)) o 3 ((mset (mset (mset M o 0 (M p1 0)) o 1 ((mset M o 0 (M p1 0)) p1 1)) o 2 ((mset (mset M o 0 (M p1 0)) o 1 ((mset M o 0 (M p1 0)) p1 1)) p1 2)) p1 3)) p1 4)) p1 5)) o 6 ((mset (mset (mset (mset (mset (mset M o 0 (M p1 0)) o 1 ((mset M o 0 (M p1 0)) p1 1)) o 2 ((mset (mset M o 0 (M p1 0)) o 1 ((mset M o 0 (M p1 0)) p1 1)) p1 2)) o 3 ((mset (mset (mset M o 0 (M p1 0)) o 1 ((mset M o 0 (M p1 0)) p1 1)) o 2 ((mset (mset M o 0 (M p1 0)) o 1 ((mset M o 0 (M p1 0)) p1 1)) p1 2)) p1 3)) o 4 ((mset (mset (mset (mset M o 0 (M p1 0)) o 1 ((mset M o 0 (M p1 0)) p1 1)) o 2 ((mset (mset M o 0 (M p1 0)) o 1 ((mset M o 0 (M p1 0)) p1 1)) p1 2)) o 3 ((mset (mset (mset M o 0 (M p1 0)) o 1 ((mset M o 0 (M p1 0)) p1 1)) o 2 ((mset (mset M o 0 (M p1 0)) o 1 ((mset M o 0 (M p1 0)) p1 1)) p1 2)) p1 3)) p1 4)) o 5 ((mset (mset (mset (mset (mset M o 0 (M p1 0)) o 1 ((mset M o 0 (M p1 0)) p1 1)) o 2 ((mset (mset M o 0 (M p1 0)) o 1 ((mset M o 0 (M p1 0)) p1 1)) p1 2)) o 3 ((mset (mset (mset M o 0 (M p1 0)) o 1 ((mset M o 0 (M p1 0)) p1 1)) o 2 ((mset (mset M o 0 (M p1 0)) o 1 ((mset M o 0 (M p1 0)) p1 1)) p1 2)) p1 3)) o 4 ((mset (mset (mset (mset M o 0 (M p1 0)) o 1 ((mset M o 0 (M p1 0)) p1 1)) o 2 ((mset (mset M o 0 (M p1 0)) o 1 ((mset M o 0 (M p1 0)) p1 1)) p1 2)) o 3 ((mset (mset (mset M o 0 (M p1 0)) o 1 ((mset M o 0 (M p1 0)) p1 1)) o 2 ((mset (mset M o 0 (M p1 0)) o 1 ((mset M o 0 (M p1 0)) p1 1)) p1 2)) p1 3)) p1 4)) p1 5)) p1 6)) p1 7)) o 8 ((mset (mset (mset (mset (mset (mset (mset (mset M o 0 (M p1 0)) o 1 ((mset M o 0 (M p1 0)) p1 1)) o 2 ((mset (mset M o 0 (M p1 0)) o 1 ((mset M o 0 (M p1 0)) p1 1)) p1 2)) o 3 ((mset (mset (mset M o 0 (M p1 0)) o 1 ((mset M o 0 (M p1 0)) p1 1)) o 2 ((mset (mset M o 0 (M p1 0)) o 1 ((mset M o 0 (M p1 0)) p1 1)) p1 2)) p1 3)) o 4 ((mset (mset (mset (mset M o 0 (M p1 0)) o 1 ((mset M o 0 (M p1 0)) p1 1)) o 2 ((mset (mset M o 0 (M p1 0)) o 1 ((mset M o 0 (M p1 0)) p1 1)) p1 2)) o 3 ((mset (mset (mset M o 0 (M p1 0)) o 1 ((mset M o 0 (M p1 0)) p1 1)) o 2 ((mset (mset M o 0 (M p1 0)) o 1 ((mset M o 0 (M p1 0)) p1 1)) p1 2)) p1 3)) p1 4)) o 5 ((mset (mset (mset (mset (mset M o 0 (M p1 0)) o 1 ((mset M o 0 (M p1 0)) p1 1)) o 2 ((mset (mset M o 0 (M p1 0)) o 1 ((mset M o 0 (M p1 0)) p1 1)) p1 2)) o 3 ((mset (mset (mset M o 0 (M p1 0)) o 1 ((mset M o 0 (M p1 0)) p1 1)) o 2 ((mset (mset M o 0 (M p1 0)) o 1 ((mset M o 0 (M p1 0)) p1 1)) p1 2)) p1 3)) o 4 ((mset (mset (mset (mset M o 0 (M p1 0)) o 1 ((mset M o 0 (M p1 0)) p1 1)) o 2 ((mset (mset M o 0 (M p1 0)) o 1 ((mset M o 0 (M p1 0)) p1 1)) p1 2)) o 3 ((mset (mset (mset M o 0 (M p1 0)) o 1 ((mset M o 0 (M p1 0)) p1 1)) o 2 ((mset (mset M o 0 (M p1 0)) o 1 ((mset M o 0 (M p1 0)) p1 1)) p1 2)) p1 3)) p1 4)) p1 5)) o 6 ((mset (mset (mset (mset (mset (mset M o 0 (M p1 0)) o 1 ((mset M o 0 (M p1 0)) p1 1)) o 2 ((mset (mset M o 0 (M p1 0)) o 1 ((mset M o 0 (M p1 0)) p1 1)) p1 2)) o 3 ((mset (mset (mset M o 0 (M p1 0)) o 1 ((mset M o 0 (M p1 0)) p1 1)) o 2 ((mset (mset M o 0 (M p1 0)) o 1 ((mset M o 0 (M p1 0)) p1 1)) p1 2)) p1 3)) o 4 ((mset (mset (mset (mset M o 0 (M p1 0)) o 1 ((mset M o 0 (M p1 0)) p1 1)) o 2 ((mset (mset M o 0 (M p1 0)) o 1 ((mset M o 0 (M p1 0)) p1 1)) p1 2)) o 3 ((mset (mset (mset M o 0 (M p1 0)) o 1 ((mset M o 0 (M p1 0)) p1 1)) o 2 ((mset (mset M o 0 (M p1 0)) o 1 ((mset M o 0 (M p1 0)) p1 1)) p1 2)) p1 3)) p1 4)) o 5 ((mset (mset (mset (mset (mset M o 0 (M p1 0)) o 1 ((mset M o 0 (M p1 0)) p1 1)) o 2 ((mset (mset M o 0 (M p1 0)) o 1 ((mset M o 0 (M p1 0)) p1 1)) p1 2)) o 3 ((mset (mset (mset M o 0 (M p1 0)) o 1 ((mset M o 0 (M p1 0)) p1 1)) o 2 ((mset (mset M o 0 (M p1 0)) o 1 ((mset M o 0 (M p1 0)) p1 1)) p1 2)) p1 3)) o 4 ((mset (mset (mset (mset M o 0 (M p1 0)) o 1 ((mset M o 0 (M p1 0)) p1 1)) o 2 ((mset (mset M o 0 (M p1 0)) o 1 ((mset M o 0 (M p1 0)) p1 1)) p1 2)) o 3 ((mset (mset (mset M o 0 (M p1 0)) o 1 ((mset M o 0 (M p1 0)) p1 1)) o 2 ((mset (mset M o 0 (M p1 0)) o 1 ((mset M o 0 (M p1 0)) p1 1)) p1 2)) p1 3)) p1 4)) p1 5)) p1 6)) o 7 ((mset (mset (mset (mset (mset (mset (mset M o 0 (M p1 0)) o 1 ((mset M o 0 (M p1 0)) p1 1)) o 2 ((mset (mset M o 0 (M p1 0)) o 1 ((mset M o 0 (M p1 0)) p1 1)) p1 2)) o 3 ((mset (mset (mset M o 0 (M p1 0)) o 1 ((mset M o 0 (M p1 0)) p1 1)) o 2 ((mset (mset M o 0 (M p1 0)) o 1 ((mset M o 0 (M p1 0)) p1 1)) p1 2)) p1 3)) o 4 ((mset (mset (mset (mset M o 0 (M p1 0)) o 1 ((mset M o 0 (M p1 0)) p1 1)) o 2 ((mset (mset M o 0 (M p1 0)) o 1 ((mset M o 0 (M p1 0)) p1 1)) p1 2)) o 3 ((mset (mset (mset M o 0 (M p1 0)) o 1 ((mset M o 0 (M p1 0)) p1 1)) o 2 ((mset (mset M o 0 (M p1 0)) o 1 ((mset M o 0 (M p1 0)) p1 1)) p1 2)) p1 3)) p1 4)) o 5 ((mset (mset (mset (mset (mset M o 0 (M p1 0)) o 1 ((mset M o 0 (M p1 0)) p1 1)) o 2 ((mset (mset M o 0 (M p1 0)) o 1 ((mset M o 0 (M p1 0)) p1 1)) p1 2)) o 3 ((mset (mset (mset M o 0 (M p1 0)) o 1 ((mset M o 0 (M p1 0)) p1 1)) o 2 ((mset (mset M o 0 (M p1 0)) o 1 ((mset M o 0 (M p1 0)) p1 1)) p1 2)) p1 3)) o 4 ((mset (mset (mset (mset M o 0 (M p1 0)) o 1 ((mset M o 0 (M p1 0)) p1 1)) o 2 ((mset (mset M o 0 (M p1 0)) o 1 ((mset M o 0 (M p1 0)) p1 1)) p1 2)) o 3 ((mset (mset (mset M o 0 (M p1 0)) o 1 ((mset M o 0 (M p1 0)) p1 1)) o 2 ((mset (mset M o 0 (M p1 0)) o 1 ((mset M o 0 (M p1 0)) p1 1)) p1 2)) p1 3)) p1 4)) p1 5)) o 6 ((mset (mset (mset (mset (mset (mset M o 0 (M p1 0)) o 1 ((mset M o 0 (M p1 0)) p1 1)) o 2 ((mset (mset M o 0 (M p1 0)) o 1 ((mset M o 0 (M p1 0)) p1 1)) p1 2)) o 3 ((mset (mset (mset M o 0 (M p1 0)) o 1 ((mset M o 0 (M p1 0)) p1 1)) o 2 ((mset (mset M o 0 (M p1 0)) o 1 ((mset M o 0 (M p1 0)) p1 1)) p1 2)) p1 3)) o 4 ((mset (mset (mset (mset M o 0 (M p1 0)) o 1 ((mset M o 0 (M p1 0)) p1 1)) o 2 ((mset (mset M o 0 (M p1 0)) o 1 ((mset M o 0 (M p1 0)) p1 1)) p1 2)) o 3 ((mset (mset (mset M o 0 (M p1 0)) o 1 ((mset M o 0 (M p1 0)) p1 1)) o 2 ((mset (mset M o 0 (M p1 0)) o 1 ((mset M o 0 (M p1 0)) p1 1)) p1 2)) p1 3)) p1 4)) o 5 ((mset (mset (mset (mset (mset M o 0 (M p1 0)) o 1 ((mset M o 0 (M p1 0)) p1 1)) o 2 ((mset (mset M o 0 (M p1 0)) o 1 ((mset M o 0 (M p1 0)) p1 1)) p1 2)) o 3 ((mset (mset (mset M o 0 (M p1 0)) o 1 ((mset M o 0 (M p1 0)) p1 1)) o 2 ((mset (mset M o 0 (M p1 0)) o 1 ((mset M o 0 (M p1 0)) p1 1)) p1 2)) p1 3)) o 4 ((mset (mset (mset (mset M o 0 (M p1 0)) o 1 ((mset M o 0 (M p1 0)) p1 1)) o 2 ((mset (mset M o 0 (M p1 0)) o 1 ((mset M o 0 (M p1 0)) p1 1)) p1 2)) o 3 ((mset (mset (mset M o 0 (M p1 0)) o 1 ((mset M o 0 (M p1 0)) p1 1)) o 2 ((mset (mset M o 0 (M p1 0)) o 1 ((mset M o 0 (M p1 0)) p1 1)) p1 2)) p1 3)) p1 4)) p1 5)) p1 6)) p1 7)) p1 8)) else none) else none)
set_option maxRecDepth 100000 in
set_option maxHeartbeats 4000000 in
theorem s_X4_copyFrom {G : fG} (hg : gbt G = true) {o : Nat} (ho : fTyp o 4) {p1 : Nat} (hp1 : fTyp p1 4) {M : fMem} {q : fMem} (h : f_X4_copyFrom o p1 M = some q) : fSp G mX4_copyFrom [rv G o, rv G p1] M (rV q) fNo := by
  refine fSp_of (by decide +kernel) (by decide +kernel) (fC1 rfl (fC1 rfl fC0)) (Nat.le_of_ble_eq_true rfl) ?_
  show fW G mX4_copyFrom (fEm G mX4_copyFrom (rV q) fNo) 0 0 0 [some (rv G o), some (rv G p1)] [] M
  rw [f_X4_copyFrom] at h
  refine fW_rg (fun hR => ?_)
  refine fW_aload_n 1 dX4_copyFrom_0 rfl rfl ?_
  refine fW_aload_n 2 dX4_copyFrom_1 rfl rfl ?_
  refine fW_getI 5 0 (ji := 0) hg clX4 rfl (by decide) rfl hp1 wd_206 dX4_copyFrom_2 rfl ?_
  obtain ⟨c1, h⟩ := fS h
  refine fW_putZ 8 0 (ji := 0) hg clX4 rfl (by decide) rfl rfl rfl ho c1 wd_206 dX4_copyFrom_5 rfl ?_
  refine fW_rg (fun hR2 => ?_)
  refine fW_aload_n 9 dX4_copyFrom_8 rfl rfl ?_
  refine fW_aload_n 10 dX4_copyFrom_9 rfl rfl ?_
  refine fW_getI 13 1 (ji := 1) hg clX4 rfl (by decide) rfl hp1 wd_209 dX4_copyFrom_10 rfl ?_
  obtain ⟨c3, h⟩ := fS h
  refine fW_putZ 16 1 (ji := 1) hg clX4 rfl (by decide) rfl rfl rfl ho c3 wd_209 dX4_copyFrom_13 rfl ?_
  refine fW_rg (fun hR4 => ?_)
  refine fW_aload_n 17 dX4_copyFrom_16 rfl rfl ?_
  refine fW_aload_n 18 dX4_copyFrom_17 rfl rfl ?_
  refine fW_getI 21 2 (ji := 2) hg clX4 rfl (by decide) rfl hp1 wd_212 dX4_copyFrom_18 rfl ?_
  refine fW_putI 24 2 (ji := 2) hg clX4 rfl (by decide) rfl rfl rfl ho (hR4 p1 2) wd_212 dX4_copyFrom_21 rfl ?_
  refine fW_rg (fun hR5 => ?_)
  refine fW_aload_n 25 dX4_copyFrom_24 rfl rfl ?_
  refine fW_aload_n 26 dX4_copyFrom_25 rfl rfl ?_
  refine fW_getI 29 3 (ji := 3) hg clX4 rfl (by decide) rfl hp1 wd_214 dX4_copyFrom_26 rfl ?_
  refine fW_putI 32 3 (ji := 3) hg clX4 rfl (by decide) rfl rfl rfl ho (hR5 p1 3) wd_214 dX4_copyFrom_29 rfl ?_
  refine fW_rg (fun hR6 => ?_)
  refine fW_aload_n 33 dX4_copyFrom_32 rfl rfl ?_
  refine fW_aload_n 34 dX4_copyFrom_33 rfl rfl ?_
  refine fW_getI 37 4 (ji := 4) hg clX4 rfl (by decide) rfl hp1 wd_216 dX4_copyFrom_34 rfl ?_
  refine fW_putI 40 4 (ji := 4) hg clX4 rfl (by decide) rfl rfl rfl ho (hR6 p1 4) wd_216 dX4_copyFrom_37 rfl ?_
  refine fW_rg (fun hR7 => ?_)
  refine fW_aload_n 41 dX4_copyFrom_40 rfl rfl ?_
  refine fW_aload_n 42 dX4_copyFrom_41 rfl rfl ?_
  refine fW_getI 45 5 (ji := 5) hg clX4 rfl (by decide) rfl hp1 wd_218 dX4_copyFrom_42 rfl ?_
  refine fW_putI 48 5 (ji := 5) hg clX4 rfl (by decide) rfl rfl rfl ho (hR7 p1 5) wd_218 dX4_copyFrom_45 rfl ?_
  refine fW_rg (fun hR8 => ?_)
  refine fW_aload_n 49 dX4_copyFrom_48 rfl rfl ?_
  refine fW_aload_n 50 dX4_copyFrom_49 rfl rfl ?_
  refine fW_getI 53 6 (ji := 6) hg clX4 rfl (by decide) rfl hp1 wd_220 dX4_copyFrom_50 rfl ?_
  refine fW_putI 56 6 (ji := 6) hg clX4 rfl (by decide) rfl rfl rfl ho (hR8 p1 6) wd_220 dX4_copyFrom_53 rfl ?_
  refine fW_rg (fun hR9 => ?_)
  refine fW_aload_n 57 dX4_copyFrom_56 rfl rfl ?_
  refine fW_aload_n 58 dX4_copyFrom_57 rfl rfl ?_
  refine fW_getI 61 7 (ji := 7) hg clX4 rfl (by decide) rfl hp1 wd_222 dX4_copyFrom_58 rfl ?_
  refine fW_putI 64 7 (ji := 7) hg clX4 rfl (by decide) rfl rfl rfl ho (hR9 p1 7) wd_222 dX4_copyFrom_61 rfl ?_
  refine fW_rg (fun hR10 => ?_)
  refine fW_aload_n 65 dX4_copyFrom_64 rfl rfl ?_
  refine fW_aload_n 66 dX4_copyFrom_65 rfl rfl ?_
  refine fW_getI 69 8 (ji := 8) hg clX4 rfl (by decide) rfl hp1 wd_225 dX4_copyFrom_66 rfl ?_
  refine fW_putI 72 8 (ji := 8) hg clX4 rfl (by decide) rfl rfl rfl ho (hR10 p1 8) wd_225 dX4_copyFrom_69 rfl ?_
  refine fW_rg (fun hR11 => ?_)
  exact fW_vret rfl (by decide) (by decide) dX4_copyFrom_72 (rV_i h)
def mX0_copyFrom : fMt := (yX0_copyFrom, cX0_copyFrom, 3, none, { frames := 4, cells := 0, slots := 0, locals := 160 })
theorem miX0_copyFrom : fMv mX0_copyFrom 1 := ⟨⟨fM 1100 (by decide +kernel) rfl, fM 90 (by decide +kernel) rfl, ⟨by decide +kernel, by decide +kernel⟩, by decide +kernel⟩, fM 1098 (by decide +kernel) rfl, fM 1099 (by decide +kernel) rfl⟩
def L_X0_copyFrom_13 (o : Nat) (k : Nat → fMem → Option (fMem)) : Nat → Nat → Int → fMem → Option (fMem)
  | 0, _, _, _ => none
  | n + 1, w1, v2, M => (if 9 ≤ v2 then k w1 M else (if 0 ≤ v2 ∧ v2 < 9 then (if 0 ≤ v2 ∧ v2 < 9 then ((f_X4_copyFrom (o + v2.toNat + 62) (w1 + v2.toNat + 62) M).bind fun (r8 : fMem) => L_X0_copyFrom_13 o k n w1 (v2 + 1) r8) else none) else none))
set_option maxRecDepth 100000 in
set_option maxHeartbeats 4000000 in
theorem l_X0_copyFrom_13 {G : fG} (hg : gbt G = true) {o : Nat} (ho : fTyp o 0) {q : fMem} {k : Nat → fMem → Option (fMem)} (hk : ∀ (w1 : Nat) (M : fMem), fTyp w1 0 → k w1 M = some q → fW G mX0_copyFrom (fEm G mX0_copyFrom (rV q) fNo) 0 0 40 [some (rv G o), some (rv G w1), none] [] M) : ∀ (n : Nat) (w1 : Nat) (v2 : Int) (M : fMem), fTyp w1 0 → rg v2 → L_X0_copyFrom_13 o k n w1 v2 M = some q → fW G mX0_copyFrom (fEm G mX0_copyFrom (rV q) fNo) 0 0 13 [some (rv G o), some (rv G w1), some (iv v2)] [] M := by
  intro n
  induction n with
  | zero =>
    intro w1 v2 M tw1 gv2 h
    rw [L_X0_copyFrom_13] at h
    exact absurd h (by simp)
  | succ n ih =>
    intro w1 v2 M tw1 gv2 h
    rw [L_X0_copyFrom_13] at h
    refine fW_rg (fun hR => ?_)
    refine fW_iload_n 14 dX0_copyFrom_13 rfl rfl ?_
    refine fW_bipush 16 dX0_copyFrom_14 rfl (by decide) ?_
    refine fW_icmp_ge 19 40 gv2 (by decide) dX0_copyFrom_16 rfl rfl (fun c3 => ?_) (fun c3 => ?_)
    · replace h := fTt h c3
      exact fW_sb (hk w1 M tw1 h) ⟨rfl, rfl, trivial⟩
    · replace h := fFf h c3
      refine fW_aload_n 20 dX0_copyFrom_19 rfl rfl ?_
      refine fW_getR 23 (r := o + 61) 1 hg clX0 (by decide) rfl ho (tf_0_1 ho) wd_249 dX0_copyFrom_20 rfl ?_
      refine fW_iload_n 24 dX0_copyFrom_23 rfl rfl ?_
      obtain ⟨c4, h⟩ := fS h
      have t5 := ta_15 (r := o + v2.toNat + 62) (tt_0_1 ho) c4 (by omega)
      refine fW_aald 25 3 hg (tt_0_1 ho) (by decide) (by decide) t5.1 t5.2.2 rfl dX0_copyFrom_24 rfl ?_
      refine fW_aload_n 26 dX0_copyFrom_25 rfl rfl ?_
      refine fW_getR 29 (r := w1 + 61) 1 hg clX0 (by decide) rfl tw1 (tf_0_1 tw1) wd_249 dX0_copyFrom_26 rfl ?_
      refine fW_iload_n 30 dX0_copyFrom_29 rfl rfl ?_
      obtain ⟨c6, h⟩ := fS h
      have t7 := ta_15 (r := w1 + v2.toNat + 62) (tt_0_1 tw1) c6 (by omega)
      refine fW_aald 31 3 hg (tt_0_1 tw1) (by decide) (by decide) t7.1 t7.2.2 rfl dX0_copyFrom_30 rfl ?_
      obtain ⟨r8, e8, h⟩ := fBd h
      refine fW_cV (fI_V (as := [rv G (w1 + v2.toNat + 62)]) (rest := []) miX4_copyFrom hg clX4 rfl t5.2.1 wd_1105 (fRoom_of rfl) rfl (Nat.le_of_ble_eq_true rfl) dX0_copyFrom_31) (s_X4_copyFrom hg t5.2.1 t7.2.1 e8) rfl rfl rfl ?_
      refine fW_rg (fun hR9 => ?_)
      refine fW_iinc 37 (ls' := [some (rv G o), some (rv G w1), some (iv (v2 + 1))]) dX0_copyFrom_34 rfl rfl rfl (by decide) ?_
      refine fW_goto 13 dX0_copyFrom_37 rfl ?_
      exact fW_sb (ih w1 (v2 + 1) r8 tw1 (rg_succ' gv2 (by decide) c3) h) ⟨rfl, rfl, rfl, trivial⟩
def f_X0_copyFrom (o : Nat) (p1 : Nat) (M : fMem) : Option (fMem) := ((f_X7_copyFrom (o + 1) (p1 + 1) M).bind fun (r1 : fMem) => L_X0_copyFrom_13 o (fun (w1_10 : Nat) (M_10 : fMem) => some (mset (mset (mset (mset (mset (mset (mset (mset M_10 o 2 (M_10 w1_10 2)) o 3 ((mset M_10 o 2 (M_10 w1_10 2)) w1_10 3)) o 4 ((mset (mset M_10 o 2 (M_10 w1_10 2)) o 3 ((mset M_10 o 2 (M_10 w1_10 2)) w1_10 3)) w1_10 4)) o 5 ((mset (mset (mset M_10 o 2 (M_10 w1_10 2)) o 3 ((mset M_10 o 2 (M_10 w1_10 2)) w1_10 3)) o 4 ((mset (mset M_10 o 2 (M_10 w1_10 2)) o 3 ((mset M_10 o 2 (M_10 w1_10 2)) w1_10 3)) w1_10 4)) w1_10 5)) o 6 ((mset (mset (mset (mset M_10 o 2 (M_10 w1_10 2)) o 3 ((mset M_10 o 2 (M_10 w1_10 2)) w1_10 3)) o 4 ((mset (mset M_10 o 2 (M_10 w1_10 2)) o 3 ((mset M_10 o 2 (M_10 w1_10 2)) w1_10 3)) w1_10 4)) o 5 ((mset (mset (mset M_10 o 2 (M_10 w1_10 2)) o 3 ((mset M_10 o 2 (M_10 w1_10 2)) w1_10 3)) o 4 ((mset (mset M_10 o 2 (M_10 w1_10 2)) o 3 ((mset M_10 o 2 (M_10 w1_10 2)) w1_10 3)) w1_10 4)) w1_10 5)) w1_10 6)) o 7 ((mset (mset (mset (mset (mset M_10 o 2 (M_10 w1_10 2)) o 3 ((mset M_10 o 2 (M_10 w1_10 2)) w1_10 3)) o 4 ((mset (mset M_10 o 2 (M_10 w1_10 2)) o 3 ((mset M_10 o 2 (M_10 w1_10 2)) w1_10 3)) w1_10 4)) o 5 ((mset (mset (mset M_10 o 2 (M_10 w1_10 2)) o 3 ((mset M_10 o 2 (M_10 w1_10 2)) w1_10 3)) o 4 ((mset (mset M_10 o 2 (M_10 w1_10 2)) o 3 ((mset M_10 o 2 (M_10 w1_10 2)) w1_10 3)) w1_10 4)) w1_10 5)) o 6 ((mset (mset (mset (mset M_10 o 2 (M_10 w1_10 2)) o 3 ((mset M_10 o 2 (M_10 w1_10 2)) w1_10 3)) o 4 ((mset (mset M_10 o 2 (M_10 w1_10 2)) o 3 ((mset M_10 o 2 (M_10 w1_10 2)) w1_10 3)) w1_10 4)) o 5 ((mset (mset (mset M_10 o 2 (M_10 w1_10 2)) o 3 ((mset M_10 o 2 (M_10 w1_10 2)) w1_10 3)) o 4 ((mset (mset M_10 o 2 (M_10 w1_10 2)) o 3 ((mset M_10 o 2 (M_10 w1_10 2)) w1_10 3)) w1_10 4)) w1_10 5)) w1_10 6)) w1_10 7)) o 8 ((mset (mset (mset (mset (mset (mset M_10 o 2 (M_10 w1_10 2)) o 3 ((mset M_10 o 2 (M_10 w1_10 2)) w1_10 3)) o 4 ((mset (mset M_10 o 2 (M_10 w1_10 2)) o 3 ((mset M_10 o 2 (M_10 w1_10 2)) w1_10 3)) w1_10 4)) o 5 ((mset (mset (mset M_10 o 2 (M_10 w1_10 2)) o 3 ((mset M_10 o 2 (M_10 w1_10 2)) w1_10 3)) o 4 ((mset (mset M_10 o 2 (M_10 w1_10 2)) o 3 ((mset M_10 o 2 (M_10 w1_10 2)) w1_10 3)) w1_10 4)) w1_10 5)) o 6 ((mset (mset (mset (mset M_10 o 2 (M_10 w1_10 2)) o 3 ((mset M_10 o 2 (M_10 w1_10 2)) w1_10 3)) o 4 ((mset (mset M_10 o 2 (M_10 w1_10 2)) o 3 ((mset M_10 o 2 (M_10 w1_10 2)) w1_10 3)) w1_10 4)) o 5 ((mset (mset (mset M_10 o 2 (M_10 w1_10 2)) o 3 ((mset M_10 o 2 (M_10 w1_10 2)) w1_10 3)) o 4 ((mset (mset M_10 o 2 (M_10 w1_10 2)) o 3 ((mset M_10 o 2 (M_10 w1_10 2)) w1_10 3)) w1_10 4)) w1_10 5)) w1_10 6)) o 7 ((mset (mset (mset (mset (mset M_10 o 2 (M_10 w1_10 2)) o 3 ((mset M_10 o 2 (M_10 w1_10 2)) w1_10 3)) o 4 ((mset (mset M_10 o 2 (M_10 w1_10 2)) o 3 ((mset M_10 o 2 (M_10 w1_10 2)) w1_10 3)) w1_10 4)) o 5 ((mset (mset (mset M_10 o 2 (M_10 w1_10 2)) o 3 ((mset M_10 o 2 (M_10 w1_10 2)) w1_10 3)) o 4 ((mset (mset M_10 o 2 (M_10 w1_10 2)) o 3 ((mset M_10 o 2 (M_10 w1_10 2)) w1_10 3)) w1_10 4)) w1_10 5)) o 6 ((mset (mset (mset (mset M_10 o 2 (M_10 w1_10 2)) o 3 ((mset M_10 o 2 (M_10 w1_10 2)) w1_10 3)) o 4 ((mset (mset M_10 o 2 (M_10 w1_10 2)) o 3 ((mset M_10 o 2 (M_10 w1_10 2)) w1_10 3)) w1_10 4)) o 5 ((mset (mset (mset M_10 o 2 (M_10 w1_10 2)) o 3 ((mset M_10 o 2 (M_10 w1_10 2)) w1_10 3)) o 4 ((mset (mset M_10 o 2 (M_10 w1_10 2)) o 3 ((mset M_10 o 2 (M_10 w1_10 2)) w1_10 3)) w1_10 4)) w1_10 5)) w1_10 6)) w1_10 7)) w1_10 8)) o 9 ((mset (mset (mset (mset (mset (mset (mset M_10 o 2 (M_10 w1_10 2)) o 3 ((mset M_10 o 2 (M_10 w1_10 2)) w1_10 3)) o 4 ((mset (mset M_10 o 2 (M_10 w1_10 2)) o 3 ((mset M_10 o 2 (M_10 w1_10 2)) w1_10 3)) w1_10 4)) o 5 ((mset (mset (mset M_10 o 2 (M_10 w1_10 2)) o 3 ((mset M_10 o 2 (M_10 w1_10 2)) w1_10 3)) o 4 ((mset (mset M_10 o 2 (M_10 w1_10 2)) o 3 ((mset M_10 o 2 (M_10 w1_10 2)) w1_10 3)) w1_10 4)) w1_10 5)) o 6 ((mset (mset (mset (mset M_10 o 2 (M_10 w1_10 2)) o 3 ((mset M_10 o 2 (M_10 w1_10 2)) w1_10 3)) o 4 ((mset (mset M_10 o 2 (M_10 w1_10 2)) o 3 ((mset M_10 o 2 (M_10 w1_10 2)) w1_10 3)) w1_10 4)) o 5 ((mset (mset (mset M_10 o 2 (M_10 w1_10 2)) o 3 ((mset M_10 o 2 (M_10 w1_10 2)) w1_10 3)) o 4 ((mset (mset M_10 o 2 (M_10 w1_10 2)) o 3 ((mset M_10 o 2 (M_10 w1_10 2)) w1_10 3)) w1_10 4)) w1_10 5)) w1_10 6)) o 7 ((mset (mset (mset (mset (mset M_10 o 2 (M_10 w1_10 2)) o 3 ((mset M_10 o 2 (M_10 w1_10 2)) w1_10 3)) o 4 ((mset (mset M_10 o 2 (M_10 w1_10 2)) o 3 ((mset M_10 o 2 (M_10 w1_10 2)) w1_10 3)) w1_10 4)) o 5 ((mset (mset (mset M_10 o 2 (M_10 w1_10 2)) o 3 ((mset M_10 o 2 (M_10 w1_10 2)) w1_10 3)) o 4 ((mset (mset M_10 o 2 (M_10 w1_10 2)) o 3 ((mset M_10 o 2 (M_10 w1_10 2)) w1_10 3)) w1_10 4)) w1_10 5)) o 6 ((mset (mset (mset (mset M_10 o 2 (M_10 w1_10 2)) o 3 ((mset M_10 o 2 (M_10 w1_10 2)) w1_10 3)) o 4 ((mset (mset M_10 o 2 (M_10 w1_10 2)) o 3 ((mset M_10 o 2 (M_10 w1_10 2)) w1_10 3)) w1_10 4)) o 5 ((mset (mset (mset M_10 o 2 (M_10 w1_10 2)) o 3 ((mset M_10 o 2 (M_10 w1_10 2)) w1_10 3)) o 4 ((mset (mset M_10 o 2 (M_10 w1_10 2)) o 3 ((mset M_10 o 2 (M_10 w1_10 2)) w1_10 3)) w1_10 4)) w1_10 5)) w1_10 6)) w1_10 7)) o 8 ((mset (mset (mset (mset (mset (mset M_10 o 2 (M_10 w1_10 2)) o 3 ((mset M_10 o 2 (M_10 w1_10 2)) w1_10 3)) o 4 ((mset (mset M_10 o 2 (M_10 w1_10 2)) o 3 ((mset M_10 o 2 (M_10 w1_10 2)) w1_10 3)) w1_10 4)) o 5 ((mset (mset (mset M_10 o 2 (M_10 w1_10 2)) o 3 ((mset M_10 o 2 (M_10 w1_10 2)) w1_10 3)) o 4 ((mset (mset M_10 o 2 (M_10 w1_10 2)) o 3 ((mset M_10 o 2 (M_10 w1_10 2)) w1_10 3)) w1_10 4)) w1_10 5)) o 6 ((mset (mset (mset (mset M_10 o 2 (M_10 w1_10 2)) o 3 ((mset M_10 o 2 (M_10 w1_10 2)) w1_10 3)) o 4 ((mset (mset M_10 o 2 (M_10 w1_10 2)) o 3 ((mset M_10 o 2 (M_10 w1_10 2)) w1_10 3)) w1_10 4)) o 5 ((mset (mset (mset M_10 o 2 (M_10 w1_10 2)) o 3 ((mset M_10 o 2 (M_10 w1_10 2)) w1_10 3)) o 4 ((mset (mset M_10 o 2 (M_10 w1_10 2)) o 3 ((mset M_10 o 2 (M_10 w1_10 2)) w1_10 3)) w1_10 4)) w1_10 5)) w1_10 6)) o 7 ((mset (mset (mset (mset (mset M_10 o 2 (M_10 w1_10 2)) o 3 ((mset M_10 o 2 (M_10 w1_10 2)) w1_10 3)) o 4 ((mset (mset M_10 o 2 (M_10 w1_10 2)) o 3 ((mset M_10 o 2 (M_10 w1_10 2)) w1_10 3)) w1_10 4)) o 5 ((mset (mset (mset M_10 o 2 (M_10 w1_10 2)) o 3 ((mset M_10 o 2 (M_10 w1_10 2)) w1_10 3)) o 4 ((mset (mset M_10 o 2 (M_10 w1_10 2)) o 3 ((mset M_10 o 2 (M_10 w1_10 2)) w1_10 3)) w1_10 4)) w1_10 5)) o 6 ((mset (mset (mset (mset M_10 o 2 (M_10 w1_10 2)) o 3 ((mset M_10 o 2 (M_10 w1_10 2)) w1_10 3)) o 4 ((mset (mset M_10 o 2 (M_10 w1_10 2)) o 3 ((mset M_10 o 2 (M_10 w1_10 2)) w1_10 3)) w1_10 4)) o 5 ((mset (mset (mset M_10 o 2 (M_10 w1_10 2)) o 3 ((mset M_10 o 2 (M_10 w1_10 2)) w1_10 3)) o 4 ((mset (mset M_10 o 2 (M_10 w1_10 2)) o 3 ((mset M_10 o 2 (M_10 w1_10 2)) w1_10 3)) w1_10 4)) w1_10 5)) w1_10 6)) w1_10 7)) w1_10 8)) w1_10 9))) 20000 p1 0 r1)
set_option maxRecDepth 100000 in
set_option maxHeartbeats 4000000 in
theorem s_X0_copyFrom {G : fG} (hg : gbt G = true) {o : Nat} (ho : fTyp o 0) {p1 : Nat} (hp1 : fTyp p1 0) {M : fMem} {q : fMem} (h : f_X0_copyFrom o p1 M = some q) : fSp G mX0_copyFrom [rv G o, rv G p1] M (rV q) fNo := by
  refine fSp_of (by decide +kernel) (by decide +kernel) (fC1 rfl (fC1 rfl fC0)) (Nat.le_of_ble_eq_true rfl) ?_
  show fW G mX0_copyFrom (fEm G mX0_copyFrom (rV q) fNo) 0 0 0 [some (rv G o), some (rv G p1), none] [] M
  rw [f_X0_copyFrom] at h
  refine fW_rg (fun hR => ?_)
  refine fW_aload_n 1 dX0_copyFrom_0 rfl rfl ?_
  refine fW_getR 4 (r := o + 1) 0 hg clX0 (by decide) rfl ho (tf_0_0 ho) wd_247 dX0_copyFrom_1 rfl ?_
  refine fW_aload_n 5 dX0_copyFrom_4 rfl rfl ?_
  refine fW_getR 8 (r := p1 + 1) 0 hg clX0 (by decide) rfl hp1 (tf_0_0 hp1) wd_247 dX0_copyFrom_5 rfl ?_
  obtain ⟨r1, e1, h⟩ := fBd h
  refine fW_cV (fI_V (as := [rv G (p1 + 1)]) (rest := []) miX7_copyFrom hg clX7 rfl (tt_0_0 ho) wd_1101 (fRoom_of rfl) rfl (Nat.le_of_ble_eq_true rfl) dX0_copyFrom_8) (s_X7_copyFrom hg (tt_0_0 ho) (tt_0_0 hp1) e1) rfl rfl rfl ?_
  refine fW_rg (fun hR2 => ?_)
  refine fW_iconst 12 dX0_copyFrom_11 rfl ?_
  refine fW_istore_n 13 (ls' := [some (rv G o), some (rv G p1), some (iv 0)]) dX0_copyFrom_12 rfl rfl rfl (by decide) ?_
  refine fW_sb (l_X0_copyFrom_13 hg ho ?_ 20000 p1 0 r1 hp1 (by decide) h) ⟨rfl, rfl, rfl, trivial⟩
  intro w1_10 M_10 tw1_10 h
  refine fW_rg (fun hR_10 => ?_)
  refine fW_aload_n 41 dX0_copyFrom_40 rfl rfl ?_
  refine fW_aload_n 42 dX0_copyFrom_41 rfl rfl ?_
  refine fW_getI 45 2 (ji := 2) hg clX0 rfl (by decide) rfl tw1_10 wd_251 dX0_copyFrom_42 rfl ?_
  refine fW_putI 48 2 (ji := 2) hg clX0 rfl (by decide) rfl rfl rfl ho (hR_10 w1_10 2) wd_251 dX0_copyFrom_45 rfl ?_
  refine fW_rg (fun hR11 => ?_)
  refine fW_aload_n 49 dX0_copyFrom_48 rfl rfl ?_
  refine fW_aload_n 50 dX0_copyFrom_49 rfl rfl ?_
  refine fW_getI 53 3 (ji := 3) hg clX0 rfl (by decide) rfl tw1_10 wd_253 dX0_copyFrom_50 rfl ?_
  refine fW_putI 56 3 (ji := 3) hg clX0 rfl (by decide) rfl rfl rfl ho (hR11 w1_10 3) wd_253 dX0_copyFrom_53 rfl ?_
  refine fW_rg (fun hR12 => ?_)
  refine fW_aload_n 57 dX0_copyFrom_56 rfl rfl ?_
  refine fW_aload_n 58 dX0_copyFrom_57 rfl rfl ?_
  refine fW_getI 61 4 (ji := 4) hg clX0 rfl (by decide) rfl tw1_10 wd_254 dX0_copyFrom_58 rfl ?_
  refine fW_putI 64 4 (ji := 4) hg clX0 rfl (by decide) rfl rfl rfl ho (hR12 w1_10 4) wd_254 dX0_copyFrom_61 rfl ?_
  refine fW_rg (fun hR13 => ?_)
  refine fW_aload_n 65 dX0_copyFrom_64 rfl rfl ?_
  refine fW_aload_n 66 dX0_copyFrom_65 rfl rfl ?_
  refine fW_getI 69 5 (ji := 5) hg clX0 rfl (by decide) rfl tw1_10 wd_256 dX0_copyFrom_66 rfl ?_
  refine fW_putI 72 5 (ji := 5) hg clX0 rfl (by decide) rfl rfl rfl ho (hR13 w1_10 5) wd_256 dX0_copyFrom_69 rfl ?_
  refine fW_rg (fun hR14 => ?_)
  refine fW_aload_n 73 dX0_copyFrom_72 rfl rfl ?_
  refine fW_aload_n 74 dX0_copyFrom_73 rfl rfl ?_
  refine fW_getI 77 6 (ji := 6) hg clX0 rfl (by decide) rfl tw1_10 wd_258 dX0_copyFrom_74 rfl ?_
  refine fW_putI 80 6 (ji := 6) hg clX0 rfl (by decide) rfl rfl rfl ho (hR14 w1_10 6) wd_258 dX0_copyFrom_77 rfl ?_
  refine fW_rg (fun hR15 => ?_)
  refine fW_aload_n 81 dX0_copyFrom_80 rfl rfl ?_
  refine fW_aload_n 82 dX0_copyFrom_81 rfl rfl ?_
  refine fW_getI 85 7 (ji := 7) hg clX0 rfl (by decide) rfl tw1_10 wd_260 dX0_copyFrom_82 rfl ?_
  refine fW_putI 88 7 (ji := 7) hg clX0 rfl (by decide) rfl rfl rfl ho (hR15 w1_10 7) wd_260 dX0_copyFrom_85 rfl ?_
  refine fW_rg (fun hR16 => ?_)
  refine fW_aload_n 89 dX0_copyFrom_88 rfl rfl ?_
  refine fW_aload_n 90 dX0_copyFrom_89 rfl rfl ?_
  refine fW_getI 93 8 (ji := 8) hg clX0 rfl (by decide) rfl tw1_10 wd_262 dX0_copyFrom_90 rfl ?_
  refine fW_putI 96 8 (ji := 8) hg clX0 rfl (by decide) rfl rfl rfl ho (hR16 w1_10 8) wd_262 dX0_copyFrom_93 rfl ?_
  refine fW_rg (fun hR17 => ?_)
  refine fW_aload_n 97 dX0_copyFrom_96 rfl rfl ?_
  refine fW_aload_n 98 dX0_copyFrom_97 rfl rfl ?_
  refine fW_getI 101 9 (ji := 9) hg clX0 rfl (by decide) rfl tw1_10 wd_264 dX0_copyFrom_98 rfl ?_
  refine fW_putI 104 9 (ji := 9) hg clX0 rfl (by decide) rfl rfl rfl ho (hR17 w1_10 9) wd_264 dX0_copyFrom_101 rfl ?_
  refine fW_rg (fun hR18 => ?_)
  exact fW_vret rfl (by decide) (by decide) dX0_copyFrom_104 (rV_i h)
def mX1_clear : fMt := (yX1_clear, cX1_clear, 1, none, { frames := 0, cells := 0, slots := 0, locals := 0 })
theorem miX1_clear : fMv mX1_clear 0 := ⟨⟨fM 794 (by decide +kernel) rfl, fM 98 (by decide +kernel) rfl, ⟨by decide +kernel, by decide +kernel⟩, by decide +kernel⟩, fM 792 (by decide +kernel) rfl, fM 793 (by decide +kernel) rfl⟩
def f_X1_clear (o : Nat) (M : fMem) : Option (fMem) := some (mset (mset M o 3 0) o 4 0)
set_option maxRecDepth 100000 in
set_option maxHeartbeats 4000000 in
theorem s_X1_clear {G : fG} (hg : gbt G = true) {o : Nat} (ho : fTyp o 1) {M : fMem} {q : fMem} (h : f_X1_clear o M = some q) : fSp G mX1_clear [rv G o] M (rV q) fNo := by
  refine fSp_of (by decide +kernel) (by decide +kernel) (fC1 rfl fC0) (Nat.le_of_ble_eq_true rfl) ?_
  show fW G mX1_clear (fEm G mX1_clear (rV q) fNo) 0 0 0 [some (rv G o)] [] M
  rw [f_X1_clear] at h
  refine fW_rg (fun hR => ?_)
  refine fW_aload_n 1 dX1_clear_0 rfl rfl ?_
  refine fW_iconst 2 dX1_clear_1 rfl ?_
  refine fW_putI 5 3 (ji := 3) hg clX1 rfl (by decide) rfl rfl rfl ho (by decide) wd_344 dX1_clear_2 rfl ?_
  refine fW_rg (fun hR1 => ?_)
  refine fW_aload_n 6 dX1_clear_5 rfl rfl ?_
  refine fW_iconst 7 dX1_clear_6 rfl ?_
  refine fW_putI 10 4 (ji := 4) hg clX1 rfl (by decide) rfl rfl rfl ho (by decide) wd_348 dX1_clear_7 rfl ?_
  refine fW_rg (fun hR2 => ?_)
  exact fW_vret rfl (by decide) (by decide) dX1_clear_10 (rV_i h)
end MTH
