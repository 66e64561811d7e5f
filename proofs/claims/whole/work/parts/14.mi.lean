section MTH
def mX5_followPlain : fMt := (yX5_followPlain, cX5_followPlain, 7, none, { frames := 2, cells := 0, slots := 0, locals := 80 })
theorem miX5_followPlain : fMv mX5_followPlain 2 := ⟨⟨fM 830 (by decide +kernel) rfl, fM 99 (by decide +kernel) rfl, ⟨by decide +kernel, by decide +kernel⟩, by decide +kernel⟩, fM 828 (by decide +kernel) rfl, fM 829 (by decide +kernel) rfl⟩
def L_X5_followPlain_9  (k : fMem → Option (fMem)) : Nat → Nat → Int → Int → Int → fMem → Option (fMem)
  | 0, _, _, _, _, _ => none
  | n + 1, w1, v2, v3, v4, M => (if (M w1 2) ≤ v4 then k  M else (if v3 = 0 then (if 0 ≤ v4 ∧ v4 < 19 then (if 0 ≤ M (w1 + 2) v4 ∧ M (w1 + 2) v4 < 19 then ((some (mset M 228 (M (w1 + 2) v4) 0)).bind fun (N8 : fMem) => ((some (mset N8 229 (M (w1 + 2) v4) (N8 (w1 + 3 * (M (w1 + 2) v4).toNat + 3) 3))).bind fun (N9 : fMem) => ((f_X5_halve (M (w1 + 2) v4) (w1 + 3 * (M (w1 + 2) v4).toNat + 4) (N9 (w1 + 3 * (M (w1 + 2) v4).toNat + 3) 3) v2 N9).bind fun (r10 : fMem) => ((f_X6_keyAt (w1 + 3 * (M (w1 + 2) v4).toNat + 3) (r10 230 (M (w1 + 2) v4)) r10).bind fun (r12 : Int) => (if r12 = v2 then L_X5_followPlain_9  k n w1 v2 1 (v4 + 1) r10 else L_X5_followPlain_9  k n w1 v2 0 (v4 + 1) r10))))) else none) else none) else k  M))
set_option maxRecDepth 100000 in
set_option maxHeartbeats 4000000 in
theorem l_X5_followPlain_9 {G : fG} (hg : gbt G = true)  {q : fMem} {k : fMem → Option (fMem)} (hk : ∀ (M : fMem), k M = some q → fW G mX5_followPlain (fEm G mX5_followPlain (rV q) fNo) 0 0 105 [some (rv G 227), none, none, none, none, none, none] [] M) : ∀ (n : Nat) (w1 : Nat) (v2 : Int) (v3 : Int) (v4 : Int) (M : fMem), fTyp w1 7 → rg v2 → rg v3 → rg v4 → L_X5_followPlain_9 k n w1 v2 v3 v4 M = some q → fW G mX5_followPlain (fEm G mX5_followPlain (rV q) fNo) 0 0 9 [some (rv G 227), some (rv G w1), some (iv v2), some (iv v3), some (iv v4), none, none] [] M := by
  intro n
  induction n with
  | zero =>
    intro w1 v2 v3 v4 M tw1 gv2 gv3 gv4 h
    rw [L_X5_followPlain_9] at h
    exact absurd h (by simp)
  | succ n ih =>
    intro w1 v2 v3 v4 M tw1 gv2 gv3 gv4 h
    rw [L_X5_followPlain_9] at h
    refine fW_rg (fun hR => ?_)
    refine fW_iload 11 dX5_followPlain_9 rfl rfl ?_
    refine fW_aload_n 12 dX5_followPlain_11 rfl rfl ?_
    refine fW_getI 15 2 (ji := 2) hg clX7 rfl (by decide) rfl tw1 wd_191 dX5_followPlain_12 rfl ?_
    refine fW_icmp_ge 18 105 gv4 (hR w1 2) dX5_followPlain_15 rfl rfl (fun c3 => ?_) (fun c3 => ?_)
    · replace h := fTt h c3
      exact fW_sb (hk M h) ⟨rfl, trivial⟩
    · replace h := fFf h c3
      refine fW_iload_n 19 dX5_followPlain_18 rfl rfl ?_
      refine fW_if_ne 22 105 gv3 dX5_followPlain_19 rfl rfl (fun c4 => ?_) (fun c4 => ?_)
      · replace h := fFf h c4
        exact fW_sb (hk M h) ⟨rfl, trivial⟩
      · replace h := fTt h c4
        refine fW_aload_n 23 dX5_followPlain_22 rfl rfl ?_
        refine fW_getR 26 (r := w1 + 2) 1 hg clX7 (by decide) rfl tw1 (tf_7_1 tw1) wd_187 dX5_followPlain_23 rfl ?_
        refine fW_iload 28 dX5_followPlain_26 rfl rfl ?_
        obtain ⟨c5, h⟩ := fS h
        refine fW_iald 29 hg (tt_7_1 tw1) ⟨c5.1, by rw [lf_7_1 tw1]; exact c5.2⟩ dX5_followPlain_28 rfl ?_
        refine fW_istore 31 (ls' := [some (rv G 227), some (rv G w1), some (iv v2), some (iv v3), some (iv v4), some (iv (M (w1 + 2) v4)), none]) dX5_followPlain_29 rfl rfl (by decide) ?_
        refine fW_aload_n 32 dX5_followPlain_31 rfl rfl ?_
        refine fW_getR 35 (r := w1 + 1) 0 hg clX7 (by decide) rfl tw1 (tf_7_0 tw1) wd_184 dX5_followPlain_32 rfl ?_
        refine fW_iload 37 dX5_followPlain_35 rfl rfl ?_
        obtain ⟨c6, h⟩ := fS h
        have t7 := ta_16 (r := w1 + 3 * (M (w1 + 2) v4).toNat + 3) (tt_7_0 tw1) c6 (by omega)
        refine fW_aald 38 4 hg (tt_7_0 tw1) (by decide) (by decide) t7.1 t7.2.2 rfl dX5_followPlain_37 rfl ?_
        refine fW_astore 40 (ls' := [some (rv G 227), some (rv G w1), some (iv v2), some (iv v3), some (iv v4), some (iv (M (w1 + 2) v4)), some (rv G (w1 + 3 * (M (w1 + 2) v4).toNat + 3))]) dX5_followPlain_38 rfl rfl (by decide) ?_
        refine fW_aload_n 41 dX5_followPlain_40 rfl rfl ?_
        refine fW_getR 44 (r := 228) 0 hg clX5 (by decide) rfl tc_227 tf_5_0 wd_373 dX5_followPlain_41 rfl ?_
        refine fW_iload 46 dX5_followPlain_44 rfl rfl ?_
        refine fW_iconst 47 dX5_followPlain_46 rfl ?_
        obtain ⟨N8, e8, h⟩ := fBd h
        replace e8 := Option.some.inj e8
        refine fW_iast 48 hg tc_228 ⟨c6.1, by rw [show Ln 228 = 19 from rfl]; exact c6.2⟩ (by decide) dX5_followPlain_47 rfl ?_
        rw [e8]
        refine fW_rg (fun hR8 => ?_)
        refine fW_aload_n 49 dX5_followPlain_48 rfl rfl ?_
        refine fW_getR 52 (r := 229) 1 hg clX5 (by decide) rfl tc_227 tf_5_1 wd_375 dX5_followPlain_49 rfl ?_
        refine fW_iload 54 dX5_followPlain_52 rfl rfl ?_
        refine fW_aload 56 dX5_followPlain_54 rfl rfl ?_
        refine fW_getI 59 3 (ji := 3) hg clX6 rfl (by decide) rfl t7.2.1 wd_157 dX5_followPlain_56 rfl ?_
        obtain ⟨N9, e9, h⟩ := fBd h
        replace e9 := Option.some.inj e9
        refine fW_iast 60 hg tc_229 ⟨c6.1, by rw [show Ln 229 = 19 from rfl]; exact c6.2⟩ (hR8 (w1 + 3 * (M (w1 + 2) v4).toNat + 3) 3) dX5_followPlain_59 rfl ?_
        rw [e9]
        refine fW_rg (fun hR9 => ?_)
        refine fW_aload_n 61 dX5_followPlain_60 rfl rfl ?_
        refine fW_iload 63 dX5_followPlain_61 rfl rfl ?_
        refine fW_aload 65 dX5_followPlain_63 rfl rfl ?_
        refine fW_getR 68 (r := w1 + 3 * (M (w1 + 2) v4).toNat + 4) 0 hg clX6 (by decide) rfl t7.2.1 (tf_6_0 t7.2.1) wd_148 dX5_followPlain_65 rfl ?_
        refine fW_aload 70 dX5_followPlain_68 rfl rfl ?_
        refine fW_getI 73 3 (ji := 3) hg clX6 rfl (by decide) rfl t7.2.1 wd_157 dX5_followPlain_70 rfl ?_
        refine fW_iload_n 74 dX5_followPlain_73 rfl rfl ?_
        obtain ⟨r10, e10, h⟩ := fBd h
        refine fW_cV (fI_V (as := [iv (M (w1 + 2) v4), rv G (w1 + 3 * (M (w1 + 2) v4).toNat + 4), iv (N9 (w1 + 3 * (M (w1 + 2) v4).toNat + 3) 3), iv v2]) (rest := []) miX5_halve hg clX5 rfl tc_227 wd_835 (fRoom_of rfl) rfl (Nat.le_of_ble_eq_true rfl) dX5_followPlain_74) (s_X5_halve hg (hR (w1 + 2) v4) (tt_6_0 t7.2.1) (hR9 (w1 + 3 * (M (w1 + 2) v4).toNat + 3) 3) gv2 e10) rfl rfl rfl ?_
        refine fW_rg (fun hR11 => ?_)
        refine fW_aload 79 dX5_followPlain_77 rfl rfl ?_
        refine fW_aload_n 80 dX5_followPlain_79 rfl rfl ?_
        refine fW_getR 83 (r := 230) 2 hg clX5 (by decide) rfl tc_227 tf_5_2 wd_377 dX5_followPlain_80 rfl ?_
        refine fW_iload 85 dX5_followPlain_83 rfl rfl ?_
        refine fW_iald 86 hg tc_230 ⟨c6.1, by rw [show Ln 230 = 19 from rfl]; exact c6.2⟩ dX5_followPlain_85 rfl ?_
        obtain ⟨r12, e12, h⟩ := fBd h
        refine fW_cP (fI_V (as := [iv (r10 230 (M (w1 + 2) v4))]) (rest := []) miX6_keyAt hg clX6 rfl t7.2.1 wd_840 (fRoom_of rfl) rfl (Nat.le_of_ble_eq_true rfl) dX5_followPlain_86) (s_X6_keyAt hg t7.2.1 (hR11 230 (M (w1 + 2) v4)) e12) rfl rfl rfl (fun g12 => ?_)
        refine fW_iload_n 90 dX5_followPlain_89 rfl rfl ?_
        refine fW_icmp_ne 93 97 g12 gv2 dX5_followPlain_90 rfl rfl (fun c13 => ?_) (fun c13 => ?_)
        · replace h := fFf h c13
          refine fW_iconst 98 dX5_followPlain_97 rfl ?_
          refine fW_istore_n 99 (ls' := [some (rv G 227), some (rv G w1), some (iv v2), some (iv 0), some (iv v4), some (iv (M (w1 + 2) v4)), some (rv G (w1 + 3 * (M (w1 + 2) v4).toNat + 3))]) dX5_followPlain_98 rfl rfl rfl (by decide) ?_
          refine fW_iinc 102 (ls' := [some (rv G 227), some (rv G w1), some (iv v2), some (iv 0), some (iv (v4 + 1)), some (iv (M (w1 + 2) v4)), some (rv G (w1 + 3 * (M (w1 + 2) v4).toNat + 3))]) dX5_followPlain_99 rfl rfl rfl (by decide) ?_
          refine fW_goto 9 dX5_followPlain_102 rfl ?_
          exact fW_sb (ih w1 v2 0 (v4 + 1) r10 tw1 gv2 (by decide) (rg_succ' gv4 (hR w1 2) c3) h) ⟨rfl, rfl, rfl, rfl, rfl, trivial⟩
        · replace h := fTt h c13
          refine fW_iconst 94 dX5_followPlain_93 rfl ?_
          refine fW_goto 98 dX5_followPlain_94 rfl ?_
          refine fW_istore_n 99 (ls' := [some (rv G 227), some (rv G w1), some (iv v2), some (iv 1), some (iv v4), some (iv (M (w1 + 2) v4)), some (rv G (w1 + 3 * (M (w1 + 2) v4).toNat + 3))]) dX5_followPlain_98 rfl rfl rfl (by decide) ?_
          refine fW_iinc 102 (ls' := [some (rv G 227), some (rv G w1), some (iv v2), some (iv 1), some (iv (v4 + 1)), some (iv (M (w1 + 2) v4)), some (rv G (w1 + 3 * (M (w1 + 2) v4).toNat + 3))]) dX5_followPlain_99 rfl rfl rfl (by decide) ?_
          refine fW_goto 9 dX5_followPlain_102 rfl ?_
          exact fW_sb (ih w1 v2 1 (v4 + 1) r10 tw1 gv2 (by decide) (rg_succ' gv4 (hR w1 2) c3) h) ⟨rfl, rfl, rfl, rfl, rfl, trivial⟩
def f_X5_followPlain (p1 : Nat) (a2 : Int) (M : fMem) : Option (fMem) := ((f_X5_start M).bind fun (r1 : fMem) => L_X5_followPlain_9 (fun  (M_14 : fMem) => some M_14) 20000 p1 a2 0 0 r1)
set_option maxRecDepth 100000 in
set_option maxHeartbeats 4000000 in
theorem s_X5_followPlain {G : fG} (hg : gbt G = true) {p1 : Nat} (hp1 : fTyp p1 7) {a2 : Int} (ga2 : rg a2) {M : fMem} {q : fMem} (h : f_X5_followPlain p1 a2 M = some q) : fSp G mX5_followPlain [rv G 227, rv G p1, iv a2] M (rV q) fNo := by
  refine fSp_of (by decide +kernel) (by decide +kernel) (fC1 rfl (fC1 rfl (fC1 rfl fC0))) (Nat.le_of_ble_eq_true rfl) ?_
  show fW G mX5_followPlain (fEm G mX5_followPlain (rV q) fNo) 0 0 0 [some (rv G 227), some (rv G p1), some (iv a2), none, none, none, none] [] M
  rw [f_X5_followPlain] at h
  refine fW_rg (fun hR => ?_)
  refine fW_aload_n 1 dX5_followPlain_0 rfl rfl ?_
  obtain ⟨r1, e1, h⟩ := fBd h
  refine fW_cV (fI_V (as := []) (rest := []) miX5_start hg clX5 rfl tc_227 wd_831 (fRoom_of rfl) rfl (Nat.le_of_ble_eq_true rfl) dX5_followPlain_1) (s_X5_start hg e1) rfl rfl rfl ?_
  refine fW_rg (fun hR2 => ?_)
  refine fW_iconst 5 dX5_followPlain_4 rfl ?_
  refine fW_istore_n 6 (ls' := [some (rv G 227), some (rv G p1), some (iv a2), some (iv 0), none, none, none]) dX5_followPlain_5 rfl rfl rfl (by decide) ?_
  refine fW_iconst 7 dX5_followPlain_6 rfl ?_
  refine fW_istore 9 (ls' := [some (rv G 227), some (rv G p1), some (iv a2), some (iv 0), some (iv 0), none, none]) dX5_followPlain_7 rfl rfl (by decide) ?_
  refine fW_sb (l_X5_followPlain_9 hg ?_ 20000 p1 a2 0 0 r1 hp1 ga2 (by decide) (by decide) h) ⟨rfl, rfl, rfl, rfl, rfl, trivial⟩
  intro M_14 h
  refine fW_rg (fun hR_14 => ?_)
  exact fW_vret rfl (by decide) (by decide) dX5_followPlain_105 (rV_i h)
def mX6_placeOf : fMt := (yX6_placeOf, cX6_placeOf, 6, some .int, { frames := 1, cells := 0, slots := 0, locals := 40 })
theorem miX6_placeOf : fMv mX6_placeOf 1 := ⟨⟨fM 619 (by decide +kernel) rfl, fM 92 (by decide +kernel) rfl, ⟨by decide +kernel, by decide +kernel⟩, by decide +kernel⟩, fM 617 (by decide +kernel) rfl, fM 618 (by decide +kernel) rfl⟩
def L_X6_placeOf_11 (o : Nat) (M : fMem) (k : Int → Int → Option (Int)) : Nat → Int → Int → Int → Int → Option (Int)
  | 0, _, _, _, _ => none
  | n + 1, v1, v2, v3, v4 => (if v4 ≤ 0 then k v1 v2 else (if v3 ≤ v2 then k v1 v2 else (if 0 ≤ v2 + v3 ∧ v2 + v3 < 2147483648 then (if -2147483648 ≤ (v2 + v3) / 2 ∧ (v2 + v3) / 2 < 2147483648 then ((f_X6_keyAt o ((v2 + v3) / 2) M).bind fun (r5 : Int) => (if v1 ≤ r5 then L_X6_placeOf_11 o M k n v1 v2 ((v2 + v3) / 2) (v4 + -1) else (if -2147483648 ≤ ((v2 + v3) / 2) + 1 ∧ ((v2 + v3) / 2) + 1 < 2147483648 then L_X6_placeOf_11 o M k n v1 (((v2 + v3) / 2) + 1) v3 (v4 + -1) else none))) else none) else none)))
set_option maxRecDepth 100000 in
set_option maxHeartbeats 4000000 in
theorem l_X6_placeOf_11 {G : fG} (hg : gbt G = true) {o : Nat} (ho : fTyp o 6) {M : fMem} {q : Int} {k : Int → Int → Option (Int)} (hk : ∀ (v1 : Int) (v2 : Int), rg v1 → rg v2 → k v1 v2 = some q → fW G mX6_placeOf (fEm G mX6_placeOf (rP M q) fNo) 0 0 55 [some (rv G o), some (iv v1), some (iv v2), none, none, none] [] M) : ∀ (n : Nat) (v1 : Int) (v2 : Int) (v3 : Int) (v4 : Int), rg v1 → rg v2 → rg v3 → rg v4 → L_X6_placeOf_11 o M k n v1 v2 v3 v4 = some q → fW G mX6_placeOf (fEm G mX6_placeOf (rP M q) fNo) 0 0 11 [some (rv G o), some (iv v1), some (iv v2), some (iv v3), some (iv v4), none] [] M := by
  intro n
  induction n with
  | zero =>
    intro v1 v2 v3 v4 gv1 gv2 gv3 gv4 h
    rw [L_X6_placeOf_11] at h
    exact absurd h (by simp)
  | succ n ih =>
    intro v1 v2 v3 v4 gv1 gv2 gv3 gv4 h
    rw [L_X6_placeOf_11] at h
    refine fW_rg (fun hR => ?_)
    refine fW_iload 13 dX6_placeOf_11 rfl rfl ?_
    refine fW_if_le 16 55 gv4 dX6_placeOf_13 rfl rfl (fun c1 => ?_) (fun c1 => ?_)
    · replace h := fTt h c1
      exact fW_sb (hk v1 v2 gv1 gv2 h) ⟨rfl, rfl, rfl, trivial⟩
    · replace h := fFf h c1
      refine fW_iload_n 17 dX6_placeOf_16 rfl rfl ?_
      refine fW_iload_n 18 dX6_placeOf_17 rfl rfl ?_
      refine fW_icmp_ge 21 55 gv2 gv3 dX6_placeOf_18 rfl rfl (fun c2 => ?_) (fun c2 => ?_)
      · replace h := fTt h c2
        exact fW_sb (hk v1 v2 gv1 gv2 h) ⟨rfl, rfl, rfl, trivial⟩
      · replace h := fFf h c2
        refine fW_iload_n 22 dX6_placeOf_21 rfl rfl ?_
        refine fW_iload_n 23 dX6_placeOf_22 rfl rfl ?_
        refine fW_iadd 24 dX6_placeOf_23 rfl ?_
        refine fW_iconst 25 dX6_placeOf_24 rfl ?_
        obtain ⟨c3, h⟩ := fS h
        refine fW_idiv 26 c3 (by decide) dX6_placeOf_25 rfl ?_
        refine fW_istore 28 (ls' := [some (rv G o), some (iv v1), some (iv v2), some (iv v3), some (iv v4), some (iv ((v2 + v3) / 2))]) dX6_placeOf_26 rfl rfl (by decide) ?_
        refine fW_aload_n 29 dX6_placeOf_28 rfl rfl ?_
        refine fW_iload 31 dX6_placeOf_29 rfl rfl ?_
        obtain ⟨c4, h⟩ := fS h
        obtain ⟨r5, e5, h⟩ := fBd h
        refine fW_cP (fI_V (as := [iv ((v2 + v3) / 2)]) (rest := []) miX6_keyAt hg clX6 rfl ho wd_620 (fRoom_of rfl) rfl (Nat.le_of_ble_eq_true rfl) dX6_placeOf_31) (s_X6_keyAt hg ho c4 e5) rfl rfl rfl (fun g5 => ?_)
        refine fW_iload_n 35 dX6_placeOf_34 rfl rfl ?_
        refine fW_icmp_ge 38 46 g5 gv1 dX6_placeOf_35 rfl rfl (fun c6 => ?_) (fun c6 => ?_)
        · replace h := fTt h c6
          refine fW_iload 48 dX6_placeOf_46 rfl rfl ?_
          refine fW_istore_n 49 (ls' := [some (rv G o), some (iv v1), some (iv v2), some (iv ((v2 + v3) / 2)), some (iv v4), some (iv ((v2 + v3) / 2))]) dX6_placeOf_48 rfl rfl rfl (by decide) ?_
          refine fW_iinc 52 (ls' := [some (rv G o), some (iv v1), some (iv v2), some (iv ((v2 + v3) / 2)), some (iv (v4 + -1)), some (iv ((v2 + v3) / 2))]) dX6_placeOf_49 rfl rfl rfl (by decide) ?_
          refine fW_goto 11 dX6_placeOf_52 rfl ?_
          exact fW_sb (ih v1 v2 ((v2 + v3) / 2) (v4 + -1) gv1 gv2 c4 (rg_pred' gv4 (by decide) c1) h) ⟨rfl, rfl, rfl, rfl, rfl, trivial⟩
        · replace h := fFf h c6
          refine fW_iload 40 dX6_placeOf_38 rfl rfl ?_
          refine fW_iconst 41 dX6_placeOf_40 rfl ?_
          refine fW_iadd 42 dX6_placeOf_41 rfl ?_
          refine fW_istore_n 43 (ls' := [some (rv G o), some (iv v1), some (iv (((v2 + v3) / 2) + 1)), some (iv v3), some (iv v4), some (iv ((v2 + v3) / 2))]) dX6_placeOf_42 rfl rfl rfl (by decide) ?_
          refine fW_goto 49 dX6_placeOf_43 rfl ?_
          refine fW_iinc 52 (ls' := [some (rv G o), some (iv v1), some (iv (((v2 + v3) / 2) + 1)), some (iv v3), some (iv (v4 + -1)), some (iv ((v2 + v3) / 2))]) dX6_placeOf_49 rfl rfl rfl (by decide) ?_
          refine fW_goto 11 dX6_placeOf_52 rfl ?_
          obtain ⟨c7, h⟩ := fS h
          exact fW_sb (ih v1 (((v2 + v3) / 2) + 1) v3 (v4 + -1) gv1 c7 gv3 (rg_pred' gv4 (by decide) c1) h) ⟨rfl, rfl, rfl, rfl, rfl, trivial⟩
def j_X6_placeOf_55 (o : Nat) (v1 : Int) (v2 : Int) (M : fMem) : Option (Int) := ((f_X6_keyAt o v2 M).bind fun (r9 : Int) => (if r9 = v1 then some v2 else some ((-1))))
set_option maxRecDepth 100000 in
set_option maxHeartbeats 4000000 in
theorem i_X6_placeOf_55 {G : fG} (hg : gbt G = true) {o : Nat} (ho : fTyp o 6) {v1 : Int} {v2 : Int} (gv1 : rg v1) (gv2 : rg v2) {M : fMem} {q : Int} (h : j_X6_placeOf_55 o v1 v2 M = some q) : fW G mX6_placeOf (fEm G mX6_placeOf (rP M q) fNo) 0 0 55 [some (rv G o), some (iv v1), some (iv v2), none, none, none] [] M := by
  rw [j_X6_placeOf_55] at h
  refine fW_rg (fun hR => ?_)
  refine fW_aload_n 56 dX6_placeOf_55 rfl rfl ?_
  refine fW_iload_n 57 dX6_placeOf_56 rfl rfl ?_
  obtain ⟨r9, e9, h⟩ := fBd h
  refine fW_cP (fI_V (as := [iv v2]) (rest := []) miX6_keyAt hg clX6 rfl ho wd_620 (fRoom_of rfl) rfl (Nat.le_of_ble_eq_true rfl) dX6_placeOf_57) (s_X6_keyAt hg ho gv2 e9) rfl rfl rfl (fun g9 => ?_)
  refine fW_iload_n 61 dX6_placeOf_60 rfl rfl ?_
  refine fW_icmp_ne 64 68 g9 gv1 dX6_placeOf_61 rfl rfl (fun c10 => ?_) (fun c10 => ?_)
  · replace h := fFf h c10
    refine fW_iconst 69 dX6_placeOf_68 rfl ?_
    exact fW_iret rfl (by decide) (by decide) dX6_placeOf_69 (rP_i h (by decide))
  · replace h := fTt h c10
    refine fW_iload_n 65 dX6_placeOf_64 rfl rfl ?_
    refine fW_goto 69 dX6_placeOf_65 rfl ?_
    exact fW_iret rfl (by decide) (by decide) dX6_placeOf_69 (rP_i h gv2)
def f_X6_placeOf (o : Nat) (a1 : Int) (M : fMem) : Option (Int) := L_X6_placeOf_11 o M (fun (v1_8 : Int) (v2_8 : Int) => j_X6_placeOf_55 o v1_8 v2_8 M) 20000 a1 0 (M o 3) 40
set_option maxRecDepth 100000 in
set_option maxHeartbeats 4000000 in
theorem s_X6_placeOf {G : fG} (hg : gbt G = true) {o : Nat} (ho : fTyp o 6) {a1 : Int} (ga1 : rg a1) {M : fMem} {q : Int} (h : f_X6_placeOf o a1 M = some q) : fSp G mX6_placeOf [rv G o, iv a1] M (rP M q) fNo := by
  refine fSp_of (by decide +kernel) (by decide +kernel) (fC1 rfl (fC1 rfl fC0)) (Nat.le_of_ble_eq_true rfl) ?_
  show fW G mX6_placeOf (fEm G mX6_placeOf (rP M q) fNo) 0 0 0 [some (rv G o), some (iv a1), none, none, none, none] [] M
  rw [f_X6_placeOf] at h
  refine fW_rg (fun hR => ?_)
  refine fW_iconst 1 dX6_placeOf_0 rfl ?_
  refine fW_istore_n 2 (ls' := [some (rv G o), some (iv a1), some (iv 0), none, none, none]) dX6_placeOf_1 rfl rfl rfl (by decide) ?_
  refine fW_aload_n 3 dX6_placeOf_2 rfl rfl ?_
  refine fW_getI 6 3 (ji := 3) hg clX6 rfl (by decide) rfl ho wd_154 dX6_placeOf_3 rfl ?_
  refine fW_istore_n 7 (ls' := [some (rv G o), some (iv a1), some (iv 0), some (iv (M o 3)), none, none]) dX6_placeOf_6 rfl rfl rfl (by decide) ?_
  refine fW_bipush 9 dX6_placeOf_7 rfl (by decide) ?_
  refine fW_istore 11 (ls' := [some (rv G o), some (iv a1), some (iv 0), some (iv (M o 3)), some (iv 40), none]) dX6_placeOf_9 rfl rfl (by decide) ?_
  refine fW_sb (l_X6_placeOf_11 hg ho ?_ 20000 a1 0 (M o 3) 40 ga1 (by decide) (hR o 3) (by decide) h) ⟨rfl, rfl, rfl, rfl, rfl, trivial⟩
  intro v1_8 v2_8 gv1_8 gv2_8 h
  exact fW_sb (i_X6_placeOf_55 hg ho gv1_8 gv2_8 h) ⟨rfl, rfl, rfl, trivial⟩
def mX7_thingsOf : fMt := (yX7_thingsOf, cX7_thingsOf, 4, some .int, { frames := 1, cells := 0, slots := 0, locals := 40 })
theorem miX7_thingsOf : fMv mX7_thingsOf 1 := ⟨⟨fM 977 (by decide +kernel) rfl, fM 91 (by decide +kernel) rfl, ⟨by decide +kernel, by decide +kernel⟩, by decide +kernel⟩, fM 975 (by decide +kernel) rfl, fM 976 (by decide +kernel) rfl⟩
def L_X7_thingsOf_8 (o : Nat) (M : fMem) (k : Int → Option (Int)) : Nat → Int → Int → Int → Option (Int)
  | 0, _, _, _ => none
  | n + 1, v1, v2, v3 => (if 0 ≤ v1 ∧ v1 < 9 then (if (ER v1) ≤ v3 then k v2 else (if 0 ≤ v3 ∧ v3 < 19 then ((f_X6_isShut (o + 3 * v3.toNat + 3) M).bind fun (r6 : Int) => (if r6 = 0 then (if -2147483648 ≤ v2 + 0 ∧ v2 + 0 < 2147483648 then L_X7_thingsOf_8 o M k n v1 (v2 + 0) (v3 + 1) else none) else (if -2147483648 ≤ v2 + (M (o + 3 * v3.toNat + 3) 3) ∧ v2 + (M (o + 3 * v3.toNat + 3) 3) < 2147483648 then L_X7_thingsOf_8 o M k n v1 (v2 + (M (o + 3 * v3.toNat + 3) 3)) (v3 + 1) else none))) else none)) else none)
set_option maxRecDepth 100000 in
set_option maxHeartbeats 4000000 in
theorem l_X7_thingsOf_8 {G : fG} (hg : gbt G = true) {o : Nat} (ho : fTyp o 7) {M : fMem} {q : Int} {k : Int → Option (Int)} (hk : ∀ (v2 : Int), rg v2 → k v2 = some q → fW G mX7_thingsOf (fEm G mX7_thingsOf (rP M q) fNo) 0 0 51 [some (rv G o), none, some (iv v2), none] [] M) : ∀ (n : Nat) (v1 : Int) (v2 : Int) (v3 : Int), rg v1 → rg v2 → rg v3 → L_X7_thingsOf_8 o M k n v1 v2 v3 = some q → fW G mX7_thingsOf (fEm G mX7_thingsOf (rP M q) fNo) 0 0 8 [some (rv G o), some (iv v1), some (iv v2), some (iv v3)] [] M := by
  intro n
  induction n with
  | zero =>
    intro v1 v2 v3 gv1 gv2 gv3 h
    rw [L_X7_thingsOf_8] at h
    exact absurd h (by simp)
  | succ n ih =>
    intro v1 v2 v3 gv1 gv2 gv3 h
    rw [L_X7_thingsOf_8] at h
    refine fW_rg (fun hR => ?_)
    refine fW_iload_n 9 dX7_thingsOf_8 rfl rfl ?_
    refine fW_getsN 12 (host := "RowStore") 1 (by decide) (by decide +kernel) dX7_thingsOf_9 rfl ?_
    refine fW_iload_n 13 dX7_thingsOf_12 rfl rfl ?_
    obtain ⟨c2, h⟩ := fS h
    refine fW_sald 14 1 (by decide) c2 dX7_thingsOf_13 rfl ?_
    rw [show SV 1 v1 = ER v1 from rfl]
    refine fW_icmp_ge 17 51 gv3 (rg_ER c2) dX7_thingsOf_14 rfl rfl (fun c3 => ?_) (fun c3 => ?_)
    · replace h := fTt h c3
      exact fW_sb (hk v2 gv2 h) ⟨rfl, rfl, trivial⟩
    · replace h := fFf h c3
      refine fW_iload_n 18 dX7_thingsOf_17 rfl rfl ?_
      refine fW_aload_n 19 dX7_thingsOf_18 rfl rfl ?_
      refine fW_getR 22 (r := o + 1) 0 hg clX7 (by decide) rfl ho (tf_7_0 ho) wd_180 dX7_thingsOf_19 rfl ?_
      refine fW_iload_n 23 dX7_thingsOf_22 rfl rfl ?_
      obtain ⟨c4, h⟩ := fS h
      have t5 := ta_16 (r := o + 3 * v3.toNat + 3) (tt_7_0 ho) c4 (by omega)
      refine fW_aald 24 4 hg (tt_7_0 ho) (by decide) (by decide) t5.1 t5.2.2 rfl dX7_thingsOf_23 rfl ?_
      obtain ⟨r6, e6, h⟩ := fBd h
      refine fW_cB (fI_V (as := []) (rest := [iv v2]) miX6_isShut hg clX6 rfl t5.2.1 wd_600 (fRoom_of rfl) rfl (Nat.le_of_ble_eq_true rfl) dX7_thingsOf_24) (s_X6_isShut hg t5.2.1 e6) rfl rfl rfl (fun g6 => ?_)
      refine fW_if_eq 30 42 (rg_z g6) dX7_thingsOf_27 rfl rfl (fun c7 => ?_) (fun c7 => ?_)
      · replace h := fTt h c7
        refine fW_iconst 43 dX7_thingsOf_42 rfl ?_
        refine fW_iadd 44 dX7_thingsOf_43 rfl ?_
        refine fW_istore_n 45 (ls' := [some (rv G o), some (iv v1), some (iv (v2 + 0)), some (iv v3)]) dX7_thingsOf_44 rfl rfl rfl (by decide) ?_
        refine fW_iinc 48 (ls' := [some (rv G o), some (iv v1), some (iv (v2 + 0)), some (iv (v3 + 1))]) dX7_thingsOf_45 rfl rfl rfl (by decide) ?_
        refine fW_goto 8 dX7_thingsOf_48 rfl ?_
        obtain ⟨c8, h⟩ := fS h
        exact fW_sb (ih v1 (v2 + 0) (v3 + 1) gv1 c8 (rg_succ' gv3 (rg_ER c2) c3) h) ⟨rfl, rfl, rfl, rfl, trivial⟩
      · replace h := fFf h c7
        refine fW_aload_n 31 dX7_thingsOf_30 rfl rfl ?_
        refine fW_getR 34 (r := o + 1) 0 hg clX7 (by decide) rfl ho (tf_7_0 ho) wd_180 dX7_thingsOf_31 rfl ?_
        refine fW_iload_n 35 dX7_thingsOf_34 rfl rfl ?_
        have t9 := ta_16 (r := o + 3 * v3.toNat + 3) (tt_7_0 ho) c4 (by omega)
        refine fW_aald 36 4 hg (tt_7_0 ho) (by decide) (by decide) t9.1 t9.2.2 rfl dX7_thingsOf_35 rfl ?_
        refine fW_getI 39 3 (ji := 3) hg clX6 rfl (by decide) rfl t9.2.1 wd_158 dX7_thingsOf_36 rfl ?_
        refine fW_goto 43 dX7_thingsOf_39 rfl ?_
        refine fW_iadd 44 dX7_thingsOf_43 rfl ?_
        refine fW_istore_n 45 (ls' := [some (rv G o), some (iv v1), some (iv (v2 + (M (o + 3 * v3.toNat + 3) 3))), some (iv v3)]) dX7_thingsOf_44 rfl rfl rfl (by decide) ?_
        refine fW_iinc 48 (ls' := [some (rv G o), some (iv v1), some (iv (v2 + (M (o + 3 * v3.toNat + 3) 3))), some (iv (v3 + 1))]) dX7_thingsOf_45 rfl rfl rfl (by decide) ?_
        refine fW_goto 8 dX7_thingsOf_48 rfl ?_
        obtain ⟨c10, h⟩ := fS h
        exact fW_sb (ih v1 (v2 + (M (o + 3 * v3.toNat + 3) 3)) (v3 + 1) gv1 c10 (rg_succ' gv3 (rg_ER c2) c3) h) ⟨rfl, rfl, rfl, rfl, trivial⟩
def f_X7_thingsOf (o : Nat) (a1 : Int) (M : fMem) : Option (Int) := (if 0 ≤ a1 ∧ a1 < 9 then L_X7_thingsOf_8 o M (fun (v2_11 : Int) => some v2_11) 4 a1 0 (FR a1) else none)
set_option maxRecDepth 100000 in
set_option maxHeartbeats 4000000 in
theorem s_X7_thingsOf {G : fG} (hg : gbt G = true) {o : Nat} (ho : fTyp o 7) {a1 : Int} (ga1 : rg a1) {M : fMem} {q : Int} (h : f_X7_thingsOf o a1 M = some q) : fSp G mX7_thingsOf [rv G o, iv a1] M (rP M q) fNo := by
  refine fSp_of (by decide +kernel) (by decide +kernel) (fC1 rfl (fC1 rfl fC0)) (Nat.le_of_ble_eq_true rfl) ?_
  show fW G mX7_thingsOf (fEm G mX7_thingsOf (rP M q) fNo) 0 0 0 [some (rv G o), some (iv a1), none, none] [] M
  rw [f_X7_thingsOf] at h
  refine fW_rg (fun hR => ?_)
  refine fW_iconst 1 dX7_thingsOf_0 rfl ?_
  refine fW_istore_n 2 (ls' := [some (rv G o), some (iv a1), some (iv 0), none]) dX7_thingsOf_1 rfl rfl rfl (by decide) ?_
  refine fW_getsN 5 (host := "RowStore") 0 (by decide) (by decide +kernel) dX7_thingsOf_2 rfl ?_
  refine fW_iload_n 6 dX7_thingsOf_5 rfl rfl ?_
  obtain ⟨c1, h⟩ := fS h
  refine fW_sald 7 0 (by decide) c1 dX7_thingsOf_6 rfl ?_
  rw [show SV 0 a1 = FR a1 from rfl]
  refine fW_istore_n 8 (ls' := [some (rv G o), some (iv a1), some (iv 0), some (iv (FR a1))]) dX7_thingsOf_7 rfl rfl rfl (by decide) ?_
  refine fW_sb (l_X7_thingsOf_8 hg ho ?_ 4 a1 0 (FR a1) ga1 (by decide) (rg_FR c1) h) ⟨rfl, rfl, rfl, rfl, trivial⟩
  intro v2_11 gv2_11 h
  refine fW_iload_n 52 dX7_thingsOf_51 rfl rfl ?_
  exact fW_iret rfl (by decide) (by decide) dX7_thingsOf_52 (rP_i h gv2_11)
def mX7_things : fMt := (yX7_things, cX7_things, 3, some .int, { frames := 2, cells := 0, slots := 0, locals := 80 })
theorem miX7_things : fMv mX7_things 0 := ⟨⟨fM 1042 (by decide +kernel) rfl, fM 91 (by decide +kernel) rfl, ⟨by decide +kernel, by decide +kernel⟩, by decide +kernel⟩, fM 1040 (by decide +kernel) rfl, fM 1041 (by decide +kernel) rfl⟩
def L_X7_things_4 (o : Nat) (M : fMem) (k : Int → Option (Int)) : Nat → Int → Int → Option (Int)
  | 0, _, _ => none
  | n + 1, v1, v2 => (if 9 ≤ v2 then k v1 else ((f_X7_thingsOf o v2 M).bind fun (r2 : Int) => (if -2147483648 ≤ v1 + r2 ∧ v1 + r2 < 2147483648 then L_X7_things_4 o M k n (v1 + r2) (v2 + 1) else none)))
set_option maxRecDepth 100000 in
set_option maxHeartbeats 4000000 in
theorem l_X7_things_4 {G : fG} (hg : gbt G = true) {o : Nat} (ho : fTyp o 7) {M : fMem} {q : Int} {k : Int → Option (Int)} (hk : ∀ (v1 : Int), rg v1 → k v1 = some q → fW G mX7_things (fEm G mX7_things (rP M q) fNo) 0 0 24 [some (rv G o), some (iv v1), none] [] M) : ∀ (n : Nat) (v1 : Int) (v2 : Int), rg v1 → rg v2 → L_X7_things_4 o M k n v1 v2 = some q → fW G mX7_things (fEm G mX7_things (rP M q) fNo) 0 0 4 [some (rv G o), some (iv v1), some (iv v2)] [] M := by
  intro n
  induction n with
  | zero =>
    intro v1 v2 gv1 gv2 h
    rw [L_X7_things_4] at h
    exact absurd h (by simp)
  | succ n ih =>
    intro v1 v2 gv1 gv2 h
    rw [L_X7_things_4] at h
    refine fW_rg (fun hR => ?_)
    refine fW_iload_n 5 dX7_things_4 rfl rfl ?_
    refine fW_bipush 7 dX7_things_5 rfl (by decide) ?_
    refine fW_icmp_ge 10 24 gv2 (by decide) dX7_things_7 rfl rfl (fun c1 => ?_) (fun c1 => ?_)
    · replace h := fTt h c1
      exact fW_sb (hk v1 gv1 h) ⟨rfl, rfl, trivial⟩
    · replace h := fFf h c1
      refine fW_iload_n 11 dX7_things_10 rfl rfl ?_
      refine fW_aload_n 12 dX7_things_11 rfl rfl ?_
      refine fW_iload_n 13 dX7_things_12 rfl rfl ?_
      obtain ⟨r2, e2, h⟩ := fBd h
      refine fW_cP (fI_V (as := [iv v2]) (rest := [iv v1]) miX7_thingsOf hg clX7 rfl ho wd_1043 (fRoom_of rfl) rfl (Nat.le_of_ble_eq_true rfl) dX7_things_13) (s_X7_thingsOf hg ho gv2 e2) rfl rfl rfl (fun g2 => ?_)
      refine fW_iadd 17 dX7_things_16 rfl ?_
      refine fW_istore_n 18 (ls' := [some (rv G o), some (iv (v1 + r2)), some (iv v2)]) dX7_things_17 rfl rfl rfl (by decide) ?_
      refine fW_iinc 21 (ls' := [some (rv G o), some (iv (v1 + r2)), some (iv (v2 + 1))]) dX7_things_18 rfl rfl rfl (by decide) ?_
      refine fW_goto 4 dX7_things_21 rfl ?_
      obtain ⟨c3, h⟩ := fS h
      exact fW_sb (ih (v1 + r2) (v2 + 1) c3 (rg_succ' gv2 (by decide) c1) h) ⟨rfl, rfl, rfl, trivial⟩
def f_X7_things (o : Nat) (M : fMem) : Option (Int) := L_X7_things_4 o M (fun (v1_4 : Int) => some v1_4) 20000 0 0
set_option maxRecDepth 100000 in
set_option maxHeartbeats 4000000 in
theorem s_X7_things {G : fG} (hg : gbt G = true) {o : Nat} (ho : fTyp o 7) {M : fMem} {q : Int} (h : f_X7_things o M = some q) : fSp G mX7_things [rv G o] M (rP M q) fNo := by
  refine fSp_of (by decide +kernel) (by decide +kernel) (fC1 rfl fC0) (Nat.le_of_ble_eq_true rfl) ?_
  show fW G mX7_things (fEm G mX7_things (rP M q) fNo) 0 0 0 [some (rv G o), none, none] [] M
  rw [f_X7_things] at h
  refine fW_rg (fun hR => ?_)
  refine fW_iconst 1 dX7_things_0 rfl ?_
  refine fW_istore_n 2 (ls' := [some (rv G o), some (iv 0), none]) dX7_things_1 rfl rfl rfl (by decide) ?_
  refine fW_iconst 3 dX7_things_2 rfl ?_
  refine fW_istore_n 4 (ls' := [some (rv G o), some (iv 0), some (iv 0)]) dX7_things_3 rfl rfl rfl (by decide) ?_
  refine fW_sb (l_X7_things_4 hg ho ?_ 20000 0 0 (by decide) (by decide) h) ⟨rfl, rfl, rfl, trivial⟩
  intro v1_4 gv1_4 h
  refine fW_iload_n 25 dX7_things_24 rfl rfl ?_
  exact fW_iret rfl (by decide) (by decide) dX7_things_25 (rP_i h gv1_4)
def mX7_deepest : fMt := (yX7_deepest, cX7_deepest, 3, some .int, { frames := 1, cells := 0, slots := 0, locals := 40 })
theorem miX7_deepest : fMv mX7_deepest 0 := ⟨⟨fM 1047 (by decide +kernel) rfl, fM 91 (by decide +kernel) rfl, ⟨by decide +kernel, by decide +kernel⟩, by decide +kernel⟩, fM 1045 (by decide +kernel) rfl, fM 1046 (by decide +kernel) rfl⟩
def L_X7_deepest_4 (o : Nat) (M : fMem) (k : Int → Option (Int)) : Nat → Int → Int → Option (Int)
  | 0, _, _ => none
  | n + 1, v1, v2 => (if 9 ≤ v2 then k v1 else ((f_X7_shutOf o v2 M).bind fun (r2 : Int) => (if r2 ≤ 0 then L_X7_deepest_4 o M k n v1 (v2 + 1) else L_X7_deepest_4 o M k n v2 (v2 + 1))))
set_option maxRecDepth 100000 in
set_option maxHeartbeats 4000000 in
theorem l_X7_deepest_4 {G : fG} (hg : gbt G = true) {o : Nat} (ho : fTyp o 7) {M : fMem} {q : Int} {k : Int → Option (Int)} (hk : ∀ (v1 : Int), rg v1 → k v1 = some q → fW G mX7_deepest (fEm G mX7_deepest (rP M q) fNo) 0 0 26 [some (rv G o), some (iv v1), none] [] M) : ∀ (n : Nat) (v1 : Int) (v2 : Int), rg v1 → rg v2 → L_X7_deepest_4 o M k n v1 v2 = some q → fW G mX7_deepest (fEm G mX7_deepest (rP M q) fNo) 0 0 4 [some (rv G o), some (iv v1), some (iv v2)] [] M := by
  intro n
  induction n with
  | zero =>
    intro v1 v2 gv1 gv2 h
    rw [L_X7_deepest_4] at h
    exact absurd h (by simp)
  | succ n ih =>
    intro v1 v2 gv1 gv2 h
    rw [L_X7_deepest_4] at h
    refine fW_rg (fun hR => ?_)
    refine fW_iload_n 5 dX7_deepest_4 rfl rfl ?_
    refine fW_bipush 7 dX7_deepest_5 rfl (by decide) ?_
    refine fW_icmp_ge 10 26 gv2 (by decide) dX7_deepest_7 rfl rfl (fun c1 => ?_) (fun c1 => ?_)
    · replace h := fTt h c1
      exact fW_sb (hk v1 gv1 h) ⟨rfl, rfl, trivial⟩
    · replace h := fFf h c1
      refine fW_aload_n 11 dX7_deepest_10 rfl rfl ?_
      refine fW_iload_n 12 dX7_deepest_11 rfl rfl ?_
      obtain ⟨r2, e2, h⟩ := fBd h
      refine fW_cP (fI_V (as := [iv v2]) (rest := []) miX7_shutOf hg clX7 rfl ho wd_1048 (fRoom_of rfl) rfl (Nat.le_of_ble_eq_true rfl) dX7_deepest_12) (s_X7_shutOf hg ho gv2 e2) rfl rfl rfl (fun g2 => ?_)
      refine fW_if_le 18 20 g2 dX7_deepest_15 rfl rfl (fun c3 => ?_) (fun c3 => ?_)
      · replace h := fTt h c3
        refine fW_iinc 23 (ls' := [some (rv G o), some (iv v1), some (iv (v2 + 1))]) dX7_deepest_20 rfl rfl rfl (by decide) ?_
        refine fW_goto 4 dX7_deepest_23 rfl ?_
        exact fW_sb (ih v1 (v2 + 1) gv1 (rg_succ' gv2 (by decide) c1) h) ⟨rfl, rfl, rfl, trivial⟩
      · replace h := fFf h c3
        refine fW_iload_n 19 dX7_deepest_18 rfl rfl ?_
        refine fW_istore_n 20 (ls' := [some (rv G o), some (iv v2), some (iv v2)]) dX7_deepest_19 rfl rfl rfl (by decide) ?_
        refine fW_iinc 23 (ls' := [some (rv G o), some (iv v2), some (iv (v2 + 1))]) dX7_deepest_20 rfl rfl rfl (by decide) ?_
        refine fW_goto 4 dX7_deepest_23 rfl ?_
        exact fW_sb (ih v2 (v2 + 1) gv2 (rg_succ' gv2 (by decide) c1) h) ⟨rfl, rfl, rfl, trivial⟩
def f_X7_deepest (o : Nat) (M : fMem) : Option (Int) := L_X7_deepest_4 o M (fun (v1_4 : Int) => some v1_4) 20000 ((-1)) 0
set_option maxRecDepth 100000 in
set_option maxHeartbeats 4000000 in
theorem s_X7_deepest {G : fG} (hg : gbt G = true) {o : Nat} (ho : fTyp o 7) {M : fMem} {q : Int} (h : f_X7_deepest o M = some q) : fSp G mX7_deepest [rv G o] M (rP M q) fNo := by
  refine fSp_of (by decide +kernel) (by decide +kernel) (fC1 rfl fC0) (Nat.le_of_ble_eq_true rfl) ?_
  show fW G mX7_deepest (fEm G mX7_deepest (rP M q) fNo) 0 0 0 [some (rv G o), none, none] [] M
  rw [f_X7_deepest] at h
  refine fW_rg (fun hR => ?_)
  refine fW_iconst 1 dX7_deepest_0 rfl ?_
  refine fW_istore_n 2 (ls' := [some (rv G o), some (iv ((-1))), none]) dX7_deepest_1 rfl rfl rfl (by decide) ?_
  refine fW_iconst 3 dX7_deepest_2 rfl ?_
  refine fW_istore_n 4 (ls' := [some (rv G o), some (iv ((-1))), some (iv 0)]) dX7_deepest_3 rfl rfl rfl (by decide) ?_
  refine fW_sb (l_X7_deepest_4 hg ho ?_ 20000 ((-1)) 0 (by decide) (by decide) h) ⟨rfl, rfl, rfl, trivial⟩
  intro v1_4 gv1_4 h
  refine fW_iload_n 27 dX7_deepest_26 rfl rfl ?_
  exact fW_iret rfl (by decide) (by decide) dX7_deepest_27 (rP_i h gv1_4)
def mX7_firstWith : fMt := (yX7_firstWith, cX7_firstWith, 3, some .int, { frames := 2, cells := 0, slots := 0, locals := 80 })
theorem miX7_firstWith : fMv mX7_firstWith 1 := ⟨⟨fM 615 (by decide +kernel) rfl, fM 91 (by decide +kernel) rfl, ⟨by decide +kernel, by decide +kernel⟩, by decide +kernel⟩, fM 613 (by decide +kernel) rfl, fM 614 (by decide +kernel) rfl⟩
def L_X7_firstWith_2 (o : Nat) (M : fMem) (k : Option (Int)) : Nat → Int → Int → Option (Int)
  | 0, _, _ => none
  | n + 1, v1, v2 => (if (M o 2) ≤ v2 then k else (if 0 ≤ v2 ∧ v2 < 19 then (if 0 ≤ M (o + 2) v2 ∧ M (o + 2) v2 < 19 then ((f_X6_placeOf (o + 3 * (M (o + 2) v2).toNat + 3) v1 M).bind fun (r5 : Int) => (if r5 = ((-1)) then L_X7_firstWith_2 o M k n v1 (v2 + 1) else some (M (o + 2) v2))) else none) else none))
set_option maxRecDepth 100000 in
set_option maxHeartbeats 4000000 in
theorem l_X7_firstWith_2 {G : fG} (hg : gbt G = true) {o : Nat} (ho : fTyp o 7) {M : fMem} {q : Int} {k : Option (Int)} (hk : k = some q → fW G mX7_firstWith (fEm G mX7_firstWith (rP M q) fNo) 0 0 42 [some (rv G o), none, none] [] M) : ∀ (n : Nat) (v1 : Int) (v2 : Int), rg v1 → rg v2 → L_X7_firstWith_2 o M k n v1 v2 = some q → fW G mX7_firstWith (fEm G mX7_firstWith (rP M q) fNo) 0 0 2 [some (rv G o), some (iv v1), some (iv v2)] [] M := by
  intro n
  induction n with
  | zero =>
    intro v1 v2 gv1 gv2 h
    rw [L_X7_firstWith_2] at h
    exact absurd h (by simp)
  | succ n ih =>
    intro v1 v2 gv1 gv2 h
    rw [L_X7_firstWith_2] at h
    refine fW_rg (fun hR => ?_)
    refine fW_iload_n 3 dX7_firstWith_2 rfl rfl ?_
    refine fW_aload_n 4 dX7_firstWith_3 rfl rfl ?_
    refine fW_getI 7 2 (ji := 2) hg clX7 rfl (by decide) rfl ho wd_190 dX7_firstWith_4 rfl ?_
    refine fW_icmp_ge 10 42 gv2 (hR o 2) dX7_firstWith_7 rfl rfl (fun c1 => ?_) (fun c1 => ?_)
    · replace h := fTt h c1
      exact fW_sb (hk h) ⟨rfl, trivial⟩
    · replace h := fFf h c1
      refine fW_aload_n 11 dX7_firstWith_10 rfl rfl ?_
      refine fW_getR 14 (r := o + 1) 0 hg clX7 (by decide) rfl ho (tf_7_0 ho) wd_180 dX7_firstWith_11 rfl ?_
      refine fW_aload_n 15 dX7_firstWith_14 rfl rfl ?_
      refine fW_getR 18 (r := o + 2) 1 hg clX7 (by decide) rfl ho (tf_7_1 ho) wd_186 dX7_firstWith_15 rfl ?_
      refine fW_iload_n 19 dX7_firstWith_18 rfl rfl ?_
      obtain ⟨c2, h⟩ := fS h
      refine fW_iald 20 hg (tt_7_1 ho) ⟨c2.1, by rw [lf_7_1 ho]; exact c2.2⟩ dX7_firstWith_19 rfl ?_
      obtain ⟨c3, h⟩ := fS h
      have t4 := ta_16 (r := o + 3 * (M (o + 2) v2).toNat + 3) (tt_7_0 ho) c3 (by omega)
      refine fW_aald 21 4 hg (tt_7_0 ho) (by decide) (by decide) t4.1 t4.2.2 rfl dX7_firstWith_20 rfl ?_
      refine fW_iload_n 22 dX7_firstWith_21 rfl rfl ?_
      obtain ⟨r5, e5, h⟩ := fBd h
      refine fW_cP (fI_V (as := [iv v1]) (rest := []) miX6_placeOf hg clX6 rfl t4.2.1 wd_616 (fRoom_of rfl) rfl (Nat.le_of_ble_eq_true rfl) dX7_firstWith_22) (s_X6_placeOf hg t4.2.1 gv1 e5) rfl rfl rfl (fun g5 => ?_)
      refine fW_iconst 26 dX7_firstWith_25 rfl ?_
      refine fW_icmp_eq 29 36 g5 (by decide) dX7_firstWith_26 rfl rfl (fun c6 => ?_) (fun c6 => ?_)
      · replace h := fTt h c6
        refine fW_iinc 39 (ls' := [some (rv G o), some (iv v1), some (iv (v2 + 1))]) dX7_firstWith_36 rfl rfl rfl (by decide) ?_
        refine fW_goto 2 dX7_firstWith_39 rfl ?_
        exact fW_sb (ih v1 (v2 + 1) gv1 (rg_succ' gv2 (hR o 2) c1) h) ⟨rfl, rfl, rfl, trivial⟩
      · replace h := fFf h c6
        refine fW_aload_n 30 dX7_firstWith_29 rfl rfl ?_
        refine fW_getR 33 (r := o + 2) 1 hg clX7 (by decide) rfl ho (tf_7_1 ho) wd_186 dX7_firstWith_30 rfl ?_
        refine fW_iload_n 34 dX7_firstWith_33 rfl rfl ?_
        refine fW_iald 35 hg (tt_7_1 ho) ⟨c2.1, by rw [lf_7_1 ho]; exact c2.2⟩ dX7_firstWith_34 rfl ?_
        exact fW_iret rfl (by decide) (by decide) dX7_firstWith_35 (rP_i h (hR (o + 2) v2))
def f_X7_firstWith (o : Nat) (a1 : Int) (M : fMem) : Option (Int) := L_X7_firstWith_2 o M (some ((-1))) 20000 a1 0
set_option maxRecDepth 100000 in
set_option maxHeartbeats 4000000 in
theorem s_X7_firstWith {G : fG} (hg : gbt G = true) {o : Nat} (ho : fTyp o 7) {a1 : Int} (ga1 : rg a1) {M : fMem} {q : Int} (h : f_X7_firstWith o a1 M = some q) : fSp G mX7_firstWith [rv G o, iv a1] M (rP M q) fNo := by
  refine fSp_of (by decide +kernel) (by decide +kernel) (fC1 rfl (fC1 rfl fC0)) (Nat.le_of_ble_eq_true rfl) ?_
  show fW G mX7_firstWith (fEm G mX7_firstWith (rP M q) fNo) 0 0 0 [some (rv G o), some (iv a1), none] [] M
  rw [f_X7_firstWith] at h
  refine fW_rg (fun hR => ?_)
  refine fW_iconst 1 dX7_firstWith_0 rfl ?_
  refine fW_istore_n 2 (ls' := [some (rv G o), some (iv a1), some (iv 0)]) dX7_firstWith_1 rfl rfl rfl (by decide) ?_
  refine fW_sb (l_X7_firstWith_2 hg ho ?_ 20000 a1 0 ga1 (by decide) h) ⟨rfl, rfl, rfl, trivial⟩
  intro  h
  refine fW_iconst 43 dX7_firstWith_42 rfl ?_
  exact fW_iret rfl (by decide) (by decide) dX7_firstWith_43 (rP_i h (by decide))
def mX7_rowsWith : fMt := (yX7_rowsWith, cX7_rowsWith, 4, some .int, { frames := 2, cells := 0, slots := 0, locals := 80 })
theorem miX7_rowsWith : fMv mX7_rowsWith 1 := ⟨⟨fM 963 (by decide +kernel) rfl, fM 91 (by decide +kernel) rfl, ⟨by decide +kernel, by decide +kernel⟩, by decide +kernel⟩, fM 961 (by decide +kernel) rfl, fM 962 (by decide +kernel) rfl⟩
def L_X7_rowsWith_4 (o : Nat) (M : fMem) (k : Int → Option (Int)) : Nat → Int → Int → Int → Option (Int)
  | 0, _, _, _ => none
  | n + 1, v1, v2, v3 => (if (M o 2) ≤ v3 then k v2 else (if 0 ≤ v3 ∧ v3 < 19 then (if 0 ≤ M (o + 2) v3 ∧ M (o + 2) v3 < 19 then ((f_X6_placeOf (o + 3 * (M (o + 2) v3).toNat + 3) v1 M).bind fun (r5 : Int) => (if r5 = ((-1)) then (if -2147483648 ≤ v2 + 0 ∧ v2 + 0 < 2147483648 then L_X7_rowsWith_4 o M k n v1 (v2 + 0) (v3 + 1) else none) else (if -2147483648 ≤ v2 + 1 ∧ v2 + 1 < 2147483648 then L_X7_rowsWith_4 o M k n v1 (v2 + 1) (v3 + 1) else none))) else none) else none))
set_option maxRecDepth 100000 in
set_option maxHeartbeats 4000000 in
theorem l_X7_rowsWith_4 {G : fG} (hg : gbt G = true) {o : Nat} (ho : fTyp o 7) {M : fMem} {q : Int} {k : Int → Option (Int)} (hk : ∀ (v2 : Int), rg v2 → k v2 = some q → fW G mX7_rowsWith (fEm G mX7_rowsWith (rP M q) fNo) 0 0 45 [some (rv G o), none, some (iv v2), none] [] M) : ∀ (n : Nat) (v1 : Int) (v2 : Int) (v3 : Int), rg v1 → rg v2 → rg v3 → L_X7_rowsWith_4 o M k n v1 v2 v3 = some q → fW G mX7_rowsWith (fEm G mX7_rowsWith (rP M q) fNo) 0 0 4 [some (rv G o), some (iv v1), some (iv v2), some (iv v3)] [] M := by
  intro n
  induction n with
  | zero =>
    intro v1 v2 v3 gv1 gv2 gv3 h
    rw [L_X7_rowsWith_4] at h
    exact absurd h (by simp)
  | succ n ih =>
    intro v1 v2 v3 gv1 gv2 gv3 h
    rw [L_X7_rowsWith_4] at h
    refine fW_rg (fun hR => ?_)
    refine fW_iload_n 5 dX7_rowsWith_4 rfl rfl ?_
    refine fW_aload_n 6 dX7_rowsWith_5 rfl rfl ?_
    refine fW_getI 9 2 (ji := 2) hg clX7 rfl (by decide) rfl ho wd_190 dX7_rowsWith_6 rfl ?_
    refine fW_icmp_ge 12 45 gv3 (hR o 2) dX7_rowsWith_9 rfl rfl (fun c1 => ?_) (fun c1 => ?_)
    · replace h := fTt h c1
      exact fW_sb (hk v2 gv2 h) ⟨rfl, rfl, trivial⟩
    · replace h := fFf h c1
      refine fW_iload_n 13 dX7_rowsWith_12 rfl rfl ?_
      refine fW_aload_n 14 dX7_rowsWith_13 rfl rfl ?_
      refine fW_getR 17 (r := o + 1) 0 hg clX7 (by decide) rfl ho (tf_7_0 ho) wd_180 dX7_rowsWith_14 rfl ?_
      refine fW_aload_n 18 dX7_rowsWith_17 rfl rfl ?_
      refine fW_getR 21 (r := o + 2) 1 hg clX7 (by decide) rfl ho (tf_7_1 ho) wd_186 dX7_rowsWith_18 rfl ?_
      refine fW_iload_n 22 dX7_rowsWith_21 rfl rfl ?_
      obtain ⟨c2, h⟩ := fS h
      refine fW_iald 23 hg (tt_7_1 ho) ⟨c2.1, by rw [lf_7_1 ho]; exact c2.2⟩ dX7_rowsWith_22 rfl ?_
      obtain ⟨c3, h⟩ := fS h
      have t4 := ta_16 (r := o + 3 * (M (o + 2) v3).toNat + 3) (tt_7_0 ho) c3 (by omega)
      refine fW_aald 24 4 hg (tt_7_0 ho) (by decide) (by decide) t4.1 t4.2.2 rfl dX7_rowsWith_23 rfl ?_
      refine fW_iload_n 25 dX7_rowsWith_24 rfl rfl ?_
      obtain ⟨r5, e5, h⟩ := fBd h
      refine fW_cP (fI_V (as := [iv v1]) (rest := [iv v2]) miX6_placeOf hg clX6 rfl t4.2.1 wd_616 (fRoom_of rfl) rfl (Nat.le_of_ble_eq_true rfl) dX7_rowsWith_25) (s_X6_placeOf hg t4.2.1 gv1 e5) rfl rfl rfl (fun g5 => ?_)
      refine fW_iconst 29 dX7_rowsWith_28 rfl ?_
      refine fW_icmp_eq 32 36 g5 (by decide) dX7_rowsWith_29 rfl rfl (fun c6 => ?_) (fun c6 => ?_)
      · replace h := fTt h c6
        refine fW_iconst 37 dX7_rowsWith_36 rfl ?_
        refine fW_iadd 38 dX7_rowsWith_37 rfl ?_
        refine fW_istore_n 39 (ls' := [some (rv G o), some (iv v1), some (iv (v2 + 0)), some (iv v3)]) dX7_rowsWith_38 rfl rfl rfl (by decide) ?_
        refine fW_iinc 42 (ls' := [some (rv G o), some (iv v1), some (iv (v2 + 0)), some (iv (v3 + 1))]) dX7_rowsWith_39 rfl rfl rfl (by decide) ?_
        refine fW_goto 4 dX7_rowsWith_42 rfl ?_
        obtain ⟨c7, h⟩ := fS h
        exact fW_sb (ih v1 (v2 + 0) (v3 + 1) gv1 c7 (rg_succ' gv3 (hR o 2) c1) h) ⟨rfl, rfl, rfl, rfl, trivial⟩
      · replace h := fFf h c6
        refine fW_iconst 33 dX7_rowsWith_32 rfl ?_
        refine fW_goto 37 dX7_rowsWith_33 rfl ?_
        refine fW_iadd 38 dX7_rowsWith_37 rfl ?_
        refine fW_istore_n 39 (ls' := [some (rv G o), some (iv v1), some (iv (v2 + 1)), some (iv v3)]) dX7_rowsWith_38 rfl rfl rfl (by decide) ?_
        refine fW_iinc 42 (ls' := [some (rv G o), some (iv v1), some (iv (v2 + 1)), some (iv (v3 + 1))]) dX7_rowsWith_39 rfl rfl rfl (by decide) ?_
        refine fW_goto 4 dX7_rowsWith_42 rfl ?_
        obtain ⟨c8, h⟩ := fS h
        exact fW_sb (ih v1 (v2 + 1) (v3 + 1) gv1 c8 (rg_succ' gv3 (hR o 2) c1) h) ⟨rfl, rfl, rfl, rfl, trivial⟩
def f_X7_rowsWith (o : Nat) (a1 : Int) (M : fMem) : Option (Int) := L_X7_rowsWith_4 o M (fun (v2_9 : Int) => some v2_9) 20000 a1 0 0
set_option maxRecDepth 100000 in
set_option maxHeartbeats 4000000 in
theorem s_X7_rowsWith {G : fG} (hg : gbt G = true) {o : Nat} (ho : fTyp o 7) {a1 : Int} (ga1 : rg a1) {M : fMem} {q : Int} (h : f_X7_rowsWith o a1 M = some q) : fSp G mX7_rowsWith [rv G o, iv a1] M (rP M q) fNo := by
  refine fSp_of (by decide +kernel) (by decide +kernel) (fC1 rfl (fC1 rfl fC0)) (Nat.le_of_ble_eq_true rfl) ?_
  show fW G mX7_rowsWith (fEm G mX7_rowsWith (rP M q) fNo) 0 0 0 [some (rv G o), some (iv a1), none, none] [] M
  rw [f_X7_rowsWith] at h
  refine fW_rg (fun hR => ?_)
  refine fW_iconst 1 dX7_rowsWith_0 rfl ?_
  refine fW_istore_n 2 (ls' := [some (rv G o), some (iv a1), some (iv 0), none]) dX7_rowsWith_1 rfl rfl rfl (by decide) ?_
  refine fW_iconst 3 dX7_rowsWith_2 rfl ?_
  refine fW_istore_n 4 (ls' := [some (rv G o), some (iv a1), some (iv 0), some (iv 0)]) dX7_rowsWith_3 rfl rfl rfl (by decide) ?_
  refine fW_sb (l_X7_rowsWith_4 hg ho ?_ 20000 a1 0 0 ga1 (by decide) (by decide) h) ⟨rfl, rfl, rfl, rfl, trivial⟩
  intro v2_9 gv2_9 h
  refine fW_iload_n 46 dX7_rowsWith_45 rfl rfl ?_
  exact fW_iret rfl (by decide) (by decide) dX7_rowsWith_46 (rP_i h gv2_9)
end MTH
