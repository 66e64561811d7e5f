section MTH
def mX7_valueOf : fMt := (yX7_valueOf, cX7_valueOf, 3, some .int, { frames := 3, cells := 0, slots := 0, locals := 120 })
theorem miX7_valueOf : fMv mX7_valueOf 1 := ⟨⟨fM 611 (by decide +kernel) rfl, fM 91 (by decide +kernel) rfl, ⟨by decide +kernel, by decide +kernel⟩, by decide +kernel⟩, fM 609 (by decide +kernel) rfl, fM 610 (by decide +kernel) rfl⟩
def f_X7_valueOf (o : Nat) (a1 : Int) (M : fMem) : Option (Int) := ((f_X7_firstWith o a1 M).bind fun (r1 : Int) => (if r1 = ((-1)) then some ((-1)) else (if 0 ≤ r1 ∧ r1 < 19 then ((f_X6_placeOf (o + 3 * r1.toNat + 3) a1 M).bind fun (r6 : Int) => ((f_X6_valueAt (o + 3 * r1.toNat + 3) r6 M).bind fun (r7 : Int) => some r7)) else none)))
set_option maxRecDepth 100000 in
set_option maxHeartbeats 4000000 in
theorem s_X7_valueOf {G : fG} (hg : gbt G = true) {o : Nat} (ho : fTyp o 7) {a1 : Int} (ga1 : rg a1) {M : fMem} {q : Int} (h : f_X7_valueOf o a1 M = some q) : fSp G mX7_valueOf [rv G o, iv a1] M (rP M q) fNo := by
  refine fSp_of (by decide +kernel) (by decide +kernel) (fC1 rfl (fC1 rfl fC0)) (Nat.le_of_ble_eq_true rfl) ?_
  show fW G mX7_valueOf (fEm G mX7_valueOf (rP M q) fNo) 0 0 0 [some (rv G o), some (iv a1), none] [] M
  rw [f_X7_valueOf] at h
  refine fW_rg (fun hR => ?_)
  refine fW_aload_n 1 dX7_valueOf_0 rfl rfl ?_
  refine fW_iload_n 2 dX7_valueOf_1 rfl rfl ?_
  obtain ⟨r1, e1, h⟩ := fBd h
  refine fW_cP (fI_V (as := [iv a1]) (rest := []) miX7_firstWith hg clX7 rfl ho wd_612 (fRoom_of rfl) rfl (Nat.le_of_ble_eq_true rfl) dX7_valueOf_2) (s_X7_firstWith hg ho ga1 e1) rfl rfl rfl (fun g1 => ?_)
  refine fW_istore_n 6 (ls' := [some (rv G o), some (iv a1), some (iv r1)]) dX7_valueOf_5 rfl rfl rfl (by decide) ?_
  refine fW_iload_n 7 dX7_valueOf_6 rfl rfl ?_
  refine fW_iconst 8 dX7_valueOf_7 rfl ?_
  refine fW_icmp_ne 11 15 g1 (by decide) dX7_valueOf_8 rfl rfl (fun c2 => ?_) (fun c2 => ?_)
  · replace h := fFf h c2
    refine fW_aload_n 16 dX7_valueOf_15 rfl rfl ?_
    refine fW_getR 19 (r := o + 1) 0 hg clX7 (by decide) rfl ho (tf_7_0 ho) wd_180 dX7_valueOf_16 rfl ?_
    refine fW_iload_n 20 dX7_valueOf_19 rfl rfl ?_
    obtain ⟨c3, h⟩ := fS h
    have t4 := ta_16 (r := o + 3 * r1.toNat + 3) (tt_7_0 ho) c3 (by omega)
    refine fW_aald 21 4 hg (tt_7_0 ho) (by decide) (by decide) t4.1 t4.2.2 rfl dX7_valueOf_20 rfl ?_
    refine fW_aload_n 22 dX7_valueOf_21 rfl rfl ?_
    refine fW_getR 25 (r := o + 1) 0 hg clX7 (by decide) rfl ho (tf_7_0 ho) wd_180 dX7_valueOf_22 rfl ?_
    refine fW_iload_n 26 dX7_valueOf_25 rfl rfl ?_
    have t5 := ta_16 (r := o + 3 * r1.toNat + 3) (tt_7_0 ho) c3 (by omega)
    refine fW_aald 27 4 hg (tt_7_0 ho) (by decide) (by decide) t5.1 t5.2.2 rfl dX7_valueOf_26 rfl ?_
    refine fW_iload_n 28 dX7_valueOf_27 rfl rfl ?_
    obtain ⟨r6, e6, h⟩ := fBd h
    refine fW_cP (fI_V (as := [iv a1]) (rest := [rv G (o + 3 * r1.toNat + 3)]) miX6_placeOf hg clX6 rfl t5.2.1 wd_616 (fRoom_of rfl) rfl (Nat.le_of_ble_eq_true rfl) dX7_valueOf_28) (s_X6_placeOf hg t5.2.1 ga1 e6) rfl rfl rfl (fun g6 => ?_)
    obtain ⟨r7, e7, h⟩ := fBd h
    refine fW_cP (fI_V (as := [iv r6]) (rest := []) miX6_valueAt hg clX6 rfl t4.2.1 wd_621 (fRoom_of rfl) rfl (Nat.le_of_ble_eq_true rfl) dX7_valueOf_31) (s_X6_valueAt hg t4.2.1 g6 e7) rfl rfl rfl (fun g7 => ?_)
    exact fW_iret rfl (by decide) (by decide) dX7_valueOf_34 (rP_i h g7)
  · replace h := fTt h c2
    refine fW_iconst 12 dX7_valueOf_11 rfl ?_
    refine fW_goto 34 dX7_valueOf_12 rfl ?_
    exact fW_iret rfl (by decide) (by decide) dX7_valueOf_34 (rP_i h (by decide))
def mX7_shutYetIn : fMt := (yX7_shutYetIn, cX7_shutYetIn, 4, some .int, { frames := 1, cells := 0, slots := 0, locals := 40 })
theorem miX7_shutYetIn : fMv mX7_shutYetIn 1 := ⟨⟨fM 1160 (by decide +kernel) rfl, fM 91 (by decide +kernel) rfl, ⟨by decide +kernel, by decide +kernel⟩, by decide +kernel⟩, fM 1158 (by decide +kernel) rfl, fM 1159 (by decide +kernel) rfl⟩
def L_X7_shutYetIn_4 (o : Nat) (M : fMem) (k : Int → Option (Int)) : Nat → Nat → Int → Int → Option (Int)
  | 0, _, _, _ => none
  | n + 1, w1, v2, v3 => (if 19 ≤ v3 then k v2 else (if 0 ≤ v3 ∧ v3 < 19 then ((f_X6_isShut (o + 3 * v3.toNat + 3) M).bind fun (r4 : Int) => (if r4 = 0 then L_X7_shutYetIn_4 o M k n w1 v2 (v3 + 1) else ((f_X6_isShut (w1 + 3 * v3.toNat + 3) M).bind fun (r7 : Int) => (if r7 = 0 then L_X7_shutYetIn_4 o M k n w1 v2 (v3 + 1) else (if (M (o + 3 * v3.toNat + 3) 5) = (M (w1 + 3 * v3.toNat + 3) 5) then (if -2147483648 ≤ v2 + 1 ∧ v2 + 1 < 2147483648 then L_X7_shutYetIn_4 o M k n w1 (v2 + 1) (v3 + 1) else none) else L_X7_shutYetIn_4 o M k n w1 v2 (v3 + 1)))))) else none))
set_option maxRecDepth 100000 in
set_option maxHeartbeats 4000000 in
theorem l_X7_shutYetIn_4 {G : fG} (hg : gbt G = true) {o : Nat} (ho : fTyp o 7) {M : fMem} {q : Int} {k : Int → Option (Int)} (hk : ∀ (v2 : Int), rg v2 → k v2 = some q → fW G mX7_shutYetIn (fEm G mX7_shutYetIn (rP M q) fNo) 0 0 64 [some (rv G o), none, some (iv v2), none] [] M) : ∀ (n : Nat) (w1 : Nat) (v2 : Int) (v3 : Int), fTyp w1 7 → rg v2 → rg v3 → L_X7_shutYetIn_4 o M k n w1 v2 v3 = some q → fW G mX7_shutYetIn (fEm G mX7_shutYetIn (rP M q) fNo) 0 0 4 [some (rv G o), some (rv G w1), some (iv v2), some (iv v3)] [] M := by
  intro n
  induction n with
  | zero =>
    intro w1 v2 v3 tw1 gv2 gv3 h
    rw [L_X7_shutYetIn_4] at h
    exact absurd h (by simp)
  | succ n ih =>
    intro w1 v2 v3 tw1 gv2 gv3 h
    rw [L_X7_shutYetIn_4] at h
    refine fW_rg (fun hR => ?_)
    refine fW_iload_n 5 dX7_shutYetIn_4 rfl rfl ?_
    refine fW_bipush 7 dX7_shutYetIn_5 rfl (by decide) ?_
    refine fW_icmp_ge 10 64 gv3 (by decide) dX7_shutYetIn_7 rfl rfl (fun c1 => ?_) (fun c1 => ?_)
    · replace h := fTt h c1
      exact fW_sb (hk v2 gv2 h) ⟨rfl, rfl, trivial⟩
    · replace h := fFf h c1
      refine fW_aload_n 11 dX7_shutYetIn_10 rfl rfl ?_
      refine fW_getR 14 (r := o + 1) 0 hg clX7 (by decide) rfl ho (tf_7_0 ho) wd_180 dX7_shutYetIn_11 rfl ?_
      refine fW_iload_n 15 dX7_shutYetIn_14 rfl rfl ?_
      obtain ⟨c2, h⟩ := fS h
      have t3 := ta_16 (r := o + 3 * v3.toNat + 3) (tt_7_0 ho) c2 (by omega)
      refine fW_aald 16 4 hg (tt_7_0 ho) (by decide) (by decide) t3.1 t3.2.2 rfl dX7_shutYetIn_15 rfl ?_
      obtain ⟨r4, e4, h⟩ := fBd h
      refine fW_cB (fI_V (as := []) (rest := []) miX6_isShut hg clX6 rfl t3.2.1 wd_600 (fRoom_of rfl) rfl (Nat.le_of_ble_eq_true rfl) dX7_shutYetIn_16) (s_X6_isShut hg t3.2.1 e4) rfl rfl rfl (fun g4 => ?_)
      refine fW_if_eq 22 58 (rg_z g4) dX7_shutYetIn_19 rfl rfl (fun c5 => ?_) (fun c5 => ?_)
      · replace h := fTt h c5
        refine fW_iinc 61 (ls' := [some (rv G o), some (rv G w1), some (iv v2), some (iv (v3 + 1))]) dX7_shutYetIn_58 rfl rfl rfl (by decide) ?_
        refine fW_goto 4 dX7_shutYetIn_61 rfl ?_
        exact fW_sb (ih w1 v2 (v3 + 1) tw1 gv2 (rg_succ' gv3 (by decide) c1) h) ⟨rfl, rfl, rfl, rfl, trivial⟩
      · replace h := fFf h c5
        refine fW_aload_n 23 dX7_shutYetIn_22 rfl rfl ?_
        refine fW_getR 26 (r := w1 + 1) 0 hg clX7 (by decide) rfl tw1 (tf_7_0 tw1) wd_180 dX7_shutYetIn_23 rfl ?_
        refine fW_iload_n 27 dX7_shutYetIn_26 rfl rfl ?_
        have t6 := ta_16 (r := w1 + 3 * v3.toNat + 3) (tt_7_0 tw1) c2 (by omega)
        refine fW_aald 28 4 hg (tt_7_0 tw1) (by decide) (by decide) t6.1 t6.2.2 rfl dX7_shutYetIn_27 rfl ?_
        obtain ⟨r7, e7, h⟩ := fBd h
        refine fW_cB (fI_V (as := []) (rest := []) miX6_isShut hg clX6 rfl t6.2.1 wd_600 (fRoom_of rfl) rfl (Nat.le_of_ble_eq_true rfl) dX7_shutYetIn_28) (s_X6_isShut hg t6.2.1 e7) rfl rfl rfl (fun g7 => ?_)
        refine fW_if_eq 34 58 (rg_z g7) dX7_shutYetIn_31 rfl rfl (fun c8 => ?_) (fun c8 => ?_)
        · replace h := fTt h c8
          refine fW_iinc 61 (ls' := [some (rv G o), some (rv G w1), some (iv v2), some (iv (v3 + 1))]) dX7_shutYetIn_58 rfl rfl rfl (by decide) ?_
          refine fW_goto 4 dX7_shutYetIn_61 rfl ?_
          exact fW_sb (ih w1 v2 (v3 + 1) tw1 gv2 (rg_succ' gv3 (by decide) c1) h) ⟨rfl, rfl, rfl, rfl, trivial⟩
        · replace h := fFf h c8
          refine fW_aload_n 35 dX7_shutYetIn_34 rfl rfl ?_
          refine fW_getR 38 (r := o + 1) 0 hg clX7 (by decide) rfl ho (tf_7_0 ho) wd_180 dX7_shutYetIn_35 rfl ?_
          refine fW_iload_n 39 dX7_shutYetIn_38 rfl rfl ?_
          have t9 := ta_16 (r := o + 3 * v3.toNat + 3) (tt_7_0 ho) c2 (by omega)
          refine fW_aald 40 4 hg (tt_7_0 ho) (by decide) (by decide) t9.1 t9.2.2 rfl dX7_shutYetIn_39 rfl ?_
          refine fW_getI 43 5 (ji := 5) hg clX6 rfl (by decide) rfl t9.2.1 wd_164 dX7_shutYetIn_40 rfl ?_
          refine fW_aload_n 44 dX7_shutYetIn_43 rfl rfl ?_
          refine fW_getR 47 (r := w1 + 1) 0 hg clX7 (by decide) rfl tw1 (tf_7_0 tw1) wd_180 dX7_shutYetIn_44 rfl ?_
          refine fW_iload_n 48 dX7_shutYetIn_47 rfl rfl ?_
          have t10 := ta_16 (r := w1 + 3 * v3.toNat + 3) (tt_7_0 tw1) c2 (by omega)
          refine fW_aald 49 4 hg (tt_7_0 tw1) (by decide) (by decide) t10.1 t10.2.2 rfl dX7_shutYetIn_48 rfl ?_
          refine fW_getI 52 5 (ji := 5) hg clX6 rfl (by decide) rfl t10.2.1 wd_164 dX7_shutYetIn_49 rfl ?_
          refine fW_icmp_ne 55 58 (hR (o + 3 * v3.toNat + 3) 5) (hR (w1 + 3 * v3.toNat + 3) 5) dX7_shutYetIn_52 rfl rfl (fun c11 => ?_) (fun c11 => ?_)
          · replace h := fFf h c11
            refine fW_iinc 61 (ls' := [some (rv G o), some (rv G w1), some (iv v2), some (iv (v3 + 1))]) dX7_shutYetIn_58 rfl rfl rfl (by decide) ?_
            refine fW_goto 4 dX7_shutYetIn_61 rfl ?_
            exact fW_sb (ih w1 v2 (v3 + 1) tw1 gv2 (rg_succ' gv3 (by decide) c1) h) ⟨rfl, rfl, rfl, rfl, trivial⟩
          · replace h := fTt h c11
            refine fW_iinc 58 (ls' := [some (rv G o), some (rv G w1), some (iv (v2 + 1)), some (iv v3)]) dX7_shutYetIn_55 rfl rfl rfl (by decide) ?_
            refine fW_iinc 61 (ls' := [some (rv G o), some (rv G w1), some (iv (v2 + 1)), some (iv (v3 + 1))]) dX7_shutYetIn_58 rfl rfl rfl (by decide) ?_
            refine fW_goto 4 dX7_shutYetIn_61 rfl ?_
            obtain ⟨c12, h⟩ := fS h
            exact fW_sb (ih w1 (v2 + 1) (v3 + 1) tw1 c12 (rg_succ' gv3 (by decide) c1) h) ⟨rfl, rfl, rfl, rfl, trivial⟩
def f_X7_shutYetIn (o : Nat) (p1 : Nat) (M : fMem) : Option (Int) := L_X7_shutYetIn_4 o M (fun (v2_13 : Int) => some v2_13) 20000 p1 0 0
set_option maxRecDepth 100000 in
set_option maxHeartbeats 4000000 in
theorem s_X7_shutYetIn {G : fG} (hg : gbt G = true) {o : Nat} (ho : fTyp o 7) {p1 : Nat} (hp1 : fTyp p1 7) {M : fMem} {q : Int} (h : f_X7_shutYetIn o p1 M = some q) : fSp G mX7_shutYetIn [rv G o, rv G p1] M (rP M q) fNo := by
  refine fSp_of (by decide +kernel) (by decide +kernel) (fC1 rfl (fC1 rfl fC0)) (Nat.le_of_ble_eq_true rfl) ?_
  show fW G mX7_shutYetIn (fEm G mX7_shutYetIn (rP M q) fNo) 0 0 0 [some (rv G o), some (rv G p1), none, none] [] M
  rw [f_X7_shutYetIn] at h
  refine fW_rg (fun hR => ?_)
  refine fW_iconst 1 dX7_shutYetIn_0 rfl ?_
  refine fW_istore_n 2 (ls' := [some (rv G o), some (rv G p1), some (iv 0), none]) dX7_shutYetIn_1 rfl rfl rfl (by decide) ?_
  refine fW_iconst 3 dX7_shutYetIn_2 rfl ?_
  refine fW_istore_n 4 (ls' := [some (rv G o), some (rv G p1), some (iv 0), some (iv 0)]) dX7_shutYetIn_3 rfl rfl rfl (by decide) ?_
  refine fW_sb (l_X7_shutYetIn_4 hg ho ?_ 20000 p1 0 0 hp1 (by decide) (by decide) h) ⟨rfl, rfl, rfl, rfl, trivial⟩
  intro v2_13 gv2_13 h
  refine fW_iload_n 65 dX7_shutYetIn_64 rfl rfl ?_
  exact fW_iret rfl (by decide) (by decide) dX7_shutYetIn_65 (rP_i h gv2_13)
def mX7_copyShut : fMt := (yX7_copyShut, cX7_copyShut, 3, none, { frames := 3, cells := 0, slots := 0, locals := 120 })
theorem miX7_copyShut : fMv mX7_copyShut 1 := ⟨⟨fM 678 (by decide +kernel) rfl, fM 91 (by decide +kernel) rfl, ⟨by decide +kernel, by decide +kernel⟩, by decide +kernel⟩, fM 676 (by decide +kernel) rfl, fM 677 (by decide +kernel) rfl⟩
def L_X7_copyShut_2 (o : Nat) (k : fMem → Option (fMem)) : Nat → Nat → Int → fMem → Option (fMem)
  | 0, _, _, _ => none
  | n + 1, w1, v2, M => (if 19 ≤ v2 then k  M else (if 0 ≤ v2 ∧ v2 < 19 then ((f_X6_isShut (w1 + 3 * v2.toNat + 3) M).bind fun (r4 : Int) => (if r4 = 0 then ((f_X6_clear (o + 3 * v2.toNat + 3) 0 M).bind fun (r7 : fMem) => L_X7_copyShut_2 o k n w1 (v2 + 1) r7) else ((f_X6_copyFrom (o + 3 * v2.toNat + 3) (w1 + 3 * v2.toNat + 3) M).bind fun (r11 : fMem) => L_X7_copyShut_2 o k n w1 (v2 + 1) r11))) else none))
set_option maxRecDepth 100000 in
set_option maxHeartbeats 4000000 in
theorem l_X7_copyShut_2 {G : fG} (hg : gbt G = true) {o : Nat} (ho : fTyp o 7) {q : fMem} {k : fMem → Option (fMem)} (hk : ∀ (M : fMem), k M = some q → fW G mX7_copyShut (fEm G mX7_copyShut (rV q) fNo) 0 0 54 [some (rv G o), none, none] [] M) : ∀ (n : Nat) (w1 : Nat) (v2 : Int) (M : fMem), fTyp w1 7 → rg v2 → L_X7_copyShut_2 o k n w1 v2 M = some q → fW G mX7_copyShut (fEm G mX7_copyShut (rV q) fNo) 0 0 2 [some (rv G o), some (rv G w1), some (iv v2)] [] M := by
  intro n
  induction n with
  | zero =>
    intro w1 v2 M tw1 gv2 h
    rw [L_X7_copyShut_2] at h
    exact absurd h (by simp)
  | succ n ih =>
    intro w1 v2 M tw1 gv2 h
    rw [L_X7_copyShut_2] at h
    refine fW_rg (fun hR => ?_)
    refine fW_iload_n 3 dX7_copyShut_2 rfl rfl ?_
    refine fW_bipush 5 dX7_copyShut_3 rfl (by decide) ?_
    refine fW_icmp_ge 8 54 gv2 (by decide) dX7_copyShut_5 rfl rfl (fun c1 => ?_) (fun c1 => ?_)
    · replace h := fTt h c1
      exact fW_sb (hk M h) ⟨rfl, trivial⟩
    · replace h := fFf h c1
      refine fW_aload_n 9 dX7_copyShut_8 rfl rfl ?_
      refine fW_getR 12 (r := w1 + 1) 0 hg clX7 (by decide) rfl tw1 (tf_7_0 tw1) wd_180 dX7_copyShut_9 rfl ?_
      refine fW_iload_n 13 dX7_copyShut_12 rfl rfl ?_
      obtain ⟨c2, h⟩ := fS h
      have t3 := ta_16 (r := w1 + 3 * v2.toNat + 3) (tt_7_0 tw1) c2 (by omega)
      refine fW_aald 14 4 hg (tt_7_0 tw1) (by decide) (by decide) t3.1 t3.2.2 rfl dX7_copyShut_13 rfl ?_
      obtain ⟨r4, e4, h⟩ := fBd h
      refine fW_cB (fI_V (as := []) (rest := []) miX6_isShut hg clX6 rfl t3.2.1 wd_600 (fRoom_of rfl) rfl (Nat.le_of_ble_eq_true rfl) dX7_copyShut_14) (s_X6_isShut hg t3.2.1 e4) rfl rfl rfl (fun g4 => ?_)
      refine fW_if_eq 20 38 (rg_z g4) dX7_copyShut_17 rfl rfl (fun c5 => ?_) (fun c5 => ?_)
      · replace h := fTt h c5
        refine fW_aload_n 39 dX7_copyShut_38 rfl rfl ?_
        refine fW_getR 42 (r := o + 1) 0 hg clX7 (by decide) rfl ho (tf_7_0 ho) wd_180 dX7_copyShut_39 rfl ?_
        refine fW_iload_n 43 dX7_copyShut_42 rfl rfl ?_
        have t6 := ta_16 (r := o + 3 * v2.toNat + 3) (tt_7_0 ho) c2 (by omega)
        refine fW_aald 44 4 hg (tt_7_0 ho) (by decide) (by decide) t6.1 t6.2.2 rfl dX7_copyShut_43 rfl ?_
        refine fW_iconst 45 dX7_copyShut_44 rfl ?_
        obtain ⟨r7, e7, h⟩ := fBd h
        refine fW_cV (fI_V (as := [iv 0]) (rest := []) miX6_clear hg clX6 rfl t6.2.1 wd_649 (fRoom_of rfl) rfl (Nat.le_of_ble_eq_true rfl) dX7_copyShut_45) (s_X6_clear hg t6.2.1 (by decide) e7) rfl rfl rfl ?_
        refine fW_rg (fun hR8 => ?_)
        refine fW_iinc 51 (ls' := [some (rv G o), some (rv G w1), some (iv (v2 + 1))]) dX7_copyShut_48 rfl rfl rfl (by decide) ?_
        refine fW_goto 2 dX7_copyShut_51 rfl ?_
        exact fW_sb (ih w1 (v2 + 1) r7 tw1 (rg_succ' gv2 (by decide) c1) h) ⟨rfl, rfl, rfl, trivial⟩
      · replace h := fFf h c5
        refine fW_aload_n 21 dX7_copyShut_20 rfl rfl ?_
        refine fW_getR 24 (r := o + 1) 0 hg clX7 (by decide) rfl ho (tf_7_0 ho) wd_180 dX7_copyShut_21 rfl ?_
        refine fW_iload_n 25 dX7_copyShut_24 rfl rfl ?_
        have t9 := ta_16 (r := o + 3 * v2.toNat + 3) (tt_7_0 ho) c2 (by omega)
        refine fW_aald 26 4 hg (tt_7_0 ho) (by decide) (by decide) t9.1 t9.2.2 rfl dX7_copyShut_25 rfl ?_
        refine fW_aload_n 27 dX7_copyShut_26 rfl rfl ?_
        refine fW_getR 30 (r := w1 + 1) 0 hg clX7 (by decide) rfl tw1 (tf_7_0 tw1) wd_180 dX7_copyShut_27 rfl ?_
        refine fW_iload_n 31 dX7_copyShut_30 rfl rfl ?_
        have t10 := ta_16 (r := w1 + 3 * v2.toNat + 3) (tt_7_0 tw1) c2 (by omega)
        refine fW_aald 32 4 hg (tt_7_0 tw1) (by decide) (by decide) t10.1 t10.2.2 rfl dX7_copyShut_31 rfl ?_
        obtain ⟨r11, e11, h⟩ := fBd h
        refine fW_cV (fI_V (as := [rv G (w1 + 3 * v2.toNat + 3)]) (rest := []) miX6_copyFrom hg clX6 rfl t9.2.1 wd_679 (fRoom_of rfl) rfl (Nat.le_of_ble_eq_true rfl) dX7_copyShut_32) (s_X6_copyFrom hg t9.2.1 t10.2.1 e11) rfl rfl rfl ?_
        refine fW_rg (fun hR12 => ?_)
        refine fW_goto 48 dX7_copyShut_35 rfl ?_
        refine fW_iinc 51 (ls' := [some (rv G o), some (rv G w1), some (iv (v2 + 1))]) dX7_copyShut_48 rfl rfl rfl (by decide) ?_
        refine fW_goto 2 dX7_copyShut_51 rfl ?_
        exact fW_sb (ih w1 (v2 + 1) r11 tw1 (rg_succ' gv2 (by decide) c1) h) ⟨rfl, rfl, rfl, trivial⟩
def f_X7_copyShut (o : Nat) (p1 : Nat) (M : fMem) : Option (fMem) := L_X7_copyShut_2 o (fun  (M_13 : fMem) => some M_13) 20000 p1 0 M
set_option maxRecDepth 100000 in
set_option maxHeartbeats 4000000 in
theorem s_X7_copyShut {G : fG} (hg : gbt G = true) {o : Nat} (ho : fTyp o 7) {p1 : Nat} (hp1 : fTyp p1 7) {M : fMem} {q : fMem} (h : f_X7_copyShut o p1 M = some q) : fSp G mX7_copyShut [rv G o, rv G p1] M (rV q) fNo := by
  refine fSp_of (by decide +kernel) (by decide +kernel) (fC1 rfl (fC1 rfl fC0)) (Nat.le_of_ble_eq_true rfl) ?_
  show fW G mX7_copyShut (fEm G mX7_copyShut (rV q) fNo) 0 0 0 [some (rv G o), some (rv G p1), none] [] M
  rw [f_X7_copyShut] at h
  refine fW_rg (fun hR => ?_)
  refine fW_iconst 1 dX7_copyShut_0 rfl ?_
  refine fW_istore_n 2 (ls' := [some (rv G o), some (rv G p1), some (iv 0)]) dX7_copyShut_1 rfl rfl rfl (by decide) ?_
  refine fW_sb (l_X7_copyShut_2 hg ho ?_ 20000 p1 0 M hp1 (by decide) h) ⟨rfl, rfl, rfl, trivial⟩
  intro M_13 h
  refine fW_rg (fun hR_13 => ?_)
  exact fW_vret rfl (by decide) (by decide) dX7_copyShut_54 (rV_i h)
def mX8_addNumber : fMt := (yX8_addNumber, cX8_addNumber, 3, none, { frames := 0, cells := 0, slots := 0, locals := 0 })
theorem miX8_addNumber : fMv mX8_addNumber 1 := ⟨⟨fM 461 (by decide +kernel) rfl, fM 95 (by decide +kernel) rfl, ⟨by decide +kernel, by decide +kernel⟩, by decide +kernel⟩, fM 459 (by decide +kernel) rfl, fM 460 (by decide +kernel) rfl⟩
def L_X8_addNumber_3  (k : fMem → Option (fMem)) : Nat → Int → Int → fMem → Option (fMem)
  | 0, _, _, _ => none
  | n + 1, v1, v2, M => (if v2 < 0 then k  M else (if 200 ≤ (M 145 1) then (if -2147483648 ≤ v2 + (-8) ∧ v2 + (-8) < 2147483648 then L_X8_addNumber_3  k n v1 (v2 + (-8)) M else none) else (if 0 ≤ v2 ∧ v2 < 32 then (if 0 ≤ M 145 1 ∧ M 145 1 < 200 then (if -2147483648 ≤ (v1 % 4294967296 / 2 ^ v2.toNat) % 2 ^ 8 ∧ (v1 % 4294967296 / 2 ^ v2.toNat) % 2 ^ 8 < 2147483648 then ((some (mset M 146 (M 145 1) ((v1 % 4294967296 / 2 ^ v2.toNat) % 2 ^ 8))).bind fun (N7 : fMem) => (if -2147483648 ≤ (N7 145 1) + 1 ∧ (N7 145 1) + 1 < 2147483648 then ((some (mset N7 145 1 ((N7 145 1) + 1))).bind fun (N9 : fMem) => (if -2147483648 ≤ v2 + (-8) ∧ v2 + (-8) < 2147483648 then L_X8_addNumber_3  k n v1 (v2 + (-8)) N9 else none)) else none)) else none) else none) else none)))
set_option maxRecDepth 100000 in
set_option maxHeartbeats 4000000 in
theorem l_X8_addNumber_3 {G : fG} (hg : gbt G = true)  {q : fMem} {k : fMem → Option (fMem)} (hk : ∀ (M : fMem), k M = some q → fW G mX8_addNumber (fEm G mX8_addNumber (rV q) fNo) 0 0 49 [some (rv G 145), none, none] [] M) : ∀ (n : Nat) (v1 : Int) (v2 : Int) (M : fMem), rg v1 → rg v2 → L_X8_addNumber_3 k n v1 v2 M = some q → fW G mX8_addNumber (fEm G mX8_addNumber (rV q) fNo) 0 0 3 [some (rv G 145), some (iv v1), some (iv v2)] [] M := by
  intro n
  induction n with
  | zero =>
    intro v1 v2 M gv1 gv2 h
    rw [L_X8_addNumber_3] at h
    exact absurd h (by simp)
  | succ n ih =>
    intro v1 v2 M gv1 gv2 h
    rw [L_X8_addNumber_3] at h
    refine fW_rg (fun hR => ?_)
    refine fW_iload_n 4 dX8_addNumber_3 rfl rfl ?_
    refine fW_if_lt 7 49 gv2 dX8_addNumber_4 rfl rfl (fun c1 => ?_) (fun c1 => ?_)
    · replace h := fTt h c1
      exact fW_sb (hk M h) ⟨rfl, trivial⟩
    · replace h := fFf h c1
      refine fW_aload_n 8 dX8_addNumber_7 rfl rfl ?_
      refine fW_getI 11 1 (ji := 1) hg clX8 rfl (by decide) rfl tc_145 wd_296 dX8_addNumber_8 rfl ?_
      refine fW_sipush 14 dX8_addNumber_11 rfl (by decide) ?_
      refine fW_icmp_ge 17 43 (hR 145 1) (by decide) dX8_addNumber_14 rfl rfl (fun c2 => ?_) (fun c2 => ?_)
      · replace h := fTt h c2
        refine fW_iinc 46 (ls' := [some (rv G 145), some (iv v1), some (iv (v2 + (-8)))]) dX8_addNumber_43 rfl rfl rfl (by decide) ?_
        refine fW_goto 3 dX8_addNumber_46 rfl ?_
        obtain ⟨c3, h⟩ := fS h
        exact fW_sb (ih v1 (v2 + (-8)) M gv1 c3 h) ⟨rfl, rfl, rfl, trivial⟩
      · replace h := fFf h c2
        refine fW_aload_n 18 dX8_addNumber_17 rfl rfl ?_
        refine fW_getR 21 (r := 146) 0 hg clX8 (by decide) rfl tc_145 tf_8_0 wd_295 dX8_addNumber_18 rfl ?_
        refine fW_aload_n 22 dX8_addNumber_21 rfl rfl ?_
        refine fW_getI 25 1 (ji := 1) hg clX8 rfl (by decide) rfl tc_145 wd_296 dX8_addNumber_22 rfl ?_
        refine fW_iload_n 26 dX8_addNumber_25 rfl rfl ?_
        refine fW_iload_n 27 dX8_addNumber_26 rfl rfl ?_
        obtain ⟨c4, h⟩ := fS h
        refine fW_iushr 28 c4 dX8_addNumber_27 rfl ?_
        refine fW_sipush 31 dX8_addNumber_28 rfl (by decide) ?_
        refine fW_iand 32 8 (by decide) (by decide) dX8_addNumber_31 rfl ?_
        obtain ⟨c5, h⟩ := fS h
        obtain ⟨c6, h⟩ := fS h
        obtain ⟨N7, e7, h⟩ := fBd h
        replace e7 := Option.some.inj e7
        refine fW_iast 33 hg tc_146 ⟨c5.1, by rw [show Ln 146 = 200 from rfl]; exact c5.2⟩ c6 dX8_addNumber_32 rfl ?_
        rw [e7]
        refine fW_rg (fun hR7 => ?_)
        refine fW_aload_n 34 dX8_addNumber_33 rfl rfl ?_
        refine fW_dup 35 dX8_addNumber_34 rfl rfl ?_
        refine fW_getI 38 1 (ji := 1) hg clX8 rfl (by decide) rfl tc_145 wd_296 dX8_addNumber_35 rfl ?_
        refine fW_iconst 39 dX8_addNumber_38 rfl ?_
        refine fW_iadd 40 dX8_addNumber_39 rfl ?_
        obtain ⟨c8, h⟩ := fS h
        obtain ⟨N9, e9, h⟩ := fBd h
        replace e9 := Option.some.inj e9
        refine fW_putI 43 1 (ji := 1) hg clX8 rfl (by decide) rfl rfl rfl tc_145 c8 wd_296 dX8_addNumber_40 rfl ?_
        rw [e9]
        refine fW_rg (fun hR9 => ?_)
        refine fW_iinc 46 (ls' := [some (rv G 145), some (iv v1), some (iv (v2 + (-8)))]) dX8_addNumber_43 rfl rfl rfl (by decide) ?_
        refine fW_goto 3 dX8_addNumber_46 rfl ?_
        obtain ⟨c10, h⟩ := fS h
        exact fW_sb (ih v1 (v2 + (-8)) N9 gv1 c10 h) ⟨rfl, rfl, rfl, trivial⟩
def f_X8_addNumber (a1 : Int) (M : fMem) : Option (fMem) := L_X8_addNumber_3 (fun  (M_11 : fMem) => some M_11) 20000 a1 24 M
set_option maxRecDepth 100000 in
set_option maxHeartbeats 4000000 in
theorem s_X8_addNumber {G : fG} (hg : gbt G = true) {a1 : Int} (ga1 : rg a1) {M : fMem} {q : fMem} (h : f_X8_addNumber a1 M = some q) : fSp G mX8_addNumber [rv G 145, iv a1] M (rV q) fNo := by
  refine fSp_of (by decide +kernel) (by decide +kernel) (fC1 rfl (fC1 rfl fC0)) (Nat.le_of_ble_eq_true rfl) ?_
  show fW G mX8_addNumber (fEm G mX8_addNumber (rV q) fNo) 0 0 0 [some (rv G 145), some (iv a1), none] [] M
  rw [f_X8_addNumber] at h
  refine fW_rg (fun hR => ?_)
  refine fW_bipush 2 dX8_addNumber_0 rfl (by decide) ?_
  refine fW_istore_n 3 (ls' := [some (rv G 145), some (iv a1), some (iv 24)]) dX8_addNumber_2 rfl rfl rfl (by decide) ?_
  refine fW_sb (l_X8_addNumber_3 hg ?_ 20000 a1 24 M ga1 (by decide) h) ⟨rfl, rfl, rfl, trivial⟩
  intro M_11 h
  refine fW_rg (fun hR_11 => ?_)
  exact fW_vret rfl (by decide) (by decide) dX8_addNumber_49 (rV_i h)
def mX8_byteAt : fMt := (yX8_byteAt, cX8_byteAt, 2, some .int, { frames := 0, cells := 0, slots := 0, locals := 0 })
theorem miX8_byteAt : fMv mX8_byteAt 1 := ⟨⟨fM 469 (by decide +kernel) rfl, fM 95 (by decide +kernel) rfl, ⟨by decide +kernel, by decide +kernel⟩, by decide +kernel⟩, fM 467 (by decide +kernel) rfl, fM 468 (by decide +kernel) rfl⟩
def f_X8_byteAt (a1 : Int) (M : fMem) : Option (Int) := (if a1 < 0 then some ((-1)) else (if (M 145 1) ≤ a1 then some ((-1)) else (if 0 ≤ a1 ∧ a1 < 200 then some (M 146 a1) else none)))
set_option maxRecDepth 100000 in
set_option maxHeartbeats 4000000 in
theorem s_X8_byteAt {G : fG} (hg : gbt G = true) {a1 : Int} (ga1 : rg a1) {M : fMem} {q : Int} (h : f_X8_byteAt a1 M = some q) : fSp G mX8_byteAt [rv G 145, iv a1] M (rP M q) fNo := by
  refine fSp_of (by decide +kernel) (by decide +kernel) (fC1 rfl (fC1 rfl fC0)) (Nat.le_of_ble_eq_true rfl) ?_
  show fW G mX8_byteAt (fEm G mX8_byteAt (rP M q) fNo) 0 0 0 [some (rv G 145), some (iv a1)] [] M
  rw [f_X8_byteAt] at h
  refine fW_rg (fun hR => ?_)
  refine fW_iload_n 1 dX8_byteAt_0 rfl rfl ?_
  refine fW_if_lt 4 21 ga1 dX8_byteAt_1 rfl rfl (fun c1 => ?_) (fun c1 => ?_)
  · replace h := fTt h c1
    refine fW_iconst 22 dX8_byteAt_21 rfl ?_
    exact fW_iret rfl (by decide) (by decide) dX8_byteAt_22 (rP_i h (by decide))
  · replace h := fFf h c1
    refine fW_iload_n 5 dX8_byteAt_4 rfl rfl ?_
    refine fW_aload_n 6 dX8_byteAt_5 rfl rfl ?_
    refine fW_getI 9 1 (ji := 1) hg clX8 rfl (by decide) rfl tc_145 wd_296 dX8_byteAt_6 rfl ?_
    refine fW_icmp_ge 12 21 ga1 (hR 145 1) dX8_byteAt_9 rfl rfl (fun c2 => ?_) (fun c2 => ?_)
    · replace h := fTt h c2
      refine fW_iconst 22 dX8_byteAt_21 rfl ?_
      exact fW_iret rfl (by decide) (by decide) dX8_byteAt_22 (rP_i h (by decide))
    · replace h := fFf h c2
      refine fW_aload_n 13 dX8_byteAt_12 rfl rfl ?_
      refine fW_getR 16 (r := 146) 0 hg clX8 (by decide) rfl tc_145 tf_8_0 wd_295 dX8_byteAt_13 rfl ?_
      refine fW_iload_n 17 dX8_byteAt_16 rfl rfl ?_
      obtain ⟨c3, h⟩ := fS h
      refine fW_iald 18 hg tc_146 ⟨c3.1, by rw [show Ln 146 = 200 from rfl]; exact c3.2⟩ dX8_byteAt_17 rfl ?_
      refine fW_goto 22 dX8_byteAt_18 rfl ?_
      exact fW_iret rfl (by decide) (by decide) dX8_byteAt_22 (rP_i h (hR 146 a1))
def mX8_clear : fMt := (yX8_clear, cX8_clear, 1, none, { frames := 0, cells := 0, slots := 0, locals := 0 })
theorem miX8_clear : fMv mX8_clear 0 := ⟨⟨fM 570 (by decide +kernel) rfl, fM 95 (by decide +kernel) rfl, ⟨by decide +kernel, by decide +kernel⟩, by decide +kernel⟩, fM 568 (by decide +kernel) rfl, fM 569 (by decide +kernel) rfl⟩
def f_X8_clear  (M : fMem) : Option (fMem) := ((some (mset M 145 1 0)).bind fun (N1 : fMem) => some N1)
set_option maxRecDepth 100000 in
set_option maxHeartbeats 4000000 in
theorem s_X8_clear {G : fG} (hg : gbt G = true)  {M : fMem} {q : fMem} (h : f_X8_clear M = some q) : fSp G mX8_clear [rv G 145] M (rV q) fNo := by
  refine fSp_of (by decide +kernel) (by decide +kernel) (fC1 rfl fC0) (Nat.le_of_ble_eq_true rfl) ?_
  show fW G mX8_clear (fEm G mX8_clear (rV q) fNo) 0 0 0 [some (rv G 145)] [] M
  rw [f_X8_clear] at h
  refine fW_rg (fun hR => ?_)
  refine fW_aload_n 1 dX8_clear_0 rfl rfl ?_
  refine fW_iconst 2 dX8_clear_1 rfl ?_
  obtain ⟨N1, e1, h⟩ := fBd h
  replace e1 := Option.some.inj e1
  refine fW_putI 5 1 (ji := 1) hg clX8 rfl (by decide) rfl rfl rfl tc_145 (by decide) wd_296 dX8_clear_2 rfl ?_
  rw [e1]
  refine fW_rg (fun hR1 => ?_)
  exact fW_vret rfl (by decide) (by decide) dX8_clear_5 (rV_i h)
def mX9_add : fMt := (yX9_add, cX9_add, 2, none, { frames := 1, cells := 0, slots := 0, locals := 40 })
theorem miX9_add : fMv mX9_add 1 := ⟨⟨fM 565 (by decide +kernel) rfl, fM 96 (by decide +kernel) rfl, ⟨by decide +kernel, by decide +kernel⟩, by decide +kernel⟩, fM 563 (by decide +kernel) rfl, fM 564 (by decide +kernel) rfl⟩
def f_X9_add (a1 : Int) (M : fMem) : Option (fMem) := (if 0 ≤ (M 147 1) + 1 ∧ (M 147 1) + 1 < 2147483648 then (if -2147483648 ≤ ((M 147 1) + 1) % 40 ∧ ((M 147 1) + 1) % 40 < 2147483648 then ((some (mset M 147 1 (((M 147 1) + 1) % 40))).bind fun (N3 : fMem) => (if 0 ≤ N3 147 1 ∧ N3 147 1 < 40 then ((some (mset N3 148 (N3 147 1) a1)).bind fun (N5 : fMem) => (if -2147483648 ≤ (N5 147 2) + 1 ∧ (N5 147 2) + 1 < 2147483648 then ((some (mset N5 147 2 (min ((N5 147 2) + 1) 40))).bind fun (N7 : fMem) => some N7) else none)) else none)) else none) else none)
set_option maxRecDepth 100000 in
set_option maxHeartbeats 4000000 in
theorem s_X9_add {G : fG} (hg : gbt G = true) {a1 : Int} (ga1 : rg a1) {M : fMem} {q : fMem} (h : f_X9_add a1 M = some q) : fSp G mX9_add [rv G 147, iv a1] M (rV q) fNo := by
  refine fSp_of (by decide +kernel) (by decide +kernel) (fC1 rfl (fC1 rfl fC0)) (Nat.le_of_ble_eq_true rfl) ?_
  show fW G mX9_add (fEm G mX9_add (rV q) fNo) 0 0 0 [some (rv G 147), some (iv a1)] [] M
  rw [f_X9_add] at h
  refine fW_rg (fun hR => ?_)
  refine fW_aload_n 1 dX9_add_0 rfl rfl ?_
  refine fW_aload_n 2 dX9_add_1 rfl rfl ?_
  refine fW_getI 5 1 (ji := 1) hg clX9 rfl (by decide) rfl tc_147 wd_311 dX9_add_2 rfl ?_
  refine fW_iconst 6 dX9_add_5 rfl ?_
  refine fW_iadd 7 dX9_add_6 rfl ?_
  refine fW_bipush 9 dX9_add_7 rfl (by decide) ?_
  obtain ⟨c1, h⟩ := fS h
  refine fW_irem 10 c1 (by decide) dX9_add_9 rfl ?_
  obtain ⟨c2, h⟩ := fS h
  obtain ⟨N3, e3, h⟩ := fBd h
  replace e3 := Option.some.inj e3
  refine fW_putI 13 1 (ji := 1) hg clX9 rfl (by decide) rfl rfl rfl tc_147 c2 wd_311 dX9_add_10 rfl ?_
  rw [e3]
  refine fW_rg (fun hR3 => ?_)
  refine fW_aload_n 14 dX9_add_13 rfl rfl ?_
  refine fW_getR 17 (r := 148) 0 hg clX9 (by decide) rfl tc_147 tf_9_0 wd_310 dX9_add_14 rfl ?_
  refine fW_aload_n 18 dX9_add_17 rfl rfl ?_
  refine fW_getI 21 1 (ji := 1) hg clX9 rfl (by decide) rfl tc_147 wd_311 dX9_add_18 rfl ?_
  refine fW_iload_n 22 dX9_add_21 rfl rfl ?_
  obtain ⟨c4, h⟩ := fS h
  obtain ⟨N5, e5, h⟩ := fBd h
  replace e5 := Option.some.inj e5
  refine fW_iast 23 hg tc_148 ⟨c4.1, by rw [show Ln 148 = 40 from rfl]; exact c4.2⟩ ga1 dX9_add_22 rfl ?_
  rw [e5]
  refine fW_rg (fun hR5 => ?_)
  refine fW_aload_n 24 dX9_add_23 rfl rfl ?_
  refine fW_aload_n 25 dX9_add_24 rfl rfl ?_
  refine fW_getI 28 2 (ji := 2) hg clX9 rfl (by decide) rfl tc_147 wd_312 dX9_add_25 rfl ?_
  refine fW_iconst 29 dX9_add_28 rfl ?_
  refine fW_iadd 30 dX9_add_29 rfl ?_
  refine fW_bipush 32 dX9_add_30 rfl (by decide) ?_
  obtain ⟨c6, h⟩ := fS h
  refine fW_mmin 35 c6 (by decide) wd_566 (by decide) (Nat.le_of_ble_eq_true rfl) (by decide) (by decide) dX9_add_32 rfl ?_
  obtain ⟨N7, e7, h⟩ := fBd h
  replace e7 := Option.some.inj e7
  refine fW_putI 38 2 (ji := 2) hg clX9 rfl (by decide) rfl rfl rfl tc_147 (rg_min c6 (by decide)) wd_312 dX9_add_35 rfl ?_
  rw [e7]
  refine fW_rg (fun hR7 => ?_)
  exact fW_vret rfl (by decide) (by decide) dX9_add_38 (rV_i h)
def mX9_stepsOf : fMt := (yX9_stepsOf, cX9_stepsOf, 2, some .int, { frames := 0, cells := 0, slots := 0, locals := 0 })
theorem miX9_stepsOf : fMv mX9_stepsOf 1 := ⟨⟨fM 1069 (by decide +kernel) rfl, fM 96 (by decide +kernel) rfl, ⟨by decide +kernel, by decide +kernel⟩, by decide +kernel⟩, fM 1067 (by decide +kernel) rfl, fM 1068 (by decide +kernel) rfl⟩
def f_X9_stepsOf (a1 : Int) (M : fMem) : Option (Int) := (if a1 < 0 then some ((-1)) else (if (M 147 2) ≤ a1 then some ((-1)) else (if 0 ≤ ((M 147 1) + 40) - a1 ∧ ((M 147 1) + 40) - a1 < 2147483648 then (if 0 ≤ (((M 147 1) + 40) - a1) % 40 ∧ (((M 147 1) + 40) - a1) % 40 < 40 then some (M 148 ((((M 147 1) + 40) - a1) % 40)) else none) else none)))
set_option maxRecDepth 100000 in
set_option maxHeartbeats 4000000 in
theorem s_X9_stepsOf {G : fG} (hg : gbt G = true) {a1 : Int} (ga1 : rg a1) {M : fMem} {q : Int} (h : f_X9_stepsOf a1 M = some q) : fSp G mX9_stepsOf [rv G 147, iv a1] M (rP M q) fNo := by
  refine fSp_of (by decide +kernel) (by decide +kernel) (fC1 rfl (fC1 rfl fC0)) (Nat.le_of_ble_eq_true rfl) ?_
  show fW G mX9_stepsOf (fEm G mX9_stepsOf (rP M q) fNo) 0 0 0 [some (rv G 147), some (iv a1)] [] M
  rw [f_X9_stepsOf] at h
  refine fW_rg (fun hR => ?_)
  refine fW_iload_n 1 dX9_stepsOf_0 rfl rfl ?_
  refine fW_if_lt 4 32 ga1 dX9_stepsOf_1 rfl rfl (fun c1 => ?_) (fun c1 => ?_)
  · replace h := fTt h c1
    refine fW_iconst 33 dX9_stepsOf_32 rfl ?_
    exact fW_iret rfl (by decide) (by decide) dX9_stepsOf_33 (rP_i h (by decide))
  · replace h := fFf h c1
    refine fW_iload_n 5 dX9_stepsOf_4 rfl rfl ?_
    refine fW_aload_n 6 dX9_stepsOf_5 rfl rfl ?_
    refine fW_getI 9 2 (ji := 2) hg clX9 rfl (by decide) rfl tc_147 wd_312 dX9_stepsOf_6 rfl ?_
    refine fW_icmp_ge 12 32 ga1 (hR 147 2) dX9_stepsOf_9 rfl rfl (fun c2 => ?_) (fun c2 => ?_)
    · replace h := fTt h c2
      refine fW_iconst 33 dX9_stepsOf_32 rfl ?_
      exact fW_iret rfl (by decide) (by decide) dX9_stepsOf_33 (rP_i h (by decide))
    · replace h := fFf h c2
      refine fW_aload_n 13 dX9_stepsOf_12 rfl rfl ?_
      refine fW_getR 16 (r := 148) 0 hg clX9 (by decide) rfl tc_147 tf_9_0 wd_310 dX9_stepsOf_13 rfl ?_
      refine fW_aload_n 17 dX9_stepsOf_16 rfl rfl ?_
      refine fW_getI 20 1 (ji := 1) hg clX9 rfl (by decide) rfl tc_147 wd_311 dX9_stepsOf_17 rfl ?_
      refine fW_bipush 22 dX9_stepsOf_20 rfl (by decide) ?_
      refine fW_iadd 23 dX9_stepsOf_22 rfl ?_
      refine fW_iload_n 24 dX9_stepsOf_23 rfl rfl ?_
      refine fW_isub 25 dX9_stepsOf_24 rfl ?_
      refine fW_bipush 27 dX9_stepsOf_25 rfl (by decide) ?_
      obtain ⟨c3, h⟩ := fS h
      refine fW_irem 28 c3 (by decide) dX9_stepsOf_27 rfl ?_
      obtain ⟨c4, h⟩ := fS h
      refine fW_iald 29 hg tc_148 ⟨c4.1, by rw [show Ln 148 = 40 from rfl]; exact c4.2⟩ dX9_stepsOf_28 rfl ?_
      refine fW_goto 33 dX9_stepsOf_29 rfl ?_
      exact fW_iret rfl (by decide) (by decide) dX9_stepsOf_33 (rP_i h (hR 148 ((((M 147 1) + 40) - a1) % 40)))
def mX10_feed : fMt := (yX10_feed, cX10_feed, 6, some .int, { frames := 1, cells := 0, slots := 0, locals := 40 })
theorem miX10_feed : fMv mX10_feed 5 := ⟨⟨fM 457 (by decide +kernel) rfl, fM 89 (by decide +kernel) rfl, ⟨by decide +kernel, by decide +kernel⟩, by decide +kernel⟩, fM 455 (by decide +kernel) rfl, fM 456 (by decide +kernel) rfl⟩
def f_X10_feed (a1 : Int) (a2 : Int) (a3 : Int) (a4 : Int) (a5 : Int) (M : fMem) : Option (Int × fMem) := (if -2147483648 ≤ (M 145 1) + 20 ∧ (M 145 1) + 20 < 2147483648 then (if ((M 145 1) + 20) ≤ 200 then ((f_X8_addNumber a1 M).bind fun (r3 : fMem) => ((f_X8_addNumber a2 r3).bind fun (r5 : fMem) => ((f_X8_addNumber a3 r5).bind fun (r7 : fMem) => ((f_X8_addNumber a4 r7).bind fun (r9 : fMem) => ((f_X8_addNumber a5 r9).bind fun (r11 : fMem) => some (r11 145 1, r11)))))) else some ((-1), M)) else none)
set_option maxRecDepth 100000 in
set_option maxHeartbeats 4000000 in
theorem s_X10_feed {G : fG} (hg : gbt G = true) {a1 : Int} (ga1 : rg a1) {a2 : Int} (ga2 : rg a2) {a3 : Int} (ga3 : rg a3) {a4 : Int} (ga4 : rg a4) {a5 : Int} (ga5 : rg a5) {M : fMem} {q : Int × fMem} (h : f_X10_feed a1 a2 a3 a4 a5 M = some q) : fSp G mX10_feed [rv G 0, iv a1, iv a2, iv a3, iv a4, iv a5] M (rP q.2 q.1) fNo := by
  refine fSp_of (by decide +kernel) (by decide +kernel) (fC1 rfl (fC1 rfl (fC1 rfl (fC1 rfl (fC1 rfl (fC1 rfl fC0)))))) (Nat.le_of_ble_eq_true rfl) ?_
  show fW G mX10_feed (fEm G mX10_feed (rP q.2 q.1) fNo) 0 0 0 [some (rv G 0), some (iv a1), some (iv a2), some (iv a3), some (iv a4), some (iv a5)] [] M
  rw [f_X10_feed] at h
  refine fW_rg (fun hR => ?_)
  refine fW_aload_n 1 dX10_feed_0 rfl rfl ?_
  refine fW_getR 4 (r := 145) 4 hg clX10 (by decide) rfl tc_0 tf_10_4 wd_421 dX10_feed_1 rfl ?_
  refine fW_getI 7 1 (ji := 1) hg clX8 rfl (by decide) rfl tc_145 wd_297 dX10_feed_4 rfl ?_
  refine fW_bipush 9 dX10_feed_7 rfl (by decide) ?_
  refine fW_iadd 10 dX10_feed_9 rfl ?_
  refine fW_sipush 13 dX10_feed_10 rfl (by decide) ?_
  obtain ⟨c1, h⟩ := fS h
  refine fW_icmp_le 16 18 c1 (by decide) dX10_feed_13 rfl rfl (fun c2 => ?_) (fun c2 => ?_)
  · replace h := fTt h c2
    refine fW_aload_n 19 dX10_feed_18 rfl rfl ?_
    refine fW_getR 22 (r := 145) 4 hg clX10 (by decide) rfl tc_0 tf_10_4 wd_421 dX10_feed_19 rfl ?_
    refine fW_iload_n 23 dX10_feed_22 rfl rfl ?_
    obtain ⟨r3, e3, h⟩ := fBd h
    refine fW_cV (fI_V (as := [iv a1]) (rest := []) miX8_addNumber hg clX8 rfl tc_145 wd_458 (fRoom_of rfl) rfl (Nat.le_of_ble_eq_true rfl) dX10_feed_23) (s_X8_addNumber hg ga1 e3) rfl rfl rfl ?_
    refine fW_rg (fun hR4 => ?_)
    refine fW_aload_n 27 dX10_feed_26 rfl rfl ?_
    refine fW_getR 30 (r := 145) 4 hg clX10 (by decide) rfl tc_0 tf_10_4 wd_421 dX10_feed_27 rfl ?_
    refine fW_iload_n 31 dX10_feed_30 rfl rfl ?_
    obtain ⟨r5, e5, h⟩ := fBd h
    refine fW_cV (fI_V (as := [iv a2]) (rest := []) miX8_addNumber hg clX8 rfl tc_145 wd_458 (fRoom_of rfl) rfl (Nat.le_of_ble_eq_true rfl) dX10_feed_31) (s_X8_addNumber hg ga2 e5) rfl rfl rfl ?_
    refine fW_rg (fun hR6 => ?_)
    refine fW_aload_n 35 dX10_feed_34 rfl rfl ?_
    refine fW_getR 38 (r := 145) 4 hg clX10 (by decide) rfl tc_0 tf_10_4 wd_421 dX10_feed_35 rfl ?_
    refine fW_iload_n 39 dX10_feed_38 rfl rfl ?_
    obtain ⟨r7, e7, h⟩ := fBd h
    refine fW_cV (fI_V (as := [iv a3]) (rest := []) miX8_addNumber hg clX8 rfl tc_145 wd_458 (fRoom_of rfl) rfl (Nat.le_of_ble_eq_true rfl) dX10_feed_39) (s_X8_addNumber hg ga3 e7) rfl rfl rfl ?_
    refine fW_rg (fun hR8 => ?_)
    refine fW_aload_n 43 dX10_feed_42 rfl rfl ?_
    refine fW_getR 46 (r := 145) 4 hg clX10 (by decide) rfl tc_0 tf_10_4 wd_421 dX10_feed_43 rfl ?_
    refine fW_iload 48 dX10_feed_46 rfl rfl ?_
    obtain ⟨r9, e9, h⟩ := fBd h
    refine fW_cV (fI_V (as := [iv a4]) (rest := []) miX8_addNumber hg clX8 rfl tc_145 wd_458 (fRoom_of rfl) rfl (Nat.le_of_ble_eq_true rfl) dX10_feed_48) (s_X8_addNumber hg ga4 e9) rfl rfl rfl ?_
    refine fW_rg (fun hR10 => ?_)
    refine fW_aload_n 52 dX10_feed_51 rfl rfl ?_
    refine fW_getR 55 (r := 145) 4 hg clX10 (by decide) rfl tc_0 tf_10_4 wd_421 dX10_feed_52 rfl ?_
    refine fW_iload 57 dX10_feed_55 rfl rfl ?_
    obtain ⟨r11, e11, h⟩ := fBd h
    refine fW_cV (fI_V (as := [iv a5]) (rest := []) miX8_addNumber hg clX8 rfl tc_145 wd_458 (fRoom_of rfl) rfl (Nat.le_of_ble_eq_true rfl) dX10_feed_57) (s_X8_addNumber hg ga5 e11) rfl rfl rfl ?_
    refine fW_rg (fun hR12 => ?_)
    refine fW_aload_n 61 dX10_feed_60 rfl rfl ?_
    refine fW_getR 64 (r := 145) 4 hg clX10 (by decide) rfl tc_0 tf_10_4 wd_421 dX10_feed_61 rfl ?_
    refine fW_getI 67 1 (ji := 1) hg clX8 rfl (by decide) rfl tc_145 wd_297 dX10_feed_64 rfl ?_
    exact fW_iret rfl (by decide) (by decide) dX10_feed_67 (rI_i h (hR12 145 1))
  · replace h := fFf h c2
    refine fW_iconst 17 dX10_feed_16 rfl ?_
    exact fW_iret rfl (by decide) (by decide) dX10_feed_17 (rI_i h (by decide))
def mX10_takeAct : fMt := (yX10_takeAct, cX10_takeAct, 4, some .int, { frames := 6, cells := 0, slots := 0, locals := 240 })
theorem miX10_takeAct : fMv mX10_takeAct 2 := ⟨⟨fM 476 (by decide +kernel) rfl, fM 89 (by decide +kernel) rfl, ⟨by decide +kernel, by decide +kernel⟩, by decide +kernel⟩, fM 475 (by decide +kernel) rfl, fM 0 (by decide +kernel) rfl⟩
def f_X10_takeAct (a1 : Int) (a2 : Int) (M : fMem) : Option (Int × fMem) := ((f_X0_act 1 a1 a2 M).bind fun (r1 : Int × fMem) => ((f_X9_add r1.1 r1.2).bind fun (r3 : fMem) => ((some (mset r3 0 11 1)).bind fun (N5 : fMem) => some (r1.1, N5))))
set_option maxRecDepth 100000 in
set_option maxHeartbeats 4000000 in
theorem s_X10_takeAct {G : fG} (hg : gbt G = true) {a1 : Int} (ga1 : rg a1) {a2 : Int} (ga2 : rg a2) {M : fMem} {q : Int × fMem} (h : f_X10_takeAct a1 a2 M = some q) : fSp G mX10_takeAct [rv G 0, iv a1, iv a2] M (rP q.2 q.1) fNo := by
  refine fSp_of (by decide +kernel) (by decide +kernel) (fC1 rfl (fC1 rfl (fC1 rfl fC0))) (Nat.le_of_ble_eq_true rfl) ?_
  show fW G mX10_takeAct (fEm G mX10_takeAct (rP q.2 q.1) fNo) 0 0 0 [some (rv G 0), some (iv a1), some (iv a2), none] [] M
  rw [f_X10_takeAct] at h
  refine fW_rg (fun hR => ?_)
  refine fW_aload_n 1 dX10_takeAct_0 rfl rfl ?_
  refine fW_getR 4 (r := 1) 0 hg clX10 (by decide) rfl tc_0 tf_10_0 wd_417 dX10_takeAct_1 rfl ?_
  refine fW_iload_n 5 dX10_takeAct_4 rfl rfl ?_
  refine fW_iload_n 6 dX10_takeAct_5 rfl rfl ?_
  obtain ⟨r1, e1, h⟩ := fBd h
  refine fW_cP (fI_V (as := [iv a1, iv a2]) (rest := []) miX0_act hg clX0 rfl tc_1 wd_477 (fRoom_of rfl) rfl (Nat.le_of_ble_eq_true rfl) dX10_takeAct_6) (s_X0_act hg tc_1 ga1 ga2 e1) rfl rfl rfl (fun g1 => ?_)
  refine fW_rg (fun hR2 => ?_)
  refine fW_istore_n 10 (ls' := [some (rv G 0), some (iv a1), some (iv a2), some (iv r1.1)]) dX10_takeAct_9 rfl rfl rfl (by decide) ?_
  refine fW_aload_n 11 dX10_takeAct_10 rfl rfl ?_
  refine fW_getR 14 (r := 147) 5 hg clX10 (by decide) rfl tc_0 tf_10_5 wd_422 dX10_takeAct_11 rfl ?_
  refine fW_iload_n 15 dX10_takeAct_14 rfl rfl ?_
  obtain ⟨r3, e3, h⟩ := fBd h
  refine fW_cV (fI_V (as := [iv r1.1]) (rest := []) miX9_add hg clX9 rfl tc_147 wd_562 (fRoom_of rfl) rfl (Nat.le_of_ble_eq_true rfl) dX10_takeAct_15) (s_X9_add hg g1 e3) rfl rfl rfl ?_
  refine fW_rg (fun hR4 => ?_)
  refine fW_aload_n 19 dX10_takeAct_18 rfl rfl ?_
  refine fW_iconst 20 dX10_takeAct_19 rfl ?_
  obtain ⟨N5, e5, h⟩ := fBd h
  replace e5 := Option.some.inj e5
  refine fW_putZ 23 11 (ji := 11) hg clX10 rfl (by decide) rfl rfl rfl tc_0 (by decide) wd_428 dX10_takeAct_20 rfl ?_
  rw [e5]
  refine fW_rg (fun hR5 => ?_)
  refine fW_iload_n 24 dX10_takeAct_23 rfl rfl ?_
  exact fW_iret rfl (by decide) (by decide) dX10_takeAct_24 (rI_i h g1)
end MTH
