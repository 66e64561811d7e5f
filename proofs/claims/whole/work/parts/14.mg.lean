section MTH
def mX2_lostIn : fMt := (yX2_lostIn, cX2_lostIn, 4, some .int, { frames := 2, cells := 0, slots := 0, locals := 80 })
theorem miX2_lostIn : fMv mX2_lostIn 1 := ⟨⟨fM 1152 (by decide +kernel) rfl, fM 100 (by decide +kernel) rfl, ⟨by decide +kernel, by decide +kernel⟩, by decide +kernel⟩, fM 1150 (by decide +kernel) rfl, fM 1151 (by decide +kernel) rfl⟩
def L_X2_lostIn_4 (o : Nat) (M : fMem) (k : Int → Option (Int)) : Nat → Nat → Int → Int → Option (Int)
  | 0, _, _, _ => none
  | n + 1, w1, v2, v3 => (if 200 ≤ v3 then k v2 else ((f_X2_has o v3 M).bind fun (r2 : Int) => (if r2 = 0 then (if -2147483648 ≤ v2 + 0 ∧ v2 + 0 < 2147483648 then L_X2_lostIn_4 o M k n w1 (v2 + 0) (v3 + 1) else none) else (if 0 ≤ v3 ∧ v3 < 200 then (if 0 ≤ v3 ∧ v3 < 200 then (if (M (w1 + 1) v3) = (M (o + 1) v3) then (if -2147483648 ≤ v2 + 0 ∧ v2 + 0 < 2147483648 then L_X2_lostIn_4 o M k n w1 (v2 + 0) (v3 + 1) else none) else (if -2147483648 ≤ v2 + 1 ∧ v2 + 1 < 2147483648 then L_X2_lostIn_4 o M k n w1 (v2 + 1) (v3 + 1) else none)) else none) else none))))
set_option maxRecDepth 100000 in
set_option maxHeartbeats 4000000 in
theorem l_X2_lostIn_4 {G : fG} (hg : gbt G = true) {o : Nat} (ho : fTyp o 2) {M : fMem} {q : Int} {k : Int → Option (Int)} (hk : ∀ (v2 : Int), rg v2 → k v2 = some q → fW G mX2_lostIn (fEm G mX2_lostIn (rP M q) fNo) 0 0 48 [some (rv G o), none, some (iv v2), none] [] M) : ∀ (n : Nat) (w1 : Nat) (v2 : Int) (v3 : Int), fTyp w1 2 → rg v2 → rg v3 → L_X2_lostIn_4 o M k n w1 v2 v3 = some q → fW G mX2_lostIn (fEm G mX2_lostIn (rP M q) fNo) 0 0 4 [some (rv G o), some (rv G w1), some (iv v2), some (iv v3)] [] M := by
  intro n
  induction n with
  | zero =>
    intro w1 v2 v3 tw1 gv2 gv3 h
    rw [L_X2_lostIn_4] at h
    exact absurd h (by simp)
  | succ n ih =>
    intro w1 v2 v3 tw1 gv2 gv3 h
    rw [L_X2_lostIn_4] at h
    refine fW_rg (fun hR => ?_)
    refine fW_iload_n 5 dX2_lostIn_4 rfl rfl ?_
    refine fW_sipush 8 dX2_lostIn_5 rfl (by decide) ?_
    refine fW_icmp_ge 11 48 gv3 (by decide) dX2_lostIn_8 rfl rfl (fun c1 => ?_) (fun c1 => ?_)
    · replace h := fTt h c1
      exact fW_sb (hk v2 gv2 h) ⟨rfl, rfl, trivial⟩
    · replace h := fFf h c1
      refine fW_iload_n 12 dX2_lostIn_11 rfl rfl ?_
      refine fW_aload_n 13 dX2_lostIn_12 rfl rfl ?_
      refine fW_iload_n 14 dX2_lostIn_13 rfl rfl ?_
      obtain ⟨r2, e2, h⟩ := fBd h
      refine fW_cB (fI_V (as := [iv v3]) (rest := [iv v2]) miX2_has hg clX2 rfl ho wd_654 (fRoom_of rfl) rfl (Nat.le_of_ble_eq_true rfl) dX2_lostIn_14) (s_X2_has hg ho gv3 e2) rfl rfl rfl (fun g2 => ?_)
      refine fW_if_eq 20 39 (rg_z g2) dX2_lostIn_17 rfl rfl (fun c3 => ?_) (fun c3 => ?_)
      · replace h := fTt h c3
        refine fW_iconst 40 dX2_lostIn_39 rfl ?_
        refine fW_iadd 41 dX2_lostIn_40 rfl ?_
        refine fW_istore_n 42 (ls' := [some (rv G o), some (rv G w1), some (iv (v2 + 0)), some (iv v3)]) dX2_lostIn_41 rfl rfl rfl (by decide) ?_
        refine fW_iinc 45 (ls' := [some (rv G o), some (rv G w1), some (iv (v2 + 0)), some (iv (v3 + 1))]) dX2_lostIn_42 rfl rfl rfl (by decide) ?_
        refine fW_goto 4 dX2_lostIn_45 rfl ?_
        obtain ⟨c4, h⟩ := fS h
        exact fW_sb (ih w1 (v2 + 0) (v3 + 1) tw1 c4 (rg_succ' gv3 (by decide) c1) h) ⟨rfl, rfl, rfl, rfl, trivial⟩
      · replace h := fFf h c3
        refine fW_aload_n 21 dX2_lostIn_20 rfl rfl ?_
        refine fW_getR 24 (r := w1 + 1) 0 hg clX2 (by decide) rfl tw1 (tf_2_0 tw1) wd_404 dX2_lostIn_21 rfl ?_
        refine fW_iload_n 25 dX2_lostIn_24 rfl rfl ?_
        obtain ⟨c5, h⟩ := fS h
        refine fW_iald 26 hg (tt_2_0 tw1) ⟨c5.1, by rw [lf_2_0 tw1]; exact c5.2⟩ dX2_lostIn_25 rfl ?_
        refine fW_aload_n 27 dX2_lostIn_26 rfl rfl ?_
        refine fW_getR 30 (r := o + 1) 0 hg clX2 (by decide) rfl ho (tf_2_0 ho) wd_404 dX2_lostIn_27 rfl ?_
        refine fW_iload_n 31 dX2_lostIn_30 rfl rfl ?_
        obtain ⟨c6, h⟩ := fS h
        refine fW_iald 32 hg (tt_2_0 ho) ⟨c6.1, by rw [lf_2_0 ho]; exact c6.2⟩ dX2_lostIn_31 rfl ?_
        refine fW_icmp_eq 35 39 (hR (w1 + 1) v3) (hR (o + 1) v3) dX2_lostIn_32 rfl rfl (fun c7 => ?_) (fun c7 => ?_)
        · replace h := fTt h c7
          refine fW_iconst 40 dX2_lostIn_39 rfl ?_
          refine fW_iadd 41 dX2_lostIn_40 rfl ?_
          refine fW_istore_n 42 (ls' := [some (rv G o), some (rv G w1), some (iv (v2 + 0)), some (iv v3)]) dX2_lostIn_41 rfl rfl rfl (by decide) ?_
          refine fW_iinc 45 (ls' := [some (rv G o), some (rv G w1), some (iv (v2 + 0)), some (iv (v3 + 1))]) dX2_lostIn_42 rfl rfl rfl (by decide) ?_
          refine fW_goto 4 dX2_lostIn_45 rfl ?_
          obtain ⟨c8, h⟩ := fS h
          exact fW_sb (ih w1 (v2 + 0) (v3 + 1) tw1 c8 (rg_succ' gv3 (by decide) c1) h) ⟨rfl, rfl, rfl, rfl, trivial⟩
        · replace h := fFf h c7
          refine fW_iconst 36 dX2_lostIn_35 rfl ?_
          refine fW_goto 40 dX2_lostIn_36 rfl ?_
          refine fW_iadd 41 dX2_lostIn_40 rfl ?_
          refine fW_istore_n 42 (ls' := [some (rv G o), some (rv G w1), some (iv (v2 + 1)), some (iv v3)]) dX2_lostIn_41 rfl rfl rfl (by decide) ?_
          refine fW_iinc 45 (ls' := [some (rv G o), some (rv G w1), some (iv (v2 + 1)), some (iv (v3 + 1))]) dX2_lostIn_42 rfl rfl rfl (by decide) ?_
          refine fW_goto 4 dX2_lostIn_45 rfl ?_
          obtain ⟨c9, h⟩ := fS h
          exact fW_sb (ih w1 (v2 + 1) (v3 + 1) tw1 c9 (rg_succ' gv3 (by decide) c1) h) ⟨rfl, rfl, rfl, rfl, trivial⟩
def f_X2_lostIn (o : Nat) (p1 : Nat) (M : fMem) : Option (Int) := L_X2_lostIn_4 o M (fun (v2_10 : Int) => some v2_10) 20000 p1 0 0
set_option maxRecDepth 100000 in
set_option maxHeartbeats 4000000 in
theorem s_X2_lostIn {G : fG} (hg : gbt G = true) {o : Nat} (ho : fTyp o 2) {p1 : Nat} (hp1 : fTyp p1 2) {M : fMem} {q : Int} (h : f_X2_lostIn o p1 M = some q) : fSp G mX2_lostIn [rv G o, rv G p1] M (rP M q) fNo := by
  refine fSp_of (by decide +kernel) (by decide +kernel) (fC1 rfl (fC1 rfl fC0)) (Nat.le_of_ble_eq_true rfl) ?_
  show fW G mX2_lostIn (fEm G mX2_lostIn (rP M q) fNo) 0 0 0 [some (rv G o), some (rv G p1), none, none] [] M
  rw [f_X2_lostIn] at h
  refine fW_rg (fun hR => ?_)
  refine fW_iconst 1 dX2_lostIn_0 rfl ?_
  refine fW_istore_n 2 (ls' := [some (rv G o), some (rv G p1), some (iv 0), none]) dX2_lostIn_1 rfl rfl rfl (by decide) ?_
  refine fW_iconst 3 dX2_lostIn_2 rfl ?_
  refine fW_istore_n 4 (ls' := [some (rv G o), some (rv G p1), some (iv 0), some (iv 0)]) dX2_lostIn_3 rfl rfl rfl (by decide) ?_
  refine fW_sb (l_X2_lostIn_4 hg ho ?_ 20000 p1 0 0 hp1 (by decide) (by decide) h) ⟨rfl, rfl, rfl, rfl, trivial⟩
  intro v2_10 gv2_10 h
  refine fW_iload_n 49 dX2_lostIn_48 rfl rfl ?_
  exact fW_iret rfl (by decide) (by decide) dX2_lostIn_49 (rP_i h gv2_10)
def mX2_missingIn : fMt := (yX2_missingIn, cX2_missingIn, 4, some .int, { frames := 2, cells := 0, slots := 0, locals := 80 })
theorem miX2_missingIn : fMv mX2_missingIn 1 := ⟨⟨fM 1156 (by decide +kernel) rfl, fM 100 (by decide +kernel) rfl, ⟨by decide +kernel, by decide +kernel⟩, by decide +kernel⟩, fM 1154 (by decide +kernel) rfl, fM 1155 (by decide +kernel) rfl⟩
def L_X2_missingIn_4 (o : Nat) (M : fMem) (k : Int → Option (Int)) : Nat → Nat → Int → Int → Option (Int)
  | 0, _, _, _ => none
  | n + 1, w1, v2, v3 => (if 200 ≤ v3 then k v2 else ((f_X2_has o v3 M).bind fun (r2 : Int) => (if r2 = 0 then (if -2147483648 ≤ v2 + 0 ∧ v2 + 0 < 2147483648 then L_X2_missingIn_4 o M k n w1 (v2 + 0) (v3 + 1) else none) else ((f_X2_has w1 v3 M).bind fun (r5 : Int) => (if r5 = 0 then (if -2147483648 ≤ v2 + 1 ∧ v2 + 1 < 2147483648 then L_X2_missingIn_4 o M k n w1 (v2 + 1) (v3 + 1) else none) else (if -2147483648 ≤ v2 + 0 ∧ v2 + 0 < 2147483648 then L_X2_missingIn_4 o M k n w1 (v2 + 0) (v3 + 1) else none))))))
set_option maxRecDepth 100000 in
set_option maxHeartbeats 4000000 in
theorem l_X2_missingIn_4 {G : fG} (hg : gbt G = true) {o : Nat} (ho : fTyp o 2) {M : fMem} {q : Int} {k : Int → Option (Int)} (hk : ∀ (v2 : Int), rg v2 → k v2 = some q → fW G mX2_missingIn (fEm G mX2_missingIn (rP M q) fNo) 0 0 41 [some (rv G o), none, some (iv v2), none] [] M) : ∀ (n : Nat) (w1 : Nat) (v2 : Int) (v3 : Int), fTyp w1 2 → rg v2 → rg v3 → L_X2_missingIn_4 o M k n w1 v2 v3 = some q → fW G mX2_missingIn (fEm G mX2_missingIn (rP M q) fNo) 0 0 4 [some (rv G o), some (rv G w1), some (iv v2), some (iv v3)] [] M := by
  intro n
  induction n with
  | zero =>
    intro w1 v2 v3 tw1 gv2 gv3 h
    rw [L_X2_missingIn_4] at h
    exact absurd h (by simp)
  | succ n ih =>
    intro w1 v2 v3 tw1 gv2 gv3 h
    rw [L_X2_missingIn_4] at h
    refine fW_rg (fun hR => ?_)
    refine fW_iload_n 5 dX2_missingIn_4 rfl rfl ?_
    refine fW_sipush 8 dX2_missingIn_5 rfl (by decide) ?_
    refine fW_icmp_ge 11 41 gv3 (by decide) dX2_missingIn_8 rfl rfl (fun c1 => ?_) (fun c1 => ?_)
    · replace h := fTt h c1
      exact fW_sb (hk v2 gv2 h) ⟨rfl, rfl, trivial⟩
    · replace h := fFf h c1
      refine fW_iload_n 12 dX2_missingIn_11 rfl rfl ?_
      refine fW_aload_n 13 dX2_missingIn_12 rfl rfl ?_
      refine fW_iload_n 14 dX2_missingIn_13 rfl rfl ?_
      obtain ⟨r2, e2, h⟩ := fBd h
      refine fW_cB (fI_V (as := [iv v3]) (rest := [iv v2]) miX2_has hg clX2 rfl ho wd_654 (fRoom_of rfl) rfl (Nat.le_of_ble_eq_true rfl) dX2_missingIn_14) (s_X2_has hg ho gv3 e2) rfl rfl rfl (fun g2 => ?_)
      refine fW_if_eq 20 32 (rg_z g2) dX2_missingIn_17 rfl rfl (fun c3 => ?_) (fun c3 => ?_)
      · replace h := fTt h c3
        refine fW_iconst 33 dX2_missingIn_32 rfl ?_
        refine fW_iadd 34 dX2_missingIn_33 rfl ?_
        refine fW_istore_n 35 (ls' := [some (rv G o), some (rv G w1), some (iv (v2 + 0)), some (iv v3)]) dX2_missingIn_34 rfl rfl rfl (by decide) ?_
        refine fW_iinc 38 (ls' := [some (rv G o), some (rv G w1), some (iv (v2 + 0)), some (iv (v3 + 1))]) dX2_missingIn_35 rfl rfl rfl (by decide) ?_
        refine fW_goto 4 dX2_missingIn_38 rfl ?_
        obtain ⟨c4, h⟩ := fS h
        exact fW_sb (ih w1 (v2 + 0) (v3 + 1) tw1 c4 (rg_succ' gv3 (by decide) c1) h) ⟨rfl, rfl, rfl, rfl, trivial⟩
      · replace h := fFf h c3
        refine fW_aload_n 21 dX2_missingIn_20 rfl rfl ?_
        refine fW_iload_n 22 dX2_missingIn_21 rfl rfl ?_
        obtain ⟨r5, e5, h⟩ := fBd h
        refine fW_cB (fI_V (as := [iv v3]) (rest := [iv v2]) miX2_has hg clX2 rfl tw1 wd_654 (fRoom_of rfl) rfl (Nat.le_of_ble_eq_true rfl) dX2_missingIn_22) (s_X2_has hg tw1 gv3 e5) rfl rfl rfl (fun g5 => ?_)
        refine fW_if_ne 28 32 (rg_z g5) dX2_missingIn_25 rfl rfl (fun c6 => ?_) (fun c6 => ?_)
        · replace h := fFf h c6
          refine fW_iconst 33 dX2_missingIn_32 rfl ?_
          refine fW_iadd 34 dX2_missingIn_33 rfl ?_
          refine fW_istore_n 35 (ls' := [some (rv G o), some (rv G w1), some (iv (v2 + 0)), some (iv v3)]) dX2_missingIn_34 rfl rfl rfl (by decide) ?_
          refine fW_iinc 38 (ls' := [some (rv G o), some (rv G w1), some (iv (v2 + 0)), some (iv (v3 + 1))]) dX2_missingIn_35 rfl rfl rfl (by decide) ?_
          refine fW_goto 4 dX2_missingIn_38 rfl ?_
          obtain ⟨c7, h⟩ := fS h
          exact fW_sb (ih w1 (v2 + 0) (v3 + 1) tw1 c7 (rg_succ' gv3 (by decide) c1) h) ⟨rfl, rfl, rfl, rfl, trivial⟩
        · replace h := fTt h c6
          refine fW_iconst 29 dX2_missingIn_28 rfl ?_
          refine fW_goto 33 dX2_missingIn_29 rfl ?_
          refine fW_iadd 34 dX2_missingIn_33 rfl ?_
          refine fW_istore_n 35 (ls' := [some (rv G o), some (rv G w1), some (iv (v2 + 1)), some (iv v3)]) dX2_missingIn_34 rfl rfl rfl (by decide) ?_
          refine fW_iinc 38 (ls' := [some (rv G o), some (rv G w1), some (iv (v2 + 1)), some (iv (v3 + 1))]) dX2_missingIn_35 rfl rfl rfl (by decide) ?_
          refine fW_goto 4 dX2_missingIn_38 rfl ?_
          obtain ⟨c8, h⟩ := fS h
          exact fW_sb (ih w1 (v2 + 1) (v3 + 1) tw1 c8 (rg_succ' gv3 (by decide) c1) h) ⟨rfl, rfl, rfl, rfl, trivial⟩
def f_X2_missingIn (o : Nat) (p1 : Nat) (M : fMem) : Option (Int) := L_X2_missingIn_4 o M (fun (v2_9 : Int) => some v2_9) 20000 p1 0 0
set_option maxRecDepth 100000 in
set_option maxHeartbeats 4000000 in
theorem s_X2_missingIn {G : fG} (hg : gbt G = true) {o : Nat} (ho : fTyp o 2) {p1 : Nat} (hp1 : fTyp p1 2) {M : fMem} {q : Int} (h : f_X2_missingIn o p1 M = some q) : fSp G mX2_missingIn [rv G o, rv G p1] M (rP M q) fNo := by
  refine fSp_of (by decide +kernel) (by decide +kernel) (fC1 rfl (fC1 rfl fC0)) (Nat.le_of_ble_eq_true rfl) ?_
  show fW G mX2_missingIn (fEm G mX2_missingIn (rP M q) fNo) 0 0 0 [some (rv G o), some (rv G p1), none, none] [] M
  rw [f_X2_missingIn] at h
  refine fW_rg (fun hR => ?_)
  refine fW_iconst 1 dX2_missingIn_0 rfl ?_
  refine fW_istore_n 2 (ls' := [some (rv G o), some (rv G p1), some (iv 0), none]) dX2_missingIn_1 rfl rfl rfl (by decide) ?_
  refine fW_iconst 3 dX2_missingIn_2 rfl ?_
  refine fW_istore_n 4 (ls' := [some (rv G o), some (rv G p1), some (iv 0), some (iv 0)]) dX2_missingIn_3 rfl rfl rfl (by decide) ?_
  refine fW_sb (l_X2_missingIn_4 hg ho ?_ 20000 p1 0 0 hp1 (by decide) (by decide) h) ⟨rfl, rfl, rfl, rfl, trivial⟩
  intro v2_9 gv2_9 h
  refine fW_iload_n 42 dX2_missingIn_41 rfl rfl ?_
  exact fW_iret rfl (by decide) (by decide) dX2_missingIn_42 (rP_i h gv2_9)
def mX7_leadOf : fMt := (yX7_leadOf, cX7_leadOf, 2, some .int, { frames := 1, cells := 0, slots := 0, locals := 40 })
theorem miX7_leadOf : fMv mX7_leadOf 1 := ⟨⟨fM 789 (by decide +kernel) rfl, fM 91 (by decide +kernel) rfl, ⟨by decide +kernel, by decide +kernel⟩, by decide +kernel⟩, fM 787 (by decide +kernel) rfl, fM 788 (by decide +kernel) rfl⟩
def f_X7_leadOf (o : Nat) (a1 : Int) (M : fMem) : Option (Int) := ((f_X7_youngestBut o a1 ((-1)) M).bind fun (r1 : Int) => some r1)
set_option maxRecDepth 100000 in
set_option maxHeartbeats 4000000 in
theorem s_X7_leadOf {G : fG} (hg : gbt G = true) {o : Nat} (ho : fTyp o 7) {a1 : Int} (ga1 : rg a1) {M : fMem} {q : Int} (h : f_X7_leadOf o a1 M = some q) : fSp G mX7_leadOf [rv G o, iv a1] M (rP M q) fNo := by
  refine fSp_of (by decide +kernel) (by decide +kernel) (fC1 rfl (fC1 rfl fC0)) (Nat.le_of_ble_eq_true rfl) ?_
  show fW G mX7_leadOf (fEm G mX7_leadOf (rP M q) fNo) 0 0 0 [some (rv G o), some (iv a1)] [] M
  rw [f_X7_leadOf] at h
  refine fW_rg (fun hR => ?_)
  refine fW_aload_n 1 dX7_leadOf_0 rfl rfl ?_
  refine fW_iload_n 2 dX7_leadOf_1 rfl rfl ?_
  refine fW_iconst 3 dX7_leadOf_2 rfl ?_
  obtain ⟨r1, e1, h⟩ := fBd h
  refine fW_cP (fI_V (as := [iv a1, iv ((-1))]) (rest := []) miX7_youngestBut hg clX7 rfl ho wd_790 (fRoom_of rfl) rfl (Nat.le_of_ble_eq_true rfl) dX7_leadOf_3) (s_X7_youngestBut hg ho ga1 (by decide) e1) rfl rfl rfl (fun g1 => ?_)
  exact fW_iret rfl (by decide) (by decide) dX7_leadOf_6 (rP_i h g1)
def mX3_marksIn : fMt := (yX3_marksIn, cX3_marksIn, 3, some .int, { frames := 0, cells := 0, slots := 0, locals := 0 })
theorem miX3_marksIn : fMv mX3_marksIn 2 := ⟨⟨fM 803 (by decide +kernel) rfl, fM 97 (by decide +kernel) rfl, ⟨by decide +kernel, by decide +kernel⟩, by decide +kernel⟩, fM 802 (by decide +kernel) rfl, fM 14 (by decide +kernel) rfl⟩
def f_X3_marksIn (a1 : Int) (a2 : Int) (M : fMem) : Option (Int) := (if a1 = ((-1)) then some 0 else (if 2 ≤ a2 then (if 0 ≤ a1 ∧ a1 < 19 then (if 0 ≤ M (4 * psO a1.toNat + 151) 3 then (if 0 < a2 then (if -2147483648 ≤ (M (4 * psO a1.toNat + 151) 3) / a2 ∧ (M (4 * psO a1.toNat + 151) 3) / a2 < 2147483648 then some ((M (4 * psO a1.toNat + 151) 3) / a2) else none) else none) else none) else none) else some 0))
set_option maxRecDepth 100000 in
set_option maxHeartbeats 4000000 in
theorem s_X3_marksIn {G : fG} (hg : gbt G = true) {a1 : Int} (ga1 : rg a1) {a2 : Int} (ga2 : rg a2) {M : fMem} {q : Int} (h : f_X3_marksIn a1 a2 M = some q) : fSp G mX3_marksIn [rv G 149, iv a1, iv a2] M (rP M q) fNo := by
  refine fSp_of (by decide +kernel) (by decide +kernel) (fC1 rfl (fC1 rfl (fC1 rfl fC0))) (Nat.le_of_ble_eq_true rfl) ?_
  show fW G mX3_marksIn (fEm G mX3_marksIn (rP M q) fNo) 0 0 0 [some (rv G 149), some (iv a1), some (iv a2)] [] M
  rw [f_X3_marksIn] at h
  refine fW_rg (fun hR => ?_)
  refine fW_iload_n 1 dX3_marksIn_0 rfl rfl ?_
  refine fW_iconst 2 dX3_marksIn_1 rfl ?_
  refine fW_icmp_eq 5 10 ga1 (by decide) dX3_marksIn_2 rfl rfl (fun c1 => ?_) (fun c1 => ?_)
  · replace h := fTt h c1
    refine fW_iconst 11 dX3_marksIn_10 rfl ?_
    refine fW_goto 25 dX3_marksIn_11 rfl ?_
    exact fW_iret rfl (by decide) (by decide) dX3_marksIn_25 (rP_i h (by decide))
  · replace h := fFf h c1
    refine fW_iload_n 6 dX3_marksIn_5 rfl rfl ?_
    refine fW_iconst 7 dX3_marksIn_6 rfl ?_
    refine fW_icmp_ge 10 14 ga2 (by decide) dX3_marksIn_7 rfl rfl (fun c2 => ?_) (fun c2 => ?_)
    · replace h := fTt h c2
      refine fW_aload_n 15 dX3_marksIn_14 rfl rfl ?_
      refine fW_getR 18 (r := 150) 0 hg clX3 (by decide) rfl tc_149 tf_3_0 wd_361 dX3_marksIn_15 rfl ?_
      refine fW_iload_n 19 dX3_marksIn_18 rfl rfl ?_
      obtain ⟨c3, h⟩ := fS h
      have t4 := ta_14 (r := 4 * psO a1.toNat + 151) tc_150 c3 (by omega)
      refine fW_aald 20 2 hg tc_150 (by decide) (by decide) t4.1 t4.2.2 rfl dX3_marksIn_19 rfl ?_
      refine fW_getI 23 3 (ji := 3) hg clX1 rfl (by decide) rfl t4.2.1 wd_345 dX3_marksIn_20 rfl ?_
      refine fW_iload_n 24 dX3_marksIn_23 rfl rfl ?_
      obtain ⟨c5, h⟩ := fS h
      obtain ⟨c6, h⟩ := fS h
      refine fW_idiv 25 ⟨c5, (hR (4 * psO a1.toNat + 151) 3).2⟩ ⟨c6, ga2.2⟩ dX3_marksIn_24 rfl ?_
      obtain ⟨c7, h⟩ := fS h
      exact fW_iret rfl (by decide) (by decide) dX3_marksIn_25 (rP_i h c7)
    · replace h := fFf h c2
      refine fW_iconst 11 dX3_marksIn_10 rfl ?_
      refine fW_goto 25 dX3_marksIn_11 rfl ?_
      exact fW_iret rfl (by decide) (by decide) dX3_marksIn_25 (rP_i h (by decide))
def mX3_keyIn : fMt := (yX3_keyIn, cX3_keyIn, 3, some .int, { frames := 1, cells := 0, slots := 0, locals := 40 })
theorem miX3_keyIn : fMv mX3_keyIn 2 := ⟨⟨fM 808 (by decide +kernel) rfl, fM 97 (by decide +kernel) rfl, ⟨by decide +kernel, by decide +kernel⟩, by decide +kernel⟩, fM 807 (by decide +kernel) rfl, fM 15 (by decide +kernel) rfl⟩
def f_X3_keyIn (a1 : Int) (a2 : Int) (M : fMem) : Option (Int) := (if a1 = ((-1)) then some 200 else (if 0 ≤ a1 ∧ a1 < 19 then ((f_X1_keyAt (4 * psO a1.toNat + 151) a2 M).bind fun (r4 : Int) => some r4) else none))
set_option maxRecDepth 100000 in
set_option maxHeartbeats 4000000 in
theorem s_X3_keyIn {G : fG} (hg : gbt G = true) {a1 : Int} (ga1 : rg a1) {a2 : Int} (ga2 : rg a2) {M : fMem} {q : Int} (h : f_X3_keyIn a1 a2 M = some q) : fSp G mX3_keyIn [rv G 149, iv a1, iv a2] M (rP M q) fNo := by
  refine fSp_of (by decide +kernel) (by decide +kernel) (fC1 rfl (fC1 rfl (fC1 rfl fC0))) (Nat.le_of_ble_eq_true rfl) ?_
  show fW G mX3_keyIn (fEm G mX3_keyIn (rP M q) fNo) 0 0 0 [some (rv G 149), some (iv a1), some (iv a2)] [] M
  rw [f_X3_keyIn] at h
  refine fW_rg (fun hR => ?_)
  refine fW_iload_n 1 dX3_keyIn_0 rfl rfl ?_
  refine fW_iconst 2 dX3_keyIn_1 rfl ?_
  refine fW_icmp_ne 5 11 ga1 (by decide) dX3_keyIn_2 rfl rfl (fun c1 => ?_) (fun c1 => ?_)
  · replace h := fFf h c1
    refine fW_aload_n 12 dX3_keyIn_11 rfl rfl ?_
    refine fW_getR 15 (r := 150) 0 hg clX3 (by decide) rfl tc_149 tf_3_0 wd_361 dX3_keyIn_12 rfl ?_
    refine fW_iload_n 16 dX3_keyIn_15 rfl rfl ?_
    obtain ⟨c2, h⟩ := fS h
    have t3 := ta_14 (r := 4 * psO a1.toNat + 151) tc_150 c2 (by omega)
    refine fW_aald 17 2 hg tc_150 (by decide) (by decide) t3.1 t3.2.2 rfl dX3_keyIn_16 rfl ?_
    refine fW_iload_n 18 dX3_keyIn_17 rfl rfl ?_
    obtain ⟨r4, e4, h⟩ := fBd h
    refine fW_cP (fI_V (as := [iv a2]) (rest := []) miX1_keyAt hg clX1 rfl t3.2.1 wd_809 (fRoom_of rfl) rfl (Nat.le_of_ble_eq_true rfl) dX3_keyIn_18) (s_X1_keyAt hg t3.2.1 ga2 e4) rfl rfl rfl (fun g4 => ?_)
    exact fW_iret rfl (by decide) (by decide) dX3_keyIn_21 (rP_i h g4)
  · replace h := fTt h c1
    refine fW_sipush 8 dX3_keyIn_5 rfl (by decide) ?_
    refine fW_goto 21 dX3_keyIn_8 rfl ?_
    exact fW_iret rfl (by decide) (by decide) dX3_keyIn_21 (rP_i h (by decide))
def mX10_numberOf : fMt := (yX10_numberOf, cX10_numberOf, 1, some .int, { frames := 0, cells := 0, slots := 0, locals := 0 })
theorem miX10_numberOf : fMs mX10_numberOf 1 := ⟨⟨fM 820 (by decide +kernel) rfl, fM 89 (by decide +kernel) rfl, ⟨by decide +kernel, by decide +kernel⟩, by decide +kernel⟩, fM 819 (by decide +kernel) rfl⟩
def f_X10_numberOf (a1 : Int) (M : fMem) : Option (Int) := (if 0 ≤ a1 ∧ a1 < 19 then (if 0 ≤ LO a1 ∧ LO a1 < 9 then (if -2147483648 ≤ a1 - (FR (LO a1)) ∧ a1 - (FR (LO a1)) < 2147483648 then some (a1 - (FR (LO a1))) else none) else none) else none)
set_option maxRecDepth 100000 in
set_option maxHeartbeats 4000000 in
theorem s_X10_numberOf {G : fG} (hg : gbt G = true) {a1 : Int} (ga1 : rg a1) {M : fMem} {q : Int} (h : f_X10_numberOf a1 M = some q) : fSp G mX10_numberOf [iv a1] M (rP M q) fNo := by
  refine fSp_of (by decide +kernel) (by decide +kernel) (fC1 rfl fC0) (Nat.le_of_ble_eq_true rfl) ?_
  show fW G mX10_numberOf (fEm G mX10_numberOf (rP M q) fNo) 0 0 0 [some (iv a1)] [] M
  rw [f_X10_numberOf] at h
  refine fW_rg (fun hR => ?_)
  refine fW_iload_n 1 dX10_numberOf_0 rfl rfl ?_
  refine fW_gets 4 0 (by decide) wd_664 dX10_numberOf_1 rfl ?_
  refine fW_gets 7 2 (by decide) wd_821 dX10_numberOf_4 rfl ?_
  refine fW_iload_n 8 dX10_numberOf_7 rfl rfl ?_
  obtain ⟨c1, h⟩ := fS h
  refine fW_sald 9 2 (by decide) c1 dX10_numberOf_8 rfl ?_
  rw [show SV 2 a1 = LO a1 from rfl]
  obtain ⟨c2, h⟩ := fS h
  refine fW_sald 10 0 (by decide) c2 dX10_numberOf_9 rfl ?_
  rw [show SV 0 (LO a1) = FR (LO a1) from rfl]
  refine fW_isub 11 dX10_numberOf_10 rfl ?_
  obtain ⟨c3, h⟩ := fS h
  exact fW_iret rfl (by decide) (by decide) dX10_numberOf_11 (rP_i h c3)
def mX3_weave : fMt := (yX3_weave, cX3_weave, 14, none, { frames := 2, cells := 0, slots := 0, locals := 80 })
theorem miX3_weave : fMv mX3_weave 5 := ⟨⟨fM 799 (by decide +kernel) rfl, fM 97 (by decide +kernel) rfl, ⟨by decide +kernel, by decide +kernel⟩, by decide +kernel⟩, fM 798 (by decide +kernel) rfl, fM 13 (by decide +kernel) rfl⟩
def L_X3_weave_41  (k : fMem → Option (fMem)) : Nat → Nat → Nat → Int → Int → Int → Int → Int → Int → Int → Int → fMem → Option (fMem)
  | 0, _, _, _, _, _, _, _, _, _, _, _ => none
  | n + 1, w1, w2, v3, v4, v5, v6, v7, v8, v9, v10, M => (if v9 ≤ v10 then k  M else ((f_X6_keyAt w1 v6 M).bind fun (r7 : Int) => ((f_X3_keyIn v3 v7 M).bind fun (r8 : Int) => ((f_X3_keyIn v4 v8 M).bind fun (r9 : Int) => (if r8 < r7 then (if r9 < r8 then ((f_X10_numberOf v4 M).bind fun (r12 : Int) => ((f_X1_append w2 r9 r12 v8 M).bind fun (r13 : fMem) => (if -2147483648 ≤ v8 + v5 ∧ v8 + v5 < 2147483648 then L_X3_weave_41  k n w1 w2 v3 v4 v5 v6 v7 (v8 + v5) v9 (v10 + 1) r13 else none))) else ((f_X10_numberOf v3 M).bind fun (r16 : Int) => ((f_X1_append w2 r8 r16 v7 M).bind fun (r17 : fMem) => (if -2147483648 ≤ v7 + v5 ∧ v7 + v5 < 2147483648 then L_X3_weave_41  k n w1 w2 v3 v4 v5 v6 (v7 + v5) v8 v9 (v10 + 1) r17 else none)))) else (if r9 < r7 then (if r9 < r8 then ((f_X10_numberOf v4 M).bind fun (r22 : Int) => ((f_X1_append w2 r9 r22 v8 M).bind fun (r23 : fMem) => (if -2147483648 ≤ v8 + v5 ∧ v8 + v5 < 2147483648 then L_X3_weave_41  k n w1 w2 v3 v4 v5 v6 v7 (v8 + v5) v9 (v10 + 1) r23 else none))) else ((f_X10_numberOf v3 M).bind fun (r26 : Int) => ((f_X1_append w2 r8 r26 v7 M).bind fun (r27 : fMem) => (if -2147483648 ≤ v7 + v5 ∧ v7 + v5 < 2147483648 then L_X3_weave_41  k n w1 w2 v3 v4 v5 v6 (v7 + v5) v8 v9 (v10 + 1) r27 else none)))) else ((f_X6_valueAt w1 v6 M).bind fun (r30 : Int) => ((f_X1_append w2 r7 r30 ((-1)) M).bind fun (r31 : fMem) => (if -2147483648 ≤ v6 + 1 ∧ v6 + 1 < 2147483648 then L_X3_weave_41  k n w1 w2 v3 v4 v5 (v6 + 1) v7 v8 v9 (v10 + 1) r31 else none)))))))))
set_option maxRecDepth 100000 in
set_option maxHeartbeats 4000000 in
theorem l_X3_weave_41 {G : fG} (hg : gbt G = true)  {q : fMem} {k : fMem → Option (fMem)} (hk : ∀ (M : fMem), k M = some q → fW G mX3_weave (fEm G mX3_weave (rV q) fNo) 0 0 163 [some (rv G 149), none, none, none, none, none, none, none, none, none, none, none, none, none] [] M) : ∀ (n : Nat) (w1 : Nat) (w2 : Nat) (v3 : Int) (v4 : Int) (v5 : Int) (v6 : Int) (v7 : Int) (v8 : Int) (v9 : Int) (v10 : Int) (M : fMem), fTyp w1 6 → fTyp w2 1 → rg v3 → rg v4 → rg v5 → rg v6 → rg v7 → rg v8 → rg v9 → rg v10 → L_X3_weave_41 k n w1 w2 v3 v4 v5 v6 v7 v8 v9 v10 M = some q → fW G mX3_weave (fEm G mX3_weave (rV q) fNo) 0 0 41 [some (rv G 149), some (rv G w1), some (rv G w2), some (iv v3), some (iv v4), some (iv v5), some (iv v6), some (iv v7), some (iv v8), some (iv v9), some (iv v10), none, none, none] [] M := by
  intro n
  induction n with
  | zero =>
    intro w1 w2 v3 v4 v5 v6 v7 v8 v9 v10 M tw1 tw2 gv3 gv4 gv5 gv6 gv7 gv8 gv9 gv10 h
    rw [L_X3_weave_41] at h
    exact absurd h (by simp)
  | succ n ih =>
    intro w1 w2 v3 v4 v5 v6 v7 v8 v9 v10 M tw1 tw2 gv3 gv4 gv5 gv6 gv7 gv8 gv9 gv10 h
    rw [L_X3_weave_41] at h
    refine fW_rg (fun hR => ?_)
    refine fW_iload 43 dX3_weave_41 rfl rfl ?_
    refine fW_iload 45 dX3_weave_43 rfl rfl ?_
    refine fW_icmp_ge 48 163 gv10 gv9 dX3_weave_45 rfl rfl (fun c6 => ?_) (fun c6 => ?_)
    · replace h := fTt h c6
      exact fW_sb (hk M h) ⟨rfl, trivial⟩
    · replace h := fFf h c6
      refine fW_aload_n 49 dX3_weave_48 rfl rfl ?_
      refine fW_iload 51 dX3_weave_49 rfl rfl ?_
      obtain ⟨r7, e7, h⟩ := fBd h
      refine fW_cP (fI_V (as := [iv v6]) (rest := []) miX6_keyAt hg clX6 rfl tw1 wd_804 (fRoom_of rfl) rfl (Nat.le_of_ble_eq_true rfl) dX3_weave_51) (s_X6_keyAt hg tw1 gv6 e7) rfl rfl rfl (fun g7 => ?_)
      refine fW_istore 56 (ls' := [some (rv G 149), some (rv G w1), some (rv G w2), some (iv v3), some (iv v4), some (iv v5), some (iv v6), some (iv v7), some (iv v8), some (iv v9), some (iv v10), some (iv r7), none, none]) dX3_weave_54 rfl rfl (by decide) ?_
      refine fW_aload_n 57 dX3_weave_56 rfl rfl ?_
      refine fW_iload_n 58 dX3_weave_57 rfl rfl ?_
      refine fW_iload 60 dX3_weave_58 rfl rfl ?_
      obtain ⟨r8, e8, h⟩ := fBd h
      refine fW_cP (fI_V (as := [iv v3, iv v7]) (rest := []) miX3_keyIn hg clX3 rfl tc_149 wd_805 (fRoom_of rfl) rfl (Nat.le_of_ble_eq_true rfl) dX3_weave_60) (s_X3_keyIn hg gv3 gv7 e8) rfl rfl rfl (fun g8 => ?_)
      refine fW_istore 65 (ls' := [some (rv G 149), some (rv G w1), some (rv G w2), some (iv v3), some (iv v4), some (iv v5), some (iv v6), some (iv v7), some (iv v8), some (iv v9), some (iv v10), some (iv r7), some (iv r8), none]) dX3_weave_63 rfl rfl (by decide) ?_
      refine fW_aload_n 66 dX3_weave_65 rfl rfl ?_
      refine fW_iload 68 dX3_weave_66 rfl rfl ?_
      refine fW_iload 70 dX3_weave_68 rfl rfl ?_
      obtain ⟨r9, e9, h⟩ := fBd h
      refine fW_cP (fI_V (as := [iv v4, iv v8]) (rest := []) miX3_keyIn hg clX3 rfl tc_149 wd_805 (fRoom_of rfl) rfl (Nat.le_of_ble_eq_true rfl) dX3_weave_70) (s_X3_keyIn hg gv4 gv8 e9) rfl rfl rfl (fun g9 => ?_)
      refine fW_istore 75 (ls' := [some (rv G 149), some (rv G w1), some (rv G w2), some (iv v3), some (iv v4), some (iv v5), some (iv v6), some (iv v7), some (iv v8), some (iv v9), some (iv v10), some (iv r7), some (iv r8), some (iv r9)]) dX3_weave_73 rfl rfl (by decide) ?_
      refine fW_iload 77 dX3_weave_75 rfl rfl ?_
      refine fW_iload 79 dX3_weave_77 rfl rfl ?_
      refine fW_icmp_gt 82 108 g7 g8 dX3_weave_79 rfl rfl (fun c10 => ?_) (fun c10 => ?_)
      · replace h := fTt h c10
        refine fW_iload 110 dX3_weave_108 rfl rfl ?_
        refine fW_iload 112 dX3_weave_110 rfl rfl ?_
        refine fW_icmp_gt 115 137 g8 g9 dX3_weave_112 rfl rfl (fun c11 => ?_) (fun c11 => ?_)
        · replace h := fTt h c11
          refine fW_aload_n 138 dX3_weave_137 rfl rfl ?_
          refine fW_iload 140 dX3_weave_138 rfl rfl ?_
          refine fW_iload 142 dX3_weave_140 rfl rfl ?_
          obtain ⟨r12, e12, h⟩ := fBd h
          refine fW_cP (fI_SN (host := "RowStore") (as := [iv v4]) (rest := [iv r9, rv G w2]) miX10_numberOf (by decide +kernel) (fRoom_of rfl) rfl (Nat.le_of_ble_eq_true rfl) dX3_weave_142) (s_X10_numberOf hg gv4 e12) rfl rfl rfl (fun g12 => ?_)
          refine fW_iload 147 dX3_weave_145 rfl rfl ?_
          obtain ⟨r13, e13, h⟩ := fBd h
          refine fW_cV (fI_V (as := [iv r9, iv r12, iv v8]) (rest := []) miX1_append hg clX1 rfl tw2 wd_814 (fRoom_of rfl) rfl (Nat.le_of_ble_eq_true rfl) dX3_weave_147) (s_X1_append hg tw2 g9 g12 gv8 e13) rfl rfl rfl ?_
          refine fW_rg (fun hR14 => ?_)
          refine fW_iload 152 dX3_weave_150 rfl rfl ?_
          refine fW_iload 154 dX3_weave_152 rfl rfl ?_
          refine fW_iadd 155 dX3_weave_154 rfl ?_
          refine fW_istore 157 (ls' := [some (rv G 149), some (rv G w1), some (rv G w2), some (iv v3), some (iv v4), some (iv v5), some (iv v6), some (iv v7), some (iv (v8 + v5)), some (iv v9), some (iv v10), some (iv r7), some (iv r8), some (iv r9)]) dX3_weave_155 rfl rfl (by decide) ?_
          refine fW_iinc 160 (ls' := [some (rv G 149), some (rv G w1), some (rv G w2), some (iv v3), some (iv v4), some (iv v5), some (iv v6), some (iv v7), some (iv (v8 + v5)), some (iv v9), some (iv (v10 + 1)), some (iv r7), some (iv r8), some (iv r9)]) dX3_weave_157 rfl rfl rfl (by decide) ?_
          refine fW_goto 41 dX3_weave_160 rfl ?_
          obtain ⟨c15, h⟩ := fS h
          exact fW_sb (ih w1 w2 v3 v4 v5 v6 v7 (v8 + v5) v9 (v10 + 1) r13 tw1 tw2 gv3 gv4 gv5 gv6 gv7 c15 gv9 (rg_succ' gv10 gv9 c6) h) ⟨rfl, rfl, rfl, rfl, rfl, rfl, rfl, rfl, rfl, rfl, rfl, trivial⟩
        · replace h := fFf h c11
          refine fW_aload_n 116 dX3_weave_115 rfl rfl ?_
          refine fW_iload 118 dX3_weave_116 rfl rfl ?_
          refine fW_iload_n 119 dX3_weave_118 rfl rfl ?_
          obtain ⟨r16, e16, h⟩ := fBd h
          refine fW_cP (fI_SN (host := "RowStore") (as := [iv v3]) (rest := [iv r8, rv G w2]) miX10_numberOf (by decide +kernel) (fRoom_of rfl) rfl (Nat.le_of_ble_eq_true rfl) dX3_weave_119) (s_X10_numberOf hg gv3 e16) rfl rfl rfl (fun g16 => ?_)
          refine fW_iload 124 dX3_weave_122 rfl rfl ?_
          obtain ⟨r17, e17, h⟩ := fBd h
          refine fW_cV (fI_V (as := [iv r8, iv r16, iv v7]) (rest := []) miX1_append hg clX1 rfl tw2 wd_814 (fRoom_of rfl) rfl (Nat.le_of_ble_eq_true rfl) dX3_weave_124) (s_X1_append hg tw2 g8 g16 gv7 e17) rfl rfl rfl ?_
          refine fW_rg (fun hR18 => ?_)
          refine fW_iload 129 dX3_weave_127 rfl rfl ?_
          refine fW_iload 131 dX3_weave_129 rfl rfl ?_
          refine fW_iadd 132 dX3_weave_131 rfl ?_
          refine fW_istore 134 (ls' := [some (rv G 149), some (rv G w1), some (rv G w2), some (iv v3), some (iv v4), some (iv v5), some (iv v6), some (iv (v7 + v5)), some (iv v8), some (iv v9), some (iv v10), some (iv r7), some (iv r8), some (iv r9)]) dX3_weave_132 rfl rfl (by decide) ?_
          refine fW_goto 157 dX3_weave_134 rfl ?_
          refine fW_iinc 160 (ls' := [some (rv G 149), some (rv G w1), some (rv G w2), some (iv v3), some (iv v4), some (iv v5), some (iv v6), some (iv (v7 + v5)), some (iv v8), some (iv v9), some (iv (v10 + 1)), some (iv r7), some (iv r8), some (iv r9)]) dX3_weave_157 rfl rfl rfl (by decide) ?_
          refine fW_goto 41 dX3_weave_160 rfl ?_
          obtain ⟨c19, h⟩ := fS h
          exact fW_sb (ih w1 w2 v3 v4 v5 v6 (v7 + v5) v8 v9 (v10 + 1) r17 tw1 tw2 gv3 gv4 gv5 gv6 c19 gv8 gv9 (rg_succ' gv10 gv9 c6) h) ⟨rfl, rfl, rfl, rfl, rfl, rfl, rfl, rfl, rfl, rfl, rfl, trivial⟩
      · replace h := fFf h c10
        refine fW_iload 84 dX3_weave_82 rfl rfl ?_
        refine fW_iload 86 dX3_weave_84 rfl rfl ?_
        refine fW_icmp_gt 89 108 g7 g9 dX3_weave_86 rfl rfl (fun c20 => ?_) (fun c20 => ?_)
        · replace h := fTt h c20
          refine fW_iload 110 dX3_weave_108 rfl rfl ?_
          refine fW_iload 112 dX3_weave_110 rfl rfl ?_
          refine fW_icmp_gt 115 137 g8 g9 dX3_weave_112 rfl rfl (fun c21 => ?_) (fun c21 => ?_)
          · replace h := fTt h c21
            refine fW_aload_n 138 dX3_weave_137 rfl rfl ?_
            refine fW_iload 140 dX3_weave_138 rfl rfl ?_
            refine fW_iload 142 dX3_weave_140 rfl rfl ?_
            obtain ⟨r22, e22, h⟩ := fBd h
            refine fW_cP (fI_SN (host := "RowStore") (as := [iv v4]) (rest := [iv r9, rv G w2]) miX10_numberOf (by decide +kernel) (fRoom_of rfl) rfl (Nat.le_of_ble_eq_true rfl) dX3_weave_142) (s_X10_numberOf hg gv4 e22) rfl rfl rfl (fun g22 => ?_)
            refine fW_iload 147 dX3_weave_145 rfl rfl ?_
            obtain ⟨r23, e23, h⟩ := fBd h
            refine fW_cV (fI_V (as := [iv r9, iv r22, iv v8]) (rest := []) miX1_append hg clX1 rfl tw2 wd_814 (fRoom_of rfl) rfl (Nat.le_of_ble_eq_true rfl) dX3_weave_147) (s_X1_append hg tw2 g9 g22 gv8 e23) rfl rfl rfl ?_
            refine fW_rg (fun hR24 => ?_)
            refine fW_iload 152 dX3_weave_150 rfl rfl ?_
            refine fW_iload 154 dX3_weave_152 rfl rfl ?_
            refine fW_iadd 155 dX3_weave_154 rfl ?_
            refine fW_istore 157 (ls' := [some (rv G 149), some (rv G w1), some (rv G w2), some (iv v3), some (iv v4), some (iv v5), some (iv v6), some (iv v7), some (iv (v8 + v5)), some (iv v9), some (iv v10), some (iv r7), some (iv r8), some (iv r9)]) dX3_weave_155 rfl rfl (by decide) ?_
            refine fW_iinc 160 (ls' := [some (rv G 149), some (rv G w1), some (rv G w2), some (iv v3), some (iv v4), some (iv v5), some (iv v6), some (iv v7), some (iv (v8 + v5)), some (iv v9), some (iv (v10 + 1)), some (iv r7), some (iv r8), some (iv r9)]) dX3_weave_157 rfl rfl rfl (by decide) ?_
            refine fW_goto 41 dX3_weave_160 rfl ?_
            obtain ⟨c25, h⟩ := fS h
            exact fW_sb (ih w1 w2 v3 v4 v5 v6 v7 (v8 + v5) v9 (v10 + 1) r23 tw1 tw2 gv3 gv4 gv5 gv6 gv7 c25 gv9 (rg_succ' gv10 gv9 c6) h) ⟨rfl, rfl, rfl, rfl, rfl, rfl, rfl, rfl, rfl, rfl, rfl, trivial⟩
          · replace h := fFf h c21
            refine fW_aload_n 116 dX3_weave_115 rfl rfl ?_
            refine fW_iload 118 dX3_weave_116 rfl rfl ?_
            refine fW_iload_n 119 dX3_weave_118 rfl rfl ?_
            obtain ⟨r26, e26, h⟩ := fBd h
            refine fW_cP (fI_SN (host := "RowStore") (as := [iv v3]) (rest := [iv r8, rv G w2]) miX10_numberOf (by decide +kernel) (fRoom_of rfl) rfl (Nat.le_of_ble_eq_true rfl) dX3_weave_119) (s_X10_numberOf hg gv3 e26) rfl rfl rfl (fun g26 => ?_)
            refine fW_iload 124 dX3_weave_122 rfl rfl ?_
            obtain ⟨r27, e27, h⟩ := fBd h
            refine fW_cV (fI_V (as := [iv r8, iv r26, iv v7]) (rest := []) miX1_append hg clX1 rfl tw2 wd_814 (fRoom_of rfl) rfl (Nat.le_of_ble_eq_true rfl) dX3_weave_124) (s_X1_append hg tw2 g8 g26 gv7 e27) rfl rfl rfl ?_
            refine fW_rg (fun hR28 => ?_)
            refine fW_iload 129 dX3_weave_127 rfl rfl ?_
            refine fW_iload 131 dX3_weave_129 rfl rfl ?_
            refine fW_iadd 132 dX3_weave_131 rfl ?_
            refine fW_istore 134 (ls' := [some (rv G 149), some (rv G w1), some (rv G w2), some (iv v3), some (iv v4), some (iv v5), some (iv v6), some (iv (v7 + v5)), some (iv v8), some (iv v9), some (iv v10), some (iv r7), some (iv r8), some (iv r9)]) dX3_weave_132 rfl rfl (by decide) ?_
            refine fW_goto 157 dX3_weave_134 rfl ?_
            refine fW_iinc 160 (ls' := [some (rv G 149), some (rv G w1), some (rv G w2), some (iv v3), some (iv v4), some (iv v5), some (iv v6), some (iv (v7 + v5)), some (iv v8), some (iv v9), some (iv (v10 + 1)), some (iv r7), some (iv r8), some (iv r9)]) dX3_weave_157 rfl rfl rfl (by decide) ?_
            refine fW_goto 41 dX3_weave_160 rfl ?_
            obtain ⟨c29, h⟩ := fS h
            exact fW_sb (ih w1 w2 v3 v4 v5 v6 (v7 + v5) v8 v9 (v10 + 1) r27 tw1 tw2 gv3 gv4 gv5 gv6 c29 gv8 gv9 (rg_succ' gv10 gv9 c6) h) ⟨rfl, rfl, rfl, rfl, rfl, rfl, rfl, rfl, rfl, rfl, rfl, trivial⟩
        · replace h := fFf h c20
          refine fW_aload_n 90 dX3_weave_89 rfl rfl ?_
          refine fW_iload 92 dX3_weave_90 rfl rfl ?_
          refine fW_aload_n 93 dX3_weave_92 rfl rfl ?_
          refine fW_iload 95 dX3_weave_93 rfl rfl ?_
          obtain ⟨r30, e30, h⟩ := fBd h
          refine fW_cP (fI_V (as := [iv v6]) (rest := [iv r7, rv G w2]) miX6_valueAt hg clX6 rfl tw1 wd_813 (fRoom_of rfl) rfl (Nat.le_of_ble_eq_true rfl) dX3_weave_95) (s_X6_valueAt hg tw1 gv6 e30) rfl rfl rfl (fun g30 => ?_)
          refine fW_iconst 99 dX3_weave_98 rfl ?_
          obtain ⟨r31, e31, h⟩ := fBd h
          refine fW_cV (fI_V (as := [iv r7, iv r30, iv ((-1))]) (rest := []) miX1_append hg clX1 rfl tw2 wd_814 (fRoom_of rfl) rfl (Nat.le_of_ble_eq_true rfl) dX3_weave_99) (s_X1_append hg tw2 g7 g30 (by decide) e31) rfl rfl rfl ?_
          refine fW_rg (fun hR32 => ?_)
          refine fW_iinc 105 (ls' := [some (rv G 149), some (rv G w1), some (rv G w2), some (iv v3), some (iv v4), some (iv v5), some (iv (v6 + 1)), some (iv v7), some (iv v8), some (iv v9), some (iv v10), some (iv r7), some (iv r8), some (iv r9)]) dX3_weave_102 rfl rfl rfl (by decide) ?_
          refine fW_goto 157 dX3_weave_105 rfl ?_
          refine fW_iinc 160 (ls' := [some (rv G 149), some (rv G w1), some (rv G w2), some (iv v3), some (iv v4), some (iv v5), some (iv (v6 + 1)), some (iv v7), some (iv v8), some (iv v9), some (iv (v10 + 1)), some (iv r7), some (iv r8), some (iv r9)]) dX3_weave_157 rfl rfl rfl (by decide) ?_
          refine fW_goto 41 dX3_weave_160 rfl ?_
          obtain ⟨c33, h⟩ := fS h
          exact fW_sb (ih w1 w2 v3 v4 v5 (v6 + 1) v7 v8 v9 (v10 + 1) r31 tw1 tw2 gv3 gv4 gv5 c33 gv7 gv8 gv9 (rg_succ' gv10 gv9 c6) h) ⟨rfl, rfl, rfl, rfl, rfl, rfl, rfl, rfl, rfl, rfl, rfl, trivial⟩
def f_X3_weave (p1 : Nat) (p2 : Nat) (a3 : Int) (a4 : Int) (a5 : Int) (M : fMem) : Option (fMem) := ((f_X3_marksIn a3 a5 M).bind fun (r1 : Int) => ((f_X3_marksIn a4 a5 M).bind fun (r2 : Int) => (if -2147483648 ≤ a5 - 1 ∧ a5 - 1 < 2147483648 then (if -2147483648 ≤ a5 - 1 ∧ a5 - 1 < 2147483648 then (if -2147483648 ≤ ((M p1 3) + r1) + r2 ∧ ((M p1 3) + r1) + r2 < 2147483648 then L_X3_weave_41 (fun  (M_34 : fMem) => some M_34) 20000 p1 p2 a3 a4 a5 0 (a5 - 1) (a5 - 1) (((M p1 3) + r1) + r2) 0 M else none) else none) else none)))
set_option maxRecDepth 100000 in
set_option maxHeartbeats 4000000 in
theorem s_X3_weave {G : fG} (hg : gbt G = true) {p1 : Nat} (hp1 : fTyp p1 6) {p2 : Nat} (hp2 : fTyp p2 1) {a3 : Int} (ga3 : rg a3) {a4 : Int} (ga4 : rg a4) {a5 : Int} (ga5 : rg a5) {M : fMem} {q : fMem} (h : f_X3_weave p1 p2 a3 a4 a5 M = some q) : fSp G mX3_weave [rv G 149, rv G p1, rv G p2, iv a3, iv a4, iv a5] M (rV q) fNo := by
  refine fSp_of (by decide +kernel) (by decide +kernel) (fC1 rfl (fC1 rfl (fC1 rfl (fC1 rfl (fC1 rfl (fC1 rfl fC0)))))) (Nat.le_of_ble_eq_true rfl) ?_
  show fW G mX3_weave (fEm G mX3_weave (rV q) fNo) 0 0 0 [some (rv G 149), some (rv G p1), some (rv G p2), some (iv a3), some (iv a4), some (iv a5), none, none, none, none, none, none, none, none] [] M
  rw [f_X3_weave] at h
  refine fW_rg (fun hR => ?_)
  refine fW_iconst 1 dX3_weave_0 rfl ?_
  refine fW_istore 3 (ls' := [some (rv G 149), some (rv G p1), some (rv G p2), some (iv a3), some (iv a4), some (iv a5), some (iv 0), none, none, none, none, none, none, none]) dX3_weave_1 rfl rfl (by decide) ?_
  refine fW_iload 5 dX3_weave_3 rfl rfl ?_
  refine fW_iconst 6 dX3_weave_5 rfl ?_
  refine fW_isub 7 dX3_weave_6 rfl ?_
  refine fW_istore 9 (ls' := [some (rv G 149), some (rv G p1), some (rv G p2), some (iv a3), some (iv a4), some (iv a5), some (iv 0), some (iv (a5 - 1)), none, none, none, none, none, none]) dX3_weave_7 rfl rfl (by decide) ?_
  refine fW_iload 11 dX3_weave_9 rfl rfl ?_
  refine fW_iconst 12 dX3_weave_11 rfl ?_
  refine fW_isub 13 dX3_weave_12 rfl ?_
  refine fW_istore 15 (ls' := [some (rv G 149), some (rv G p1), some (rv G p2), some (iv a3), some (iv a4), some (iv a5), some (iv 0), some (iv (a5 - 1)), some (iv (a5 - 1)), none, none, none, none, none]) dX3_weave_13 rfl rfl (by decide) ?_
  refine fW_aload_n 16 dX3_weave_15 rfl rfl ?_
  refine fW_getI 19 3 (ji := 3) hg clX6 rfl (by decide) rfl hp1 wd_156 dX3_weave_16 rfl ?_
  refine fW_aload_n 20 dX3_weave_19 rfl rfl ?_
  refine fW_iload_n 21 dX3_weave_20 rfl rfl ?_
  refine fW_iload 23 dX3_weave_21 rfl rfl ?_
  obtain ⟨r1, e1, h⟩ := fBd h
  refine fW_cP (fI_V (as := [iv a3, iv a5]) (rest := [iv (M p1 3)]) miX3_marksIn hg clX3 rfl tc_149 wd_800 (fRoom_of rfl) rfl (Nat.le_of_ble_eq_true rfl) dX3_weave_23) (s_X3_marksIn hg ga3 ga5 e1) rfl rfl rfl (fun g1 => ?_)
  refine fW_iadd 27 dX3_weave_26 rfl ?_
  refine fW_aload_n 28 dX3_weave_27 rfl rfl ?_
  refine fW_iload 30 dX3_weave_28 rfl rfl ?_
  refine fW_iload 32 dX3_weave_30 rfl rfl ?_
  obtain ⟨r2, e2, h⟩ := fBd h
  refine fW_cP (fI_V (as := [iv a4, iv a5]) (rest := [iv ((M p1 3) + r1)]) miX3_marksIn hg clX3 rfl tc_149 wd_800 (fRoom_of rfl) rfl (Nat.le_of_ble_eq_true rfl) dX3_weave_32) (s_X3_marksIn hg ga4 ga5 e2) rfl rfl rfl (fun g2 => ?_)
  refine fW_iadd 36 dX3_weave_35 rfl ?_
  refine fW_istore 38 (ls' := [some (rv G 149), some (rv G p1), some (rv G p2), some (iv a3), some (iv a4), some (iv a5), some (iv 0), some (iv (a5 - 1)), some (iv (a5 - 1)), some (iv (((M p1 3) + r1) + r2)), none, none, none, none]) dX3_weave_36 rfl rfl (by decide) ?_
  refine fW_iconst 39 dX3_weave_38 rfl ?_
  refine fW_istore 41 (ls' := [some (rv G 149), some (rv G p1), some (rv G p2), some (iv a3), some (iv a4), some (iv a5), some (iv 0), some (iv (a5 - 1)), some (iv (a5 - 1)), some (iv (((M p1 3) + r1) + r2)), some (iv 0), none, none, none]) dX3_weave_39 rfl rfl (by decide) ?_
  obtain ⟨c3, h⟩ := fS h
  obtain ⟨c4, h⟩ := fS h
  obtain ⟨c5, h⟩ := fS h
  refine fW_sb (l_X3_weave_41 hg ?_ 20000 p1 p2 a3 a4 a5 0 (a5 - 1) (a5 - 1) (((M p1 3) + r1) + r2) 0 M hp1 hp2 ga3 ga4 ga5 (by decide) c3 c4 c5 (by decide) h) ⟨rfl, rfl, rfl, rfl, rfl, rfl, rfl, rfl, rfl, rfl, rfl, trivial⟩
  intro M_34 h
  refine fW_rg (fun hR_34 => ?_)
  exact fW_vret rfl (by decide) (by decide) dX3_weave_163 (rV_i h)
end MTH
