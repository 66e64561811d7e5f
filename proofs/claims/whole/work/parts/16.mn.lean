section MTH
def mX11_due : fMt := (yX11_due, cX11_due, 4, some .int, { frames := 10, cells := 0, slots := 0, locals := 400 })
theorem miX11_due : fMv mX11_due 1 := ⟨⟨fM 1588 (by decide +kernel) rfl, fM 101 (by decide +kernel) rfl, ⟨by decide +kernel, by decide +kernel⟩, by decide +kernel⟩, fM 1586 (by decide +kernel) rfl, fM 1587 (by decide +kernel) rfl⟩
def L_X11_due_27  (k : Int → fMem → Option (Int × fMem)) : Nat → Int → Int → Int → fMem → Option (Int × fMem)
  | 0, _, _, _, _ => none
  | n + 1, v1, v2, v3, M => (if 64 ≤ v3 then k v2 M else (if v2 = ((-1)) then ((f_X11_actsAhead v3 M).bind fun (r10 : Int × fMem) => (if 0 ≤ 7720 + v1 ∧ 7720 + v1 < 7787 then (if (r10.2 419 (7720 + v1)) ≤ (r10.2 420 (7720 + v1)) then L_X11_due_27  k n v1 ((-1)) (v3 + 1) r10.2 else L_X11_due_27  k n v1 (v3 + 1) (v3 + 1) r10.2) else none)) else k v2 M))
set_option maxRecDepth 100000 in
set_option maxHeartbeats 4000000 in
theorem l_X11_due_27 {G : fG} (hg : gbt G = true)  {q : Int × fMem} {k : Int → fMem → Option (Int × fMem)} (hk : ∀ (v2 : Int) (M : fMem), rg v2 → k v2 M = some q → fW G mX11_due (fEm G mX11_due (rP q.2 q.1) fNo) 0 0 81 [some (rv G 418), none, some (iv v2), none] [] M) : ∀ (n : Nat) (v1 : Int) (v2 : Int) (v3 : Int) (M : fMem), rg v1 → rg v2 → rg v3 → L_X11_due_27 k n v1 v2 v3 M = some q → fW G mX11_due (fEm G mX11_due (rP q.2 q.1) fNo) 0 0 27 [some (rv G 418), some (iv v1), some (iv v2), some (iv v3)] [] M := by
  intro n
  induction n with
  | zero =>
    intro v1 v2 v3 M gv1 gv2 gv3 h
    rw [L_X11_due_27] at h
    exact absurd h (by simp)
  | succ n ih =>
    intro v1 v2 v3 M gv1 gv2 gv3 h
    rw [L_X11_due_27] at h
    refine fW_rg (fun hR => ?_)
    refine fW_iload_n 28 dX11_due_27 rfl rfl ?_
    refine fW_bipush 30 dX11_due_28 rfl (by decide) ?_
    refine fW_icmp_ge 33 81 gv3 (by decide) dX11_due_30 rfl rfl (fun c8 => ?_) (fun c8 => ?_)
    · replace h := fTt h c8
      exact fW_sb (hk v2 M gv2 h) ⟨rfl, rfl, trivial⟩
    · replace h := fFf h c8
      refine fW_iload_n 34 dX11_due_33 rfl rfl ?_
      refine fW_iconst 35 dX11_due_34 rfl ?_
      refine fW_icmp_ne 38 81 gv2 (by decide) dX11_due_35 rfl rfl (fun c9 => ?_) (fun c9 => ?_)
      · replace h := fFf h c9
        exact fW_sb (hk v2 M gv2 h) ⟨rfl, rfl, trivial⟩
      · replace h := fTt h c9
        refine fW_aload_n 39 dX11_due_38 rfl rfl ?_
        refine fW_iload_n 40 dX11_due_39 rfl rfl ?_
        obtain ⟨r10, e10, h⟩ := fBd h
        refine fW_cP (fI_V (as := [iv v3]) (rest := []) miX11_actsAhead hg clX11 rfl tc_418 wd_1569 (fRoom_of rfl) rfl (Nat.le_of_ble_eq_true rfl) dX11_due_40) (s_X11_actsAhead hg gv3 e10) rfl rfl rfl (fun g10 => ?_)
        refine fW_rg (fun hR11 => ?_)
        refine fW_pop 44 dX11_due_43 rfl rfl ?_
        refine fW_aload_n 45 dX11_due_44 rfl rfl ?_
        refine fW_getR 48 (r := 419) 0 hg clX11 (by decide) rfl tc_418 tf_11_0 wd_1174 dX11_due_45 rfl ?_
        refine fW_sipush 51 dX11_due_48 rfl (by decide) ?_
        refine fW_iload_n 52 dX11_due_51 rfl rfl ?_
        refine fW_iadd 53 dX11_due_52 rfl ?_
        obtain ⟨c12, h⟩ := fS h
        refine fW_iald 54 hg tc_419 ⟨c12.1, by rw [show Ln 419 = 7787 from rfl]; exact c12.2⟩ dX11_due_53 rfl ?_
        refine fW_aload_n 55 dX11_due_54 rfl rfl ?_
        refine fW_getR 58 (r := 420) 1 hg clX11 (by decide) rfl tc_418 tf_11_1 wd_1175 dX11_due_55 rfl ?_
        refine fW_sipush 61 dX11_due_58 rfl (by decide) ?_
        refine fW_iload_n 62 dX11_due_61 rfl rfl ?_
        refine fW_iadd 63 dX11_due_62 rfl ?_
        refine fW_iald 64 hg tc_420 ⟨c12.1, by rw [show Ln 420 = 7787 from rfl]; exact c12.2⟩ dX11_due_63 rfl ?_
        refine fW_icmp_le 67 73 (hR11 419 (7720 + v1)) (hR11 420 (7720 + v1)) dX11_due_64 rfl rfl (fun c13 => ?_) (fun c13 => ?_)
        · replace h := fTt h c13
          refine fW_iconst 74 dX11_due_73 rfl ?_
          refine fW_istore_n 75 (ls' := [some (rv G 418), some (iv v1), some (iv ((-1))), some (iv v3)]) dX11_due_74 rfl rfl rfl (by decide) ?_
          refine fW_iinc 78 (ls' := [some (rv G 418), some (iv v1), some (iv ((-1))), some (iv (v3 + 1))]) dX11_due_75 rfl rfl rfl (by decide) ?_
          refine fW_goto 27 dX11_due_78 rfl ?_
          exact fW_sb (ih v1 ((-1)) (v3 + 1) r10.2 gv1 (by decide) (rg_succ' gv3 (by decide) c8) h) ⟨rfl, rfl, rfl, rfl, trivial⟩
        · replace h := fFf h c13
          refine fW_iload_n 68 dX11_due_67 rfl rfl ?_
          refine fW_iconst 69 dX11_due_68 rfl ?_
          refine fW_iadd 70 dX11_due_69 rfl ?_
          refine fW_goto 74 dX11_due_70 rfl ?_
          refine fW_istore_n 75 (ls' := [some (rv G 418), some (iv v1), some (iv (v3 + 1)), some (iv v3)]) dX11_due_74 rfl rfl rfl (by decide) ?_
          refine fW_iinc 78 (ls' := [some (rv G 418), some (iv v1), some (iv (v3 + 1)), some (iv (v3 + 1))]) dX11_due_75 rfl rfl rfl (by decide) ?_
          refine fW_goto 27 dX11_due_78 rfl ?_
          exact fW_sb (ih v1 (v3 + 1) (v3 + 1) r10.2 gv1 (rg_succ' gv3 (by decide) c8) (rg_succ' gv3 (by decide) c8) h) ⟨rfl, rfl, rfl, rfl, trivial⟩
def f_X11_due (a1 : Int) (M : fMem) : Option (Int × fMem) := ((some (mset M 418 4 0)).bind fun (N1 : fMem) => ((f_X11_isLevel a1 N1).bind fun (r2 : Int) => ((f_X11_right r2 1 N1).bind fun (r3 : Int × fMem) => (if r3.1 = 0 then some (0, r3.2) else ((f_X11_goesAside r3.2).bind fun (r6 : fMem) => L_X11_due_27 (fun (v2_14 : Int) (M_14 : fMem) => ((f_X11_comesBack M_14).bind fun (r15 : fMem) => some (v2_14, r15))) 20000 a1 ((-1)) 0 r6)))))
set_option maxRecDepth 100000 in
set_option maxHeartbeats 4000000 in
theorem s_X11_due {G : fG} (hg : gbt G = true) {a1 : Int} (ga1 : rg a1) {M : fMem} {q : Int × fMem} (h : f_X11_due a1 M = some q) : fSp G mX11_due [rv G 418, iv a1] M (rP q.2 q.1) fNo := by
  refine fSp_of (by decide +kernel) (by decide +kernel) (fC1 rfl (fC1 rfl fC0)) (Nat.le_of_ble_eq_true rfl) ?_
  show fW G mX11_due (fEm G mX11_due (rP q.2 q.1) fNo) 0 0 0 [some (rv G 418), some (iv a1), none, none] [] M
  rw [f_X11_due] at h
  refine fW_rg (fun hR => ?_)
  refine fW_aload_n 1 dX11_due_0 rfl rfl ?_
  refine fW_iconst 2 dX11_due_1 rfl ?_
  obtain ⟨N1, e1, h⟩ := fBd h
  replace e1 := Option.some.inj e1
  refine fW_putI 5 4 (ji := 4) hg clX11 rfl (by decide) rfl rfl rfl tc_418 (by decide) wd_1178 dX11_due_2 rfl ?_
  rw [e1]
  refine fW_rg (fun hR1 => ?_)
  refine fW_aload_n 6 dX11_due_5 rfl rfl ?_
  refine fW_iload_n 7 dX11_due_6 rfl rfl ?_
  obtain ⟨r2, e2, h⟩ := fBd h
  refine fW_cB (fI_S (as := [iv a1]) (rest := [rv G 418]) miX11_isLevel rfl wd_1494 (fRoom_of rfl) rfl (Nat.le_of_ble_eq_true rfl) dX11_due_7) (s_X11_isLevel ga1 e2) rfl rfl rfl (fun g2 => ?_)
  refine fW_iconst 11 dX11_due_10 rfl ?_
  obtain ⟨r3, e3, h⟩ := fBd h
  refine fW_cB (fI_V (as := [iv r2, iv 1]) (rest := []) miX11_right hg clX11 rfl tc_418 wd_1396 (fRoom_of rfl) rfl (Nat.le_of_ble_eq_true rfl) dX11_due_11) (s_X11_right hg g2 (by decide) e3) rfl rfl rfl (fun g3 => ?_)
  refine fW_rg (fun hR4 => ?_)
  refine fW_if_ne 17 19 (rg_z g3) dX11_due_14 rfl rfl (fun c5 => ?_) (fun c5 => ?_)
  · replace h := fFf h c5
    refine fW_aload_n 20 dX11_due_19 rfl rfl ?_
    obtain ⟨r6, e6, h⟩ := fBd h
    refine fW_cV (fI_V (as := []) (rest := []) miX11_goesAside hg clX11 rfl tc_418 wd_1565 (fRoom_of rfl) rfl (Nat.le_of_ble_eq_true rfl) dX11_due_20) (s_X11_goesAside hg e6) rfl rfl rfl ?_
    refine fW_rg (fun hR7 => ?_)
    refine fW_iconst 24 dX11_due_23 rfl ?_
    refine fW_istore_n 25 (ls' := [some (rv G 418), some (iv a1), some (iv ((-1))), none]) dX11_due_24 rfl rfl rfl (by decide) ?_
    refine fW_iconst 26 dX11_due_25 rfl ?_
    refine fW_istore_n 27 (ls' := [some (rv G 418), some (iv a1), some (iv ((-1))), some (iv 0)]) dX11_due_26 rfl rfl rfl (by decide) ?_
    refine fW_sb (l_X11_due_27 hg ?_ 20000 a1 ((-1)) 0 r6 ga1 (by decide) (by decide) h) ⟨rfl, rfl, rfl, rfl, trivial⟩
    intro v2_14 M_14 gv2_14 h
    refine fW_rg (fun hR_14 => ?_)
    refine fW_aload_n 82 dX11_due_81 rfl rfl ?_
    obtain ⟨r15, e15, h⟩ := fBd h
    refine fW_cV (fI_V (as := []) (rest := []) miX11_comesBack hg clX11 rfl tc_418 wd_1573 (fRoom_of rfl) rfl (Nat.le_of_ble_eq_true rfl) dX11_due_82) (s_X11_comesBack hg e15) rfl rfl rfl ?_
    refine fW_rg (fun hR16 => ?_)
    refine fW_iload_n 86 dX11_due_85 rfl rfl ?_
    exact fW_iret rfl (by decide) (by decide) dX11_due_86 (rI_i h gv2_14)
  · replace h := fTt h c5
    refine fW_iconst 18 dX11_due_17 rfl ?_
    exact fW_iret rfl (by decide) (by decide) dX11_due_18 (rI_i h (by decide))
def mX11_freesAll : fMt := (yX11_freesAll, cX11_freesAll, 2, none, { frames := 1, cells := 0, slots := 0, locals := 40 })
theorem miX11_freesAll : fMv mX11_freesAll 0 := ⟨⟨fM 1596 (by decide +kernel) rfl, fM 101 (by decide +kernel) rfl, ⟨by decide +kernel, by decide +kernel⟩, by decide +kernel⟩, fM 1595 (by decide +kernel) rfl, fM 80 (by decide +kernel) rfl⟩
def L_X11_freesAll_2  (k : fMem → Option (fMem)) : Nat → Int → fMem → Option (fMem)
  | 0, _, _ => none
  | n + 1, v1, M => (if 19 ≤ v1 then k  M else ((f_X11_frees v1 M).bind fun (r2 : fMem) => L_X11_freesAll_2  k n (v1 + 1) r2))
set_option maxRecDepth 100000 in
set_option maxHeartbeats 4000000 in
theorem l_X11_freesAll_2 {G : fG} (hg : gbt G = true)  {q : fMem} {k : fMem → Option (fMem)} (hk : ∀ (M : fMem), k M = some q → fW G mX11_freesAll (fEm G mX11_freesAll (rV q) fNo) 0 0 19 [some (rv G 418), none] [] M) : ∀ (n : Nat) (v1 : Int) (M : fMem), rg v1 → L_X11_freesAll_2 k n v1 M = some q → fW G mX11_freesAll (fEm G mX11_freesAll (rV q) fNo) 0 0 2 [some (rv G 418), some (iv v1)] [] M := by
  intro n
  induction n with
  | zero =>
    intro v1 M gv1 h
    rw [L_X11_freesAll_2] at h
    exact absurd h (by simp)
  | succ n ih =>
    intro v1 M gv1 h
    rw [L_X11_freesAll_2] at h
    refine fW_rg (fun hR => ?_)
    refine fW_iload_n 3 dX11_freesAll_2 rfl rfl ?_
    refine fW_bipush 5 dX11_freesAll_3 rfl (by decide) ?_
    refine fW_icmp_ge 8 19 gv1 (by decide) dX11_freesAll_5 rfl rfl (fun c1 => ?_) (fun c1 => ?_)
    · replace h := fTt h c1
      exact fW_sb (hk M h) ⟨rfl, trivial⟩
    · replace h := fFf h c1
      refine fW_aload_n 9 dX11_freesAll_8 rfl rfl ?_
      refine fW_iload_n 10 dX11_freesAll_9 rfl rfl ?_
      obtain ⟨r2, e2, h⟩ := fBd h
      refine fW_cV (fI_V (as := [iv v1]) (rest := []) miX11_frees hg clX11 rfl tc_418 wd_1320 (fRoom_of rfl) rfl (Nat.le_of_ble_eq_true rfl) dX11_freesAll_10) (s_X11_frees hg gv1 e2) rfl rfl rfl ?_
      refine fW_rg (fun hR3 => ?_)
      refine fW_iinc 16 (ls' := [some (rv G 418), some (iv (v1 + 1))]) dX11_freesAll_13 rfl rfl rfl (by decide) ?_
      refine fW_goto 2 dX11_freesAll_16 rfl ?_
      exact fW_sb (ih (v1 + 1) r2 (rg_succ' gv1 (by decide) c1) h) ⟨rfl, rfl, trivial⟩
def L_X11_freesAll_21  (k : fMem → Option (fMem)) : Nat → Int → fMem → Option (fMem)
  | 0, _, _ => none
  | n + 1, v1, M => (if 9 ≤ v1 then k  M else (if 0 ≤ 7657 + v1 ∧ 7657 + v1 < 7787 then ((some (mset M 419 (7657 + v1) 0)).bind fun (N7 : fMem) => L_X11_freesAll_21  k n (v1 + 1) N7) else none))
set_option maxRecDepth 100000 in
set_option maxHeartbeats 4000000 in
theorem l_X11_freesAll_21 {G : fG} (hg : gbt G = true)  {q : fMem} {k : fMem → Option (fMem)} (hk : ∀ (M : fMem), k M = some q → fW G mX11_freesAll (fEm G mX11_freesAll (rV q) fNo) 0 0 44 [some (rv G 418), none] [] M) : ∀ (n : Nat) (v1 : Int) (M : fMem), rg v1 → L_X11_freesAll_21 k n v1 M = some q → fW G mX11_freesAll (fEm G mX11_freesAll (rV q) fNo) 0 0 21 [some (rv G 418), some (iv v1)] [] M := by
  intro n
  induction n with
  | zero =>
    intro v1 M gv1 h
    rw [L_X11_freesAll_21] at h
    exact absurd h (by simp)
  | succ n ih =>
    intro v1 M gv1 h
    rw [L_X11_freesAll_21] at h
    refine fW_rg (fun hR => ?_)
    refine fW_iload_n 22 dX11_freesAll_21 rfl rfl ?_
    refine fW_bipush 24 dX11_freesAll_22 rfl (by decide) ?_
    refine fW_icmp_ge 27 44 gv1 (by decide) dX11_freesAll_24 rfl rfl (fun c5 => ?_) (fun c5 => ?_)
    · replace h := fTt h c5
      exact fW_sb (hk M h) ⟨rfl, trivial⟩
    · replace h := fFf h c5
      refine fW_aload_n 28 dX11_freesAll_27 rfl rfl ?_
      refine fW_getR 31 (r := 419) 0 hg clX11 (by decide) rfl tc_418 tf_11_0 wd_1174 dX11_freesAll_28 rfl ?_
      refine fW_sipush 34 dX11_freesAll_31 rfl (by decide) ?_
      refine fW_iload_n 35 dX11_freesAll_34 rfl rfl ?_
      refine fW_iadd 36 dX11_freesAll_35 rfl ?_
      refine fW_iconst 37 dX11_freesAll_36 rfl ?_
      obtain ⟨c6, h⟩ := fS h
      obtain ⟨N7, e7, h⟩ := fBd h
      replace e7 := Option.some.inj e7
      refine fW_iast 38 hg tc_419 ⟨c6.1, by rw [show Ln 419 = 7787 from rfl]; exact c6.2⟩ (by decide) dX11_freesAll_37 rfl ?_
      rw [e7]
      refine fW_rg (fun hR7 => ?_)
      refine fW_iinc 41 (ls' := [some (rv G 418), some (iv (v1 + 1))]) dX11_freesAll_38 rfl rfl rfl (by decide) ?_
      refine fW_goto 21 dX11_freesAll_41 rfl ?_
      exact fW_sb (ih (v1 + 1) N7 (rg_succ' gv1 (by decide) c5) h) ⟨rfl, rfl, trivial⟩
def f_X11_freesAll  (M : fMem) : Option (fMem) := L_X11_freesAll_2 (fun  (M_4 : fMem) => L_X11_freesAll_21 (fun  (M_8 : fMem) => some M_8) 20000 0 M_4) 20000 0 M
set_option maxRecDepth 100000 in
set_option maxHeartbeats 4000000 in
theorem s_X11_freesAll {G : fG} (hg : gbt G = true)  {M : fMem} {q : fMem} (h : f_X11_freesAll M = some q) : fSp G mX11_freesAll [rv G 418] M (rV q) fNo := by
  refine fSp_of (by decide +kernel) (by decide +kernel) (fC1 rfl fC0) (Nat.le_of_ble_eq_true rfl) ?_
  show fW G mX11_freesAll (fEm G mX11_freesAll (rV q) fNo) 0 0 0 [some (rv G 418), none] [] M
  rw [f_X11_freesAll] at h
  refine fW_rg (fun hR => ?_)
  refine fW_iconst 1 dX11_freesAll_0 rfl ?_
  refine fW_istore_n 2 (ls' := [some (rv G 418), some (iv 0)]) dX11_freesAll_1 rfl rfl rfl (by decide) ?_
  refine fW_sb (l_X11_freesAll_2 hg ?_ 20000 0 M (by decide) h) ⟨rfl, rfl, trivial⟩
  intro M_4 h
  refine fW_rg (fun hR_4 => ?_)
  refine fW_iconst 20 dX11_freesAll_19 rfl ?_
  refine fW_istore_n 21 (ls' := [some (rv G 418), some (iv 0)]) dX11_freesAll_20 rfl rfl rfl (by decide) ?_
  refine fW_sb (l_X11_freesAll_21 hg ?_ 20000 0 M_4 (by decide) h) ⟨rfl, rfl, trivial⟩
  intro M_8 h
  refine fW_rg (fun hR_8 => ?_)
  exact fW_vret rfl (by decide) (by decide) dX11_freesAll_44 (rV_i h)
def mX11_pack : fMt := (yX11_pack, cX11_pack, 5, some .int, { frames := 5, cells := 0, slots := 0, locals := 200 })
theorem miX11_pack : fMv mX11_pack 0 := ⟨⟨fM 1592 (by decide +kernel) rfl, fM 101 (by decide +kernel) rfl, ⟨by decide +kernel, by decide +kernel⟩, by decide +kernel⟩, fM 1590 (by decide +kernel) rfl, fM 1591 (by decide +kernel) rfl⟩
def L_X11_pack_22  (k : Int → Int → fMem → Option (Int × fMem)) : Nat → Int → Int → fMem → Option (Int × fMem)
  | 0, _, _, _ => none
  | n + 1, v1, v2, M => (if 0 ≤ v2 ∧ v2 < 32 then (if -2147483648 ≤ (1 : Int) * 2 ^ v2.toNat ∧ (1 : Int) * 2 ^ v2.toNat < 2147483648 then (if v1 ≤ ((1 : Int) * 2 ^ v2.toNat) then k v1 v2 M else (if -2147483648 ≤ v2 + 1 ∧ v2 + 1 < 2147483648 then L_X11_pack_22  k n v1 (v2 + 1) M else none)) else none) else none)
set_option maxRecDepth 100000 in
set_option maxHeartbeats 4000000 in
theorem l_X11_pack_22 {G : fG} (hg : gbt G = true)  {q : Int × fMem} {k : Int → Int → fMem → Option (Int × fMem)} (hk : ∀ (v1 : Int) (v2 : Int) (M : fMem), rg v1 → rg v2 → k v1 v2 M = some q → fW G mX11_pack (fEm G mX11_pack (rP q.2 q.1) fNo) 0 0 35 [some (rv G 418), some (iv v1), some (iv v2), none, none] [] M) : ∀ (n : Nat) (v1 : Int) (v2 : Int) (M : fMem), rg v1 → rg v2 → L_X11_pack_22 k n v1 v2 M = some q → fW G mX11_pack (fEm G mX11_pack (rP q.2 q.1) fNo) 0 0 22 [some (rv G 418), some (iv v1), some (iv v2), none, none] [] M := by
  intro n
  induction n with
  | zero =>
    intro v1 v2 M gv1 gv2 h
    rw [L_X11_pack_22] at h
    exact absurd h (by simp)
  | succ n ih =>
    intro v1 v2 M gv1 gv2 h
    rw [L_X11_pack_22] at h
    refine fW_rg (fun hR => ?_)
    refine fW_iconst 23 dX11_pack_22 rfl ?_
    refine fW_iload_n 24 dX11_pack_23 rfl rfl ?_
    obtain ⟨c7, h⟩ := fS h
    refine fW_ishl 25 c7 dX11_pack_24 rfl ?_
    refine fW_iload_n 26 dX11_pack_25 rfl rfl ?_
    obtain ⟨c8, h⟩ := fS h
    refine fW_icmp_ge 29 35 c8 gv1 dX11_pack_26 rfl rfl (fun c9 => ?_) (fun c9 => ?_)
    · replace h := fTt h c9
      exact fW_sb (hk v1 v2 M gv1 gv2 h) ⟨rfl, rfl, rfl, trivial⟩
    · replace h := fFf h c9
      refine fW_iinc 32 (ls' := [some (rv G 418), some (iv v1), some (iv (v2 + 1)), none, none]) dX11_pack_29 rfl rfl rfl (by decide) ?_
      refine fW_goto 22 dX11_pack_32 rfl ?_
      obtain ⟨c10, h⟩ := fS h
      exact fW_sb (ih v1 (v2 + 1) M gv1 c10 h) ⟨rfl, rfl, rfl, trivial⟩
def L_X11_pack_44  (k : Int → Int → fMem → Option (Int × fMem)) : Nat → Int → Int → Int → fMem → Option (Int × fMem)
  | 0, _, _, _, _ => none
  | n + 1, v1, v3, v4, M => (if 200 ≤ v4 then k v1 v3 M else (if 0 ≤ v4 ∧ v4 < 200 then (if (M 422 v4) = ((-1)) then L_X11_pack_44  k n v1 v3 (v4 + 1) M else (if 0 ≤ 7600 + v3 ∧ 7600 + v3 < 7787 then (if 0 ≤ (200 * v3) + (M 419 (7600 + v3)) ∧ (200 * v3) + (M 419 (7600 + v3)) < 7787 then ((some (mset M 419 ((200 * v3) + (M 419 (7600 + v3))) v4)).bind fun (N18 : fMem) => (if 0 ≤ (3800 + (200 * v3)) + (N18 419 (7600 + v3)) ∧ (3800 + (200 * v3)) + (N18 419 (7600 + v3)) < 7787 then ((some (mset N18 419 ((3800 + (200 * v3)) + (N18 419 (7600 + v3))) (N18 422 v4))).bind fun (N20 : fMem) => (if -2147483648 ≤ (N20 419 (7600 + v3)) + 1 ∧ (N20 419 (7600 + v3)) + 1 < 2147483648 then ((some (mset N20 419 (7600 + v3) ((N20 419 (7600 + v3)) + 1))).bind fun (N22 : fMem) => L_X11_pack_44  k n v1 v3 (v4 + 1) N22) else none)) else none)) else none) else none)) else none))
set_option maxRecDepth 100000 in
set_option maxHeartbeats 4000000 in
theorem l_X11_pack_44 {G : fG} (hg : gbt G = true)  {q : Int × fMem} {k : Int → Int → fMem → Option (Int × fMem)} (hk : ∀ (v1 : Int) (v3 : Int) (M : fMem), rg v1 → rg v3 → k v1 v3 M = some q → fW G mX11_pack (fEm G mX11_pack (rP q.2 q.1) fNo) 0 0 138 [some (rv G 418), some (iv v1), none, some (iv v3), none] [] M) : ∀ (n : Nat) (v1 : Int) (v3 : Int) (v4 : Int) (M : fMem), rg v1 → rg v3 → rg v4 → L_X11_pack_44 k n v1 v3 v4 M = some q → fW G mX11_pack (fEm G mX11_pack (rP q.2 q.1) fNo) 0 0 44 [some (rv G 418), some (iv v1), none, some (iv v3), some (iv v4)] [] M := by
  intro n
  induction n with
  | zero =>
    intro v1 v3 v4 M gv1 gv3 gv4 h
    rw [L_X11_pack_44] at h
    exact absurd h (by simp)
  | succ n ih =>
    intro v1 v3 v4 M gv1 gv3 gv4 h
    rw [L_X11_pack_44] at h
    refine fW_rg (fun hR => ?_)
    refine fW_iload 46 dX11_pack_44 rfl rfl ?_
    refine fW_sipush 49 dX11_pack_46 rfl (by decide) ?_
    refine fW_icmp_ge 52 138 gv4 (by decide) dX11_pack_49 rfl rfl (fun c13 => ?_) (fun c13 => ?_)
    · replace h := fTt h c13
      exact fW_sb (hk v1 v3 M gv1 gv3 h) ⟨rfl, rfl, rfl, trivial⟩
    · replace h := fFf h c13
      refine fW_aload_n 53 dX11_pack_52 rfl rfl ?_
      refine fW_getR 56 (r := 422) 5 hg clX11 (by decide) rfl tc_418 tf_11_5 wd_1179 dX11_pack_53 rfl ?_
      refine fW_iload 58 dX11_pack_56 rfl rfl ?_
      obtain ⟨c14, h⟩ := fS h
      refine fW_iald 59 hg tc_422 ⟨c14.1, by rw [show Ln 422 = 200 from rfl]; exact c14.2⟩ dX11_pack_58 rfl ?_
      refine fW_iconst 60 dX11_pack_59 rfl ?_
      refine fW_icmp_eq 63 132 (hR 422 v4) (by decide) dX11_pack_60 rfl rfl (fun c15 => ?_) (fun c15 => ?_)
      · replace h := fTt h c15
        refine fW_iinc 135 (ls' := [some (rv G 418), some (iv v1), none, some (iv v3), some (iv (v4 + 1))]) dX11_pack_132 rfl rfl rfl (by decide) ?_
        refine fW_goto 44 dX11_pack_135 rfl ?_
        exact fW_sb (ih v1 v3 (v4 + 1) M gv1 gv3 (rg_succ' gv4 (by decide) c13) h) ⟨rfl, rfl, rfl, rfl, trivial⟩
      · replace h := fFf h c15
        refine fW_aload_n 64 dX11_pack_63 rfl rfl ?_
        refine fW_getR 67 (r := 419) 0 hg clX11 (by decide) rfl tc_418 tf_11_0 wd_1174 dX11_pack_64 rfl ?_
        refine fW_sipush 70 dX11_pack_67 rfl (by decide) ?_
        refine fW_iload_n 71 dX11_pack_70 rfl rfl ?_
        refine fW_imul 72 dX11_pack_71 rfl ?_
        refine fW_aload_n 73 dX11_pack_72 rfl rfl ?_
        refine fW_getR 76 (r := 419) 0 hg clX11 (by decide) rfl tc_418 tf_11_0 wd_1174 dX11_pack_73 rfl ?_
        refine fW_sipush 79 dX11_pack_76 rfl (by decide) ?_
        refine fW_iload_n 80 dX11_pack_79 rfl rfl ?_
        refine fW_iadd 81 dX11_pack_80 rfl ?_
        obtain ⟨c16, h⟩ := fS h
        refine fW_iald 82 hg tc_419 ⟨c16.1, by rw [show Ln 419 = 7787 from rfl]; exact c16.2⟩ dX11_pack_81 rfl ?_
        refine fW_iadd 83 dX11_pack_82 rfl ?_
        refine fW_iload 85 dX11_pack_83 rfl rfl ?_
        obtain ⟨c17, h⟩ := fS h
        obtain ⟨N18, e18, h⟩ := fBd h
        replace e18 := Option.some.inj e18
        refine fW_iast 86 hg tc_419 ⟨c17.1, by rw [show Ln 419 = 7787 from rfl]; exact c17.2⟩ gv4 dX11_pack_85 rfl ?_
        rw [e18]
        refine fW_rg (fun hR18 => ?_)
        refine fW_aload_n 87 dX11_pack_86 rfl rfl ?_
        refine fW_getR 90 (r := 419) 0 hg clX11 (by decide) rfl tc_418 tf_11_0 wd_1174 dX11_pack_87 rfl ?_
        refine fW_sipush 93 dX11_pack_90 rfl (by decide) ?_
        refine fW_sipush 96 dX11_pack_93 rfl (by decide) ?_
        refine fW_iload_n 97 dX11_pack_96 rfl rfl ?_
        refine fW_imul 98 dX11_pack_97 rfl ?_
        refine fW_iadd 99 dX11_pack_98 rfl ?_
        refine fW_aload_n 100 dX11_pack_99 rfl rfl ?_
        refine fW_getR 103 (r := 419) 0 hg clX11 (by decide) rfl tc_418 tf_11_0 wd_1174 dX11_pack_100 rfl ?_
        refine fW_sipush 106 dX11_pack_103 rfl (by decide) ?_
        refine fW_iload_n 107 dX11_pack_106 rfl rfl ?_
        refine fW_iadd 108 dX11_pack_107 rfl ?_
        refine fW_iald 109 hg tc_419 ⟨c16.1, by rw [show Ln 419 = 7787 from rfl]; exact c16.2⟩ dX11_pack_108 rfl ?_
        refine fW_iadd 110 dX11_pack_109 rfl ?_
        refine fW_aload_n 111 dX11_pack_110 rfl rfl ?_
        refine fW_getR 114 (r := 422) 5 hg clX11 (by decide) rfl tc_418 tf_11_5 wd_1179 dX11_pack_111 rfl ?_
        refine fW_iload 116 dX11_pack_114 rfl rfl ?_
        refine fW_iald 117 hg tc_422 ⟨c14.1, by rw [show Ln 422 = 200 from rfl]; exact c14.2⟩ dX11_pack_116 rfl ?_
        obtain ⟨c19, h⟩ := fS h
        obtain ⟨N20, e20, h⟩ := fBd h
        replace e20 := Option.some.inj e20
        refine fW_iast 118 hg tc_419 ⟨c19.1, by rw [show Ln 419 = 7787 from rfl]; exact c19.2⟩ (hR18 422 v4) dX11_pack_117 rfl ?_
        rw [e20]
        refine fW_rg (fun hR20 => ?_)
        refine fW_aload_n 119 dX11_pack_118 rfl rfl ?_
        refine fW_getR 122 (r := 419) 0 hg clX11 (by decide) rfl tc_418 tf_11_0 wd_1174 dX11_pack_119 rfl ?_
        refine fW_sipush 125 dX11_pack_122 rfl (by decide) ?_
        refine fW_iload_n 126 dX11_pack_125 rfl rfl ?_
        refine fW_iadd 127 dX11_pack_126 rfl ?_
        refine fW_dup2 128 dX11_pack_127 rfl rfl rfl ?_
        refine fW_iald 129 hg tc_419 ⟨c16.1, by rw [show Ln 419 = 7787 from rfl]; exact c16.2⟩ dX11_pack_128 rfl ?_
        refine fW_iconst 130 dX11_pack_129 rfl ?_
        refine fW_iadd 131 dX11_pack_130 rfl ?_
        obtain ⟨c21, h⟩ := fS h
        obtain ⟨N22, e22, h⟩ := fBd h
        replace e22 := Option.some.inj e22
        refine fW_iast 132 hg tc_419 ⟨c16.1, by rw [show Ln 419 = 7787 from rfl]; exact c16.2⟩ c21 dX11_pack_131 rfl ?_
        rw [e22]
        refine fW_rg (fun hR22 => ?_)
        refine fW_iinc 135 (ls' := [some (rv G 418), some (iv v1), none, some (iv v3), some (iv (v4 + 1))]) dX11_pack_132 rfl rfl rfl (by decide) ?_
        refine fW_goto 44 dX11_pack_135 rfl ?_
        exact fW_sb (ih v1 v3 (v4 + 1) N22 gv1 gv3 (rg_succ' gv4 (by decide) c13) h) ⟨rfl, rfl, rfl, rfl, trivial⟩
def f_X11_pack  (M : fMem) : Option (Int × fMem) := ((some (mset M 418 4 0)).bind fun (N1 : fMem) => ((f_X11_thereMany N1).bind fun (r2 : Int × fMem) => ((f_X11_freesAll r2.2).bind fun (r4 : fMem) => (if r2.1 = 0 then some (0, r4) else L_X11_pack_22 (fun (v1_11 : Int) (v2_11 : Int) (M_11 : fMem) => ((f_X11_rowAt v2_11 0 M_11).bind fun (r12 : Int) => L_X11_pack_44 (fun (v1_23 : Int) (v3_23 : Int) (M_23 : fMem) => ((f_X11_shuts v3_23 M_23).bind fun (r24 : fMem) => some (v1_23, r24))) 20000 v1_11 r12 0 M_11)) 20000 r2.1 0 r4))))
set_option maxRecDepth 100000 in
set_option maxHeartbeats 4000000 in
theorem s_X11_pack {G : fG} (hg : gbt G = true)  {M : fMem} {q : Int × fMem} (h : f_X11_pack M = some q) : fSp G mX11_pack [rv G 418] M (rP q.2 q.1) fNo := by
  refine fSp_of (by decide +kernel) (by decide +kernel) (fC1 rfl fC0) (Nat.le_of_ble_eq_true rfl) ?_
  show fW G mX11_pack (fEm G mX11_pack (rP q.2 q.1) fNo) 0 0 0 [some (rv G 418), none, none, none, none] [] M
  rw [f_X11_pack] at h
  refine fW_rg (fun hR => ?_)
  refine fW_aload_n 1 dX11_pack_0 rfl rfl ?_
  refine fW_iconst 2 dX11_pack_1 rfl ?_
  obtain ⟨N1, e1, h⟩ := fBd h
  replace e1 := Option.some.inj e1
  refine fW_putI 5 4 (ji := 4) hg clX11 rfl (by decide) rfl rfl rfl tc_418 (by decide) wd_1178 dX11_pack_2 rfl ?_
  rw [e1]
  refine fW_rg (fun hR1 => ?_)
  refine fW_aload_n 6 dX11_pack_5 rfl rfl ?_
  obtain ⟨r2, e2, h⟩ := fBd h
  refine fW_cP (fI_V (as := []) (rest := []) miX11_thereMany hg clX11 rfl tc_418 wd_1419 (fRoom_of rfl) rfl (Nat.le_of_ble_eq_true rfl) dX11_pack_6) (s_X11_thereMany hg e2) rfl rfl rfl (fun g2 => ?_)
  refine fW_rg (fun hR3 => ?_)
  refine fW_istore_n 10 (ls' := [some (rv G 418), some (iv r2.1), none, none, none]) dX11_pack_9 rfl rfl rfl (by decide) ?_
  refine fW_aload_n 11 dX11_pack_10 rfl rfl ?_
  obtain ⟨r4, e4, h⟩ := fBd h
  refine fW_cV (fI_V (as := []) (rest := []) miX11_freesAll hg clX11 rfl tc_418 wd_1593 (fRoom_of rfl) rfl (Nat.le_of_ble_eq_true rfl) dX11_pack_11) (s_X11_freesAll hg e4) rfl rfl rfl ?_
  refine fW_rg (fun hR5 => ?_)
  refine fW_iload_n 15 dX11_pack_14 rfl rfl ?_
  refine fW_if_ne 18 20 g2 dX11_pack_15 rfl rfl (fun c6 => ?_) (fun c6 => ?_)
  · replace h := fFf h c6
    refine fW_iconst 21 dX11_pack_20 rfl ?_
    refine fW_istore_n 22 (ls' := [some (rv G 418), some (iv r2.1), some (iv 0), none, none]) dX11_pack_21 rfl rfl rfl (by decide) ?_
    refine fW_sb (l_X11_pack_22 hg ?_ 20000 r2.1 0 r4 g2 (by decide) h) ⟨rfl, rfl, rfl, trivial⟩
    intro v1_11 v2_11 M_11 gv1_11 gv2_11 h
    refine fW_rg (fun hR_11 => ?_)
    refine fW_iload_n 36 dX11_pack_35 rfl rfl ?_
    refine fW_iconst 37 dX11_pack_36 rfl ?_
    obtain ⟨r12, e12, h⟩ := fBd h
    refine fW_cP (fI_S (as := [iv v2_11, iv 0]) (rest := []) miX11_rowAt rfl wd_1289 (fRoom_of rfl) rfl (Nat.le_of_ble_eq_true rfl) dX11_pack_37) (s_X11_rowAt gv2_11 (by decide) e12) rfl rfl rfl (fun g12 => ?_)
    refine fW_istore_n 41 (ls' := [some (rv G 418), some (iv v1_11), some (iv v2_11), some (iv r12), none]) dX11_pack_40 rfl rfl rfl (by decide) ?_
    refine fW_iconst 42 dX11_pack_41 rfl ?_
    refine fW_istore 44 (ls' := [some (rv G 418), some (iv v1_11), some (iv v2_11), some (iv r12), some (iv 0)]) dX11_pack_42 rfl rfl (by decide) ?_
    refine fW_sb (l_X11_pack_44 hg ?_ 20000 v1_11 r12 0 M_11 gv1_11 g12 (by decide) h) ⟨rfl, rfl, rfl, rfl, trivial⟩
    intro v1_23 v3_23 M_23 gv1_23 gv3_23 h
    refine fW_rg (fun hR_23 => ?_)
    refine fW_aload_n 139 dX11_pack_138 rfl rfl ?_
    refine fW_iload_n 140 dX11_pack_139 rfl rfl ?_
    obtain ⟨r24, e24, h⟩ := fBd h
    refine fW_cV (fI_V (as := [iv v3_23]) (rest := []) miX11_shuts hg clX11 rfl tc_418 wd_1324 (fRoom_of rfl) rfl (Nat.le_of_ble_eq_true rfl) dX11_pack_140) (s_X11_shuts hg gv3_23 e24) rfl rfl rfl ?_
    refine fW_rg (fun hR25 => ?_)
    refine fW_iload_n 144 dX11_pack_143 rfl rfl ?_
    exact fW_iret rfl (by decide) (by decide) dX11_pack_144 (rI_i h gv1_23)
  · replace h := fTt h c6
    refine fW_iconst 19 dX11_pack_18 rfl ?_
    exact fW_iret rfl (by decide) (by decide) dX11_pack_19 (rI_i h (by decide))
def mX11_viewAt : fMt := (yX11_viewAt, cX11_viewAt, 1, some .int, { frames := 0, cells := 0, slots := 0, locals := 0 })
theorem miX11_viewAt : fMs mX11_viewAt 1 := ⟨⟨fM 1607 (by decide +kernel) rfl, fM 101 (by decide +kernel) rfl, ⟨by decide +kernel, by decide +kernel⟩, by decide +kernel⟩, fM 1606 (by decide +kernel) rfl⟩
def f_X11_viewAt (a1 : Int) (M : fMem) : Option (Int) := (if -2147483648 ≤ 7657 * a1 ∧ 7657 * a1 < 2147483648 then some (7657 * a1) else none)
set_option maxRecDepth 100000 in
set_option maxHeartbeats 4000000 in
theorem s_X11_viewAt {G : fG}  {a1 : Int} (ga1 : rg a1) {M : fMem} {q : Int} (h : f_X11_viewAt a1 M = some q) : fSp G mX11_viewAt [iv a1] M (rP M q) fNo := by
  refine fSp_of (by decide +kernel) (by decide +kernel) (fC1 rfl fC0) (Nat.le_of_ble_eq_true rfl) ?_
  show fW G mX11_viewAt (fEm G mX11_viewAt (rP M q) fNo) 0 0 0 [some (iv a1)] [] M
  rw [f_X11_viewAt] at h
  refine fW_rg (fun hR => ?_)
  refine fW_sipush 3 dX11_viewAt_0 rfl (by decide) ?_
  refine fW_iload_n 4 dX11_viewAt_3 rfl rfl ?_
  refine fW_imul 5 dX11_viewAt_4 rfl ?_
  obtain ⟨c1, h⟩ := fS h
  exact fW_iret rfl (by decide) (by decide) dX11_viewAt_5 (rP_i h c1)
def mX11_isView : fMt := (yX11_isView, cX11_isView, 2, some .boolean, { frames := 1, cells := 0, slots := 0, locals := 40 })
theorem miX11_isView : fMv mX11_isView 1 := ⟨⟨fM 1604 (by decide +kernel) rfl, fM 101 (by decide +kernel) rfl, ⟨by decide +kernel, by decide +kernel⟩, by decide +kernel⟩, fM 1603 (by decide +kernel) rfl, fM 81 (by decide +kernel) rfl⟩
def f_X11_isView (a1 : Int) (M : fMem) : Option (Int) := ((f_X11_isIn a1 0 2 M).bind fun (r1 : Int) => some r1)
set_option maxRecDepth 100000 in
set_option maxHeartbeats 4000000 in
theorem s_X11_isView {G : fG}  {a1 : Int} (ga1 : rg a1) {M : fMem} {q : Int} (h : f_X11_isView a1 M = some q) : fSp G mX11_isView [rv G 418, iv a1] M (rB M q) fNo := by
  refine fSp_of (by decide +kernel) (by decide +kernel) (fC1 rfl (fC1 rfl fC0)) (Nat.le_of_ble_eq_true rfl) ?_
  show fW G mX11_isView (fEm G mX11_isView (rB M q) fNo) 0 0 0 [some (rv G 418), some (iv a1)] [] M
  rw [f_X11_isView] at h
  refine fW_rg (fun hR => ?_)
  refine fW_iload_n 1 dX11_isView_0 rfl rfl ?_
  refine fW_iconst 2 dX11_isView_1 rfl ?_
  refine fW_iconst 3 dX11_isView_2 rfl ?_
  obtain ⟨r1, e1, h⟩ := fBd h
  refine fW_cB (fI_S (as := [iv a1, iv 0, iv 2]) (rest := []) miX11_isIn rfl wd_1272 (fRoom_of rfl) rfl (Nat.le_of_ble_eq_true rfl) dX11_isView_3) (s_X11_isIn ga1 (by decide) (by decide) e1) rfl rfl rfl (fun g1 => ?_)
  exact fW_zret rfl g1 (by decide) (by decide) dX11_isView_6 (rB_i h g1)
def mX11_isTakenView : fMt := (yX11_isTakenView, cX11_isTakenView, 2, some .boolean, { frames := 2, cells := 0, slots := 0, locals := 80 })
theorem miX11_isTakenView : fMv mX11_isTakenView 1 := ⟨⟨fM 1623 (by decide +kernel) rfl, fM 101 (by decide +kernel) rfl, ⟨by decide +kernel, by decide +kernel⟩, by decide +kernel⟩, fM 1622 (by decide +kernel) rfl, fM 84 (by decide +kernel) rfl⟩
def f_X11_isTakenView (a1 : Int) (M : fMem) : Option (Int) := ((f_X11_isView a1 M).bind fun (r1 : Int) => (if r1 = 0 then some 0 else (if 0 ≤ a1 ∧ a1 < 3 then (if (M 436 a1) = 0 then some 0 else some 1) else none)))
set_option maxRecDepth 100000 in
set_option maxHeartbeats 4000000 in
theorem s_X11_isTakenView {G : fG} (hg : gbt G = true) {a1 : Int} (ga1 : rg a1) {M : fMem} {q : Int} (h : f_X11_isTakenView a1 M = some q) : fSp G mX11_isTakenView [rv G 418, iv a1] M (rB M q) fNo := by
  refine fSp_of (by decide +kernel) (by decide +kernel) (fC1 rfl (fC1 rfl fC0)) (Nat.le_of_ble_eq_true rfl) ?_
  show fW G mX11_isTakenView (fEm G mX11_isTakenView (rB M q) fNo) 0 0 0 [some (rv G 418), some (iv a1)] [] M
  rw [f_X11_isTakenView] at h
  refine fW_rg (fun hR => ?_)
  refine fW_aload_n 1 dX11_isTakenView_0 rfl rfl ?_
  refine fW_iload_n 2 dX11_isTakenView_1 rfl rfl ?_
  obtain ⟨r1, e1, h⟩ := fBd h
  refine fW_cB (fI_V (as := [iv a1]) (rest := []) miX11_isView hg clX11 rfl tc_418 wd_1601 (fRoom_of rfl) rfl (Nat.le_of_ble_eq_true rfl) dX11_isTakenView_2) (s_X11_isView ga1 e1) rfl rfl rfl (fun g1 => ?_)
  refine fW_if_eq 8 21 (rg_z g1) dX11_isTakenView_5 rfl rfl (fun c2 => ?_) (fun c2 => ?_)
  · replace h := fTt h c2
    refine fW_iconst 22 dX11_isTakenView_21 rfl ?_
    exact fW_zret rfl (by decide) (by decide) (by decide) dX11_isTakenView_22 (rB_i h (by decide))
  · replace h := fFf h c2
    refine fW_aload_n 9 dX11_isTakenView_8 rfl rfl ?_
    refine fW_getR 12 (r := 436) 24 hg clX11 (by decide) rfl tc_418 tf_11_24 wd_1198 dX11_isTakenView_9 rfl ?_
    refine fW_iload_n 13 dX11_isTakenView_12 rfl rfl ?_
    obtain ⟨c3, h⟩ := fS h
    refine fW_zald 14 hg tc_436 ⟨c3.1, by rw [show Ln 436 = 3 from rfl]; exact c3.2⟩ dX11_isTakenView_13 rfl ?_
    refine fW_if_eq 17 21 (hR 436 a1) dX11_isTakenView_14 rfl rfl (fun c4 => ?_) (fun c4 => ?_)
    · replace h := fTt h c4
      refine fW_iconst 22 dX11_isTakenView_21 rfl ?_
      exact fW_zret rfl (by decide) (by decide) (by decide) dX11_isTakenView_22 (rB_i h (by decide))
    · replace h := fFf h c4
      refine fW_iconst 18 dX11_isTakenView_17 rfl ?_
      refine fW_goto 22 dX11_isTakenView_18 rfl ?_
      exact fW_zret rfl (by decide) (by decide) (by decide) dX11_isTakenView_22 (rB_i h (by decide))
def mX11_isKept : fMt := (yX11_isKept, cX11_isKept, 3, some .boolean, { frames := 1, cells := 0, slots := 0, locals := 40 })
theorem miX11_isKept : fMv mX11_isKept 2 := ⟨⟨fM 1615 (by decide +kernel) rfl, fM 101 (by decide +kernel) rfl, ⟨by decide +kernel, by decide +kernel⟩, by decide +kernel⟩, fM 1614 (by decide +kernel) rfl, fM 83 (by decide +kernel) rfl⟩
def f_X11_isKept (a1 : Int) (a2 : Int) (M : fMem) : Option (Int) := ((f_X11_viewAt a1 M).bind fun (r1 : Int) => (if 0 ≤ (r1 + 7619) + a2 ∧ (r1 + 7619) + a2 < 22971 then (if (M 435 ((r1 + 7619) + a2)) = 2 then some 1 else some 0) else none))
set_option maxRecDepth 100000 in
set_option maxHeartbeats 4000000 in
theorem s_X11_isKept {G : fG} (hg : gbt G = true) {a1 : Int} (ga1 : rg a1) {a2 : Int} (ga2 : rg a2) {M : fMem} {q : Int} (h : f_X11_isKept a1 a2 M = some q) : fSp G mX11_isKept [rv G 418, iv a1, iv a2] M (rB M q) fNo := by
  refine fSp_of (by decide +kernel) (by decide +kernel) (fC1 rfl (fC1 rfl (fC1 rfl fC0))) (Nat.le_of_ble_eq_true rfl) ?_
  show fW G mX11_isKept (fEm G mX11_isKept (rB M q) fNo) 0 0 0 [some (rv G 418), some (iv a1), some (iv a2)] [] M
  rw [f_X11_isKept] at h
  refine fW_rg (fun hR => ?_)
  refine fW_aload_n 1 dX11_isKept_0 rfl rfl ?_
  refine fW_getR 4 (r := 435) 23 hg clX11 (by decide) rfl tc_418 tf_11_23 wd_1197 dX11_isKept_1 rfl ?_
  refine fW_iload_n 5 dX11_isKept_4 rfl rfl ?_
  obtain ⟨r1, e1, h⟩ := fBd h
  refine fW_cP (fI_S (as := [iv a1]) (rest := [rv G 435]) miX11_viewAt rfl wd_1605 (fRoom_of rfl) rfl (Nat.le_of_ble_eq_true rfl) dX11_isKept_5) (s_X11_viewAt ga1 e1) rfl rfl rfl (fun g1 => ?_)
  refine fW_sipush 11 dX11_isKept_8 rfl (by decide) ?_
  refine fW_iadd 12 dX11_isKept_11 rfl ?_
  refine fW_iload_n 13 dX11_isKept_12 rfl rfl ?_
  refine fW_iadd 14 dX11_isKept_13 rfl ?_
  obtain ⟨c2, h⟩ := fS h
  refine fW_iald 15 hg tc_435 ⟨c2.1, by rw [show Ln 435 = 22971 from rfl]; exact c2.2⟩ dX11_isKept_14 rfl ?_
  refine fW_iconst 16 dX11_isKept_15 rfl ?_
  refine fW_icmp_ne 19 23 (hR 435 ((r1 + 7619) + a2)) (by decide) dX11_isKept_16 rfl rfl (fun c3 => ?_) (fun c3 => ?_)
  · replace h := fFf h c3
    refine fW_iconst 24 dX11_isKept_23 rfl ?_
    exact fW_zret rfl (by decide) (by decide) (by decide) dX11_isKept_24 (rB_i h (by decide))
  · replace h := fTt h c3
    refine fW_iconst 20 dX11_isKept_19 rfl ?_
    refine fW_goto 24 dX11_isKept_20 rfl ?_
    exact fW_zret rfl (by decide) (by decide) (by decide) dX11_isKept_24 (rB_i h (by decide))
def mX11_keptMany : fMt := (yX11_keptMany, cX11_keptMany, 4, some .int, { frames := 2, cells := 0, slots := 0, locals := 80 })
theorem miX11_keptMany : fMv mX11_keptMany 1 := ⟨⟨fM 1611 (by decide +kernel) rfl, fM 101 (by decide +kernel) rfl, ⟨by decide +kernel, by decide +kernel⟩, by decide +kernel⟩, fM 1610 (by decide +kernel) rfl, fM 82 (by decide +kernel) rfl⟩
def L_X11_keptMany_4  (M : fMem) (k : Int → Option (Int)) : Nat → Int → Int → Int → Option (Int)
  | 0, _, _, _ => none
  | n + 1, v1, v2, v3 => (if 19 ≤ v3 then k v2 else ((f_X11_isKept v1 v3 M).bind fun (r2 : Int) => (if r2 = 0 then (if -2147483648 ≤ v2 + 0 ∧ v2 + 0 < 2147483648 then L_X11_keptMany_4 M k n v1 (v2 + 0) (v3 + 1) else none) else (if -2147483648 ≤ v2 + 1 ∧ v2 + 1 < 2147483648 then L_X11_keptMany_4 M k n v1 (v2 + 1) (v3 + 1) else none))))
set_option maxRecDepth 100000 in
set_option maxHeartbeats 4000000 in
theorem l_X11_keptMany_4 {G : fG} (hg : gbt G = true)  {M : fMem} {q : Int} {k : Int → Option (Int)} (hk : ∀ (v2 : Int), rg v2 → k v2 = some q → fW G mX11_keptMany (fEm G mX11_keptMany (rP M q) fNo) 0 0 33 [some (rv G 418), none, some (iv v2), none] [] M) : ∀ (n : Nat) (v1 : Int) (v2 : Int) (v3 : Int), rg v1 → rg v2 → rg v3 → L_X11_keptMany_4 M k n v1 v2 v3 = some q → fW G mX11_keptMany (fEm G mX11_keptMany (rP M q) fNo) 0 0 4 [some (rv G 418), some (iv v1), some (iv v2), some (iv v3)] [] M := by
  intro n
  induction n with
  | zero =>
    intro v1 v2 v3 gv1 gv2 gv3 h
    rw [L_X11_keptMany_4] at h
    exact absurd h (by simp)
  | succ n ih =>
    intro v1 v2 v3 gv1 gv2 gv3 h
    rw [L_X11_keptMany_4] at h
    refine fW_rg (fun hR => ?_)
    refine fW_iload_n 5 dX11_keptMany_4 rfl rfl ?_
    refine fW_bipush 7 dX11_keptMany_5 rfl (by decide) ?_
    refine fW_icmp_ge 10 33 gv3 (by decide) dX11_keptMany_7 rfl rfl (fun c1 => ?_) (fun c1 => ?_)
    · replace h := fTt h c1
      exact fW_sb (hk v2 gv2 h) ⟨rfl, rfl, trivial⟩
    · replace h := fFf h c1
      refine fW_iload_n 11 dX11_keptMany_10 rfl rfl ?_
      refine fW_aload_n 12 dX11_keptMany_11 rfl rfl ?_
      refine fW_iload_n 13 dX11_keptMany_12 rfl rfl ?_
      refine fW_iload_n 14 dX11_keptMany_13 rfl rfl ?_
      obtain ⟨r2, e2, h⟩ := fBd h
      refine fW_cB (fI_V (as := [iv v1, iv v3]) (rest := [iv v2]) miX11_isKept hg clX11 rfl tc_418 wd_1612 (fRoom_of rfl) rfl (Nat.le_of_ble_eq_true rfl) dX11_keptMany_14) (s_X11_isKept hg gv1 gv3 e2) rfl rfl rfl (fun g2 => ?_)
      refine fW_if_eq 20 24 (rg_z g2) dX11_keptMany_17 rfl rfl (fun c3 => ?_) (fun c3 => ?_)
      · replace h := fTt h c3
        refine fW_iconst 25 dX11_keptMany_24 rfl ?_
        refine fW_iadd 26 dX11_keptMany_25 rfl ?_
        refine fW_istore_n 27 (ls' := [some (rv G 418), some (iv v1), some (iv (v2 + 0)), some (iv v3)]) dX11_keptMany_26 rfl rfl rfl (by decide) ?_
        refine fW_iinc 30 (ls' := [some (rv G 418), some (iv v1), some (iv (v2 + 0)), some (iv (v3 + 1))]) dX11_keptMany_27 rfl rfl rfl (by decide) ?_
        refine fW_goto 4 dX11_keptMany_30 rfl ?_
        obtain ⟨c4, h⟩ := fS h
        exact fW_sb (ih v1 (v2 + 0) (v3 + 1) gv1 c4 (rg_succ' gv3 (by decide) c1) h) ⟨rfl, rfl, rfl, rfl, trivial⟩
      · replace h := fFf h c3
        refine fW_iconst 21 dX11_keptMany_20 rfl ?_
        refine fW_goto 25 dX11_keptMany_21 rfl ?_
        refine fW_iadd 26 dX11_keptMany_25 rfl ?_
        refine fW_istore_n 27 (ls' := [some (rv G 418), some (iv v1), some (iv (v2 + 1)), some (iv v3)]) dX11_keptMany_26 rfl rfl rfl (by decide) ?_
        refine fW_iinc 30 (ls' := [some (rv G 418), some (iv v1), some (iv (v2 + 1)), some (iv (v3 + 1))]) dX11_keptMany_27 rfl rfl rfl (by decide) ?_
        refine fW_goto 4 dX11_keptMany_30 rfl ?_
        obtain ⟨c5, h⟩ := fS h
        exact fW_sb (ih v1 (v2 + 1) (v3 + 1) gv1 c5 (rg_succ' gv3 (by decide) c1) h) ⟨rfl, rfl, rfl, rfl, trivial⟩
def f_X11_keptMany (a1 : Int) (M : fMem) : Option (Int) := L_X11_keptMany_4 M (fun (v2_6 : Int) => some v2_6) 20000 a1 0 0
set_option maxRecDepth 100000 in
set_option maxHeartbeats 4000000 in
theorem s_X11_keptMany {G : fG} (hg : gbt G = true) {a1 : Int} (ga1 : rg a1) {M : fMem} {q : Int} (h : f_X11_keptMany a1 M = some q) : fSp G mX11_keptMany [rv G 418, iv a1] M (rP M q) fNo := by
  refine fSp_of (by decide +kernel) (by decide +kernel) (fC1 rfl (fC1 rfl fC0)) (Nat.le_of_ble_eq_true rfl) ?_
  show fW G mX11_keptMany (fEm G mX11_keptMany (rP M q) fNo) 0 0 0 [some (rv G 418), some (iv a1), none, none] [] M
  rw [f_X11_keptMany] at h
  refine fW_rg (fun hR => ?_)
  refine fW_iconst 1 dX11_keptMany_0 rfl ?_
  refine fW_istore_n 2 (ls' := [some (rv G 418), some (iv a1), some (iv 0), none]) dX11_keptMany_1 rfl rfl rfl (by decide) ?_
  refine fW_iconst 3 dX11_keptMany_2 rfl ?_
  refine fW_istore_n 4 (ls' := [some (rv G 418), some (iv a1), some (iv 0), some (iv 0)]) dX11_keptMany_3 rfl rfl rfl (by decide) ?_
  refine fW_sb (l_X11_keptMany_4 hg ?_ 20000 a1 0 0 ga1 (by decide) (by decide) h) ⟨rfl, rfl, rfl, rfl, trivial⟩
  intro v2_6 gv2_6 h
  refine fW_iload_n 34 dX11_keptMany_33 rfl rfl ?_
  exact fW_iret rfl (by decide) (by decide) dX11_keptMany_34 (rP_i h gv2_6)
end MTH
