section MTH
def mX11_looksFor : fMt := (yX11_looksFor, cX11_looksFor, 8, some .int, { frames := 4, cells := 0, slots := 0, locals := 160 })
theorem miX11_looksFor : fMv mX11_looksFor 1 := ⟨⟨fM 1458 (by decide +kernel) rfl, fM 101 (by decide +kernel) rfl, ⟨by decide +kernel, by decide +kernel⟩, by decide +kernel⟩, fM 1457 (by decide +kernel) rfl, fM 60 (by decide +kernel) rfl⟩
def L_X11_looksFor_30  (k : Int → Int → Int → fMem → Option (Int × fMem)) : Nat → Int → Int → Int → Int → Int → Int → fMem → Option (Int × fMem)
  | 0, _, _, _, _, _, _, _ => none
  | n + 1, v1, v2, v3, v4, v5, v6, M => ((f_X11_shutMany v4 M).bind fun (r4 : Int) => (if r4 ≤ v6 then k v1 v4 v5 M else ((f_X11_byAge v4 v6 M).bind fun (r6 : Int) => ((f_X11_goesInto r6 v2 v3 v1 M).bind fun (r7 : Int × fMem) => (if r7.1 = 0 then (if v6 = 0 then (if 0 ≤ (r7.2 418 22) - 1 ∧ (r7.2 418 22) - 1 < 19 then L_X11_looksFor_30  k n v1 v2 v3 v4 (r7.2 433 ((r7.2 418 22) - 1)) (v6 + 1) r7.2 else none) else L_X11_looksFor_30  k n v1 v2 v3 v4 v5 (v6 + 1) r7.2) else some (r7.2 418 16, r7.2))))))
set_option maxRecDepth 100000 in
set_option maxHeartbeats 4000000 in
theorem l_X11_looksFor_30 {G : fG} (hg : gbt G = true)  {q : Int × fMem} {k : Int → Int → Int → fMem → Option (Int × fMem)} (hk : ∀ (v1 : Int) (v4 : Int) (v5 : Int) (M : fMem), rg v1 → rg v4 → rg v5 → k v1 v4 v5 M = some q → fW G mX11_looksFor (fEm G mX11_looksFor (rP q.2 q.1) fNo) 0 0 97 [some (rv G 418), some (iv v1), none, none, some (iv v4), some (iv v5), none, none] [] M) : ∀ (n : Nat) (v1 : Int) (v2 : Int) (v3 : Int) (v4 : Int) (v5 : Int) (v6 : Int) (M : fMem), rg v1 → rg v2 → rg v3 → rg v4 → rg v5 → rg v6 → L_X11_looksFor_30 k n v1 v2 v3 v4 v5 v6 M = some q → fW G mX11_looksFor (fEm G mX11_looksFor (rP q.2 q.1) fNo) 0 0 30 [some (rv G 418), some (iv v1), some (iv v2), some (iv v3), some (iv v4), some (iv v5), some (iv v6), none] [] M := by
  intro n
  induction n with
  | zero =>
    intro v1 v2 v3 v4 v5 v6 M gv1 gv2 gv3 gv4 gv5 gv6 h
    rw [L_X11_looksFor_30] at h
    exact absurd h (by simp)
  | succ n ih =>
    intro v1 v2 v3 v4 v5 v6 M gv1 gv2 gv3 gv4 gv5 gv6 h
    rw [L_X11_looksFor_30] at h
    refine fW_rg (fun hR => ?_)
    refine fW_iload 32 dX11_looksFor_30 rfl rfl ?_
    refine fW_aload_n 33 dX11_looksFor_32 rfl rfl ?_
    refine fW_iload 35 dX11_looksFor_33 rfl rfl ?_
    obtain ⟨r4, e4, h⟩ := fBd h
    refine fW_cP (fI_V (as := [iv v4]) (rest := [iv v6]) miX11_shutMany hg clX11 rfl tc_418 wd_1336 (fRoom_of rfl) rfl (Nat.le_of_ble_eq_true rfl) dX11_looksFor_35) (s_X11_shutMany hg gv4 e4) rfl rfl rfl (fun g4 => ?_)
    refine fW_icmp_ge 41 97 gv6 g4 dX11_looksFor_38 rfl rfl (fun c5 => ?_) (fun c5 => ?_)
    · replace h := fTt h c5
      exact fW_sb (hk v1 v4 v5 M gv1 gv4 gv5 h) ⟨rfl, rfl, rfl, rfl, trivial⟩
    · replace h := fFf h c5
      refine fW_aload_n 42 dX11_looksFor_41 rfl rfl ?_
      refine fW_iload 44 dX11_looksFor_42 rfl rfl ?_
      refine fW_iload 46 dX11_looksFor_44 rfl rfl ?_
      obtain ⟨r6, e6, h⟩ := fBd h
      refine fW_cP (fI_V (as := [iv v4, iv v6]) (rest := []) miX11_byAge hg clX11 rfl tc_418 wd_1348 (fRoom_of rfl) rfl (Nat.le_of_ble_eq_true rfl) dX11_looksFor_46) (s_X11_byAge hg gv4 gv6 e6) rfl rfl rfl (fun g6 => ?_)
      refine fW_istore 51 (ls' := [some (rv G 418), some (iv v1), some (iv v2), some (iv v3), some (iv v4), some (iv v5), some (iv v6), some (iv r6)]) dX11_looksFor_49 rfl rfl (by decide) ?_
      refine fW_aload_n 52 dX11_looksFor_51 rfl rfl ?_
      refine fW_iload 54 dX11_looksFor_52 rfl rfl ?_
      refine fW_iload_n 55 dX11_looksFor_54 rfl rfl ?_
      refine fW_iload_n 56 dX11_looksFor_55 rfl rfl ?_
      refine fW_iload_n 57 dX11_looksFor_56 rfl rfl ?_
      obtain ⟨r7, e7, h⟩ := fBd h
      refine fW_cB (fI_V (as := [iv r6, iv v2, iv v3, iv v1]) (rest := []) miX11_goesInto hg clX11 rfl tc_418 wd_1459 (fRoom_of rfl) rfl (Nat.le_of_ble_eq_true rfl) dX11_looksFor_57) (s_X11_goesInto hg g6 gv2 gv3 gv1 e7) rfl rfl rfl (fun g7 => ?_)
      refine fW_rg (fun hR8 => ?_)
      refine fW_if_eq 63 68 (rg_z g7) dX11_looksFor_60 rfl rfl (fun c9 => ?_) (fun c9 => ?_)
      · replace h := fTt h c9
        refine fW_iload 70 dX11_looksFor_68 rfl rfl ?_
        refine fW_if_ne 73 87 gv6 dX11_looksFor_70 rfl rfl (fun c10 => ?_) (fun c10 => ?_)
        · replace h := fFf h c10
          refine fW_iload 89 dX11_looksFor_87 rfl rfl ?_
          refine fW_istore 91 (ls' := [some (rv G 418), some (iv v1), some (iv v2), some (iv v3), some (iv v4), some (iv v5), some (iv v6), some (iv r6)]) dX11_looksFor_89 rfl rfl (by decide) ?_
          refine fW_iinc 94 (ls' := [some (rv G 418), some (iv v1), some (iv v2), some (iv v3), some (iv v4), some (iv v5), some (iv (v6 + 1)), some (iv r6)]) dX11_looksFor_91 rfl rfl rfl (by decide) ?_
          refine fW_goto 30 dX11_looksFor_94 rfl ?_
          exact fW_sb (ih v1 v2 v3 v4 v5 (v6 + 1) r7.2 gv1 gv2 gv3 gv4 gv5 (rg_succ' gv6 g4 c5) h) ⟨rfl, rfl, rfl, rfl, rfl, rfl, rfl, trivial⟩
        · replace h := fTt h c10
          refine fW_aload_n 74 dX11_looksFor_73 rfl rfl ?_
          refine fW_getR 77 (r := 433) 20 hg clX11 (by decide) rfl tc_418 tf_11_20 wd_1194 dX11_looksFor_74 rfl ?_
          refine fW_aload_n 78 dX11_looksFor_77 rfl rfl ?_
          refine fW_getI 81 22 (ji := 22) hg clX11 rfl (by decide) rfl tc_418 wd_1196 dX11_looksFor_78 rfl ?_
          refine fW_iconst 82 dX11_looksFor_81 rfl ?_
          refine fW_isub 83 dX11_looksFor_82 rfl ?_
          obtain ⟨c11, h⟩ := fS h
          refine fW_iald 84 hg tc_433 ⟨c11.1, by rw [show Ln 433 = 19 from rfl]; exact c11.2⟩ dX11_looksFor_83 rfl ?_
          refine fW_goto 89 dX11_looksFor_84 rfl ?_
          refine fW_istore 91 (ls' := [some (rv G 418), some (iv v1), some (iv v2), some (iv v3), some (iv v4), some (iv (r7.2 433 ((r7.2 418 22) - 1))), some (iv v6), some (iv r6)]) dX11_looksFor_89 rfl rfl (by decide) ?_
          refine fW_iinc 94 (ls' := [some (rv G 418), some (iv v1), some (iv v2), some (iv v3), some (iv v4), some (iv (r7.2 433 ((r7.2 418 22) - 1))), some (iv (v6 + 1)), some (iv r6)]) dX11_looksFor_91 rfl rfl rfl (by decide) ?_
          refine fW_goto 30 dX11_looksFor_94 rfl ?_
          exact fW_sb (ih v1 v2 v3 v4 (r7.2 433 ((r7.2 418 22) - 1)) (v6 + 1) r7.2 gv1 gv2 gv3 gv4 (hR8 433 ((r7.2 418 22) - 1)) (rg_succ' gv6 g4 c5) h) ⟨rfl, rfl, rfl, rfl, rfl, rfl, rfl, trivial⟩
      · replace h := fFf h c9
        refine fW_aload_n 64 dX11_looksFor_63 rfl rfl ?_
        refine fW_getI 67 16 (ji := 16) hg clX11 rfl (by decide) rfl tc_418 wd_1190 dX11_looksFor_64 rfl ?_
        exact fW_iret rfl (by decide) (by decide) dX11_looksFor_67 (rI_i h (hR8 418 16))
def L_X11_looksFor_17  (k : fMem → Option (Int × fMem)) : Nat → Int → Int → Int → Int → fMem → Option (Int × fMem)
  | 0, _, _, _, _, _ => none
  | n + 1, v1, v2, v3, v4, M => (if 9 ≤ v4 then k  M else L_X11_looksFor_30 (fun (v1_12 : Int) (v4_12 : Int) (v5_12 : Int) (M_12 : fMem) => ((f_X11_leadOf v4_12 M_12).bind fun (r13 : Int) => (if -2147483648 ≤ v4_12 + 1 ∧ v4_12 + 1 < 2147483648 then L_X11_looksFor_17  k n v1_12 r13 v5_12 (v4_12 + 1) M_12 else none))) 20000 v1 v2 v3 v4 ((-1)) 0 M)
set_option maxRecDepth 100000 in
set_option maxHeartbeats 4000000 in
theorem l_X11_looksFor_17 {G : fG} (hg : gbt G = true)  {q : Int × fMem} {k : fMem → Option (Int × fMem)} (hk : ∀ (M : fMem), k M = some q → fW G mX11_looksFor (fEm G mX11_looksFor (rP q.2 q.1) fNo) 0 0 113 [some (rv G 418), none, none, none, none, none, none, none] [] M) : ∀ (n : Nat) (v1 : Int) (v2 : Int) (v3 : Int) (v4 : Int) (M : fMem), rg v1 → rg v2 → rg v3 → rg v4 → L_X11_looksFor_17 k n v1 v2 v3 v4 M = some q → fW G mX11_looksFor (fEm G mX11_looksFor (rP q.2 q.1) fNo) 0 0 17 [some (rv G 418), some (iv v1), some (iv v2), some (iv v3), some (iv v4), none, none, none] [] M := by
  intro n
  induction n with
  | zero =>
    intro v1 v2 v3 v4 M gv1 gv2 gv3 gv4 h
    rw [L_X11_looksFor_17] at h
    exact absurd h (by simp)
  | succ n ih =>
    intro v1 v2 v3 v4 M gv1 gv2 gv3 gv4 h
    rw [L_X11_looksFor_17] at h
    refine fW_rg (fun hR => ?_)
    refine fW_iload 19 dX11_looksFor_17 rfl rfl ?_
    refine fW_bipush 21 dX11_looksFor_19 rfl (by decide) ?_
    refine fW_icmp_ge 24 113 gv4 (by decide) dX11_looksFor_21 rfl rfl (fun c3 => ?_) (fun c3 => ?_)
    · replace h := fTt h c3
      exact fW_sb (hk M h) ⟨rfl, trivial⟩
    · replace h := fFf h c3
      refine fW_iconst 25 dX11_looksFor_24 rfl ?_
      refine fW_istore 27 (ls' := [some (rv G 418), some (iv v1), some (iv v2), some (iv v3), some (iv v4), some (iv ((-1))), none, none]) dX11_looksFor_25 rfl rfl (by decide) ?_
      refine fW_iconst 28 dX11_looksFor_27 rfl ?_
      refine fW_istore 30 (ls' := [some (rv G 418), some (iv v1), some (iv v2), some (iv v3), some (iv v4), some (iv ((-1))), some (iv 0), none]) dX11_looksFor_28 rfl rfl (by decide) ?_
      refine fW_sb (l_X11_looksFor_30 hg ?_ 20000 v1 v2 v3 v4 ((-1)) 0 M gv1 gv2 gv3 gv4 (by decide) (by decide) h) ⟨rfl, rfl, rfl, rfl, rfl, rfl, rfl, trivial⟩
      intro v1_12 v4_12 v5_12 M_12 gv1_12 gv4_12 gv5_12 h
      refine fW_rg (fun hR_12 => ?_)
      refine fW_aload_n 98 dX11_looksFor_97 rfl rfl ?_
      refine fW_iload 100 dX11_looksFor_98 rfl rfl ?_
      obtain ⟨r13, e13, h⟩ := fBd h
      refine fW_cP (fI_V (as := [iv v4_12]) (rest := []) miX11_leadOf hg clX11 rfl tc_418 wd_1447 (fRoom_of rfl) rfl (Nat.le_of_ble_eq_true rfl) dX11_looksFor_100) (s_X11_leadOf hg gv4_12 e13) rfl rfl rfl (fun g13 => ?_)
      refine fW_istore_n 104 (ls' := [some (rv G 418), some (iv v1_12), some (iv r13), none, some (iv v4_12), some (iv v5_12), none, none]) dX11_looksFor_103 rfl rfl rfl (by decide) ?_
      refine fW_iload 106 dX11_looksFor_104 rfl rfl ?_
      refine fW_istore_n 107 (ls' := [some (rv G 418), some (iv v1_12), some (iv r13), some (iv v5_12), some (iv v4_12), some (iv v5_12), none, none]) dX11_looksFor_106 rfl rfl rfl (by decide) ?_
      refine fW_iinc 110 (ls' := [some (rv G 418), some (iv v1_12), some (iv r13), some (iv v5_12), some (iv (v4_12 + 1)), some (iv v5_12), none, none]) dX11_looksFor_107 rfl rfl rfl (by decide) ?_
      refine fW_goto 17 dX11_looksFor_110 rfl ?_
      obtain ⟨c14, h⟩ := fS h
      exact fW_sb (ih v1_12 r13 v5_12 (v4_12 + 1) M_12 gv1_12 g13 gv5_12 c14 h) ⟨rfl, rfl, rfl, rfl, rfl, trivial⟩
def f_X11_looksFor (a1 : Int) (M : fMem) : Option (Int × fMem) := ((some (mset M 418 16 0)).bind fun (N1 : fMem) => ((some (mset N1 418 22 0)).bind fun (N2 : fMem) => L_X11_looksFor_17 (fun  (M_15 : fMem) => some (M_15 418 16, M_15)) 20000 a1 ((-1)) 0 0 N2))
set_option maxRecDepth 100000 in
set_option maxHeartbeats 4000000 in
theorem s_X11_looksFor {G : fG} (hg : gbt G = true) {a1 : Int} (ga1 : rg a1) {M : fMem} {q : Int × fMem} (h : f_X11_looksFor a1 M = some q) : fSp G mX11_looksFor [rv G 418, iv a1] M (rP q.2 q.1) fNo := by
  refine fSp_of (by decide +kernel) (by decide +kernel) (fC1 rfl (fC1 rfl fC0)) (Nat.le_of_ble_eq_true rfl) ?_
  show fW G mX11_looksFor (fEm G mX11_looksFor (rP q.2 q.1) fNo) 0 0 0 [some (rv G 418), some (iv a1), none, none, none, none, none, none] [] M
  rw [f_X11_looksFor] at h
  refine fW_rg (fun hR => ?_)
  refine fW_aload_n 1 dX11_looksFor_0 rfl rfl ?_
  refine fW_iconst 2 dX11_looksFor_1 rfl ?_
  obtain ⟨N1, e1, h⟩ := fBd h
  replace e1 := Option.some.inj e1
  refine fW_putI 5 16 (ji := 16) hg clX11 rfl (by decide) rfl rfl rfl tc_418 (by decide) wd_1190 dX11_looksFor_2 rfl ?_
  rw [e1]
  refine fW_rg (fun hR1 => ?_)
  refine fW_aload_n 6 dX11_looksFor_5 rfl rfl ?_
  refine fW_iconst 7 dX11_looksFor_6 rfl ?_
  obtain ⟨N2, e2, h⟩ := fBd h
  replace e2 := Option.some.inj e2
  refine fW_putI 10 22 (ji := 22) hg clX11 rfl (by decide) rfl rfl rfl tc_418 (by decide) wd_1196 dX11_looksFor_7 rfl ?_
  rw [e2]
  refine fW_rg (fun hR2 => ?_)
  refine fW_iconst 11 dX11_looksFor_10 rfl ?_
  refine fW_istore_n 12 (ls' := [some (rv G 418), some (iv a1), some (iv ((-1))), none, none, none, none, none]) dX11_looksFor_11 rfl rfl rfl (by decide) ?_
  refine fW_iconst 13 dX11_looksFor_12 rfl ?_
  refine fW_istore_n 14 (ls' := [some (rv G 418), some (iv a1), some (iv ((-1))), some (iv 0), none, none, none, none]) dX11_looksFor_13 rfl rfl rfl (by decide) ?_
  refine fW_iconst 15 dX11_looksFor_14 rfl ?_
  refine fW_istore 17 (ls' := [some (rv G 418), some (iv a1), some (iv ((-1))), some (iv 0), some (iv 0), none, none, none]) dX11_looksFor_15 rfl rfl (by decide) ?_
  refine fW_sb (l_X11_looksFor_17 hg ?_ 20000 a1 ((-1)) 0 0 N2 ga1 (by decide) (by decide) (by decide) h) ⟨rfl, rfl, rfl, rfl, rfl, trivial⟩
  intro M_15 h
  refine fW_rg (fun hR_15 => ?_)
  refine fW_aload_n 114 dX11_looksFor_113 rfl rfl ?_
  refine fW_getI 117 16 (ji := 16) hg clX11 rfl (by decide) rfl tc_418 wd_1190 dX11_looksFor_114 rfl ?_
  exact fW_iret rfl (by decide) (by decide) dX11_looksFor_117 (rI_i h (hR_15 418 16))
def mX11_comesTo : fMt := (yX11_comesTo, cX11_comesTo, 8, none, { frames := 5, cells := 0, slots := 0, locals := 200 })
theorem miX11_comesTo : fMv mX11_comesTo 3 := ⟨⟨fM 1500 (by decide +kernel) rfl, fM 101 (by decide +kernel) rfl, ⟨by decide +kernel, by decide +kernel⟩, by decide +kernel⟩, fM 1499 (by decide +kernel) rfl, fM 67 (by decide +kernel) rfl⟩
def L_X11_comesTo_14  (k : Int → Int → Int → Int → fMem → Option (fMem)) : Nat → Int → Int → Int → Int → Int → Int → fMem → Option (fMem)
  | 0, _, _, _, _, _, _, _ => none
  | n + 1, v1, v2, v3, v4, v5, v6, M => (if v2 ≤ v6 then k v2 v3 v4 v5 M else ((f_X11_leadOf v6 M).bind fun (r4 : Int) => (if r4 = ((-1)) then L_X11_comesTo_14  k n v1 v2 v3 r4 v5 (v6 + 1) M else ((f_X11_bounds r4 v4 v5 M).bind fun (r6 : fMem) => ((f_X11_fallsIn r4 v1 r6).bind fun (r8 : Int × fMem) => L_X11_comesTo_14  k n v1 v2 v3 r4 r8.1 (v6 + 1) r8.2)))))
set_option maxRecDepth 100000 in
set_option maxHeartbeats 4000000 in
theorem l_X11_comesTo_14 {G : fG} (hg : gbt G = true)  {q : fMem} {k : Int → Int → Int → Int → fMem → Option (fMem)} (hk : ∀ (v2 : Int) (v3 : Int) (v4 : Int) (v5 : Int) (M : fMem), rg v2 → rg v3 → rg v4 → rg v5 → k v2 v3 v4 v5 M = some q → fW G mX11_comesTo (fEm G mX11_comesTo (rV q) fNo) 0 0 63 [some (rv G 418), none, some (iv v2), some (iv v3), some (iv v4), some (iv v5), none, none] [] M) : ∀ (n : Nat) (v1 : Int) (v2 : Int) (v3 : Int) (v4 : Int) (v5 : Int) (v6 : Int) (M : fMem), rg v1 → rg v2 → rg v3 → rg v4 → rg v5 → rg v6 → L_X11_comesTo_14 k n v1 v2 v3 v4 v5 v6 M = some q → fW G mX11_comesTo (fEm G mX11_comesTo (rV q) fNo) 0 0 14 [some (rv G 418), some (iv v1), some (iv v2), some (iv v3), some (iv v4), some (iv v5), some (iv v6), none] [] M := by
  intro n
  induction n with
  | zero =>
    intro v1 v2 v3 v4 v5 v6 M gv1 gv2 gv3 gv4 gv5 gv6 h
    rw [L_X11_comesTo_14] at h
    exact absurd h (by simp)
  | succ n ih =>
    intro v1 v2 v3 v4 v5 v6 M gv1 gv2 gv3 gv4 gv5 gv6 h
    rw [L_X11_comesTo_14] at h
    refine fW_rg (fun hR => ?_)
    refine fW_iload 16 dX11_comesTo_14 rfl rfl ?_
    refine fW_iload_n 17 dX11_comesTo_16 rfl rfl ?_
    refine fW_icmp_ge 20 63 gv6 gv2 dX11_comesTo_17 rfl rfl (fun c3 => ?_) (fun c3 => ?_)
    · replace h := fTt h c3
      exact fW_sb (hk v2 v3 v4 v5 M gv2 gv3 gv4 gv5 h) ⟨rfl, rfl, rfl, rfl, rfl, trivial⟩
    · replace h := fFf h c3
      refine fW_aload_n 21 dX11_comesTo_20 rfl rfl ?_
      refine fW_iload 23 dX11_comesTo_21 rfl rfl ?_
      obtain ⟨r4, e4, h⟩ := fBd h
      refine fW_cP (fI_V (as := [iv v6]) (rest := []) miX11_leadOf hg clX11 rfl tc_418 wd_1447 (fRoom_of rfl) rfl (Nat.le_of_ble_eq_true rfl) dX11_comesTo_23) (s_X11_leadOf hg gv6 e4) rfl rfl rfl (fun g4 => ?_)
      refine fW_istore 28 (ls' := [some (rv G 418), some (iv v1), some (iv v2), some (iv v3), some (iv v4), some (iv v5), some (iv v6), some (iv r4)]) dX11_comesTo_26 rfl rfl (by decide) ?_
      refine fW_iload 30 dX11_comesTo_28 rfl rfl ?_
      refine fW_iconst 31 dX11_comesTo_30 rfl ?_
      refine fW_icmp_eq 34 53 g4 (by decide) dX11_comesTo_31 rfl rfl (fun c5 => ?_) (fun c5 => ?_)
      · replace h := fTt h c5
        refine fW_iload 55 dX11_comesTo_53 rfl rfl ?_
        refine fW_istore 57 (ls' := [some (rv G 418), some (iv v1), some (iv v2), some (iv v3), some (iv r4), some (iv v5), some (iv v6), some (iv r4)]) dX11_comesTo_55 rfl rfl (by decide) ?_
        refine fW_iinc 60 (ls' := [some (rv G 418), some (iv v1), some (iv v2), some (iv v3), some (iv r4), some (iv v5), some (iv (v6 + 1)), some (iv r4)]) dX11_comesTo_57 rfl rfl rfl (by decide) ?_
        refine fW_goto 14 dX11_comesTo_60 rfl ?_
        exact fW_sb (ih v1 v2 v3 r4 v5 (v6 + 1) M gv1 gv2 gv3 g4 gv5 (rg_succ' gv6 gv2 c3) h) ⟨rfl, rfl, rfl, rfl, rfl, rfl, rfl, trivial⟩
      · replace h := fFf h c5
        refine fW_aload_n 35 dX11_comesTo_34 rfl rfl ?_
        refine fW_iload 37 dX11_comesTo_35 rfl rfl ?_
        refine fW_iload 39 dX11_comesTo_37 rfl rfl ?_
        refine fW_iload 41 dX11_comesTo_39 rfl rfl ?_
        obtain ⟨r6, e6, h⟩ := fBd h
        refine fW_cV (fI_V (as := [iv r4, iv v4, iv v5]) (rest := []) miX11_bounds hg clX11 rfl tc_418 wd_1463 (fRoom_of rfl) rfl (Nat.le_of_ble_eq_true rfl) dX11_comesTo_41) (s_X11_bounds hg g4 gv4 gv5 e6) rfl rfl rfl ?_
        refine fW_rg (fun hR7 => ?_)
        refine fW_aload_n 45 dX11_comesTo_44 rfl rfl ?_
        refine fW_iload 47 dX11_comesTo_45 rfl rfl ?_
        refine fW_iload_n 48 dX11_comesTo_47 rfl rfl ?_
        obtain ⟨r8, e8, h⟩ := fBd h
        refine fW_cP (fI_V (as := [iv r4, iv v1]) (rest := []) miX11_fallsIn hg clX11 rfl tc_418 wd_1471 (fRoom_of rfl) rfl (Nat.le_of_ble_eq_true rfl) dX11_comesTo_48) (s_X11_fallsIn hg g4 gv1 e8) rfl rfl rfl (fun g8 => ?_)
        refine fW_rg (fun hR9 => ?_)
        refine fW_istore 53 (ls' := [some (rv G 418), some (iv v1), some (iv v2), some (iv v3), some (iv v4), some (iv r8.1), some (iv v6), some (iv r4)]) dX11_comesTo_51 rfl rfl (by decide) ?_
        refine fW_iload 55 dX11_comesTo_53 rfl rfl ?_
        refine fW_istore 57 (ls' := [some (rv G 418), some (iv v1), some (iv v2), some (iv v3), some (iv r4), some (iv r8.1), some (iv v6), some (iv r4)]) dX11_comesTo_55 rfl rfl (by decide) ?_
        refine fW_iinc 60 (ls' := [some (rv G 418), some (iv v1), some (iv v2), some (iv v3), some (iv r4), some (iv r8.1), some (iv (v6 + 1)), some (iv r4)]) dX11_comesTo_57 rfl rfl rfl (by decide) ?_
        refine fW_goto 14 dX11_comesTo_60 rfl ?_
        exact fW_sb (ih v1 v2 v3 r4 r8.1 (v6 + 1) r8.2 gv1 gv2 gv3 g4 g8 (rg_succ' gv6 gv2 c3) h) ⟨rfl, rfl, rfl, rfl, rfl, rfl, rfl, trivial⟩
def f_X11_comesTo (a1 : Int) (a2 : Int) (a3 : Int) (M : fMem) : Option (fMem) := ((f_X11_laysEntries 0 M).bind fun (r1 : fMem) => L_X11_comesTo_14 (fun (v2_10 : Int) (v3_10 : Int) (v4_10 : Int) (v5_10 : Int) (M_10 : fMem) => ((f_X11_rowAt v2_10 v3_10 M_10).bind fun (r11 : Int) => ((f_X11_bounds r11 v4_10 v5_10 M_10).bind fun (r12 : fMem) => some r12))) 20000 a1 a2 a3 ((-1)) 0 0 r1)
set_option maxRecDepth 100000 in
set_option maxHeartbeats 4000000 in
theorem s_X11_comesTo {G : fG} (hg : gbt G = true) {a1 : Int} (ga1 : rg a1) {a2 : Int} (ga2 : rg a2) {a3 : Int} (ga3 : rg a3) {M : fMem} {q : fMem} (h : f_X11_comesTo a1 a2 a3 M = some q) : fSp G mX11_comesTo [rv G 418, iv a1, iv a2, iv a3] M (rV q) fNo := by
  refine fSp_of (by decide +kernel) (by decide +kernel) (fC1 rfl (fC1 rfl (fC1 rfl (fC1 rfl fC0)))) (Nat.le_of_ble_eq_true rfl) ?_
  show fW G mX11_comesTo (fEm G mX11_comesTo (rV q) fNo) 0 0 0 [some (rv G 418), some (iv a1), some (iv a2), some (iv a3), none, none, none, none] [] M
  rw [f_X11_comesTo] at h
  refine fW_rg (fun hR => ?_)
  refine fW_aload_n 1 dX11_comesTo_0 rfl rfl ?_
  refine fW_iconst 2 dX11_comesTo_1 rfl ?_
  obtain ⟨r1, e1, h⟩ := fBd h
  refine fW_cV (fI_V (as := [iv 0]) (rest := []) miX11_laysEntries hg clX11 rfl tc_418 wd_1431 (fRoom_of rfl) rfl (Nat.le_of_ble_eq_true rfl) dX11_comesTo_2) (s_X11_laysEntries hg (by decide) e1) rfl rfl rfl ?_
  refine fW_rg (fun hR2 => ?_)
  refine fW_iconst 6 dX11_comesTo_5 rfl ?_
  refine fW_istore 8 (ls' := [some (rv G 418), some (iv a1), some (iv a2), some (iv a3), some (iv ((-1))), none, none, none]) dX11_comesTo_6 rfl rfl (by decide) ?_
  refine fW_iconst 9 dX11_comesTo_8 rfl ?_
  refine fW_istore 11 (ls' := [some (rv G 418), some (iv a1), some (iv a2), some (iv a3), some (iv ((-1))), some (iv 0), none, none]) dX11_comesTo_9 rfl rfl (by decide) ?_
  refine fW_iconst 12 dX11_comesTo_11 rfl ?_
  refine fW_istore 14 (ls' := [some (rv G 418), some (iv a1), some (iv a2), some (iv a3), some (iv ((-1))), some (iv 0), some (iv 0), none]) dX11_comesTo_12 rfl rfl (by decide) ?_
  refine fW_sb (l_X11_comesTo_14 hg ?_ 20000 a1 a2 a3 ((-1)) 0 0 r1 ga1 ga2 ga3 (by decide) (by decide) (by decide) h) ⟨rfl, rfl, rfl, rfl, rfl, rfl, rfl, trivial⟩
  intro v2_10 v3_10 v4_10 v5_10 M_10 gv2_10 gv3_10 gv4_10 gv5_10 h
  refine fW_rg (fun hR_10 => ?_)
  refine fW_aload_n 64 dX11_comesTo_63 rfl rfl ?_
  refine fW_iload_n 65 dX11_comesTo_64 rfl rfl ?_
  refine fW_iload_n 66 dX11_comesTo_65 rfl rfl ?_
  obtain ⟨r11, e11, h⟩ := fBd h
  refine fW_cP (fI_S (as := [iv v2_10, iv v3_10]) (rest := [rv G 418]) miX11_rowAt rfl wd_1289 (fRoom_of rfl) rfl (Nat.le_of_ble_eq_true rfl) dX11_comesTo_66) (s_X11_rowAt gv2_10 gv3_10 e11) rfl rfl rfl (fun g11 => ?_)
  refine fW_iload 71 dX11_comesTo_69 rfl rfl ?_
  refine fW_iload 73 dX11_comesTo_71 rfl rfl ?_
  obtain ⟨r12, e12, h⟩ := fBd h
  refine fW_cV (fI_V (as := [iv r11, iv v4_10, iv v5_10]) (rest := []) miX11_bounds hg clX11 rfl tc_418 wd_1463 (fRoom_of rfl) rfl (Nat.le_of_ble_eq_true rfl) dX11_comesTo_73) (s_X11_bounds hg g11 gv4_10 gv5_10 e12) rfl rfl rfl ?_
  refine fW_rg (fun hR13 => ?_)
  exact fW_vret rfl (by decide) (by decide) dX11_comesTo_76 (rV_i h)
def mX11_looks : fMt := (yX11_looks, cX11_looks, 3, some .int, { frames := 5, cells := 0, slots := 0, locals := 200 })
theorem miX11_looks : fMv mX11_looks 2 := ⟨⟨fM 1430 (by decide +kernel) rfl, fM 101 (by decide +kernel) rfl, ⟨by decide +kernel, by decide +kernel⟩, by decide +kernel⟩, fM 1428 (by decide +kernel) rfl, fM 1429 (by decide +kernel) rfl⟩
def f_X11_looks (a1 : Int) (a2 : Int) (M : fMem) : Option (Int × fMem) := ((some (mset M 418 4 0)).bind fun (N1 : fMem) => ((f_X11_isKey a1 N1).bind fun (r2 : Int) => ((f_X11_right r2 1 N1).bind fun (r3 : Int × fMem) => (if r3.1 = 0 then some (0, r3.2) else ((f_X11_laysEntries a2 r3.2).bind fun (r6 : fMem) => ((f_X11_looksFor a1 r6).bind fun (r8 : Int × fMem) => some (r8.1, r8.2)))))))
set_option maxRecDepth 100000 in
set_option maxHeartbeats 4000000 in
theorem s_X11_looks {G : fG} (hg : gbt G = true) {a1 : Int} (ga1 : rg a1) {a2 : Int} (ga2 : 0 ≤ a2 ∧ a2 ≤ 1) {M : fMem} {q : Int × fMem} (h : f_X11_looks a1 a2 M = some q) : fSp G mX11_looks [rv G 418, iv a1, iv a2] M (rP q.2 q.1) fNo := by
  refine fSp_of (by decide +kernel) (by decide +kernel) (fC1 rfl (fC1 rfl (fC1 rfl fC0))) (Nat.le_of_ble_eq_true rfl) ?_
  show fW G mX11_looks (fEm G mX11_looks (rP q.2 q.1) fNo) 0 0 0 [some (rv G 418), some (iv a1), some (iv a2)] [] M
  rw [f_X11_looks] at h
  refine fW_rg (fun hR => ?_)
  refine fW_aload_n 1 dX11_looks_0 rfl rfl ?_
  refine fW_iconst 2 dX11_looks_1 rfl ?_
  obtain ⟨N1, e1, h⟩ := fBd h
  replace e1 := Option.some.inj e1
  refine fW_putI 5 4 (ji := 4) hg clX11 rfl (by decide) rfl rfl rfl tc_418 (by decide) wd_1178 dX11_looks_2 rfl ?_
  rw [e1]
  refine fW_rg (fun hR1 => ?_)
  refine fW_aload_n 6 dX11_looks_5 rfl rfl ?_
  refine fW_iload_n 7 dX11_looks_6 rfl rfl ?_
  obtain ⟨r2, e2, h⟩ := fBd h
  refine fW_cB (fI_S (as := [iv a1]) (rest := [rv G 418]) miX11_isKey rfl wd_1275 (fRoom_of rfl) rfl (Nat.le_of_ble_eq_true rfl) dX11_looks_7) (s_X11_isKey ga1 e2) rfl rfl rfl (fun g2 => ?_)
  refine fW_iconst 11 dX11_looks_10 rfl ?_
  obtain ⟨r3, e3, h⟩ := fBd h
  refine fW_cB (fI_V (as := [iv r2, iv 1]) (rest := []) miX11_right hg clX11 rfl tc_418 wd_1396 (fRoom_of rfl) rfl (Nat.le_of_ble_eq_true rfl) dX11_looks_11) (s_X11_right hg g2 (by decide) e3) rfl rfl rfl (fun g3 => ?_)
  refine fW_rg (fun hR4 => ?_)
  refine fW_if_ne 17 19 (rg_z g3) dX11_looks_14 rfl rfl (fun c5 => ?_) (fun c5 => ?_)
  · replace h := fFf h c5
    refine fW_aload_n 20 dX11_looks_19 rfl rfl ?_
    refine fW_iload_n 21 dX11_looks_20 rfl rfl ?_
    obtain ⟨r6, e6, h⟩ := fBd h
    refine fW_cV (fI_V (as := [iv a2]) (rest := []) miX11_laysEntries hg clX11 rfl tc_418 wd_1431 (fRoom_of rfl) rfl (Nat.le_of_ble_eq_true rfl) dX11_looks_21) (s_X11_laysEntries hg ga2 e6) rfl rfl rfl ?_
    refine fW_rg (fun hR7 => ?_)
    refine fW_aload_n 25 dX11_looks_24 rfl rfl ?_
    refine fW_iload_n 26 dX11_looks_25 rfl rfl ?_
    obtain ⟨r8, e8, h⟩ := fBd h
    refine fW_cP (fI_V (as := [iv a1]) (rest := []) miX11_looksFor hg clX11 rfl tc_418 wd_1455 (fRoom_of rfl) rfl (Nat.le_of_ble_eq_true rfl) dX11_looks_26) (s_X11_looksFor hg ga1 e8) rfl rfl rfl (fun g8 => ?_)
    refine fW_rg (fun hR9 => ?_)
    exact fW_iret rfl (by decide) (by decide) dX11_looks_29 (rI_i h g8)
  · replace h := fTt h c5
    refine fW_iconst 18 dX11_looks_17 rfl ?_
    exact fW_iret rfl (by decide) (by decide) dX11_looks_18 (rI_i h (by decide))
def mX11_route : fMt := (yX11_route, cX11_route, 6, some .int, { frames := 5, cells := 0, slots := 0, locals := 200 })
theorem miX11_route : fMv mX11_route 3 := ⟨⟨fM 1482 (by decide +kernel) rfl, fM 101 (by decide +kernel) rfl, ⟨by decide +kernel, by decide +kernel⟩, by decide +kernel⟩, fM 1480 (by decide +kernel) rfl, fM 1481 (by decide +kernel) rfl⟩
def j_X11_route_73  (v2 : Int) (v3 : Int) (x1 : Int) (M : fMem) : Option (Int × fMem) := (if 0 ≤ x1 ∧ x1 ≤ 1 then ((f_X11_right x1 1 M).bind fun (r14 : Int × fMem) => (if r14.1 = 0 then some (0, r14.2) else (if v2 = ((-1)) then some (r14.2 418 22, r14.2) else (if 0 ≤ v2 ∧ v2 < 19 then (if v3 = 0 then ((f_X11_levelOf (r14.2 430 v2) r14.2).bind fun (r20 : Int) => some (r20, r14.2)) else (if v3 = 1 then ((f_X11_levelOf (r14.2 430 v2) r14.2).bind fun (r22 : Int) => (if -2147483648 ≤ (r14.2 430 v2) - (2 * r22) ∧ (r14.2 430 v2) - (2 * r22) < 2147483648 then some ((r14.2 430 v2) - (2 * r22), r14.2) else none)) else (if v3 = 2 then some (r14.2 431 v2, r14.2) else (if v3 = 3 then some (r14.2 432 v2, r14.2) else (if v3 = 4 then some (r14.2 433 v2, r14.2) else some (r14.2 434 v2, r14.2)))))) else none)))) else none)
set_option maxRecDepth 100000 in
set_option maxHeartbeats 4000000 in
theorem i_X11_route_73 {G : fG} (hg : gbt G = true)  {v2 : Int} {v3 : Int} {x1 : Int} (gv2 : rg v2) (gv3 : rg v3) (gx1 : rg x1) {M : fMem} {q : Int × fMem} (h : j_X11_route_73 v2 v3 x1 M = some q) : fW G mX11_route (fEm G mX11_route (rP q.2 q.1) fNo) 0 0 73 [some (rv G 418), none, some (iv v2), some (iv v3), none, none] [iv x1, rv G 418] M := by
  rw [j_X11_route_73] at h
  refine fW_rg (fun hR => ?_)
  refine fW_iconst 74 dX11_route_73 rfl ?_
  obtain ⟨c13, h⟩ := fS h
  obtain ⟨r14, e14, h⟩ := fBd h
  refine fW_cB (fI_V (as := [iv x1, iv 1]) (rest := []) miX11_right hg clX11 rfl tc_418 wd_1396 (fRoom_of rfl) rfl (Nat.le_of_ble_eq_true rfl) dX11_route_74) (s_X11_right hg c13 (by decide) e14) rfl rfl rfl (fun g14 => ?_)
  refine fW_rg (fun hR15 => ?_)
  refine fW_if_ne 80 82 (rg_z g14) dX11_route_77 rfl rfl (fun c16 => ?_) (fun c16 => ?_)
  · replace h := fFf h c16
    refine fW_iload_n 83 dX11_route_82 rfl rfl ?_
    refine fW_iconst 84 dX11_route_83 rfl ?_
    refine fW_icmp_ne 87 92 gv2 (by decide) dX11_route_84 rfl rfl (fun c17 => ?_) (fun c17 => ?_)
    · replace h := fFf h c17
      refine fW_aload_n 93 dX11_route_92 rfl rfl ?_
      refine fW_getR 96 (r := 430) 17 hg clX11 (by decide) rfl tc_418 tf_11_17 wd_1191 dX11_route_93 rfl ?_
      refine fW_iload_n 97 dX11_route_96 rfl rfl ?_
      obtain ⟨c18, h⟩ := fS h
      refine fW_iald 98 hg tc_430 ⟨c18.1, by rw [show Ln 430 = 19 from rfl]; exact c18.2⟩ dX11_route_97 rfl ?_
      refine fW_istore 100 (ls' := [some (rv G 418), none, some (iv v2), some (iv v3), none, some (iv (r14.2 430 v2))]) dX11_route_98 rfl rfl (by decide) ?_
      refine fW_iload_n 101 dX11_route_100 rfl rfl ?_
      have gs := gv3
      by_cases c19 : v3 = 0
      · replace h := fTt h c19
        refine fW_tabIn 136 c19 (by decide) dX11_route_101 (by decide) (by decide) rfl rfl ?_
        refine fW_iload 138 dX11_route_136 rfl rfl ?_
        obtain ⟨r20, e20, h⟩ := fBd h
        refine fW_cP (fI_S (as := [iv (r14.2 430 v2)]) (rest := []) miX11_levelOf rfl wd_1412 (fRoom_of rfl) rfl (Nat.le_of_ble_eq_true rfl) dX11_route_138) (s_X11_levelOf (hR15 430 v2) e20) rfl rfl rfl (fun g20 => ?_)
        exact fW_iret rfl (by decide) (by decide) dX11_route_141 (rI_i h g20)
      replace h := fFf h c19
      by_cases c21 : v3 = 1
      · replace h := fTt h c21
        refine fW_tabIn 142 c21 (by decide) dX11_route_101 (by decide) (by decide) rfl rfl ?_
        refine fW_iload 144 dX11_route_142 rfl rfl ?_
        refine fW_iconst 145 dX11_route_144 rfl ?_
        refine fW_iload 147 dX11_route_145 rfl rfl ?_
        obtain ⟨r22, e22, h⟩ := fBd h
        refine fW_cP (fI_S (as := [iv (r14.2 430 v2)]) (rest := [iv 2, iv (r14.2 430 v2)]) miX11_levelOf rfl wd_1412 (fRoom_of rfl) rfl (Nat.le_of_ble_eq_true rfl) dX11_route_147) (s_X11_levelOf (hR15 430 v2) e22) rfl rfl rfl (fun g22 => ?_)
        refine fW_imul 151 dX11_route_150 rfl ?_
        refine fW_isub 152 dX11_route_151 rfl ?_
        obtain ⟨c23, h⟩ := fS h
        exact fW_iret rfl (by decide) (by decide) dX11_route_152 (rI_i h c23)
      replace h := fFf h c21
      by_cases c24 : v3 = 2
      · replace h := fTt h c24
        refine fW_tabIn 153 c24 (by decide) dX11_route_101 (by decide) (by decide) rfl rfl ?_
        refine fW_aload_n 154 dX11_route_153 rfl rfl ?_
        refine fW_getR 157 (r := 431) 18 hg clX11 (by decide) rfl tc_418 tf_11_18 wd_1192 dX11_route_154 rfl ?_
        refine fW_iload_n 158 dX11_route_157 rfl rfl ?_
        refine fW_iald 159 hg tc_431 ⟨c18.1, by rw [show Ln 431 = 19 from rfl]; exact c18.2⟩ dX11_route_158 rfl ?_
        exact fW_iret rfl (by decide) (by decide) dX11_route_159 (rI_i h (hR15 431 v2))
      replace h := fFf h c24
      by_cases c25 : v3 = 3
      · replace h := fTt h c25
        refine fW_tabIn 160 c25 (by decide) dX11_route_101 (by decide) (by decide) rfl rfl ?_
        refine fW_aload_n 161 dX11_route_160 rfl rfl ?_
        refine fW_getR 164 (r := 432) 19 hg clX11 (by decide) rfl tc_418 tf_11_19 wd_1193 dX11_route_161 rfl ?_
        refine fW_iload_n 165 dX11_route_164 rfl rfl ?_
        refine fW_iald 166 hg tc_432 ⟨c18.1, by rw [show Ln 432 = 19 from rfl]; exact c18.2⟩ dX11_route_165 rfl ?_
        exact fW_iret rfl (by decide) (by decide) dX11_route_166 (rI_i h (hR15 432 v2))
      replace h := fFf h c25
      by_cases c26 : v3 = 4
      · replace h := fTt h c26
        refine fW_tabIn 167 c26 (by decide) dX11_route_101 (by decide) (by decide) rfl rfl ?_
        refine fW_aload_n 168 dX11_route_167 rfl rfl ?_
        refine fW_getR 171 (r := 433) 20 hg clX11 (by decide) rfl tc_418 tf_11_20 wd_1194 dX11_route_168 rfl ?_
        refine fW_iload_n 172 dX11_route_171 rfl rfl ?_
        refine fW_iald 173 hg tc_433 ⟨c18.1, by rw [show Ln 433 = 19 from rfl]; exact c18.2⟩ dX11_route_172 rfl ?_
        exact fW_iret rfl (by decide) (by decide) dX11_route_173 (rI_i h (hR15 433 v2))
      replace h := fFf h c26
      refine fW_tabOut 174 gs dX11_route_101 (by omega) rfl ?_
      refine fW_aload_n 175 dX11_route_174 rfl rfl ?_
      refine fW_getR 178 (r := 434) 21 hg clX11 (by decide) rfl tc_418 tf_11_21 wd_1195 dX11_route_175 rfl ?_
      refine fW_iload_n 179 dX11_route_178 rfl rfl ?_
      refine fW_iald 180 hg tc_434 ⟨c18.1, by rw [show Ln 434 = 19 from rfl]; exact c18.2⟩ dX11_route_179 rfl ?_
      exact fW_iret rfl (by decide) (by decide) dX11_route_180 (rI_i h (hR15 434 v2))
    · replace h := fTt h c17
      refine fW_aload_n 88 dX11_route_87 rfl rfl ?_
      refine fW_getI 91 22 (ji := 22) hg clX11 rfl (by decide) rfl tc_418 wd_1196 dX11_route_88 rfl ?_
      exact fW_iret rfl (by decide) (by decide) dX11_route_91 (rI_i h (hR15 418 22))
  · replace h := fTt h c16
    refine fW_iconst 81 dX11_route_80 rfl ?_
    exact fW_iret rfl (by decide) (by decide) dX11_route_81 (rI_i h (by decide))
def j_X11_route_68  (v2 : Int) (v3 : Int) (M : fMem) : Option (Int × fMem) := j_X11_route_73 v2 v3 1 M
set_option maxRecDepth 100000 in
set_option maxHeartbeats 4000000 in
theorem i_X11_route_68 {G : fG} (hg : gbt G = true)  {v2 : Int} {v3 : Int} (gv2 : rg v2) (gv3 : rg v3) {M : fMem} {q : Int × fMem} (h : j_X11_route_68 v2 v3 M = some q) : fW G mX11_route (fEm G mX11_route (rP q.2 q.1) fNo) 0 0 68 [some (rv G 418), none, some (iv v2), some (iv v3), none, none] [rv G 418] M := by
  rw [j_X11_route_68] at h
  refine fW_rg (fun hR => ?_)
  refine fW_iconst 69 dX11_route_68 rfl ?_
  refine fW_goto 73 dX11_route_69 rfl ?_
  exact fW_sb (i_X11_route_73 hg gv2 gv3 (by decide) h) ⟨rfl, rfl, rfl, trivial⟩
def j_X11_route_27  (v1 : Int) (v2 : Int) (v3 : Int) (x1 : Int) (M : fMem) : Option (Int × fMem) := (if 0 ≤ x1 ∧ x1 ≤ 1 then ((f_X11_right x1 1 M).bind fun (r5 : Int × fMem) => (if r5.1 = 0 then some (0, r5.2) else ((f_X11_laysEntries 0 r5.2).bind fun (r8 : fMem) => ((f_X11_looksFor v1 r8).bind fun (r10 : Int × fMem) => (if v2 = ((-1)) then j_X11_route_68 v2 v3 r10.2 else (if -2147483648 ≤ (r10.2 418 22) - 1 ∧ (r10.2 418 22) - 1 < 2147483648 then ((f_X11_isIn v2 0 ((r10.2 418 22) - 1) r10.2).bind fun (r28 : Int) => (if r28 = 0 then j_X11_route_73 v2 v3 0 r10.2 else j_X11_route_68 v2 v3 r10.2)) else none)))))) else none)
set_option maxRecDepth 100000 in
set_option maxHeartbeats 4000000 in
theorem i_X11_route_27 {G : fG} (hg : gbt G = true)  {v1 : Int} {v2 : Int} {v3 : Int} {x1 : Int} (gv1 : rg v1) (gv2 : rg v2) (gv3 : rg v3) (gx1 : rg x1) {M : fMem} {q : Int × fMem} (h : j_X11_route_27 v1 v2 v3 x1 M = some q) : fW G mX11_route (fEm G mX11_route (rP q.2 q.1) fNo) 0 0 27 [some (rv G 418), some (iv v1), some (iv v2), some (iv v3), none, none] [iv x1, rv G 418] M := by
  rw [j_X11_route_27] at h
  refine fW_rg (fun hR => ?_)
  refine fW_iconst 28 dX11_route_27 rfl ?_
  obtain ⟨c4, h⟩ := fS h
  obtain ⟨r5, e5, h⟩ := fBd h
  refine fW_cB (fI_V (as := [iv x1, iv 1]) (rest := []) miX11_right hg clX11 rfl tc_418 wd_1396 (fRoom_of rfl) rfl (Nat.le_of_ble_eq_true rfl) dX11_route_28) (s_X11_right hg c4 (by decide) e5) rfl rfl rfl (fun g5 => ?_)
  refine fW_rg (fun hR6 => ?_)
  refine fW_if_ne 34 36 (rg_z g5) dX11_route_31 rfl rfl (fun c7 => ?_) (fun c7 => ?_)
  · replace h := fFf h c7
    refine fW_aload_n 37 dX11_route_36 rfl rfl ?_
    refine fW_iconst 38 dX11_route_37 rfl ?_
    obtain ⟨r8, e8, h⟩ := fBd h
    refine fW_cV (fI_V (as := [iv 0]) (rest := []) miX11_laysEntries hg clX11 rfl tc_418 wd_1431 (fRoom_of rfl) rfl (Nat.le_of_ble_eq_true rfl) dX11_route_38) (s_X11_laysEntries hg (by decide) e8) rfl rfl rfl ?_
    refine fW_rg (fun hR9 => ?_)
    refine fW_aload_n 42 dX11_route_41 rfl rfl ?_
    refine fW_iload_n 43 dX11_route_42 rfl rfl ?_
    obtain ⟨r10, e10, h⟩ := fBd h
    refine fW_cP (fI_V (as := [iv v1]) (rest := []) miX11_looksFor hg clX11 rfl tc_418 wd_1455 (fRoom_of rfl) rfl (Nat.le_of_ble_eq_true rfl) dX11_route_43) (s_X11_looksFor hg gv1 e10) rfl rfl rfl (fun g10 => ?_)
    refine fW_rg (fun hR11 => ?_)
    refine fW_istore 48 (ls' := [some (rv G 418), some (iv v1), some (iv v2), some (iv v3), some (iv r10.1), none]) dX11_route_46 rfl rfl (by decide) ?_
    refine fW_aload_n 49 dX11_route_48 rfl rfl ?_
    refine fW_iload_n 50 dX11_route_49 rfl rfl ?_
    refine fW_iconst 51 dX11_route_50 rfl ?_
    refine fW_icmp_eq 54 68 gv2 (by decide) dX11_route_51 rfl rfl (fun c12 => ?_) (fun c12 => ?_)
    · replace h := fTt h c12
      exact fW_sb (i_X11_route_68 hg gv2 gv3 h) ⟨rfl, rfl, rfl, trivial⟩
    · replace h := fFf h c12
      refine fW_iload_n 55 dX11_route_54 rfl rfl ?_
      refine fW_iconst 56 dX11_route_55 rfl ?_
      refine fW_aload_n 57 dX11_route_56 rfl rfl ?_
      refine fW_getI 60 22 (ji := 22) hg clX11 rfl (by decide) rfl tc_418 wd_1196 dX11_route_57 rfl ?_
      refine fW_iconst 61 dX11_route_60 rfl ?_
      refine fW_isub 62 dX11_route_61 rfl ?_
      obtain ⟨c27, h⟩ := fS h
      obtain ⟨r28, e28, h⟩ := fBd h
      refine fW_cB (fI_S (as := [iv v2, iv 0, iv ((r10.2 418 22) - 1)]) (rest := [rv G 418]) miX11_isIn rfl wd_1272 (fRoom_of rfl) rfl (Nat.le_of_ble_eq_true rfl) dX11_route_62) (s_X11_isIn gv2 (by decide) c27 e28) rfl rfl rfl (fun g28 => ?_)
      refine fW_if_eq 68 72 (rg_z g28) dX11_route_65 rfl rfl (fun c29 => ?_) (fun c29 => ?_)
      · replace h := fTt h c29
        refine fW_iconst 73 dX11_route_72 rfl ?_
        exact fW_sb (i_X11_route_73 hg gv2 gv3 (by decide) h) ⟨rfl, rfl, rfl, trivial⟩
      · replace h := fFf h c29
        exact fW_sb (i_X11_route_68 hg gv2 gv3 h) ⟨rfl, rfl, rfl, trivial⟩
  · replace h := fTt h c7
    refine fW_iconst 35 dX11_route_34 rfl ?_
    exact fW_iret rfl (by decide) (by decide) dX11_route_35 (rI_i h (by decide))
def j_X11_route_26  (v1 : Int) (v2 : Int) (v3 : Int) (M : fMem) : Option (Int × fMem) := j_X11_route_27 v1 v2 v3 0 M
set_option maxRecDepth 100000 in
set_option maxHeartbeats 4000000 in
theorem i_X11_route_26 {G : fG} (hg : gbt G = true)  {v1 : Int} {v2 : Int} {v3 : Int} (gv1 : rg v1) (gv2 : rg v2) (gv3 : rg v3) {M : fMem} {q : Int × fMem} (h : j_X11_route_26 v1 v2 v3 M = some q) : fW G mX11_route (fEm G mX11_route (rP q.2 q.1) fNo) 0 0 26 [some (rv G 418), some (iv v1), some (iv v2), some (iv v3), none, none] [rv G 418] M := by
  rw [j_X11_route_26] at h
  refine fW_rg (fun hR => ?_)
  refine fW_iconst 27 dX11_route_26 rfl ?_
  exact fW_sb (i_X11_route_27 hg gv1 gv2 gv3 (by decide) h) ⟨rfl, rfl, rfl, rfl, trivial⟩
def f_X11_route (a1 : Int) (a2 : Int) (a3 : Int) (M : fMem) : Option (Int × fMem) := ((some (mset M 418 4 0)).bind fun (N1 : fMem) => ((f_X11_isKey a1 N1).bind fun (r2 : Int) => (if r2 = 0 then j_X11_route_26 a1 a2 a3 N1 else ((f_X11_isIn a3 0 5 N1).bind fun (r30 : Int) => (if r30 = 0 then j_X11_route_26 a1 a2 a3 N1 else j_X11_route_27 a1 a2 a3 1 N1)))))
set_option maxRecDepth 100000 in
set_option maxHeartbeats 4000000 in
theorem s_X11_route {G : fG} (hg : gbt G = true) {a1 : Int} (ga1 : rg a1) {a2 : Int} (ga2 : rg a2) {a3 : Int} (ga3 : rg a3) {M : fMem} {q : Int × fMem} (h : f_X11_route a1 a2 a3 M = some q) : fSp G mX11_route [rv G 418, iv a1, iv a2, iv a3] M (rP q.2 q.1) fNo := by
  refine fSp_of (by decide +kernel) (by decide +kernel) (fC1 rfl (fC1 rfl (fC1 rfl (fC1 rfl fC0)))) (Nat.le_of_ble_eq_true rfl) ?_
  show fW G mX11_route (fEm G mX11_route (rP q.2 q.1) fNo) 0 0 0 [some (rv G 418), some (iv a1), some (iv a2), some (iv a3), none, none] [] M
  rw [f_X11_route] at h
  refine fW_rg (fun hR => ?_)
  refine fW_aload_n 1 dX11_route_0 rfl rfl ?_
  refine fW_iconst 2 dX11_route_1 rfl ?_
  obtain ⟨N1, e1, h⟩ := fBd h
  replace e1 := Option.some.inj e1
  refine fW_putI 5 4 (ji := 4) hg clX11 rfl (by decide) rfl rfl rfl tc_418 (by decide) wd_1178 dX11_route_2 rfl ?_
  rw [e1]
  refine fW_rg (fun hR1 => ?_)
  refine fW_aload_n 6 dX11_route_5 rfl rfl ?_
  refine fW_iload_n 7 dX11_route_6 rfl rfl ?_
  obtain ⟨r2, e2, h⟩ := fBd h
  refine fW_cB (fI_S (as := [iv a1]) (rest := [rv G 418]) miX11_isKey rfl wd_1275 (fRoom_of rfl) rfl (Nat.le_of_ble_eq_true rfl) dX11_route_7) (s_X11_isKey ga1 e2) rfl rfl rfl (fun g2 => ?_)
  refine fW_if_eq 13 26 (rg_z g2) dX11_route_10 rfl rfl (fun c3 => ?_) (fun c3 => ?_)
  · replace h := fTt h c3
    exact fW_sb (i_X11_route_26 hg ga1 ga2 ga3 h) ⟨rfl, rfl, rfl, rfl, trivial⟩
  · replace h := fFf h c3
    refine fW_iload_n 14 dX11_route_13 rfl rfl ?_
    refine fW_iconst 15 dX11_route_14 rfl ?_
    refine fW_iconst 16 dX11_route_15 rfl ?_
    obtain ⟨r30, e30, h⟩ := fBd h
    refine fW_cB (fI_S (as := [iv a3, iv 0, iv 5]) (rest := [rv G 418]) miX11_isIn rfl wd_1272 (fRoom_of rfl) rfl (Nat.le_of_ble_eq_true rfl) dX11_route_16) (s_X11_isIn ga3 (by decide) (by decide) e30) rfl rfl rfl (fun g30 => ?_)
    refine fW_if_eq 22 26 (rg_z g30) dX11_route_19 rfl rfl (fun c31 => ?_) (fun c31 => ?_)
    · replace h := fTt h c31
      exact fW_sb (i_X11_route_26 hg ga1 ga2 ga3 h) ⟨rfl, rfl, rfl, rfl, trivial⟩
    · replace h := fFf h c31
      refine fW_iconst 23 dX11_route_22 rfl ?_
      refine fW_goto 27 dX11_route_23 rfl ?_
      exact fW_sb (i_X11_route_27 hg ga1 ga2 ga3 (by decide) h) ⟨rfl, rfl, rfl, rfl, trivial⟩
end MTH
