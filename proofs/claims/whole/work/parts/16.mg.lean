section MTH
def mX11_isAhead : fMt := (yX11_isAhead, cX11_isAhead, 5, some .boolean, { frames := 0, cells := 0, slots := 0, locals := 0 })
theorem miX11_isAhead : fMv mX11_isAhead 4 := ⟨⟨fM 1446 (by decide +kernel) rfl, fM 101 (by decide +kernel) rfl, ⟨by decide +kernel, by decide +kernel⟩, by decide +kernel⟩, fM 1445 (by decide +kernel) rfl, fM 57 (by decide +kernel) rfl⟩
def f_X11_isAhead (a1 : Int) (a2 : Int) (a3 : Int) (a4 : Int) (M : fMem) : Option (Int) := (if 0 ≤ a1 ∧ a1 < 13300 then (if (M 425 a1) = a2 then (if (M 426 a1) = a3 then (if a4 ≤ (M 428 a1) then some 0 else some 1) else (if a3 ≤ (M 426 a1) then some 0 else some 1)) else (if a2 ≤ (M 425 a1) then some 0 else some 1)) else none)
set_option maxRecDepth 100000 in
set_option maxHeartbeats 4000000 in
theorem s_X11_isAhead {G : fG} (hg : gbt G = true) {a1 : Int} (ga1 : rg a1) {a2 : Int} (ga2 : rg a2) {a3 : Int} (ga3 : rg a3) {a4 : Int} (ga4 : rg a4) {M : fMem} {q : Int} (h : f_X11_isAhead a1 a2 a3 a4 M = some q) : fSp G mX11_isAhead [rv G 418, iv a1, iv a2, iv a3, iv a4] M (rB M q) fNo := by
  refine fSp_of (by decide +kernel) (by decide +kernel) (fC1 rfl (fC1 rfl (fC1 rfl (fC1 rfl (fC1 rfl fC0))))) (Nat.le_of_ble_eq_true rfl) ?_
  show fW G mX11_isAhead (fEm G mX11_isAhead (rB M q) fNo) 0 0 0 [some (rv G 418), some (iv a1), some (iv a2), some (iv a3), some (iv a4)] [] M
  rw [f_X11_isAhead] at h
  refine fW_rg (fun hR => ?_)
  refine fW_aload_n 1 dX11_isAhead_0 rfl rfl ?_
  refine fW_getR 4 (r := 425) 8 hg clX11 (by decide) rfl tc_418 tf_11_8 wd_1182 dX11_isAhead_1 rfl ?_
  refine fW_iload_n 5 dX11_isAhead_4 rfl rfl ?_
  obtain ⟨c1, h⟩ := fS h
  refine fW_iald 6 hg tc_425 ⟨c1.1, by rw [show Ln 425 = 13300 from rfl]; exact c1.2⟩ dX11_isAhead_5 rfl ?_
  refine fW_iload_n 7 dX11_isAhead_6 rfl rfl ?_
  refine fW_icmp_eq 10 26 (hR 425 a1) ga2 dX11_isAhead_7 rfl rfl (fun c2 => ?_) (fun c2 => ?_)
  · replace h := fTt h c2
    refine fW_aload_n 27 dX11_isAhead_26 rfl rfl ?_
    refine fW_getR 30 (r := 426) 9 hg clX11 (by decide) rfl tc_418 tf_11_9 wd_1183 dX11_isAhead_27 rfl ?_
    refine fW_iload_n 31 dX11_isAhead_30 rfl rfl ?_
    refine fW_iald 32 hg tc_426 ⟨c1.1, by rw [show Ln 426 = 13300 from rfl]; exact c1.2⟩ dX11_isAhead_31 rfl ?_
    refine fW_iload_n 33 dX11_isAhead_32 rfl rfl ?_
    refine fW_icmp_eq 36 54 (hR 426 a1) ga3 dX11_isAhead_33 rfl rfl (fun c3 => ?_) (fun c3 => ?_)
    · replace h := fTt h c3
      refine fW_aload_n 55 dX11_isAhead_54 rfl rfl ?_
      refine fW_getR 58 (r := 428) 11 hg clX11 (by decide) rfl tc_418 tf_11_11 wd_1185 dX11_isAhead_55 rfl ?_
      refine fW_iload_n 59 dX11_isAhead_58 rfl rfl ?_
      refine fW_iald 60 hg tc_428 ⟨c1.1, by rw [show Ln 428 = 13300 from rfl]; exact c1.2⟩ dX11_isAhead_59 rfl ?_
      refine fW_iload 62 dX11_isAhead_60 rfl rfl ?_
      refine fW_icmp_ge 65 69 (hR 428 a1) ga4 dX11_isAhead_62 rfl rfl (fun c4 => ?_) (fun c4 => ?_)
      · replace h := fTt h c4
        refine fW_iconst 70 dX11_isAhead_69 rfl ?_
        exact fW_zret rfl (by decide) (by decide) (by decide) dX11_isAhead_70 (rB_i h (by decide))
      · replace h := fFf h c4
        refine fW_iconst 66 dX11_isAhead_65 rfl ?_
        refine fW_goto 70 dX11_isAhead_66 rfl ?_
        exact fW_zret rfl (by decide) (by decide) (by decide) dX11_isAhead_70 (rB_i h (by decide))
    · replace h := fFf h c3
      refine fW_aload_n 37 dX11_isAhead_36 rfl rfl ?_
      refine fW_getR 40 (r := 426) 9 hg clX11 (by decide) rfl tc_418 tf_11_9 wd_1183 dX11_isAhead_37 rfl ?_
      refine fW_iload_n 41 dX11_isAhead_40 rfl rfl ?_
      refine fW_iald 42 hg tc_426 ⟨c1.1, by rw [show Ln 426 = 13300 from rfl]; exact c1.2⟩ dX11_isAhead_41 rfl ?_
      refine fW_iload_n 43 dX11_isAhead_42 rfl rfl ?_
      refine fW_icmp_ge 46 50 (hR 426 a1) ga3 dX11_isAhead_43 rfl rfl (fun c5 => ?_) (fun c5 => ?_)
      · replace h := fTt h c5
        refine fW_iconst 51 dX11_isAhead_50 rfl ?_
        refine fW_goto 70 dX11_isAhead_51 rfl ?_
        exact fW_zret rfl (by decide) (by decide) (by decide) dX11_isAhead_70 (rB_i h (by decide))
      · replace h := fFf h c5
        refine fW_iconst 47 dX11_isAhead_46 rfl ?_
        refine fW_goto 70 dX11_isAhead_47 rfl ?_
        exact fW_zret rfl (by decide) (by decide) (by decide) dX11_isAhead_70 (rB_i h (by decide))
  · replace h := fFf h c2
    refine fW_aload_n 11 dX11_isAhead_10 rfl rfl ?_
    refine fW_getR 14 (r := 425) 8 hg clX11 (by decide) rfl tc_418 tf_11_8 wd_1182 dX11_isAhead_11 rfl ?_
    refine fW_iload_n 15 dX11_isAhead_14 rfl rfl ?_
    refine fW_iald 16 hg tc_425 ⟨c1.1, by rw [show Ln 425 = 13300 from rfl]; exact c1.2⟩ dX11_isAhead_15 rfl ?_
    refine fW_iload_n 17 dX11_isAhead_16 rfl rfl ?_
    refine fW_icmp_ge 20 24 (hR 425 a1) ga2 dX11_isAhead_17 rfl rfl (fun c6 => ?_) (fun c6 => ?_)
    · replace h := fTt h c6
      refine fW_iconst 25 dX11_isAhead_24 rfl ?_
      exact fW_zret rfl (by decide) (by decide) (by decide) dX11_isAhead_25 (rB_i h (by decide))
    · replace h := fFf h c6
      refine fW_iconst 21 dX11_isAhead_20 rfl ?_
      refine fW_goto 25 dX11_isAhead_21 rfl ?_
      exact fW_zret rfl (by decide) (by decide) (by decide) dX11_isAhead_25 (rB_i h (by decide))
def mX11_puts : fMt := (yX11_puts, cX11_puts, 8, none, { frames := 1, cells := 0, slots := 0, locals := 40 })
theorem miX11_puts : fMv mX11_puts 5 := ⟨⟨fM 1442 (by decide +kernel) rfl, fM 101 (by decide +kernel) rfl, ⟨by decide +kernel, by decide +kernel⟩, by decide +kernel⟩, fM 1441 (by decide +kernel) rfl, fM 56 (by decide +kernel) rfl⟩
def L_X11_puts_15  (k : Int → Int → Int → Int → Int → Int → Int → fMem → Option (fMem)) : Nat → Int → Int → Int → Int → Int → Int → Int → fMem → Option (fMem)
  | 0, _, _, _, _, _, _, _, _ => none
  | n + 1, v1, v2, v3, v4, v5, v6, v7, M => (if v7 ≤ 0 then k v1 v2 v3 v4 v5 v6 v7 M else (if -2147483648 ≤ (v6 + v7) - 1 ∧ (v6 + v7) - 1 < 2147483648 then ((f_X11_isAhead ((v6 + v7) - 1) v2 v3 v5 M).bind fun (r5 : Int) => (if r5 = 0 then (if 0 ≤ (v6 + v7) - 1 ∧ (v6 + v7) - 1 < 13300 then (if 0 ≤ v6 + v7 ∧ v6 + v7 < 13300 then ((some (mset M 425 (v6 + v7) (M 425 ((v6 + v7) - 1)))).bind fun (N9 : fMem) => ((some (mset N9 426 (v6 + v7) (N9 426 ((v6 + v7) - 1)))).bind fun (N10 : fMem) => ((some (mset N10 427 (v6 + v7) (N10 427 ((v6 + v7) - 1)))).bind fun (N11 : fMem) => ((some (mset N11 428 (v6 + v7) (N11 428 ((v6 + v7) - 1)))).bind fun (N12 : fMem) => L_X11_puts_15  k n v1 v2 v3 v4 v5 v6 (v7 + -1) N12)))) else none) else none) else k v1 v2 v3 v4 v5 v6 v7 M)) else none))
set_option maxRecDepth 100000 in
set_option maxHeartbeats 4000000 in
theorem l_X11_puts_15 {G : fG} (hg : gbt G = true)  {q : fMem} {k : Int → Int → Int → Int → Int → Int → Int → fMem → Option (fMem)} (hk : ∀ (v1 : Int) (v2 : Int) (v3 : Int) (v4 : Int) (v5 : Int) (v6 : Int) (v7 : Int) (M : fMem), rg v1 → rg v2 → rg v3 → rg v4 → rg v5 → rg v6 → rg v7 → k v1 v2 v3 v4 v5 v6 v7 M = some q → fW G mX11_puts (fEm G mX11_puts (rV q) fNo) 0 0 132 [some (rv G 418), some (iv v1), some (iv v2), some (iv v3), some (iv v4), some (iv v5), some (iv v6), some (iv v7)] [] M) : ∀ (n : Nat) (v1 : Int) (v2 : Int) (v3 : Int) (v4 : Int) (v5 : Int) (v6 : Int) (v7 : Int) (M : fMem), rg v1 → rg v2 → rg v3 → rg v4 → rg v5 → rg v6 → rg v7 → L_X11_puts_15 k n v1 v2 v3 v4 v5 v6 v7 M = some q → fW G mX11_puts (fEm G mX11_puts (rV q) fNo) 0 0 15 [some (rv G 418), some (iv v1), some (iv v2), some (iv v3), some (iv v4), some (iv v5), some (iv v6), some (iv v7)] [] M := by
  intro n
  induction n with
  | zero =>
    intro v1 v2 v3 v4 v5 v6 v7 M gv1 gv2 gv3 gv4 gv5 gv6 gv7 h
    rw [L_X11_puts_15] at h
    exact absurd h (by simp)
  | succ n ih =>
    intro v1 v2 v3 v4 v5 v6 v7 M gv1 gv2 gv3 gv4 gv5 gv6 gv7 h
    rw [L_X11_puts_15] at h
    refine fW_rg (fun hR => ?_)
    refine fW_iload 17 dX11_puts_15 rfl rfl ?_
    refine fW_if_le 20 132 gv7 dX11_puts_17 rfl rfl (fun c3 => ?_) (fun c3 => ?_)
    · replace h := fTt h c3
      exact fW_sb (hk v1 v2 v3 v4 v5 v6 v7 M gv1 gv2 gv3 gv4 gv5 gv6 gv7 h) ⟨rfl, rfl, rfl, rfl, rfl, rfl, rfl, rfl, trivial⟩
    · replace h := fFf h c3
      refine fW_aload_n 21 dX11_puts_20 rfl rfl ?_
      refine fW_iload 23 dX11_puts_21 rfl rfl ?_
      refine fW_iload 25 dX11_puts_23 rfl rfl ?_
      refine fW_iadd 26 dX11_puts_25 rfl ?_
      refine fW_iconst 27 dX11_puts_26 rfl ?_
      refine fW_isub 28 dX11_puts_27 rfl ?_
      refine fW_iload_n 29 dX11_puts_28 rfl rfl ?_
      refine fW_iload_n 30 dX11_puts_29 rfl rfl ?_
      refine fW_iload 32 dX11_puts_30 rfl rfl ?_
      obtain ⟨c4, h⟩ := fS h
      obtain ⟨r5, e5, h⟩ := fBd h
      refine fW_cB (fI_V (as := [iv ((v6 + v7) - 1), iv v2, iv v3, iv v5]) (rest := []) miX11_isAhead hg clX11 rfl tc_418 wd_1443 (fRoom_of rfl) rfl (Nat.le_of_ble_eq_true rfl) dX11_puts_32) (s_X11_isAhead hg c4 gv2 gv3 gv5 e5) rfl rfl rfl (fun g5 => ?_)
      refine fW_if_ne 38 132 (rg_z g5) dX11_puts_35 rfl rfl (fun c6 => ?_) (fun c6 => ?_)
      · replace h := fFf h c6
        exact fW_sb (hk v1 v2 v3 v4 v5 v6 v7 M gv1 gv2 gv3 gv4 gv5 gv6 gv7 h) ⟨rfl, rfl, rfl, rfl, rfl, rfl, rfl, rfl, trivial⟩
      · replace h := fTt h c6
        refine fW_aload_n 39 dX11_puts_38 rfl rfl ?_
        refine fW_getR 42 (r := 425) 8 hg clX11 (by decide) rfl tc_418 tf_11_8 wd_1182 dX11_puts_39 rfl ?_
        refine fW_iload 44 dX11_puts_42 rfl rfl ?_
        refine fW_iload 46 dX11_puts_44 rfl rfl ?_
        refine fW_iadd 47 dX11_puts_46 rfl ?_
        refine fW_aload_n 48 dX11_puts_47 rfl rfl ?_
        refine fW_getR 51 (r := 425) 8 hg clX11 (by decide) rfl tc_418 tf_11_8 wd_1182 dX11_puts_48 rfl ?_
        refine fW_iload 53 dX11_puts_51 rfl rfl ?_
        refine fW_iload 55 dX11_puts_53 rfl rfl ?_
        refine fW_iadd 56 dX11_puts_55 rfl ?_
        refine fW_iconst 57 dX11_puts_56 rfl ?_
        refine fW_isub 58 dX11_puts_57 rfl ?_
        obtain ⟨c7, h⟩ := fS h
        refine fW_iald 59 hg tc_425 ⟨c7.1, by rw [show Ln 425 = 13300 from rfl]; exact c7.2⟩ dX11_puts_58 rfl ?_
        obtain ⟨c8, h⟩ := fS h
        obtain ⟨N9, e9, h⟩ := fBd h
        replace e9 := Option.some.inj e9
        refine fW_iast 60 hg tc_425 ⟨c8.1, by rw [show Ln 425 = 13300 from rfl]; exact c8.2⟩ (hR 425 ((v6 + v7) - 1)) dX11_puts_59 rfl ?_
        rw [e9]
        refine fW_rg (fun hR9 => ?_)
        refine fW_aload_n 61 dX11_puts_60 rfl rfl ?_
        refine fW_getR 64 (r := 426) 9 hg clX11 (by decide) rfl tc_418 tf_11_9 wd_1183 dX11_puts_61 rfl ?_
        refine fW_iload 66 dX11_puts_64 rfl rfl ?_
        refine fW_iload 68 dX11_puts_66 rfl rfl ?_
        refine fW_iadd 69 dX11_puts_68 rfl ?_
        refine fW_aload_n 70 dX11_puts_69 rfl rfl ?_
        refine fW_getR 73 (r := 426) 9 hg clX11 (by decide) rfl tc_418 tf_11_9 wd_1183 dX11_puts_70 rfl ?_
        refine fW_iload 75 dX11_puts_73 rfl rfl ?_
        refine fW_iload 77 dX11_puts_75 rfl rfl ?_
        refine fW_iadd 78 dX11_puts_77 rfl ?_
        refine fW_iconst 79 dX11_puts_78 rfl ?_
        refine fW_isub 80 dX11_puts_79 rfl ?_
        refine fW_iald 81 hg tc_426 ⟨c7.1, by rw [show Ln 426 = 13300 from rfl]; exact c7.2⟩ dX11_puts_80 rfl ?_
        obtain ⟨N10, e10, h⟩ := fBd h
        replace e10 := Option.some.inj e10
        refine fW_iast 82 hg tc_426 ⟨c8.1, by rw [show Ln 426 = 13300 from rfl]; exact c8.2⟩ (hR9 426 ((v6 + v7) - 1)) dX11_puts_81 rfl ?_
        rw [e10]
        refine fW_rg (fun hR10 => ?_)
        refine fW_aload_n 83 dX11_puts_82 rfl rfl ?_
        refine fW_getR 86 (r := 427) 10 hg clX11 (by decide) rfl tc_418 tf_11_10 wd_1184 dX11_puts_83 rfl ?_
        refine fW_iload 88 dX11_puts_86 rfl rfl ?_
        refine fW_iload 90 dX11_puts_88 rfl rfl ?_
        refine fW_iadd 91 dX11_puts_90 rfl ?_
        refine fW_aload_n 92 dX11_puts_91 rfl rfl ?_
        refine fW_getR 95 (r := 427) 10 hg clX11 (by decide) rfl tc_418 tf_11_10 wd_1184 dX11_puts_92 rfl ?_
        refine fW_iload 97 dX11_puts_95 rfl rfl ?_
        refine fW_iload 99 dX11_puts_97 rfl rfl ?_
        refine fW_iadd 100 dX11_puts_99 rfl ?_
        refine fW_iconst 101 dX11_puts_100 rfl ?_
        refine fW_isub 102 dX11_puts_101 rfl ?_
        refine fW_iald 103 hg tc_427 ⟨c7.1, by rw [show Ln 427 = 13300 from rfl]; exact c7.2⟩ dX11_puts_102 rfl ?_
        obtain ⟨N11, e11, h⟩ := fBd h
        replace e11 := Option.some.inj e11
        refine fW_iast 104 hg tc_427 ⟨c8.1, by rw [show Ln 427 = 13300 from rfl]; exact c8.2⟩ (hR10 427 ((v6 + v7) - 1)) dX11_puts_103 rfl ?_
        rw [e11]
        refine fW_rg (fun hR11 => ?_)
        refine fW_aload_n 105 dX11_puts_104 rfl rfl ?_
        refine fW_getR 108 (r := 428) 11 hg clX11 (by decide) rfl tc_418 tf_11_11 wd_1185 dX11_puts_105 rfl ?_
        refine fW_iload 110 dX11_puts_108 rfl rfl ?_
        refine fW_iload 112 dX11_puts_110 rfl rfl ?_
        refine fW_iadd 113 dX11_puts_112 rfl ?_
        refine fW_aload_n 114 dX11_puts_113 rfl rfl ?_
        refine fW_getR 117 (r := 428) 11 hg clX11 (by decide) rfl tc_418 tf_11_11 wd_1185 dX11_puts_114 rfl ?_
        refine fW_iload 119 dX11_puts_117 rfl rfl ?_
        refine fW_iload 121 dX11_puts_119 rfl rfl ?_
        refine fW_iadd 122 dX11_puts_121 rfl ?_
        refine fW_iconst 123 dX11_puts_122 rfl ?_
        refine fW_isub 124 dX11_puts_123 rfl ?_
        refine fW_iald 125 hg tc_428 ⟨c7.1, by rw [show Ln 428 = 13300 from rfl]; exact c7.2⟩ dX11_puts_124 rfl ?_
        obtain ⟨N12, e12, h⟩ := fBd h
        replace e12 := Option.some.inj e12
        refine fW_iast 126 hg tc_428 ⟨c8.1, by rw [show Ln 428 = 13300 from rfl]; exact c8.2⟩ (hR11 428 ((v6 + v7) - 1)) dX11_puts_125 rfl ?_
        rw [e12]
        refine fW_rg (fun hR12 => ?_)
        refine fW_iinc 129 (ls' := [some (rv G 418), some (iv v1), some (iv v2), some (iv v3), some (iv v4), some (iv v5), some (iv v6), some (iv (v7 + -1))]) dX11_puts_126 rfl rfl rfl (by decide) ?_
        refine fW_goto 15 dX11_puts_129 rfl ?_
        exact fW_sb (ih v1 v2 v3 v4 v5 v6 (v7 + -1) N12 gv1 gv2 gv3 gv4 gv5 gv6 (rg_pred' gv7 (by decide) c3) h) ⟨rfl, rfl, rfl, rfl, rfl, rfl, rfl, rfl, trivial⟩
def j_X11_puts_132  (v1 : Int) (v2 : Int) (v3 : Int) (v4 : Int) (v5 : Int) (v6 : Int) (v7 : Int) (M : fMem) : Option (fMem) := (if 0 ≤ v6 + v7 ∧ v6 + v7 < 13300 then ((some (mset M 425 (v6 + v7) v2)).bind fun (N15 : fMem) => ((some (mset N15 426 (v6 + v7) v3)).bind fun (N16 : fMem) => ((some (mset N16 427 (v6 + v7) v4)).bind fun (N17 : fMem) => ((some (mset N17 428 (v6 + v7) v5)).bind fun (N18 : fMem) => (if 0 ≤ v1 ∧ v1 < 19 then (if -2147483648 ≤ (N18 429 v1) + 1 ∧ (N18 429 v1) + 1 < 2147483648 then ((some (mset N18 429 v1 ((N18 429 v1) + 1))).bind fun (N21 : fMem) => some N21) else none) else none))))) else none)
set_option maxRecDepth 100000 in
set_option maxHeartbeats 4000000 in
theorem i_X11_puts_132 {G : fG} (hg : gbt G = true)  {v1 : Int} {v2 : Int} {v3 : Int} {v4 : Int} {v5 : Int} {v6 : Int} {v7 : Int} (gv1 : rg v1) (gv2 : rg v2) (gv3 : rg v3) (gv4 : rg v4) (gv5 : rg v5) (gv6 : rg v6) (gv7 : rg v7) {M : fMem} {q : fMem} (h : j_X11_puts_132 v1 v2 v3 v4 v5 v6 v7 M = some q) : fW G mX11_puts (fEm G mX11_puts (rV q) fNo) 0 0 132 [some (rv G 418), some (iv v1), some (iv v2), some (iv v3), some (iv v4), some (iv v5), some (iv v6), some (iv v7)] [] M := by
  rw [j_X11_puts_132] at h
  refine fW_rg (fun hR => ?_)
  refine fW_aload_n 133 dX11_puts_132 rfl rfl ?_
  refine fW_getR 136 (r := 425) 8 hg clX11 (by decide) rfl tc_418 tf_11_8 wd_1182 dX11_puts_133 rfl ?_
  refine fW_iload 138 dX11_puts_136 rfl rfl ?_
  refine fW_iload 140 dX11_puts_138 rfl rfl ?_
  refine fW_iadd 141 dX11_puts_140 rfl ?_
  refine fW_iload_n 142 dX11_puts_141 rfl rfl ?_
  obtain ⟨c14, h⟩ := fS h
  obtain ⟨N15, e15, h⟩ := fBd h
  replace e15 := Option.some.inj e15
  refine fW_iast 143 hg tc_425 ⟨c14.1, by rw [show Ln 425 = 13300 from rfl]; exact c14.2⟩ gv2 dX11_puts_142 rfl ?_
  rw [e15]
  refine fW_rg (fun hR15 => ?_)
  refine fW_aload_n 144 dX11_puts_143 rfl rfl ?_
  refine fW_getR 147 (r := 426) 9 hg clX11 (by decide) rfl tc_418 tf_11_9 wd_1183 dX11_puts_144 rfl ?_
  refine fW_iload 149 dX11_puts_147 rfl rfl ?_
  refine fW_iload 151 dX11_puts_149 rfl rfl ?_
  refine fW_iadd 152 dX11_puts_151 rfl ?_
  refine fW_iload_n 153 dX11_puts_152 rfl rfl ?_
  obtain ⟨N16, e16, h⟩ := fBd h
  replace e16 := Option.some.inj e16
  refine fW_iast 154 hg tc_426 ⟨c14.1, by rw [show Ln 426 = 13300 from rfl]; exact c14.2⟩ gv3 dX11_puts_153 rfl ?_
  rw [e16]
  refine fW_rg (fun hR16 => ?_)
  refine fW_aload_n 155 dX11_puts_154 rfl rfl ?_
  refine fW_getR 158 (r := 427) 10 hg clX11 (by decide) rfl tc_418 tf_11_10 wd_1184 dX11_puts_155 rfl ?_
  refine fW_iload 160 dX11_puts_158 rfl rfl ?_
  refine fW_iload 162 dX11_puts_160 rfl rfl ?_
  refine fW_iadd 163 dX11_puts_162 rfl ?_
  refine fW_iload 165 dX11_puts_163 rfl rfl ?_
  obtain ⟨N17, e17, h⟩ := fBd h
  replace e17 := Option.some.inj e17
  refine fW_iast 166 hg tc_427 ⟨c14.1, by rw [show Ln 427 = 13300 from rfl]; exact c14.2⟩ gv4 dX11_puts_165 rfl ?_
  rw [e17]
  refine fW_rg (fun hR17 => ?_)
  refine fW_aload_n 167 dX11_puts_166 rfl rfl ?_
  refine fW_getR 170 (r := 428) 11 hg clX11 (by decide) rfl tc_418 tf_11_11 wd_1185 dX11_puts_167 rfl ?_
  refine fW_iload 172 dX11_puts_170 rfl rfl ?_
  refine fW_iload 174 dX11_puts_172 rfl rfl ?_
  refine fW_iadd 175 dX11_puts_174 rfl ?_
  refine fW_iload 177 dX11_puts_175 rfl rfl ?_
  obtain ⟨N18, e18, h⟩ := fBd h
  replace e18 := Option.some.inj e18
  refine fW_iast 178 hg tc_428 ⟨c14.1, by rw [show Ln 428 = 13300 from rfl]; exact c14.2⟩ gv5 dX11_puts_177 rfl ?_
  rw [e18]
  refine fW_rg (fun hR18 => ?_)
  refine fW_aload_n 179 dX11_puts_178 rfl rfl ?_
  refine fW_getR 182 (r := 429) 12 hg clX11 (by decide) rfl tc_418 tf_11_12 wd_1186 dX11_puts_179 rfl ?_
  refine fW_iload_n 183 dX11_puts_182 rfl rfl ?_
  refine fW_dup2 184 dX11_puts_183 rfl rfl rfl ?_
  obtain ⟨c19, h⟩ := fS h
  refine fW_iald 185 hg tc_429 ⟨c19.1, by rw [show Ln 429 = 19 from rfl]; exact c19.2⟩ dX11_puts_184 rfl ?_
  refine fW_iconst 186 dX11_puts_185 rfl ?_
  refine fW_iadd 187 dX11_puts_186 rfl ?_
  obtain ⟨c20, h⟩ := fS h
  obtain ⟨N21, e21, h⟩ := fBd h
  replace e21 := Option.some.inj e21
  refine fW_iast 188 hg tc_429 ⟨c19.1, by rw [show Ln 429 = 19 from rfl]; exact c19.2⟩ c20 dX11_puts_187 rfl ?_
  rw [e21]
  refine fW_rg (fun hR21 => ?_)
  exact fW_vret rfl (by decide) (by decide) dX11_puts_188 (rV_i h)
def f_X11_puts (a1 : Int) (a2 : Int) (a3 : Int) (a4 : Int) (a5 : Int) (M : fMem) : Option (fMem) := (if 0 ≤ a1 ∧ a1 < 19 then (if -2147483648 ≤ 700 * a1 ∧ 700 * a1 < 2147483648 then L_X11_puts_15 (fun (v1_13 : Int) (v2_13 : Int) (v3_13 : Int) (v4_13 : Int) (v5_13 : Int) (v6_13 : Int) (v7_13 : Int) (M_13 : fMem) => j_X11_puts_132 v1_13 v2_13 v3_13 v4_13 v5_13 v6_13 v7_13 M_13) 20000 a1 a2 a3 a4 a5 (700 * a1) (M 429 a1) M else none) else none)
set_option maxRecDepth 100000 in
set_option maxHeartbeats 4000000 in
theorem s_X11_puts {G : fG} (hg : gbt G = true) {a1 : Int} (ga1 : rg a1) {a2 : Int} (ga2 : rg a2) {a3 : Int} (ga3 : rg a3) {a4 : Int} (ga4 : rg a4) {a5 : Int} (ga5 : rg a5) {M : fMem} {q : fMem} (h : f_X11_puts a1 a2 a3 a4 a5 M = some q) : fSp G mX11_puts [rv G 418, iv a1, iv a2, iv a3, iv a4, iv a5] M (rV q) fNo := by
  refine fSp_of (by decide +kernel) (by decide +kernel) (fC1 rfl (fC1 rfl (fC1 rfl (fC1 rfl (fC1 rfl (fC1 rfl fC0)))))) (Nat.le_of_ble_eq_true rfl) ?_
  show fW G mX11_puts (fEm G mX11_puts (rV q) fNo) 0 0 0 [some (rv G 418), some (iv a1), some (iv a2), some (iv a3), some (iv a4), some (iv a5), none, none] [] M
  rw [f_X11_puts] at h
  refine fW_rg (fun hR => ?_)
  refine fW_sipush 3 dX11_puts_0 rfl (by decide) ?_
  refine fW_iload_n 4 dX11_puts_3 rfl rfl ?_
  refine fW_imul 5 dX11_puts_4 rfl ?_
  refine fW_istore 7 (ls' := [some (rv G 418), some (iv a1), some (iv a2), some (iv a3), some (iv a4), some (iv a5), some (iv (700 * a1)), none]) dX11_puts_5 rfl rfl (by decide) ?_
  refine fW_aload_n 8 dX11_puts_7 rfl rfl ?_
  refine fW_getR 11 (r := 429) 12 hg clX11 (by decide) rfl tc_418 tf_11_12 wd_1186 dX11_puts_8 rfl ?_
  refine fW_iload_n 12 dX11_puts_11 rfl rfl ?_
  obtain ⟨c1, h⟩ := fS h
  refine fW_iald 13 hg tc_429 ⟨c1.1, by rw [show Ln 429 = 19 from rfl]; exact c1.2⟩ dX11_puts_12 rfl ?_
  refine fW_istore 15 (ls' := [some (rv G 418), some (iv a1), some (iv a2), some (iv a3), some (iv a4), some (iv a5), some (iv (700 * a1)), some (iv (M 429 a1))]) dX11_puts_13 rfl rfl (by decide) ?_
  obtain ⟨c2, h⟩ := fS h
  refine fW_sb (l_X11_puts_15 hg ?_ 20000 a1 a2 a3 a4 a5 (700 * a1) (M 429 a1) M ga1 ga2 ga3 ga4 ga5 c2 (hR 429 a1) h) ⟨rfl, rfl, rfl, rfl, rfl, rfl, rfl, rfl, trivial⟩
  intro v1_13 v2_13 v3_13 v4_13 v5_13 v6_13 v7_13 M_13 gv1_13 gv2_13 gv3_13 gv4_13 gv5_13 gv6_13 gv7_13 h
  refine fW_rg (fun hR_13 => ?_)
  exact fW_sb (i_X11_puts_132 hg gv1_13 gv2_13 gv3_13 gv4_13 gv5_13 gv6_13 gv7_13 h) ⟨rfl, rfl, rfl, rfl, rfl, rfl, rfl, rfl, trivial⟩
def mX11_laysThings : fMt := (yX11_laysThings, cX11_laysThings, 3, none, { frames := 2, cells := 0, slots := 0, locals := 80 })
theorem miX11_laysThings : fMv mX11_laysThings 1 := ⟨⟨fM 1438 (by decide +kernel) rfl, fM 101 (by decide +kernel) rfl, ⟨by decide +kernel, by decide +kernel⟩, by decide +kernel⟩, fM 1437 (by decide +kernel) rfl, fM 55 (by decide +kernel) rfl⟩
def L_X11_laysThings_18  (k : fMem → Option (fMem)) : Nat → Int → Int → fMem → Option (fMem)
  | 0, _, _, _ => none
  | n + 1, v1, v2, M => (if 0 ≤ 7600 + v1 ∧ 7600 + v1 < 7787 then (if (M 419 (7600 + v1)) ≤ v2 then k  M else ((f_X11_keyAt v1 v2 M).bind fun (r7 : Int) => ((f_X11_puts v1 r7 0 v2 ((-1)) M).bind fun (r8 : fMem) => L_X11_laysThings_18  k n v1 (v2 + 1) r8))) else none)
set_option maxRecDepth 100000 in
set_option maxHeartbeats 4000000 in
theorem l_X11_laysThings_18 {G : fG} (hg : gbt G = true)  {q : fMem} {k : fMem → Option (fMem)} (hk : ∀ (M : fMem), k M = some q → fW G mX11_laysThings (fEm G mX11_laysThings (rV q) fNo) 0 0 52 [some (rv G 418), none, none] [] M) : ∀ (n : Nat) (v1 : Int) (v2 : Int) (M : fMem), rg v1 → rg v2 → L_X11_laysThings_18 k n v1 v2 M = some q → fW G mX11_laysThings (fEm G mX11_laysThings (rV q) fNo) 0 0 18 [some (rv G 418), some (iv v1), some (iv v2)] [] M := by
  intro n
  induction n with
  | zero =>
    intro v1 v2 M gv1 gv2 h
    rw [L_X11_laysThings_18] at h
    exact absurd h (by simp)
  | succ n ih =>
    intro v1 v2 M gv1 gv2 h
    rw [L_X11_laysThings_18] at h
    refine fW_rg (fun hR => ?_)
    refine fW_iload_n 19 dX11_laysThings_18 rfl rfl ?_
    refine fW_aload_n 20 dX11_laysThings_19 rfl rfl ?_
    refine fW_getR 23 (r := 419) 0 hg clX11 (by decide) rfl tc_418 tf_11_0 wd_1174 dX11_laysThings_20 rfl ?_
    refine fW_sipush 26 dX11_laysThings_23 rfl (by decide) ?_
    refine fW_iload_n 27 dX11_laysThings_26 rfl rfl ?_
    refine fW_iadd 28 dX11_laysThings_27 rfl ?_
    obtain ⟨c5, h⟩ := fS h
    refine fW_iald 29 hg tc_419 ⟨c5.1, by rw [show Ln 419 = 7787 from rfl]; exact c5.2⟩ dX11_laysThings_28 rfl ?_
    refine fW_icmp_ge 32 52 gv2 (hR 419 (7600 + v1)) dX11_laysThings_29 rfl rfl (fun c6 => ?_) (fun c6 => ?_)
    · replace h := fTt h c6
      exact fW_sb (hk M h) ⟨rfl, trivial⟩
    · replace h := fFf h c6
      refine fW_aload_n 33 dX11_laysThings_32 rfl rfl ?_
      refine fW_iload_n 34 dX11_laysThings_33 rfl rfl ?_
      refine fW_aload_n 35 dX11_laysThings_34 rfl rfl ?_
      refine fW_iload_n 36 dX11_laysThings_35 rfl rfl ?_
      refine fW_iload_n 37 dX11_laysThings_36 rfl rfl ?_
      obtain ⟨r7, e7, h⟩ := fBd h
      refine fW_cP (fI_V (as := [iv v1, iv v2]) (rest := [iv v1, rv G 418]) miX11_keyAt hg clX11 rfl tc_418 wd_1300 (fRoom_of rfl) rfl (Nat.le_of_ble_eq_true rfl) dX11_laysThings_37) (s_X11_keyAt hg gv1 gv2 e7) rfl rfl rfl (fun g7 => ?_)
      refine fW_iconst 41 dX11_laysThings_40 rfl ?_
      refine fW_iload_n 42 dX11_laysThings_41 rfl rfl ?_
      refine fW_iconst 43 dX11_laysThings_42 rfl ?_
      obtain ⟨r8, e8, h⟩ := fBd h
      refine fW_cV (fI_V (as := [iv v1, iv r7, iv 0, iv v2, iv ((-1))]) (rest := []) miX11_puts hg clX11 rfl tc_418 wd_1439 (fRoom_of rfl) rfl (Nat.le_of_ble_eq_true rfl) dX11_laysThings_43) (s_X11_puts hg gv1 g7 (by decide) gv2 (by decide) e8) rfl rfl rfl ?_
      refine fW_rg (fun hR9 => ?_)
      refine fW_iinc 49 (ls' := [some (rv G 418), some (iv v1), some (iv (v2 + 1))]) dX11_laysThings_46 rfl rfl rfl (by decide) ?_
      refine fW_goto 18 dX11_laysThings_49 rfl ?_
      exact fW_sb (ih v1 (v2 + 1) r8 gv1 (rg_succ' gv2 (hR 419 (7600 + v1)) c6) h) ⟨rfl, rfl, rfl, trivial⟩
def f_X11_laysThings (a1 : Int) (M : fMem) : Option (fMem) := (if 0 ≤ a1 ∧ a1 < 19 then ((some (mset M 429 a1 0)).bind fun (N2 : fMem) => ((f_X11_isShut a1 N2).bind fun (r3 : Int) => (if r3 = 0 then some N2 else L_X11_laysThings_18 (fun  (M_10 : fMem) => some M_10) 20000 a1 0 N2))) else none)
set_option maxRecDepth 100000 in
set_option maxHeartbeats 4000000 in
theorem s_X11_laysThings {G : fG} (hg : gbt G = true) {a1 : Int} (ga1 : rg a1) {M : fMem} {q : fMem} (h : f_X11_laysThings a1 M = some q) : fSp G mX11_laysThings [rv G 418, iv a1] M (rV q) fNo := by
  refine fSp_of (by decide +kernel) (by decide +kernel) (fC1 rfl (fC1 rfl fC0)) (Nat.le_of_ble_eq_true rfl) ?_
  show fW G mX11_laysThings (fEm G mX11_laysThings (rV q) fNo) 0 0 0 [some (rv G 418), some (iv a1), none] [] M
  rw [f_X11_laysThings] at h
  refine fW_rg (fun hR => ?_)
  refine fW_aload_n 1 dX11_laysThings_0 rfl rfl ?_
  refine fW_getR 4 (r := 429) 12 hg clX11 (by decide) rfl tc_418 tf_11_12 wd_1186 dX11_laysThings_1 rfl ?_
  refine fW_iload_n 5 dX11_laysThings_4 rfl rfl ?_
  refine fW_iconst 6 dX11_laysThings_5 rfl ?_
  obtain ⟨c1, h⟩ := fS h
  obtain ⟨N2, e2, h⟩ := fBd h
  replace e2 := Option.some.inj e2
  refine fW_iast 7 hg tc_429 ⟨c1.1, by rw [show Ln 429 = 19 from rfl]; exact c1.2⟩ (by decide) dX11_laysThings_6 rfl ?_
  rw [e2]
  refine fW_rg (fun hR2 => ?_)
  refine fW_aload_n 8 dX11_laysThings_7 rfl rfl ?_
  refine fW_iload_n 9 dX11_laysThings_8 rfl rfl ?_
  obtain ⟨r3, e3, h⟩ := fBd h
  refine fW_cB (fI_V (as := [iv a1]) (rest := []) miX11_isShut hg clX11 rfl tc_418 wd_1340 (fRoom_of rfl) rfl (Nat.le_of_ble_eq_true rfl) dX11_laysThings_9) (s_X11_isShut hg ga1 e3) rfl rfl rfl (fun g3 => ?_)
  refine fW_if_ne 15 16 (rg_z g3) dX11_laysThings_12 rfl rfl (fun c4 => ?_) (fun c4 => ?_)
  · replace h := fFf h c4
    refine fW_iconst 17 dX11_laysThings_16 rfl ?_
    refine fW_istore_n 18 (ls' := [some (rv G 418), some (iv a1), some (iv 0)]) dX11_laysThings_17 rfl rfl rfl (by decide) ?_
    refine fW_sb (l_X11_laysThings_18 hg ?_ 20000 a1 0 N2 ga1 (by decide) h) ⟨rfl, rfl, rfl, trivial⟩
    intro M_10 h
    refine fW_rg (fun hR_10 => ?_)
    exact fW_vret rfl (by decide) (by decide) dX11_laysThings_52 (rV_i h)
  · replace h := fTt h c4
    exact fW_vret rfl (by decide) (by decide) dX11_laysThings_15 (rV_i h)
def mX11_laysMarks : fMt := (yX11_laysMarks, cX11_laysMarks, 6, none, { frames := 3, cells := 0, slots := 0, locals := 120 })
theorem miX11_laysMarks : fMv mX11_laysMarks 2 := ⟨⟨fM 1454 (by decide +kernel) rfl, fM 101 (by decide +kernel) rfl, ⟨by decide +kernel, by decide +kernel⟩, by decide +kernel⟩, fM 1453 (by decide +kernel) rfl, fM 59 (by decide +kernel) rfl⟩
def L_X11_laysMarks_31  (k : Int → Int → Int → fMem → Option (fMem)) : Nat → Int → Int → Int → Int → Int → fMem → Option (fMem)
  | 0, _, _, _, _, _, _ => none
  | n + 1, v1, v2, v3, v4, v5, M => (if 0 ≤ v4 ∧ v4 < 19 then (if (M 429 v4) ≤ v5 then k v1 v2 v3 M else (if 0 ≤ (700 * v4) + v5 ∧ (700 * v4) + v5 < 13300 then (if -2147483648 ≤ 1 + v3 ∧ 1 + v3 < 2147483648 then ((f_X11_puts v1 (M 425 ((700 * v4) + v5)) (1 + v3) v4 v5 M).bind fun (r9 : fMem) => (if -2147483648 ≤ v5 + (r9 419 7740) ∧ v5 + (r9 419 7740) < 2147483648 then L_X11_laysMarks_31  k n v1 v2 v3 v4 (v5 + (r9 419 7740)) r9 else none)) else none) else none)) else none)
set_option maxRecDepth 100000 in
set_option maxHeartbeats 4000000 in
theorem l_X11_laysMarks_31 {G : fG} (hg : gbt G = true)  {q : fMem} {k : Int → Int → Int → fMem → Option (fMem)} (hk : ∀ (v1 : Int) (v2 : Int) (v3 : Int) (M : fMem), rg v1 → rg v2 → rg v3 → k v1 v2 v3 M = some q → fW G mX11_laysMarks (fEm G mX11_laysMarks (rV q) fNo) 0 0 85 [some (rv G 418), some (iv v1), some (iv v2), some (iv v3), none, none] [] M) : ∀ (n : Nat) (v1 : Int) (v2 : Int) (v3 : Int) (v4 : Int) (v5 : Int) (M : fMem), rg v1 → rg v2 → rg v3 → rg v4 → rg v5 → L_X11_laysMarks_31 k n v1 v2 v3 v4 v5 M = some q → fW G mX11_laysMarks (fEm G mX11_laysMarks (rV q) fNo) 0 0 31 [some (rv G 418), some (iv v1), some (iv v2), some (iv v3), some (iv v4), some (iv v5)] [] M := by
  intro n
  induction n with
  | zero =>
    intro v1 v2 v3 v4 v5 M gv1 gv2 gv3 gv4 gv5 h
    rw [L_X11_laysMarks_31] at h
    exact absurd h (by simp)
  | succ n ih =>
    intro v1 v2 v3 v4 v5 M gv1 gv2 gv3 gv4 gv5 h
    rw [L_X11_laysMarks_31] at h
    refine fW_rg (fun hR => ?_)
    refine fW_iload 33 dX11_laysMarks_31 rfl rfl ?_
    refine fW_aload_n 34 dX11_laysMarks_33 rfl rfl ?_
    refine fW_getR 37 (r := 429) 12 hg clX11 (by decide) rfl tc_418 tf_11_12 wd_1186 dX11_laysMarks_34 rfl ?_
    refine fW_iload 39 dX11_laysMarks_37 rfl rfl ?_
    obtain ⟨c5, h⟩ := fS h
    refine fW_iald 40 hg tc_429 ⟨c5.1, by rw [show Ln 429 = 19 from rfl]; exact c5.2⟩ dX11_laysMarks_39 rfl ?_
    refine fW_icmp_ge 43 85 gv5 (hR 429 v4) dX11_laysMarks_40 rfl rfl (fun c6 => ?_) (fun c6 => ?_)
    · replace h := fTt h c6
      exact fW_sb (hk v1 v2 v3 M gv1 gv2 gv3 h) ⟨rfl, rfl, rfl, rfl, trivial⟩
    · replace h := fFf h c6
      refine fW_aload_n 44 dX11_laysMarks_43 rfl rfl ?_
      refine fW_iload_n 45 dX11_laysMarks_44 rfl rfl ?_
      refine fW_aload_n 46 dX11_laysMarks_45 rfl rfl ?_
      refine fW_getR 49 (r := 425) 8 hg clX11 (by decide) rfl tc_418 tf_11_8 wd_1182 dX11_laysMarks_46 rfl ?_
      refine fW_sipush 52 dX11_laysMarks_49 rfl (by decide) ?_
      refine fW_iload 54 dX11_laysMarks_52 rfl rfl ?_
      refine fW_imul 55 dX11_laysMarks_54 rfl ?_
      refine fW_iload 57 dX11_laysMarks_55 rfl rfl ?_
      refine fW_iadd 58 dX11_laysMarks_57 rfl ?_
      obtain ⟨c7, h⟩ := fS h
      refine fW_iald 59 hg tc_425 ⟨c7.1, by rw [show Ln 425 = 13300 from rfl]; exact c7.2⟩ dX11_laysMarks_58 rfl ?_
      refine fW_iconst 60 dX11_laysMarks_59 rfl ?_
      refine fW_iload_n 61 dX11_laysMarks_60 rfl rfl ?_
      refine fW_iadd 62 dX11_laysMarks_61 rfl ?_
      refine fW_iload 64 dX11_laysMarks_62 rfl rfl ?_
      refine fW_iload 66 dX11_laysMarks_64 rfl rfl ?_
      obtain ⟨c8, h⟩ := fS h
      obtain ⟨r9, e9, h⟩ := fBd h
      refine fW_cV (fI_V (as := [iv v1, iv (M 425 ((700 * v4) + v5)), iv (1 + v3), iv v4, iv v5]) (rest := []) miX11_puts hg clX11 rfl tc_418 wd_1439 (fRoom_of rfl) rfl (Nat.le_of_ble_eq_true rfl) dX11_laysMarks_66) (s_X11_puts hg gv1 (hR 425 ((700 * v4) + v5)) c8 gv4 gv5 e9) rfl rfl rfl ?_
      refine fW_rg (fun hR10 => ?_)
      refine fW_iload 71 dX11_laysMarks_69 rfl rfl ?_
      refine fW_aload_n 72 dX11_laysMarks_71 rfl rfl ?_
      refine fW_getR 75 (r := 419) 0 hg clX11 (by decide) rfl tc_418 tf_11_0 wd_1174 dX11_laysMarks_72 rfl ?_
      refine fW_sipush 78 dX11_laysMarks_75 rfl (by decide) ?_
      refine fW_iald 79 hg tc_419 ⟨by decide, by rw [show Ln 419 = 7787 from rfl]; decide⟩ dX11_laysMarks_78 rfl ?_
      refine fW_iadd 80 dX11_laysMarks_79 rfl ?_
      refine fW_istore 82 (ls' := [some (rv G 418), some (iv v1), some (iv v2), some (iv v3), some (iv v4), some (iv (v5 + (r9 419 7740)))]) dX11_laysMarks_80 rfl rfl (by decide) ?_
      refine fW_goto 31 dX11_laysMarks_82 rfl ?_
      obtain ⟨c11, h⟩ := fS h
      exact fW_sb (ih v1 v2 v3 v4 (v5 + (r9 419 7740)) r9 gv1 gv2 gv3 gv4 c11 h) ⟨rfl, rfl, rfl, rfl, rfl, rfl, trivial⟩
def L_X11_laysMarks_2  (k : fMem → Option (fMem)) : Nat → Int → Int → Int → fMem → Option (fMem)
  | 0, _, _, _, _ => none
  | n + 1, v1, v2, v3, M => ((f_X11_shutMany v2 M).bind fun (r1 : Int) => (if r1 ≤ v3 then k  M else ((f_X11_byAge v2 v3 M).bind fun (r3 : Int) => (if -2147483648 ≤ (M 419 7740) - 1 ∧ (M 419 7740) - 1 < 2147483648 then L_X11_laysMarks_31 (fun (v1_12 : Int) (v2_12 : Int) (v3_12 : Int) (M_12 : fMem) => (if -2147483648 ≤ v3_12 + 1 ∧ v3_12 + 1 < 2147483648 then L_X11_laysMarks_2  k n v1_12 v2_12 (v3_12 + 1) M_12 else none)) 20000 v1 v2 v3 r3 ((M 419 7740) - 1) M else none))))
set_option maxRecDepth 100000 in
set_option maxHeartbeats 4000000 in
theorem l_X11_laysMarks_2 {G : fG} (hg : gbt G = true)  {q : fMem} {k : fMem → Option (fMem)} (hk : ∀ (M : fMem), k M = some q → fW G mX11_laysMarks (fEm G mX11_laysMarks (rV q) fNo) 0 0 91 [some (rv G 418), none, none, none, none, none] [] M) : ∀ (n : Nat) (v1 : Int) (v2 : Int) (v3 : Int) (M : fMem), rg v1 → rg v2 → rg v3 → L_X11_laysMarks_2 k n v1 v2 v3 M = some q → fW G mX11_laysMarks (fEm G mX11_laysMarks (rV q) fNo) 0 0 2 [some (rv G 418), some (iv v1), some (iv v2), some (iv v3), none, none] [] M := by
  intro n
  induction n with
  | zero =>
    intro v1 v2 v3 M gv1 gv2 gv3 h
    rw [L_X11_laysMarks_2] at h
    exact absurd h (by simp)
  | succ n ih =>
    intro v1 v2 v3 M gv1 gv2 gv3 h
    rw [L_X11_laysMarks_2] at h
    refine fW_rg (fun hR => ?_)
    refine fW_iload_n 3 dX11_laysMarks_2 rfl rfl ?_
    refine fW_aload_n 4 dX11_laysMarks_3 rfl rfl ?_
    refine fW_iload_n 5 dX11_laysMarks_4 rfl rfl ?_
    obtain ⟨r1, e1, h⟩ := fBd h
    refine fW_cP (fI_V (as := [iv v2]) (rest := [iv v3]) miX11_shutMany hg clX11 rfl tc_418 wd_1336 (fRoom_of rfl) rfl (Nat.le_of_ble_eq_true rfl) dX11_laysMarks_5) (s_X11_shutMany hg gv2 e1) rfl rfl rfl (fun g1 => ?_)
    refine fW_icmp_ge 11 91 gv3 g1 dX11_laysMarks_8 rfl rfl (fun c2 => ?_) (fun c2 => ?_)
    · replace h := fTt h c2
      exact fW_sb (hk M h) ⟨rfl, trivial⟩
    · replace h := fFf h c2
      refine fW_aload_n 12 dX11_laysMarks_11 rfl rfl ?_
      refine fW_iload_n 13 dX11_laysMarks_12 rfl rfl ?_
      refine fW_iload_n 14 dX11_laysMarks_13 rfl rfl ?_
      obtain ⟨r3, e3, h⟩ := fBd h
      refine fW_cP (fI_V (as := [iv v2, iv v3]) (rest := []) miX11_byAge hg clX11 rfl tc_418 wd_1348 (fRoom_of rfl) rfl (Nat.le_of_ble_eq_true rfl) dX11_laysMarks_14) (s_X11_byAge hg gv2 gv3 e3) rfl rfl rfl (fun g3 => ?_)
      refine fW_istore 19 (ls' := [some (rv G 418), some (iv v1), some (iv v2), some (iv v3), some (iv r3), none]) dX11_laysMarks_17 rfl rfl (by decide) ?_
      refine fW_aload_n 20 dX11_laysMarks_19 rfl rfl ?_
      refine fW_getR 23 (r := 419) 0 hg clX11 (by decide) rfl tc_418 tf_11_0 wd_1174 dX11_laysMarks_20 rfl ?_
      refine fW_sipush 26 dX11_laysMarks_23 rfl (by decide) ?_
      refine fW_iald 27 hg tc_419 ⟨by decide, by rw [show Ln 419 = 7787 from rfl]; decide⟩ dX11_laysMarks_26 rfl ?_
      refine fW_iconst 28 dX11_laysMarks_27 rfl ?_
      refine fW_isub 29 dX11_laysMarks_28 rfl ?_
      refine fW_istore 31 (ls' := [some (rv G 418), some (iv v1), some (iv v2), some (iv v3), some (iv r3), some (iv ((M 419 7740) - 1))]) dX11_laysMarks_29 rfl rfl (by decide) ?_
      obtain ⟨c4, h⟩ := fS h
      refine fW_sb (l_X11_laysMarks_31 hg ?_ 20000 v1 v2 v3 r3 ((M 419 7740) - 1) M gv1 gv2 gv3 g3 c4 h) ⟨rfl, rfl, rfl, rfl, rfl, rfl, trivial⟩
      intro v1_12 v2_12 v3_12 M_12 gv1_12 gv2_12 gv3_12 h
      refine fW_rg (fun hR_12 => ?_)
      refine fW_iinc 88 (ls' := [some (rv G 418), some (iv v1_12), some (iv v2_12), some (iv (v3_12 + 1)), none, none]) dX11_laysMarks_85 rfl rfl rfl (by decide) ?_
      refine fW_goto 2 dX11_laysMarks_88 rfl ?_
      obtain ⟨c13, h⟩ := fS h
      exact fW_sb (ih v1_12 v2_12 (v3_12 + 1) M_12 gv1_12 gv2_12 c13 h) ⟨rfl, rfl, rfl, rfl, trivial⟩
def f_X11_laysMarks (a1 : Int) (a2 : Int) (M : fMem) : Option (fMem) := L_X11_laysMarks_2 (fun  (M_14 : fMem) => some M_14) 20000 a1 a2 0 M
set_option maxRecDepth 100000 in
set_option maxHeartbeats 4000000 in
theorem s_X11_laysMarks {G : fG} (hg : gbt G = true) {a1 : Int} (ga1 : rg a1) {a2 : Int} (ga2 : rg a2) {M : fMem} {q : fMem} (h : f_X11_laysMarks a1 a2 M = some q) : fSp G mX11_laysMarks [rv G 418, iv a1, iv a2] M (rV q) fNo := by
  refine fSp_of (by decide +kernel) (by decide +kernel) (fC1 rfl (fC1 rfl (fC1 rfl fC0))) (Nat.le_of_ble_eq_true rfl) ?_
  show fW G mX11_laysMarks (fEm G mX11_laysMarks (rV q) fNo) 0 0 0 [some (rv G 418), some (iv a1), some (iv a2), none, none, none] [] M
  rw [f_X11_laysMarks] at h
  refine fW_rg (fun hR => ?_)
  refine fW_iconst 1 dX11_laysMarks_0 rfl ?_
  refine fW_istore_n 2 (ls' := [some (rv G 418), some (iv a1), some (iv a2), some (iv 0), none, none]) dX11_laysMarks_1 rfl rfl rfl (by decide) ?_
  refine fW_sb (l_X11_laysMarks_2 hg ?_ 20000 a1 a2 0 M ga1 ga2 (by decide) h) ⟨rfl, rfl, rfl, rfl, trivial⟩
  intro M_14 h
  refine fW_rg (fun hR_14 => ?_)
  exact fW_vret rfl (by decide) (by decide) dX11_laysMarks_91 (rV_i h)
def mX11_laysEntries : fMt := (yX11_laysEntries, cX11_laysEntries, 3, none, { frames := 4, cells := 0, slots := 0, locals := 160 })
theorem miX11_laysEntries : fMv mX11_laysEntries 1 := ⟨⟨fM 1434 (by decide +kernel) rfl, fM 101 (by decide +kernel) rfl, ⟨by decide +kernel, by decide +kernel⟩, by decide +kernel⟩, fM 1433 (by decide +kernel) rfl, fM 54 (by decide +kernel) rfl⟩
def L_X11_laysEntries_7  (k : Int → fMem → Option (fMem)) : Nat → Int → Int → fMem → Option (fMem)
  | 0, _, _, _ => none
  | n + 1, v1, v2, M => (if 19 ≤ v2 then k v1 M else ((f_X11_laysThings v2 M).bind fun (r3 : fMem) => L_X11_laysEntries_7  k n v1 (v2 + 1) r3))
set_option maxRecDepth 100000 in
set_option maxHeartbeats 4000000 in
theorem l_X11_laysEntries_7 {G : fG} (hg : gbt G = true)  {q : fMem} {k : Int → fMem → Option (fMem)} (hk : ∀ (v1 : Int) (M : fMem), rg v1 → k v1 M = some q → fW G mX11_laysEntries (fEm G mX11_laysEntries (rV q) fNo) 0 0 24 [some (rv G 418), some (iv v1), none] [] M) : ∀ (n : Nat) (v1 : Int) (v2 : Int) (M : fMem), rg v1 → rg v2 → L_X11_laysEntries_7 k n v1 v2 M = some q → fW G mX11_laysEntries (fEm G mX11_laysEntries (rV q) fNo) 0 0 7 [some (rv G 418), some (iv v1), some (iv v2)] [] M := by
  intro n
  induction n with
  | zero =>
    intro v1 v2 M gv1 gv2 h
    rw [L_X11_laysEntries_7] at h
    exact absurd h (by simp)
  | succ n ih =>
    intro v1 v2 M gv1 gv2 h
    rw [L_X11_laysEntries_7] at h
    refine fW_rg (fun hR => ?_)
    refine fW_iload_n 8 dX11_laysEntries_7 rfl rfl ?_
    refine fW_bipush 10 dX11_laysEntries_8 rfl (by decide) ?_
    refine fW_icmp_ge 13 24 gv2 (by decide) dX11_laysEntries_10 rfl rfl (fun c2 => ?_) (fun c2 => ?_)
    · replace h := fTt h c2
      exact fW_sb (hk v1 M gv1 h) ⟨rfl, rfl, trivial⟩
    · replace h := fFf h c2
      refine fW_aload_n 14 dX11_laysEntries_13 rfl rfl ?_
      refine fW_iload_n 15 dX11_laysEntries_14 rfl rfl ?_
      obtain ⟨r3, e3, h⟩ := fBd h
      refine fW_cV (fI_V (as := [iv v2]) (rest := []) miX11_laysThings hg clX11 rfl tc_418 wd_1435 (fRoom_of rfl) rfl (Nat.le_of_ble_eq_true rfl) dX11_laysEntries_15) (s_X11_laysThings hg gv2 e3) rfl rfl rfl ?_
      refine fW_rg (fun hR4 => ?_)
      refine fW_iinc 21 (ls' := [some (rv G 418), some (iv v1), some (iv (v2 + 1))]) dX11_laysEntries_18 rfl rfl rfl (by decide) ?_
      refine fW_goto 7 dX11_laysEntries_21 rfl ?_
      exact fW_sb (ih v1 (v2 + 1) r3 gv1 (rg_succ' gv2 (by decide) c2) h) ⟨rfl, rfl, rfl, trivial⟩
def L_X11_laysEntries_27  (k : fMem → Option (fMem)) : Nat → Int → Int → fMem → Option (fMem)
  | 0, _, _, _ => none
  | n + 1, v1, v2, M => (if v2 < 0 then k  M else (if v1 = 0 then ((f_X11_leadOf v2 M).bind fun (r8 : Int) => (if r8 = ((-1)) then L_X11_laysEntries_27  k n v1 (v2 + -1) M else ((f_X11_leadOf v2 M).bind fun (r10 : Int) => (if -2147483648 ≤ v2 + 1 ∧ v2 + 1 < 2147483648 then ((f_X11_laysMarks r10 (v2 + 1) M).bind fun (r12 : fMem) => L_X11_laysEntries_27  k n v1 (v2 + -1) r12) else none)))) else k  M))
set_option maxRecDepth 100000 in
set_option maxHeartbeats 4000000 in
theorem l_X11_laysEntries_27 {G : fG} (hg : gbt G = true)  {q : fMem} {k : fMem → Option (fMem)} (hk : ∀ (M : fMem), k M = some q → fW G mX11_laysEntries (fEm G mX11_laysEntries (rV q) fNo) 0 0 62 [some (rv G 418), none, none] [] M) : ∀ (n : Nat) (v1 : Int) (v2 : Int) (M : fMem), rg v1 → rg v2 → L_X11_laysEntries_27 k n v1 v2 M = some q → fW G mX11_laysEntries (fEm G mX11_laysEntries (rV q) fNo) 0 0 27 [some (rv G 418), some (iv v1), some (iv v2)] [] M := by
  intro n
  induction n with
  | zero =>
    intro v1 v2 M gv1 gv2 h
    rw [L_X11_laysEntries_27] at h
    exact absurd h (by simp)
  | succ n ih =>
    intro v1 v2 M gv1 gv2 h
    rw [L_X11_laysEntries_27] at h
    refine fW_rg (fun hR => ?_)
    refine fW_iload_n 28 dX11_laysEntries_27 rfl rfl ?_
    refine fW_if_lt 31 62 gv2 dX11_laysEntries_28 rfl rfl (fun c6 => ?_) (fun c6 => ?_)
    · replace h := fTt h c6
      exact fW_sb (hk M h) ⟨rfl, trivial⟩
    · replace h := fFf h c6
      refine fW_iload_n 32 dX11_laysEntries_31 rfl rfl ?_
      refine fW_if_ne 35 62 gv1 dX11_laysEntries_32 rfl rfl (fun c7 => ?_) (fun c7 => ?_)
      · replace h := fFf h c7
        exact fW_sb (hk M h) ⟨rfl, trivial⟩
      · replace h := fTt h c7
        refine fW_aload_n 36 dX11_laysEntries_35 rfl rfl ?_
        refine fW_iload_n 37 dX11_laysEntries_36 rfl rfl ?_
        obtain ⟨r8, e8, h⟩ := fBd h
        refine fW_cP (fI_V (as := [iv v2]) (rest := []) miX11_leadOf hg clX11 rfl tc_418 wd_1447 (fRoom_of rfl) rfl (Nat.le_of_ble_eq_true rfl) dX11_laysEntries_37) (s_X11_leadOf hg gv2 e8) rfl rfl rfl (fun g8 => ?_)
        refine fW_iconst 41 dX11_laysEntries_40 rfl ?_
        refine fW_icmp_eq 44 56 g8 (by decide) dX11_laysEntries_41 rfl rfl (fun c9 => ?_) (fun c9 => ?_)
        · replace h := fTt h c9
          refine fW_iinc 59 (ls' := [some (rv G 418), some (iv v1), some (iv (v2 + -1))]) dX11_laysEntries_56 rfl rfl rfl (by decide) ?_
          refine fW_goto 27 dX11_laysEntries_59 rfl ?_
          exact fW_sb (ih v1 (v2 + -1) M gv1 (rg_pred0' gv2 c6) h) ⟨rfl, rfl, rfl, trivial⟩
        · replace h := fFf h c9
          refine fW_aload_n 45 dX11_laysEntries_44 rfl rfl ?_
          refine fW_aload_n 46 dX11_laysEntries_45 rfl rfl ?_
          refine fW_iload_n 47 dX11_laysEntries_46 rfl rfl ?_
          obtain ⟨r10, e10, h⟩ := fBd h
          refine fW_cP (fI_V (as := [iv v2]) (rest := [rv G 418]) miX11_leadOf hg clX11 rfl tc_418 wd_1447 (fRoom_of rfl) rfl (Nat.le_of_ble_eq_true rfl) dX11_laysEntries_47) (s_X11_leadOf hg gv2 e10) rfl rfl rfl (fun g10 => ?_)
          refine fW_iload_n 51 dX11_laysEntries_50 rfl rfl ?_
          refine fW_iconst 52 dX11_laysEntries_51 rfl ?_
          refine fW_iadd 53 dX11_laysEntries_52 rfl ?_
          obtain ⟨c11, h⟩ := fS h
          obtain ⟨r12, e12, h⟩ := fBd h
          refine fW_cV (fI_V (as := [iv r10, iv (v2 + 1)]) (rest := []) miX11_laysMarks hg clX11 rfl tc_418 wd_1451 (fRoom_of rfl) rfl (Nat.le_of_ble_eq_true rfl) dX11_laysEntries_53) (s_X11_laysMarks hg g10 c11 e12) rfl rfl rfl ?_
          refine fW_rg (fun hR13 => ?_)
          refine fW_iinc 59 (ls' := [some (rv G 418), some (iv v1), some (iv (v2 + -1))]) dX11_laysEntries_56 rfl rfl rfl (by decide) ?_
          refine fW_goto 27 dX11_laysEntries_59 rfl ?_
          exact fW_sb (ih v1 (v2 + -1) r12 gv1 (rg_pred0' gv2 c6) h) ⟨rfl, rfl, rfl, trivial⟩
def f_X11_laysEntries (a1 : Int) (M : fMem) : Option (fMem) := ((some (mset M 418 13 a1)).bind fun (N1 : fMem) => L_X11_laysEntries_7 (fun (v1_5 : Int) (M_5 : fMem) => L_X11_laysEntries_27 (fun  (M_14 : fMem) => some M_14) 20000 v1_5 7 M_5) 20000 a1 0 N1)
set_option maxRecDepth 100000 in
set_option maxHeartbeats 4000000 in
theorem s_X11_laysEntries {G : fG} (hg : gbt G = true) {a1 : Int} (ga1 : 0 ≤ a1 ∧ a1 ≤ 1) {M : fMem} {q : fMem} (h : f_X11_laysEntries a1 M = some q) : fSp G mX11_laysEntries [rv G 418, iv a1] M (rV q) fNo := by
  refine fSp_of (by decide +kernel) (by decide +kernel) (fC1 rfl (fC1 rfl fC0)) (Nat.le_of_ble_eq_true rfl) ?_
  show fW G mX11_laysEntries (fEm G mX11_laysEntries (rV q) fNo) 0 0 0 [some (rv G 418), some (iv a1), none] [] M
  rw [f_X11_laysEntries] at h
  refine fW_rg (fun hR => ?_)
  refine fW_aload_n 1 dX11_laysEntries_0 rfl rfl ?_
  refine fW_iload_n 2 dX11_laysEntries_1 rfl rfl ?_
  obtain ⟨N1, e1, h⟩ := fBd h
  replace e1 := Option.some.inj e1
  refine fW_putZ 5 13 (ji := 13) hg clX11 rfl (by decide) rfl rfl rfl tc_418 ga1 wd_1187 dX11_laysEntries_2 rfl ?_
  rw [e1]
  refine fW_rg (fun hR1 => ?_)
  refine fW_iconst 6 dX11_laysEntries_5 rfl ?_
  refine fW_istore_n 7 (ls' := [some (rv G 418), some (iv a1), some (iv 0)]) dX11_laysEntries_6 rfl rfl rfl (by decide) ?_
  refine fW_sb (l_X11_laysEntries_7 hg ?_ 20000 a1 0 N1 (rg_z ga1) (by decide) h) ⟨rfl, rfl, rfl, trivial⟩
  intro v1_5 M_5 gv1_5 h
  refine fW_rg (fun hR_5 => ?_)
  refine fW_bipush 26 dX11_laysEntries_24 rfl (by decide) ?_
  refine fW_istore_n 27 (ls' := [some (rv G 418), some (iv v1_5), some (iv 7)]) dX11_laysEntries_26 rfl rfl rfl (by decide) ?_
  refine fW_sb (l_X11_laysEntries_27 hg ?_ 20000 v1_5 7 M_5 gv1_5 (by decide) h) ⟨rfl, rfl, rfl, trivial⟩
  intro M_14 h
  refine fW_rg (fun hR_14 => ?_)
  exact fW_vret rfl (by decide) (by decide) dX11_laysEntries_62 (rV_i h)
end MTH
