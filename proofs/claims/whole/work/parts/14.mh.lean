section MTH
def mX3_build : fMt := (yX3_build, cX3_build, 7, none, { frames := 3, cells := 0, slots := 0, locals := 120 })
theorem miX3_build : fMv mX3_build 2 := ⟨⟨fM 785 (by decide +kernel) rfl, fM 97 (by decide +kernel) rfl, ⟨by decide +kernel, by decide +kernel⟩, by decide +kernel⟩, fM 783 (by decide +kernel) rfl, fM 784 (by decide +kernel) rfl⟩
def L_X3_build_21  (k : Nat → Int → Int → fMem → Option (fMem)) : Nat → Nat → Int → Int → Int → Int → fMem → Option (fMem)
  | 0, _, _, _, _, _, _ => none
  | n + 1, w1, v2, v3, v4, v5, M => (if 0 ≤ v3 ∧ v3 < 9 then (if (ER v3) ≤ v5 then k w1 v2 v3 M else (if 0 ≤ v5 ∧ v5 < 19 then ((f_X1_clear (4 * psO v5.toNat + 151) M).bind fun (r8 : fMem) => (if v5 = v4 then (if 8 ≤ v3 then (if 0 ≤ v5 ∧ v5 < 19 then ((f_X6_isShut (w1 + 3 * v5.toNat + 3) r8).bind fun (r24 : Int) => (if r24 = 0 then L_X3_build_21  k n w1 v2 v3 v4 (v5 + 1) r8 else (if 0 ≤ v5 ∧ v5 < 19 then (if 0 ≤ v5 ∧ v5 < 19 then ((f_X3_weave (w1 + 3 * v5.toNat + 3) (4 * psO v5.toNat + 151) ((-1)) ((-1)) v2 r8).bind fun (r30 : fMem) => L_X3_build_21  k n w1 v2 v3 v4 (v5 + 1) r30) else none) else none))) else none) else ((f_X7_leadOf w1 (v3 + 1) r8).bind fun (r32 : Int) => (if 0 ≤ v5 ∧ v5 < 19 then (if 0 ≤ v5 ∧ v5 < 19 then ((f_X7_youngestBut w1 (v3 + 1) r32 r8).bind fun (r37 : Int) => ((f_X3_weave (w1 + 3 * v5.toNat + 3) (4 * psO v5.toNat + 151) r32 r37 v2 r8).bind fun (r38 : fMem) => L_X3_build_21  k n w1 v2 v3 v4 (v5 + 1) r38)) else none) else none))) else (if 0 ≤ v5 ∧ v5 < 19 then ((f_X6_isShut (w1 + 3 * v5.toNat + 3) r8).bind fun (r13 : Int) => (if r13 = 0 then L_X3_build_21  k n w1 v2 v3 v4 (v5 + 1) r8 else (if 0 ≤ v5 ∧ v5 < 19 then (if 0 ≤ v5 ∧ v5 < 19 then ((f_X3_weave (w1 + 3 * v5.toNat + 3) (4 * psO v5.toNat + 151) ((-1)) ((-1)) v2 r8).bind fun (r19 : fMem) => L_X3_build_21  k n w1 v2 v3 v4 (v5 + 1) r19) else none) else none))) else none))) else none)) else none)
set_option maxRecDepth 100000 in
set_option maxHeartbeats 4000000 in
theorem l_X3_build_21 {G : fG} (hg : gbt G = true)  {q : fMem} {k : Nat → Int → Int → fMem → Option (fMem)} (hk : ∀ (w1 : Nat) (v2 : Int) (v3 : Int) (M : fMem), fTyp w1 7 → rg v2 → rg v3 → k w1 v2 v3 M = some q → fW G mX3_build (fEm G mX3_build (rV q) fNo) 0 0 136 [some (rv G 149), some (rv G w1), some (iv v2), some (iv v3), none, none, none] [] M) : ∀ (n : Nat) (w1 : Nat) (v2 : Int) (v3 : Int) (v4 : Int) (v5 : Int) (M : fMem), fTyp w1 7 → rg v2 → rg v3 → rg v4 → rg v5 → L_X3_build_21 k n w1 v2 v3 v4 v5 M = some q → fW G mX3_build (fEm G mX3_build (rV q) fNo) 0 0 21 [some (rv G 149), some (rv G w1), some (iv v2), some (iv v3), some (iv v4), some (iv v5), none] [] M := by
  intro n
  induction n with
  | zero =>
    intro w1 v2 v3 v4 v5 M tw1 gv2 gv3 gv4 gv5 h
    rw [L_X3_build_21] at h
    exact absurd h (by simp)
  | succ n ih =>
    intro w1 v2 v3 v4 v5 M tw1 gv2 gv3 gv4 gv5 h
    rw [L_X3_build_21] at h
    refine fW_rg (fun hR => ?_)
    refine fW_iload 23 dX3_build_21 rfl rfl ?_
    refine fW_getsN 26 (host := "RowStore") 1 (by decide) (by decide +kernel) dX3_build_23 rfl ?_
    refine fW_iload_n 27 dX3_build_26 rfl rfl ?_
    obtain ⟨c4, h⟩ := fS h
    refine fW_sald 28 1 (by decide) c4 dX3_build_27 rfl ?_
    rw [show SV 1 v3 = ER v3 from rfl]
    refine fW_icmp_ge 31 136 gv5 (rg_ER c4) dX3_build_28 rfl rfl (fun c5 => ?_) (fun c5 => ?_)
    · replace h := fTt h c5
      exact fW_sb (hk w1 v2 v3 M tw1 gv2 gv3 h) ⟨rfl, rfl, rfl, rfl, trivial⟩
    · replace h := fFf h c5
      refine fW_aload_n 32 dX3_build_31 rfl rfl ?_
      refine fW_getR 35 (r := 150) 0 hg clX3 (by decide) rfl tc_149 tf_3_0 wd_361 dX3_build_32 rfl ?_
      refine fW_iload 37 dX3_build_35 rfl rfl ?_
      obtain ⟨c6, h⟩ := fS h
      have t7 := ta_14 (r := 4 * psO v5.toNat + 151) tc_150 c6 (by omega)
      refine fW_aald 38 2 hg tc_150 (by decide) (by decide) t7.1 t7.2.2 rfl dX3_build_37 rfl ?_
      obtain ⟨r8, e8, h⟩ := fBd h
      refine fW_cV (fI_V (as := []) (rest := []) miX1_clear hg clX1 rfl t7.2.1 wd_791 (fRoom_of rfl) rfl (Nat.le_of_ble_eq_true rfl) dX3_build_38) (s_X1_clear hg t7.2.1 e8) rfl rfl rfl ?_
      refine fW_rg (fun hR9 => ?_)
      refine fW_iload 43 dX3_build_41 rfl rfl ?_
      refine fW_iload 45 dX3_build_43 rfl rfl ?_
      refine fW_icmp_ne 48 96 gv5 gv4 dX3_build_45 rfl rfl (fun c10 => ?_) (fun c10 => ?_)
      · replace h := fFf h c10
        refine fW_aload_n 97 dX3_build_96 rfl rfl ?_
        refine fW_getR 100 (r := w1 + 1) 0 hg clX7 (by decide) rfl tw1 (tf_7_0 tw1) wd_182 dX3_build_97 rfl ?_
        refine fW_iload 102 dX3_build_100 rfl rfl ?_
        obtain ⟨c11, h⟩ := fS h
        have t12 := ta_16 (r := w1 + 3 * v5.toNat + 3) (tt_7_0 tw1) c11 (by omega)
        refine fW_aald 103 4 hg (tt_7_0 tw1) (by decide) (by decide) t12.1 t12.2.2 rfl dX3_build_102 rfl ?_
        obtain ⟨r13, e13, h⟩ := fBd h
        refine fW_cB (fI_V (as := []) (rest := []) miX6_isShut hg clX6 rfl t12.2.1 wd_822 (fRoom_of rfl) rfl (Nat.le_of_ble_eq_true rfl) dX3_build_103) (s_X6_isShut hg t12.2.1 e13) rfl rfl rfl (fun g13 => ?_)
        refine fW_if_eq 109 130 (rg_z g13) dX3_build_106 rfl rfl (fun c14 => ?_) (fun c14 => ?_)
        · replace h := fTt h c14
          refine fW_iinc 133 (ls' := [some (rv G 149), some (rv G w1), some (iv v2), some (iv v3), some (iv v4), some (iv (v5 + 1)), none]) dX3_build_130 rfl rfl rfl (by decide) ?_
          refine fW_goto 21 dX3_build_133 rfl ?_
          exact fW_sb (ih w1 v2 v3 v4 (v5 + 1) r8 tw1 gv2 gv3 gv4 (rg_succ' gv5 (rg_ER c4) c5) h) ⟨rfl, rfl, rfl, rfl, rfl, rfl, trivial⟩
        · replace h := fFf h c14
          refine fW_aload_n 110 dX3_build_109 rfl rfl ?_
          refine fW_aload_n 111 dX3_build_110 rfl rfl ?_
          refine fW_getR 114 (r := w1 + 1) 0 hg clX7 (by decide) rfl tw1 (tf_7_0 tw1) wd_182 dX3_build_111 rfl ?_
          refine fW_iload 116 dX3_build_114 rfl rfl ?_
          obtain ⟨c15, h⟩ := fS h
          have t16 := ta_16 (r := w1 + 3 * v5.toNat + 3) (tt_7_0 tw1) c15 (by omega)
          refine fW_aald 117 4 hg (tt_7_0 tw1) (by decide) (by decide) t16.1 t16.2.2 rfl dX3_build_116 rfl ?_
          refine fW_aload_n 118 dX3_build_117 rfl rfl ?_
          refine fW_getR 121 (r := 150) 0 hg clX3 (by decide) rfl tc_149 tf_3_0 wd_361 dX3_build_118 rfl ?_
          refine fW_iload 123 dX3_build_121 rfl rfl ?_
          obtain ⟨c17, h⟩ := fS h
          have t18 := ta_14 (r := 4 * psO v5.toNat + 151) tc_150 c17 (by omega)
          refine fW_aald 124 2 hg tc_150 (by decide) (by decide) t18.1 t18.2.2 rfl dX3_build_123 rfl ?_
          refine fW_iconst 125 dX3_build_124 rfl ?_
          refine fW_iconst 126 dX3_build_125 rfl ?_
          refine fW_iload_n 127 dX3_build_126 rfl rfl ?_
          obtain ⟨r19, e19, h⟩ := fBd h
          refine fW_cV (fI_V (as := [rv G (w1 + 3 * v5.toNat + 3), rv G (4 * psO v5.toNat + 151), iv ((-1)), iv ((-1)), iv v2]) (rest := []) miX3_weave hg clX3 rfl tc_149 wd_796 (fRoom_of rfl) rfl (Nat.le_of_ble_eq_true rfl) dX3_build_127) (s_X3_weave hg t16.2.1 t18.2.1 (by decide) (by decide) gv2 e19) rfl rfl rfl ?_
          refine fW_rg (fun hR20 => ?_)
          refine fW_iinc 133 (ls' := [some (rv G 149), some (rv G w1), some (iv v2), some (iv v3), some (iv v4), some (iv (v5 + 1)), none]) dX3_build_130 rfl rfl rfl (by decide) ?_
          refine fW_goto 21 dX3_build_133 rfl ?_
          exact fW_sb (ih w1 v2 v3 v4 (v5 + 1) r19 tw1 gv2 gv3 gv4 (rg_succ' gv5 (rg_ER c4) c5) h) ⟨rfl, rfl, rfl, rfl, rfl, rfl, trivial⟩
      · replace h := fTt h c10
        refine fW_iload_n 49 dX3_build_48 rfl rfl ?_
        refine fW_bipush 51 dX3_build_49 rfl (by decide) ?_
        refine fW_icmp_ge 54 96 gv3 (by decide) dX3_build_51 rfl rfl (fun c21 => ?_) (fun c21 => ?_)
        · replace h := fTt h c21
          refine fW_aload_n 97 dX3_build_96 rfl rfl ?_
          refine fW_getR 100 (r := w1 + 1) 0 hg clX7 (by decide) rfl tw1 (tf_7_0 tw1) wd_182 dX3_build_97 rfl ?_
          refine fW_iload 102 dX3_build_100 rfl rfl ?_
          obtain ⟨c22, h⟩ := fS h
          have t23 := ta_16 (r := w1 + 3 * v5.toNat + 3) (tt_7_0 tw1) c22 (by omega)
          refine fW_aald 103 4 hg (tt_7_0 tw1) (by decide) (by decide) t23.1 t23.2.2 rfl dX3_build_102 rfl ?_
          obtain ⟨r24, e24, h⟩ := fBd h
          refine fW_cB (fI_V (as := []) (rest := []) miX6_isShut hg clX6 rfl t23.2.1 wd_822 (fRoom_of rfl) rfl (Nat.le_of_ble_eq_true rfl) dX3_build_103) (s_X6_isShut hg t23.2.1 e24) rfl rfl rfl (fun g24 => ?_)
          refine fW_if_eq 109 130 (rg_z g24) dX3_build_106 rfl rfl (fun c25 => ?_) (fun c25 => ?_)
          · replace h := fTt h c25
            refine fW_iinc 133 (ls' := [some (rv G 149), some (rv G w1), some (iv v2), some (iv v3), some (iv v4), some (iv (v5 + 1)), none]) dX3_build_130 rfl rfl rfl (by decide) ?_
            refine fW_goto 21 dX3_build_133 rfl ?_
            exact fW_sb (ih w1 v2 v3 v4 (v5 + 1) r8 tw1 gv2 gv3 gv4 (rg_succ' gv5 (rg_ER c4) c5) h) ⟨rfl, rfl, rfl, rfl, rfl, rfl, trivial⟩
          · replace h := fFf h c25
            refine fW_aload_n 110 dX3_build_109 rfl rfl ?_
            refine fW_aload_n 111 dX3_build_110 rfl rfl ?_
            refine fW_getR 114 (r := w1 + 1) 0 hg clX7 (by decide) rfl tw1 (tf_7_0 tw1) wd_182 dX3_build_111 rfl ?_
            refine fW_iload 116 dX3_build_114 rfl rfl ?_
            obtain ⟨c26, h⟩ := fS h
            have t27 := ta_16 (r := w1 + 3 * v5.toNat + 3) (tt_7_0 tw1) c26 (by omega)
            refine fW_aald 117 4 hg (tt_7_0 tw1) (by decide) (by decide) t27.1 t27.2.2 rfl dX3_build_116 rfl ?_
            refine fW_aload_n 118 dX3_build_117 rfl rfl ?_
            refine fW_getR 121 (r := 150) 0 hg clX3 (by decide) rfl tc_149 tf_3_0 wd_361 dX3_build_118 rfl ?_
            refine fW_iload 123 dX3_build_121 rfl rfl ?_
            obtain ⟨c28, h⟩ := fS h
            have t29 := ta_14 (r := 4 * psO v5.toNat + 151) tc_150 c28 (by omega)
            refine fW_aald 124 2 hg tc_150 (by decide) (by decide) t29.1 t29.2.2 rfl dX3_build_123 rfl ?_
            refine fW_iconst 125 dX3_build_124 rfl ?_
            refine fW_iconst 126 dX3_build_125 rfl ?_
            refine fW_iload_n 127 dX3_build_126 rfl rfl ?_
            obtain ⟨r30, e30, h⟩ := fBd h
            refine fW_cV (fI_V (as := [rv G (w1 + 3 * v5.toNat + 3), rv G (4 * psO v5.toNat + 151), iv ((-1)), iv ((-1)), iv v2]) (rest := []) miX3_weave hg clX3 rfl tc_149 wd_796 (fRoom_of rfl) rfl (Nat.le_of_ble_eq_true rfl) dX3_build_127) (s_X3_weave hg t27.2.1 t29.2.1 (by decide) (by decide) gv2 e30) rfl rfl rfl ?_
            refine fW_rg (fun hR31 => ?_)
            refine fW_iinc 133 (ls' := [some (rv G 149), some (rv G w1), some (iv v2), some (iv v3), some (iv v4), some (iv (v5 + 1)), none]) dX3_build_130 rfl rfl rfl (by decide) ?_
            refine fW_goto 21 dX3_build_133 rfl ?_
            exact fW_sb (ih w1 v2 v3 v4 (v5 + 1) r30 tw1 gv2 gv3 gv4 (rg_succ' gv5 (rg_ER c4) c5) h) ⟨rfl, rfl, rfl, rfl, rfl, rfl, trivial⟩
        · replace h := fFf h c21
          refine fW_aload_n 55 dX3_build_54 rfl rfl ?_
          refine fW_iload_n 56 dX3_build_55 rfl rfl ?_
          refine fW_iconst 57 dX3_build_56 rfl ?_
          refine fW_iadd 58 dX3_build_57 rfl ?_
          obtain ⟨r32, e32, h⟩ := fBd h
          refine fW_cP (fI_V (as := [iv (v3 + 1)]) (rest := []) miX7_leadOf hg clX7 rfl tw1 wd_786 (fRoom_of rfl) rfl (Nat.le_of_ble_eq_true rfl) dX3_build_58) (s_X7_leadOf hg tw1 (rg_succ' gv3 (by decide) c21) e32) rfl rfl rfl (fun g32 => ?_)
          refine fW_istore 63 (ls' := [some (rv G 149), some (rv G w1), some (iv v2), some (iv v3), some (iv v4), some (iv v5), some (iv r32)]) dX3_build_61 rfl rfl (by decide) ?_
          refine fW_aload_n 64 dX3_build_63 rfl rfl ?_
          refine fW_aload_n 65 dX3_build_64 rfl rfl ?_
          refine fW_getR 68 (r := w1 + 1) 0 hg clX7 (by decide) rfl tw1 (tf_7_0 tw1) wd_182 dX3_build_65 rfl ?_
          refine fW_iload 70 dX3_build_68 rfl rfl ?_
          obtain ⟨c33, h⟩ := fS h
          have t34 := ta_16 (r := w1 + 3 * v5.toNat + 3) (tt_7_0 tw1) c33 (by omega)
          refine fW_aald 71 4 hg (tt_7_0 tw1) (by decide) (by decide) t34.1 t34.2.2 rfl dX3_build_70 rfl ?_
          refine fW_aload_n 72 dX3_build_71 rfl rfl ?_
          refine fW_getR 75 (r := 150) 0 hg clX3 (by decide) rfl tc_149 tf_3_0 wd_361 dX3_build_72 rfl ?_
          refine fW_iload 77 dX3_build_75 rfl rfl ?_
          obtain ⟨c35, h⟩ := fS h
          have t36 := ta_14 (r := 4 * psO v5.toNat + 151) tc_150 c35 (by omega)
          refine fW_aald 78 2 hg tc_150 (by decide) (by decide) t36.1 t36.2.2 rfl dX3_build_77 rfl ?_
          refine fW_iload 80 dX3_build_78 rfl rfl ?_
          refine fW_aload_n 81 dX3_build_80 rfl rfl ?_
          refine fW_iload_n 82 dX3_build_81 rfl rfl ?_
          refine fW_iconst 83 dX3_build_82 rfl ?_
          refine fW_iadd 84 dX3_build_83 rfl ?_
          refine fW_iload 86 dX3_build_84 rfl rfl ?_
          obtain ⟨r37, e37, h⟩ := fBd h
          refine fW_cP (fI_V (as := [iv (v3 + 1), iv r32]) (rest := [iv r32, rv G (4 * psO v5.toNat + 151), rv G (w1 + 3 * v5.toNat + 3), rv G 149]) miX7_youngestBut hg clX7 rfl tw1 wd_795 (fRoom_of rfl) rfl (Nat.le_of_ble_eq_true rfl) dX3_build_86) (s_X7_youngestBut hg tw1 (rg_succ' gv3 (by decide) c21) g32 e37) rfl rfl rfl (fun g37 => ?_)
          refine fW_iload_n 90 dX3_build_89 rfl rfl ?_
          obtain ⟨r38, e38, h⟩ := fBd h
          refine fW_cV (fI_V (as := [rv G (w1 + 3 * v5.toNat + 3), rv G (4 * psO v5.toNat + 151), iv r32, iv r37, iv v2]) (rest := []) miX3_weave hg clX3 rfl tc_149 wd_796 (fRoom_of rfl) rfl (Nat.le_of_ble_eq_true rfl) dX3_build_90) (s_X3_weave hg t34.2.1 t36.2.1 g32 g37 gv2 e38) rfl rfl rfl ?_
          refine fW_rg (fun hR39 => ?_)
          refine fW_goto 130 dX3_build_93 rfl ?_
          refine fW_iinc 133 (ls' := [some (rv G 149), some (rv G w1), some (iv v2), some (iv v3), some (iv v4), some (iv (v5 + 1)), some (iv r32)]) dX3_build_130 rfl rfl rfl (by decide) ?_
          refine fW_goto 21 dX3_build_133 rfl ?_
          exact fW_sb (ih w1 v2 v3 v4 (v5 + 1) r38 tw1 gv2 gv3 gv4 (rg_succ' gv5 (rg_ER c4) c5) h) ⟨rfl, rfl, rfl, rfl, rfl, rfl, trivial⟩
def L_X3_build_3  (k : fMem → Option (fMem)) : Nat → Nat → Int → Int → fMem → Option (fMem)
  | 0, _, _, _, _ => none
  | n + 1, w1, v2, v3, M => (if v3 < 0 then k  M else ((f_X7_leadOf w1 v3 M).bind fun (r2 : Int) => (if 0 ≤ v3 ∧ v3 < 9 then L_X3_build_21 (fun (w1_40 : Nat) (v2_40 : Int) (v3_40 : Int) (M_40 : fMem) => (if -2147483648 ≤ v3_40 + -1 ∧ v3_40 + -1 < 2147483648 then L_X3_build_3  k n w1_40 v2_40 (v3_40 + -1) M_40 else none)) 20000 w1 v2 v3 r2 (FR v3) M else none)))
set_option maxRecDepth 100000 in
set_option maxHeartbeats 4000000 in
theorem l_X3_build_3 {G : fG} (hg : gbt G = true)  {q : fMem} {k : fMem → Option (fMem)} (hk : ∀ (M : fMem), k M = some q → fW G mX3_build (fEm G mX3_build (rV q) fNo) 0 0 142 [some (rv G 149), none, none, none, none, none, none] [] M) : ∀ (n : Nat) (w1 : Nat) (v2 : Int) (v3 : Int) (M : fMem), fTyp w1 7 → rg v2 → rg v3 → L_X3_build_3 k n w1 v2 v3 M = some q → fW G mX3_build (fEm G mX3_build (rV q) fNo) 0 0 3 [some (rv G 149), some (rv G w1), some (iv v2), some (iv v3), none, none, none] [] M := by
  intro n
  induction n with
  | zero =>
    intro w1 v2 v3 M tw1 gv2 gv3 h
    rw [L_X3_build_3] at h
    exact absurd h (by simp)
  | succ n ih =>
    intro w1 v2 v3 M tw1 gv2 gv3 h
    rw [L_X3_build_3] at h
    refine fW_rg (fun hR => ?_)
    refine fW_iload_n 4 dX3_build_3 rfl rfl ?_
    refine fW_if_lt 7 142 gv3 dX3_build_4 rfl rfl (fun c1 => ?_) (fun c1 => ?_)
    · replace h := fTt h c1
      exact fW_sb (hk M h) ⟨rfl, trivial⟩
    · replace h := fFf h c1
      refine fW_aload_n 8 dX3_build_7 rfl rfl ?_
      refine fW_iload_n 9 dX3_build_8 rfl rfl ?_
      obtain ⟨r2, e2, h⟩ := fBd h
      refine fW_cP (fI_V (as := [iv v3]) (rest := []) miX7_leadOf hg clX7 rfl tw1 wd_786 (fRoom_of rfl) rfl (Nat.le_of_ble_eq_true rfl) dX3_build_9) (s_X7_leadOf hg tw1 gv3 e2) rfl rfl rfl (fun g2 => ?_)
      refine fW_istore 14 (ls' := [some (rv G 149), some (rv G w1), some (iv v2), some (iv v3), some (iv r2), none, none]) dX3_build_12 rfl rfl (by decide) ?_
      refine fW_getsN 17 (host := "RowStore") 0 (by decide) (by decide +kernel) dX3_build_14 rfl ?_
      refine fW_iload_n 18 dX3_build_17 rfl rfl ?_
      obtain ⟨c3, h⟩ := fS h
      refine fW_sald 19 0 (by decide) c3 dX3_build_18 rfl ?_
      rw [show SV 0 v3 = FR v3 from rfl]
      refine fW_istore 21 (ls' := [some (rv G 149), some (rv G w1), some (iv v2), some (iv v3), some (iv r2), some (iv (FR v3)), none]) dX3_build_19 rfl rfl (by decide) ?_
      refine fW_sb (l_X3_build_21 hg ?_ 20000 w1 v2 v3 r2 (FR v3) M tw1 gv2 gv3 g2 (rg_FR c3) h) ⟨rfl, rfl, rfl, rfl, rfl, rfl, trivial⟩
      intro w1_40 v2_40 v3_40 M_40 tw1_40 gv2_40 gv3_40 h
      refine fW_rg (fun hR_40 => ?_)
      refine fW_iinc 139 (ls' := [some (rv G 149), some (rv G w1_40), some (iv v2_40), some (iv (v3_40 + -1)), none, none, none]) dX3_build_136 rfl rfl rfl (by decide) ?_
      refine fW_goto 3 dX3_build_139 rfl ?_
      obtain ⟨c41, h⟩ := fS h
      exact fW_sb (ih w1_40 v2_40 (v3_40 + -1) M_40 tw1_40 gv2_40 c41 h) ⟨rfl, rfl, rfl, rfl, trivial⟩
def f_X3_build (p1 : Nat) (a2 : Int) (M : fMem) : Option (fMem) := L_X3_build_3 (fun  (M_42 : fMem) => some M_42) 20000 p1 a2 8 M
set_option maxRecDepth 100000 in
set_option maxHeartbeats 4000000 in
theorem s_X3_build {G : fG} (hg : gbt G = true) {p1 : Nat} (hp1 : fTyp p1 7) {a2 : Int} (ga2 : rg a2) {M : fMem} {q : fMem} (h : f_X3_build p1 a2 M = some q) : fSp G mX3_build [rv G 149, rv G p1, iv a2] M (rV q) fNo := by
  refine fSp_of (by decide +kernel) (by decide +kernel) (fC1 rfl (fC1 rfl (fC1 rfl fC0))) (Nat.le_of_ble_eq_true rfl) ?_
  show fW G mX3_build (fEm G mX3_build (rV q) fNo) 0 0 0 [some (rv G 149), some (rv G p1), some (iv a2), none, none, none, none] [] M
  rw [f_X3_build] at h
  refine fW_rg (fun hR => ?_)
  refine fW_bipush 2 dX3_build_0 rfl (by decide) ?_
  refine fW_istore_n 3 (ls' := [some (rv G 149), some (rv G p1), some (iv a2), some (iv 8), none, none, none]) dX3_build_2 rfl rfl rfl (by decide) ?_
  refine fW_sb (l_X3_build_3 hg ?_ 20000 p1 a2 8 M hp1 ga2 (by decide) h) ⟨rfl, rfl, rfl, rfl, trivial⟩
  intro M_42 h
  refine fW_rg (fun hR_42 => ?_)
  exact fW_vret rfl (by decide) (by decide) dX3_build_142 (rV_i h)
def mX5_start : fMt := (yX5_start, cX5_start, 1, none, { frames := 0, cells := 0, slots := 0, locals := 0 })
theorem miX5_start : fMv mX5_start 0 := ⟨⟨fM 834 (by decide +kernel) rfl, fM 99 (by decide +kernel) rfl, ⟨by decide +kernel, by decide +kernel⟩, by decide +kernel⟩, fM 833 (by decide +kernel) rfl, fM 17 (by decide +kernel) rfl⟩
def f_X5_start  (M : fMem) : Option (fMem) := some (mset (mset M 227 4 0) 227 5 0)
set_option maxRecDepth 100000 in
set_option maxHeartbeats 4000000 in
theorem s_X5_start {G : fG} (hg : gbt G = true)  {M : fMem} {q : fMem} (h : f_X5_start M = some q) : fSp G mX5_start [rv G 227] M (rV q) fNo := by
  refine fSp_of (by decide +kernel) (by decide +kernel) (fC1 rfl fC0) (Nat.le_of_ble_eq_true rfl) ?_
  show fW G mX5_start (fEm G mX5_start (rV q) fNo) 0 0 0 [some (rv G 227)] [] M
  rw [f_X5_start] at h
  refine fW_rg (fun hR => ?_)
  refine fW_aload_n 1 dX5_start_0 rfl rfl ?_
  refine fW_iconst 2 dX5_start_1 rfl ?_
  refine fW_putI 5 4 (ji := 4) hg clX5 rfl (by decide) rfl rfl rfl tc_227 (by decide) wd_381 dX5_start_2 rfl ?_
  refine fW_rg (fun hR1 => ?_)
  refine fW_aload_n 6 dX5_start_5 rfl rfl ?_
  refine fW_iconst 7 dX5_start_6 rfl ?_
  refine fW_putI 10 5 (ji := 5) hg clX5 rfl (by decide) rfl rfl rfl tc_227 (by decide) wd_383 dX5_start_7 rfl ?_
  refine fW_rg (fun hR2 => ?_)
  exact fW_vret rfl (by decide) (by decide) dX5_start_10 (rV_i h)
def mX5_narrow : fMt := (yX5_narrow, cX5_narrow, 9, none, { frames := 2, cells := 0, slots := 0, locals := 80 })
theorem miX5_narrow : fMv mX5_narrow 3 := ⟨⟨fM 852 (by decide +kernel) rfl, fM 99 (by decide +kernel) rfl, ⟨by decide +kernel, by decide +kernel⟩, by decide +kernel⟩, fM 851 (by decide +kernel) rfl, fM 20 (by decide +kernel) rfl⟩
def j_X5_narrow_126  (v3 : Int) (v8 : Int) (x1 : Int) (x2 : Int) (M : fMem) : Option (fMem) := (if 0 ≤ x1 ∧ x1 < 19 then (if v8 = ((-1)) then (if 0 ≤ v3 ∧ v3 < 19 then (if 0 ≤ v3 ∧ v3 < 19 then some (mset (mset M 228 x1 x2) 229 v3 ((mset M 228 x1 x2) 229 v3)) else none) else none) else (if 0 ≤ v3 ∧ v3 < 19 then some (mset (mset M 228 x1 x2) 229 v3 v8) else none)) else none)
set_option maxRecDepth 100000 in
set_option maxHeartbeats 4000000 in
theorem i_X5_narrow_126 {G : fG} (hg : gbt G = true)  {v3 : Int} {v8 : Int} {x1 : Int} {x2 : Int} (gv3 : rg v3) (gv8 : rg v8) (gx1 : rg x1) (gx2 : rg x2) {M : fMem} {q : fMem} (h : j_X5_narrow_126 v3 v8 x1 x2 M = some q) : fW G mX5_narrow (fEm G mX5_narrow (rV q) fNo) 0 0 126 [some (rv G 227), none, none, some (iv v3), none, none, none, none, some (iv v8)] [iv x2, iv x1, rv G 228] M := by
  rw [j_X5_narrow_126] at h
  refine fW_rg (fun hR => ?_)
  obtain ⟨c23, h⟩ := fS h
  refine fW_iast 127 hg tc_228 ⟨c23.1, by rw [show Ln 228 = 19 from rfl]; exact c23.2⟩ gx2 dX5_narrow_126 rfl ?_
  refine fW_rg (fun hR24 => ?_)
  refine fW_aload_n 128 dX5_narrow_127 rfl rfl ?_
  refine fW_getR 131 (r := 229) 1 hg clX5 (by decide) rfl tc_227 tf_5_1 wd_375 dX5_narrow_128 rfl ?_
  refine fW_iload_n 132 dX5_narrow_131 rfl rfl ?_
  refine fW_iload 134 dX5_narrow_132 rfl rfl ?_
  refine fW_iconst 135 dX5_narrow_134 rfl ?_
  refine fW_icmp_ne 138 147 gv8 (by decide) dX5_narrow_135 rfl rfl (fun c25 => ?_) (fun c25 => ?_)
  · replace h := fFf h c25
    refine fW_iload 149 dX5_narrow_147 rfl rfl ?_
    obtain ⟨c26, h⟩ := fS h
    refine fW_iast 150 hg tc_229 ⟨c26.1, by rw [show Ln 229 = 19 from rfl]; exact c26.2⟩ gv8 dX5_narrow_149 rfl ?_
    refine fW_rg (fun hR27 => ?_)
    exact fW_vret rfl (by decide) (by decide) dX5_narrow_150 (rV_i h)
  · replace h := fTt h c25
    refine fW_aload_n 139 dX5_narrow_138 rfl rfl ?_
    refine fW_getR 142 (r := 229) 1 hg clX5 (by decide) rfl tc_227 tf_5_1 wd_375 dX5_narrow_139 rfl ?_
    refine fW_iload_n 143 dX5_narrow_142 rfl rfl ?_
    obtain ⟨c28, h⟩ := fS h
    refine fW_iald 144 hg tc_229 ⟨c28.1, by rw [show Ln 229 = 19 from rfl]; exact c28.2⟩ dX5_narrow_143 rfl ?_
    refine fW_goto 149 dX5_narrow_144 rfl ?_
    obtain ⟨c29, h⟩ := fS h
    refine fW_iast 150 hg tc_229 ⟨c29.1, by rw [show Ln 229 = 19 from rfl]; exact c29.2⟩ (hR24 229 v3) dX5_narrow_149 rfl ?_
    refine fW_rg (fun hR30 => ?_)
    exact fW_vret rfl (by decide) (by decide) dX5_narrow_150 (rV_i h)
def j_X5_narrow_46  (v3 : Int) (x0 : Int) (M : fMem) : Option (fMem) := (if x0 = ((-1)) then some M else ((f_X10_numberOf v3 M).bind fun (r12 : Int) => (if 0 ≤ x0 ∧ x0 < 19 then (if 0 ≤ x0 ∧ x0 < 19 then ((f_X1_lastMark (4 * psO x0.toNat + 151) r12 (M 230 x0) M).bind fun (r16 : Int) => (if 0 ≤ x0 ∧ x0 < 19 then (if 0 ≤ x0 ∧ x0 < 19 then ((f_X1_firstMark (4 * psO x0.toNat + 151) r12 (M 230 x0) M).bind fun (r20 : Int) => (if r16 = ((-1)) then (if 0 ≤ v3 ∧ v3 < 19 then j_X5_narrow_126 v3 r20 v3 (M 228 v3) M else none) else (if -2147483648 ≤ r16 + 1 ∧ r16 + 1 < 2147483648 then j_X5_narrow_126 v3 r20 v3 (r16 + 1) M else none))) else none) else none)) else none) else none)))
set_option maxRecDepth 100000 in
set_option maxHeartbeats 4000000 in
theorem i_X5_narrow_46 {G : fG} (hg : gbt G = true)  {v3 : Int} {x0 : Int} (gv3 : rg v3) (gx0 : rg x0) {M : fMem} {q : fMem} (h : j_X5_narrow_46 v3 x0 M = some q) : fW G mX5_narrow (fEm G mX5_narrow (rV q) fNo) 0 0 46 [some (rv G 227), none, some (rv G 149), some (iv v3), none, none, none, none, none] [iv x0] M := by
  rw [j_X5_narrow_46] at h
  refine fW_rg (fun hR => ?_)
  refine fW_istore 48 (ls' := [some (rv G 227), none, some (rv G 149), some (iv v3), none, some (iv x0), none, none, none]) dX5_narrow_46 rfl rfl (by decide) ?_
  refine fW_iload 50 dX5_narrow_48 rfl rfl ?_
  refine fW_iconst 51 dX5_narrow_50 rfl ?_
  refine fW_icmp_eq 54 150 gx0 (by decide) dX5_narrow_51 rfl rfl (fun c11 => ?_) (fun c11 => ?_)
  · replace h := fTt h c11
    exact fW_vret rfl (by decide) (by decide) dX5_narrow_150 (rV_i h)
  · replace h := fFf h c11
    refine fW_iload_n 55 dX5_narrow_54 rfl rfl ?_
    obtain ⟨r12, e12, h⟩ := fBd h
    refine fW_cP (fI_SN (host := "RowStore") (as := [iv v3]) (rest := []) miX10_numberOf (by decide +kernel) (fRoom_of rfl) rfl (Nat.le_of_ble_eq_true rfl) dX5_narrow_55) (s_X10_numberOf hg gv3 e12) rfl rfl rfl (fun g12 => ?_)
    refine fW_istore 60 (ls' := [some (rv G 227), none, some (rv G 149), some (iv v3), none, some (iv x0), some (iv r12), none, none]) dX5_narrow_58 rfl rfl (by decide) ?_
    refine fW_aload_n 61 dX5_narrow_60 rfl rfl ?_
    refine fW_getR 64 (r := 150) 0 hg clX3 (by decide) rfl tc_149 tf_3_0 wd_362 dX5_narrow_61 rfl ?_
    refine fW_iload 66 dX5_narrow_64 rfl rfl ?_
    obtain ⟨c13, h⟩ := fS h
    have t14 := ta_14 (r := 4 * psO x0.toNat + 151) tc_150 c13 (by omega)
    refine fW_aald 67 2 hg tc_150 (by decide) (by decide) t14.1 t14.2.2 rfl dX5_narrow_66 rfl ?_
    refine fW_iload 69 dX5_narrow_67 rfl rfl ?_
    refine fW_aload_n 70 dX5_narrow_69 rfl rfl ?_
    refine fW_getR 73 (r := 230) 2 hg clX5 (by decide) rfl tc_227 tf_5_2 wd_377 dX5_narrow_70 rfl ?_
    refine fW_iload 75 dX5_narrow_73 rfl rfl ?_
    obtain ⟨c15, h⟩ := fS h
    refine fW_iald 76 hg tc_230 ⟨c15.1, by rw [show Ln 230 = 19 from rfl]; exact c15.2⟩ dX5_narrow_75 rfl ?_
    obtain ⟨r16, e16, h⟩ := fBd h
    refine fW_cP (fI_V (as := [iv r12, iv (M 230 x0)]) (rest := []) miX1_lastMark hg clX1 rfl t14.2.1 wd_856 (fRoom_of rfl) rfl (Nat.le_of_ble_eq_true rfl) dX5_narrow_76) (s_X1_lastMark hg t14.2.1 g12 (hR 230 x0) e16) rfl rfl rfl (fun g16 => ?_)
    refine fW_istore 81 (ls' := [some (rv G 227), none, some (rv G 149), some (iv v3), none, some (iv x0), some (iv r12), some (iv r16), none]) dX5_narrow_79 rfl rfl (by decide) ?_
    refine fW_aload_n 82 dX5_narrow_81 rfl rfl ?_
    refine fW_getR 85 (r := 150) 0 hg clX3 (by decide) rfl tc_149 tf_3_0 wd_362 dX5_narrow_82 rfl ?_
    refine fW_iload 87 dX5_narrow_85 rfl rfl ?_
    obtain ⟨c17, h⟩ := fS h
    have t18 := ta_14 (r := 4 * psO x0.toNat + 151) tc_150 c17 (by omega)
    refine fW_aald 88 2 hg tc_150 (by decide) (by decide) t18.1 t18.2.2 rfl dX5_narrow_87 rfl ?_
    refine fW_iload 90 dX5_narrow_88 rfl rfl ?_
    refine fW_aload_n 91 dX5_narrow_90 rfl rfl ?_
    refine fW_getR 94 (r := 230) 2 hg clX5 (by decide) rfl tc_227 tf_5_2 wd_377 dX5_narrow_91 rfl ?_
    refine fW_iload 96 dX5_narrow_94 rfl rfl ?_
    obtain ⟨c19, h⟩ := fS h
    refine fW_iald 97 hg tc_230 ⟨c19.1, by rw [show Ln 230 = 19 from rfl]; exact c19.2⟩ dX5_narrow_96 rfl ?_
    obtain ⟨r20, e20, h⟩ := fBd h
    refine fW_cP (fI_V (as := [iv r12, iv (M 230 x0)]) (rest := []) miX1_firstMark hg clX1 rfl t18.2.1 wd_861 (fRoom_of rfl) rfl (Nat.le_of_ble_eq_true rfl) dX5_narrow_97) (s_X1_firstMark hg t18.2.1 g12 (hR 230 x0) e20) rfl rfl rfl (fun g20 => ?_)
    refine fW_istore 102 (ls' := [some (rv G 227), none, some (rv G 149), some (iv v3), none, some (iv x0), some (iv r12), some (iv r16), some (iv r20)]) dX5_narrow_100 rfl rfl (by decide) ?_
    refine fW_aload_n 103 dX5_narrow_102 rfl rfl ?_
    refine fW_getR 106 (r := 228) 0 hg clX5 (by decide) rfl tc_227 tf_5_0 wd_373 dX5_narrow_103 rfl ?_
    refine fW_iload_n 107 dX5_narrow_106 rfl rfl ?_
    refine fW_iload 109 dX5_narrow_107 rfl rfl ?_
    refine fW_iconst 110 dX5_narrow_109 rfl ?_
    refine fW_icmp_ne 113 122 g16 (by decide) dX5_narrow_110 rfl rfl (fun c21 => ?_) (fun c21 => ?_)
    · replace h := fFf h c21
      refine fW_iload 124 dX5_narrow_122 rfl rfl ?_
      refine fW_iconst 125 dX5_narrow_124 rfl ?_
      refine fW_iadd 126 dX5_narrow_125 rfl ?_
      obtain ⟨c22, h⟩ := fS h
      exact fW_sb (i_X5_narrow_126 hg gv3 g20 gv3 c22 h) ⟨rfl, rfl, rfl, trivial⟩
    · replace h := fTt h c21
      refine fW_aload_n 114 dX5_narrow_113 rfl rfl ?_
      refine fW_getR 117 (r := 228) 0 hg clX5 (by decide) rfl tc_227 tf_5_0 wd_373 dX5_narrow_114 rfl ?_
      refine fW_iload_n 118 dX5_narrow_117 rfl rfl ?_
      obtain ⟨c31, h⟩ := fS h
      refine fW_iald 119 hg tc_228 ⟨c31.1, by rw [show Ln 228 = 19 from rfl]; exact c31.2⟩ dX5_narrow_118 rfl ?_
      refine fW_goto 126 dX5_narrow_119 rfl ?_
      exact fW_sb (i_X5_narrow_126 hg gv3 g20 gv3 (hR 228 v3) h) ⟨rfl, rfl, rfl, trivial⟩
def f_X5_narrow (p1 : Nat) (a3 : Int) (M : fMem) : Option (fMem) := (if 0 ≤ a3 ∧ a3 < 19 then (if 0 ≤ a3 ∧ a3 < 19 then (if 0 ≤ a3 ∧ a3 < 19 then (if 0 ≤ a3 ∧ a3 < 19 then (if (LO a3) = 0 then j_X5_narrow_46 a3 ((-1)) (mset (mset M 228 a3 0) 229 a3 ((mset M 228 a3 0) (4 * psO a3.toNat + 151) 3)) else (if -2147483648 ≤ (LO a3) - 1 ∧ (LO a3) - 1 < 2147483648 then ((f_X7_leadOf p1 ((LO a3) - 1) (mset (mset M 228 a3 0) 229 a3 ((mset M 228 a3 0) (4 * psO a3.toNat + 151) 3))).bind fun (r10 : Int) => j_X5_narrow_46 a3 r10 (mset (mset M 228 a3 0) 229 a3 ((mset M 228 a3 0) (4 * psO a3.toNat + 151) 3))) else none)) else none) else none) else none) else none)
set_option maxRecDepth 100000 in
set_option maxHeartbeats 4000000 in
theorem s_X5_narrow {G : fG} (hg : gbt G = true) {p1 : Nat} (hp1 : fTyp p1 7) {a3 : Int} (ga3 : rg a3) {M : fMem} {q : fMem} (h : f_X5_narrow p1 a3 M = some q) : fSp G mX5_narrow [rv G 227, rv G p1, rv G 149, iv a3] M (rV q) fNo := by
  refine fSp_of (by decide +kernel) (by decide +kernel) (fC1 rfl (fC1 rfl (fC1 rfl (fC1 rfl fC0)))) (Nat.le_of_ble_eq_true rfl) ?_
  show fW G mX5_narrow (fEm G mX5_narrow (rV q) fNo) 0 0 0 [some (rv G 227), some (rv G p1), some (rv G 149), some (iv a3), none, none, none, none, none] [] M
  rw [f_X5_narrow] at h
  refine fW_rg (fun hR => ?_)
  refine fW_aload_n 1 dX5_narrow_0 rfl rfl ?_
  refine fW_getR 4 (r := 228) 0 hg clX5 (by decide) rfl tc_227 tf_5_0 wd_373 dX5_narrow_1 rfl ?_
  refine fW_iload_n 5 dX5_narrow_4 rfl rfl ?_
  refine fW_iconst 6 dX5_narrow_5 rfl ?_
  obtain ⟨c1, h⟩ := fS h
  refine fW_iast 7 hg tc_228 ⟨c1.1, by rw [show Ln 228 = 19 from rfl]; exact c1.2⟩ (by decide) dX5_narrow_6 rfl ?_
  refine fW_rg (fun hR2 => ?_)
  refine fW_aload_n 8 dX5_narrow_7 rfl rfl ?_
  refine fW_getR 11 (r := 229) 1 hg clX5 (by decide) rfl tc_227 tf_5_1 wd_375 dX5_narrow_8 rfl ?_
  refine fW_iload_n 12 dX5_narrow_11 rfl rfl ?_
  refine fW_aload_n 13 dX5_narrow_12 rfl rfl ?_
  refine fW_getR 16 (r := 150) 0 hg clX3 (by decide) rfl tc_149 tf_3_0 wd_362 dX5_narrow_13 rfl ?_
  refine fW_iload_n 17 dX5_narrow_16 rfl rfl ?_
  obtain ⟨c3, h⟩ := fS h
  have t4 := ta_14 (r := 4 * psO a3.toNat + 151) tc_150 c3 (by omega)
  refine fW_aald 18 2 hg tc_150 (by decide) (by decide) t4.1 t4.2.2 rfl dX5_narrow_17 rfl ?_
  refine fW_getI 21 3 (ji := 3) hg clX1 rfl (by decide) rfl t4.2.1 wd_346 dX5_narrow_18 rfl ?_
  obtain ⟨c5, h⟩ := fS h
  refine fW_iast 22 hg tc_229 ⟨c5.1, by rw [show Ln 229 = 19 from rfl]; exact c5.2⟩ (hR2 (4 * psO a3.toNat + 151) 3) dX5_narrow_21 rfl ?_
  refine fW_rg (fun hR6 => ?_)
  refine fW_getsN 25 (host := "RowStore") 2 (by decide) (by decide +kernel) dX5_narrow_22 rfl ?_
  refine fW_iload_n 26 dX5_narrow_25 rfl rfl ?_
  obtain ⟨c7, h⟩ := fS h
  refine fW_sald 27 2 (by decide) c7 dX5_narrow_26 rfl ?_
  rw [show SV 2 a3 = LO a3 from rfl]
  refine fW_istore 29 (ls' := [some (rv G 227), some (rv G p1), some (rv G 149), some (iv a3), some (iv (LO a3)), none, none, none, none]) dX5_narrow_27 rfl rfl (by decide) ?_
  refine fW_iload 31 dX5_narrow_29 rfl rfl ?_
  refine fW_if_ne 34 38 (rg_LO c7) dX5_narrow_31 rfl rfl (fun c8 => ?_) (fun c8 => ?_)
  · replace h := fFf h c8
    refine fW_aload_n 39 dX5_narrow_38 rfl rfl ?_
    refine fW_iload 41 dX5_narrow_39 rfl rfl ?_
    refine fW_iconst 42 dX5_narrow_41 rfl ?_
    refine fW_isub 43 dX5_narrow_42 rfl ?_
    obtain ⟨c9, h⟩ := fS h
    obtain ⟨r10, e10, h⟩ := fBd h
    refine fW_cP (fI_V (as := [iv ((LO a3) - 1)]) (rest := []) miX7_leadOf hg clX7 rfl hp1 wd_854 (fRoom_of rfl) rfl (Nat.le_of_ble_eq_true rfl) dX5_narrow_43) (s_X7_leadOf hg hp1 c9 e10) rfl rfl rfl (fun g10 => ?_)
    exact fW_sb (i_X5_narrow_46 hg ga3 g10 h) ⟨rfl, rfl, rfl, trivial⟩
  · replace h := fTt h c8
    refine fW_iconst 35 dX5_narrow_34 rfl ?_
    refine fW_goto 46 dX5_narrow_35 rfl ?_
    exact fW_sb (i_X5_narrow_46 hg ga3 (by decide) h) ⟨rfl, rfl, rfl, trivial⟩
end MTH
