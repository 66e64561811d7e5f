section MTH
def mX3_weave : fMt := (yX3_weave, cX3_weave, 14, none, { frames := 2, cells := 0, slots := 0, locals := 80 })
theorem miX3_weave : fMv mX3_weave 5 := ⟨⟨fM 799 (by decide +kernel) rfl, fM 97 (by decide +kernel) rfl, ⟨by decide +kernel, by decide +kernel⟩, by decide +kernel⟩, fM 798 (by decide +kernel) rfl, fM 13 (by decide +kernel) rfl⟩
def L_X3_weave_41  (k : fMem → Option (fMem)) : Nat → Nat → Nat → Int → Int → Int → Int → Int → Int → Int → Int → fMem → Option (fMem)
  | 0, _, _, _, _, _, _, _, _, _, _, _ => none
  | n + 1, w1, w2, v3, v4, v5, v6, v7, v8, v9, v10, M => (if v9 ≤ v10 then k  M else ((f_X6_keyAt w1 v6 M).bind fun (r6 : Int) => ((f_X3_keyIn v3 v7 M).bind fun (r7 : Int) => ((f_X3_keyIn v4 v8 M).bind fun (r8 : Int) => (if r7 < r6 then (if r8 < r7 then ((f_X10_numberOf v4 M).bind fun (r11 : Int) => ((f_X1_append w2 r8 r11 v8 M).bind fun (r12 : fMem) => (if -2147483648 ≤ v8 + v5 ∧ v8 + v5 < 2147483648 then L_X3_weave_41  k n w1 w2 v3 v4 v5 v6 v7 (v8 + v5) v9 (v10 + 1) r12 else none))) else ((f_X10_numberOf v3 M).bind fun (r15 : Int) => ((f_X1_append w2 r7 r15 v7 M).bind fun (r16 : fMem) => (if -2147483648 ≤ v7 + v5 ∧ v7 + v5 < 2147483648 then L_X3_weave_41  k n w1 w2 v3 v4 v5 v6 (v7 + v5) v8 v9 (v10 + 1) r16 else none)))) else (if r8 < r6 then (if r8 < r7 then ((f_X10_numberOf v4 M).bind fun (r21 : Int) => ((f_X1_append w2 r8 r21 v8 M).bind fun (r22 : fMem) => (if -2147483648 ≤ v8 + v5 ∧ v8 + v5 < 2147483648 then L_X3_weave_41  k n w1 w2 v3 v4 v5 v6 v7 (v8 + v5) v9 (v10 + 1) r22 else none))) else ((f_X10_numberOf v3 M).bind fun (r25 : Int) => ((f_X1_append w2 r7 r25 v7 M).bind fun (r26 : fMem) => (if -2147483648 ≤ v7 + v5 ∧ v7 + v5 < 2147483648 then L_X3_weave_41  k n w1 w2 v3 v4 v5 v6 (v7 + v5) v8 v9 (v10 + 1) r26 else none)))) else ((f_X6_valueAt w1 v6 M).bind fun (r29 : Int) => ((f_X1_append w2 r6 r29 ((-1)) M).bind fun (r30 : fMem) => (if -2147483648 ≤ v6 + 1 ∧ v6 + 1 < 2147483648 then L_X3_weave_41  k n w1 w2 v3 v4 v5 (v6 + 1) v7 v8 v9 (v10 + 1) r30 else none)))))))))
set_option maxRecDepth 100000 in
set_option maxHeartbeats 4000000 in
theorem l_X3_weave_41 {G : fG} (hg : gbt G = true)  {q : fMem} {k : fMem → Option (fMem)} (hk : ∀ (M : fMem), k M = some q → fW G mX3_weave (fEm G mX3_weave (rV q) fNo) 0 0 163 [some (rv G 149), none, none, none, none, none, none, none, none, none, none, none, none, none] [] M) : ∀ (n : Nat) (w1 : Nat) (w2 : Nat) (v3 : Int) (v4 : Int) (v5 : Int) (v6 : Int) (v7 : Int) (v8 : Int) (v9 : Int) (v10 : Int) (M : fMem), fTyp w1 6 → fTyp w2 1 → rg v3 → rg v4 → rg v5 → rg v6 → rg v7 → rg v8 → rg v9 → rg v10 → L_X3_weave_41 k n w1 w2 v3 v4 v5 v6 v7 v8 v9 v10 M = some q → fW G mX3_weave (fEm G mX3_weave (rV q) fNo) 0 0 41 [some (rv G 149), some (rv G w1), some (rv G w2), some (iv v3), some (iv v4), some (iv v5), some (iv v6), some (iv v7), some (iv v8), some (iv v9), some (iv v10), none, none, none] [] M := by
  intro n
  induction n with
  | zero =>
    intro w1 w2 v3 v4 v5 v6 v7 v8 v9 v10 M tw1 tw2 gv3 gv4 gv5 gv6 gv7 gv8 gv9 gv10 h
    rw [L_X3_weave_41] at h
    exact absurd h (by simp)
  | succ n ih =>
    intro w1 w2 v3 v4 v5 v6 v7 v8 v9 v10 M tw1 tw2 gv3 gv4 gv5 gv6 gv7 gv8 gv9 gv10 h
    rw [L_X3_weave_41] at h
    refine fW_rg (fun hR => ?_)
    refine fW_iload 43 dX3_weave_41 rfl rfl ?_
    refine fW_iload 45 dX3_weave_43 rfl rfl ?_
    refine fW_icmp_ge 48 163 gv10 gv9 dX3_weave_45 rfl rfl (fun c5 => ?_) (fun c5 => ?_)
    · replace h := fTt h c5
      exact fW_sb (hk M h) ⟨rfl, trivial⟩
    · replace h := fFf h c5
      refine fW_aload_n 49 dX3_weave_48 rfl rfl ?_
      refine fW_iload 51 dX3_weave_49 rfl rfl ?_
      obtain ⟨r6, e6, h⟩ := fBd h
      refine fW_cP (fI_V (as := [iv v6]) (rest := []) miX6_keyAt hg clX6 rfl tw1 wd_804 (fRoom_of rfl) rfl (Nat.le_of_ble_eq_true rfl) dX3_weave_51) (s_X6_keyAt hg tw1 gv6 e6) rfl rfl rfl (fun g6 => ?_)
      refine fW_istore 56 (ls' := [some (rv G 149), some (rv G w1), some (rv G w2), some (iv v3), some (iv v4), some (iv v5), some (iv v6), some (iv v7), some (iv v8), some (iv v9), some (iv v10), some (iv r6), none, none]) dX3_weave_54 rfl rfl (by decide) ?_
      refine fW_aload_n 57 dX3_weave_56 rfl rfl ?_
      refine fW_iload_n 58 dX3_weave_57 rfl rfl ?_
      refine fW_iload 60 dX3_weave_58 rfl rfl ?_
      obtain ⟨r7, e7, h⟩ := fBd h
      refine fW_cP (fI_V (as := [iv v3, iv v7]) (rest := []) miX3_keyIn hg clX3 rfl tc_149 wd_805 (fRoom_of rfl) rfl (Nat.le_of_ble_eq_true rfl) dX3_weave_60) (s_X3_keyIn hg gv3 gv7 e7) rfl rfl rfl (fun g7 => ?_)
      refine fW_istore 65 (ls' := [some (rv G 149), some (rv G w1), some (rv G w2), some (iv v3), some (iv v4), some (iv v5), some (iv v6), some (iv v7), some (iv v8), some (iv v9), some (iv v10), some (iv r6), some (iv r7), none]) dX3_weave_63 rfl rfl (by decide) ?_
      refine fW_aload_n 66 dX3_weave_65 rfl rfl ?_
      refine fW_iload 68 dX3_weave_66 rfl rfl ?_
      refine fW_iload 70 dX3_weave_68 rfl rfl ?_
      obtain ⟨r8, e8, h⟩ := fBd h
      refine fW_cP (fI_V (as := [iv v4, iv v8]) (rest := []) miX3_keyIn hg clX3 rfl tc_149 wd_805 (fRoom_of rfl) rfl (Nat.le_of_ble_eq_true rfl) dX3_weave_70) (s_X3_keyIn hg gv4 gv8 e8) rfl rfl rfl (fun g8 => ?_)
      refine fW_istore 75 (ls' := [some (rv G 149), some (rv G w1), some (rv G w2), some (iv v3), some (iv v4), some (iv v5), some (iv v6), some (iv v7), some (iv v8), some (iv v9), some (iv v10), some (iv r6), some (iv r7), some (iv r8)]) dX3_weave_73 rfl rfl (by decide) ?_
      refine fW_iload 77 dX3_weave_75 rfl rfl ?_
      refine fW_iload 79 dX3_weave_77 rfl rfl ?_
      refine fW_icmp_gt 82 108 g6 g7 dX3_weave_79 rfl rfl (fun c9 => ?_) (fun c9 => ?_)
      · replace h := fTt h c9
        refine fW_iload 110 dX3_weave_108 rfl rfl ?_
        refine fW_iload 112 dX3_weave_110 rfl rfl ?_
        refine fW_icmp_gt 115 137 g7 g8 dX3_weave_112 rfl rfl (fun c10 => ?_) (fun c10 => ?_)
        · replace h := fTt h c10
          refine fW_aload_n 138 dX3_weave_137 rfl rfl ?_
          refine fW_iload 140 dX3_weave_138 rfl rfl ?_
          refine fW_iload 142 dX3_weave_140 rfl rfl ?_
          obtain ⟨r11, e11, h⟩ := fBd h
          refine fW_cP (fI_SN (host := "RowStore") (as := [iv v4]) (rest := [iv r8, rv G w2]) miX10_numberOf (by decide +kernel) (fRoom_of rfl) rfl (Nat.le_of_ble_eq_true rfl) dX3_weave_142) (s_X10_numberOf hg gv4 e11) rfl rfl rfl (fun g11 => ?_)
          refine fW_iload 147 dX3_weave_145 rfl rfl ?_
          obtain ⟨r12, e12, h⟩ := fBd h
          refine fW_cV (fI_V (as := [iv r8, iv r11, iv v8]) (rest := []) miX1_append hg clX1 rfl tw2 wd_814 (fRoom_of rfl) rfl (Nat.le_of_ble_eq_true rfl) dX3_weave_147) (s_X1_append hg tw2 g8 g11 gv8 e12) rfl rfl rfl ?_
          refine fW_rg (fun hR13 => ?_)
          refine fW_iload 152 dX3_weave_150 rfl rfl ?_
          refine fW_iload 154 dX3_weave_152 rfl rfl ?_
          refine fW_iadd 155 dX3_weave_154 rfl ?_
          refine fW_istore 157 (ls' := [some (rv G 149), some (rv G w1), some (rv G w2), some (iv v3), some (iv v4), some (iv v5), some (iv v6), some (iv v7), some (iv (v8 + v5)), some (iv v9), some (iv v10), some (iv r6), some (iv r7), some (iv r8)]) dX3_weave_155 rfl rfl (by decide) ?_
          refine fW_iinc 160 (ls' := [some (rv G 149), some (rv G w1), some (rv G w2), some (iv v3), some (iv v4), some (iv v5), some (iv v6), some (iv v7), some (iv (v8 + v5)), some (iv v9), some (iv (v10 + 1)), some (iv r6), some (iv r7), some (iv r8)]) dX3_weave_157 rfl rfl rfl (by decide) ?_
          refine fW_goto 41 dX3_weave_160 rfl ?_
          obtain ⟨c14, h⟩ := fS h
          exact fW_sb (ih w1 w2 v3 v4 v5 v6 v7 (v8 + v5) v9 (v10 + 1) r12 tw1 tw2 gv3 gv4 gv5 gv6 gv7 c14 gv9 (rg_succ' gv10 gv9 c5) h) ⟨rfl, rfl, rfl, rfl, rfl, rfl, rfl, rfl, rfl, rfl, rfl, trivial⟩
        · replace h := fFf h c10
          refine fW_aload_n 116 dX3_weave_115 rfl rfl ?_
          refine fW_iload 118 dX3_weave_116 rfl rfl ?_
          refine fW_iload_n 119 dX3_weave_118 rfl rfl ?_
          obtain ⟨r15, e15, h⟩ := fBd h
          refine fW_cP (fI_SN (host := "RowStore") (as := [iv v3]) (rest := [iv r7, rv G w2]) miX10_numberOf (by decide +kernel) (fRoom_of rfl) rfl (Nat.le_of_ble_eq_true rfl) dX3_weave_119) (s_X10_numberOf hg gv3 e15) rfl rfl rfl (fun g15 => ?_)
          refine fW_iload 124 dX3_weave_122 rfl rfl ?_
          obtain ⟨r16, e16, h⟩ := fBd h
          refine fW_cV (fI_V (as := [iv r7, iv r15, iv v7]) (rest := []) miX1_append hg clX1 rfl tw2 wd_814 (fRoom_of rfl) rfl (Nat.le_of_ble_eq_true rfl) dX3_weave_124) (s_X1_append hg tw2 g7 g15 gv7 e16) rfl rfl rfl ?_
          refine fW_rg (fun hR17 => ?_)
          refine fW_iload 129 dX3_weave_127 rfl rfl ?_
          refine fW_iload 131 dX3_weave_129 rfl rfl ?_
          refine fW_iadd 132 dX3_weave_131 rfl ?_
          refine fW_istore 134 (ls' := [some (rv G 149), some (rv G w1), some (rv G w2), some (iv v3), some (iv v4), some (iv v5), some (iv v6), some (iv (v7 + v5)), some (iv v8), some (iv v9), some (iv v10), some (iv r6), some (iv r7), some (iv r8)]) dX3_weave_132 rfl rfl (by decide) ?_
          refine fW_goto 157 dX3_weave_134 rfl ?_
          refine fW_iinc 160 (ls' := [some (rv G 149), some (rv G w1), some (rv G w2), some (iv v3), some (iv v4), some (iv v5), some (iv v6), some (iv (v7 + v5)), some (iv v8), some (iv v9), some (iv (v10 + 1)), some (iv r6), some (iv r7), some (iv r8)]) dX3_weave_157 rfl rfl rfl (by decide) ?_
          refine fW_goto 41 dX3_weave_160 rfl ?_
          obtain ⟨c18, h⟩ := fS h
          exact fW_sb (ih w1 w2 v3 v4 v5 v6 (v7 + v5) v8 v9 (v10 + 1) r16 tw1 tw2 gv3 gv4 gv5 gv6 c18 gv8 gv9 (rg_succ' gv10 gv9 c5) h) ⟨rfl, rfl, rfl, rfl, rfl, rfl, rfl, rfl, rfl, rfl, rfl, trivial⟩
      · replace h := fFf h c9
        refine fW_iload 84 dX3_weave_82 rfl rfl ?_
        refine fW_iload 86 dX3_weave_84 rfl rfl ?_
        refine fW_icmp_gt 89 108 g6 g8 dX3_weave_86 rfl rfl (fun c19 => ?_) (fun c19 => ?_)
        · replace h := fTt h c19
          refine fW_iload 110 dX3_weave_108 rfl rfl ?_
          refine fW_iload 112 dX3_weave_110 rfl rfl ?_
          refine fW_icmp_gt 115 137 g7 g8 dX3_weave_112 rfl rfl (fun c20 => ?_) (fun c20 => ?_)
          · replace h := fTt h c20
            refine fW_aload_n 138 dX3_weave_137 rfl rfl ?_
            refine fW_iload 140 dX3_weave_138 rfl rfl ?_
            refine fW_iload 142 dX3_weave_140 rfl rfl ?_
            obtain ⟨r21, e21, h⟩ := fBd h
            refine fW_cP (fI_SN (host := "RowStore") (as := [iv v4]) (rest := [iv r8, rv G w2]) miX10_numberOf (by decide +kernel) (fRoom_of rfl) rfl (Nat.le_of_ble_eq_true rfl) dX3_weave_142) (s_X10_numberOf hg gv4 e21) rfl rfl rfl (fun g21 => ?_)
            refine fW_iload 147 dX3_weave_145 rfl rfl ?_
            obtain ⟨r22, e22, h⟩ := fBd h
            refine fW_cV (fI_V (as := [iv r8, iv r21, iv v8]) (rest := []) miX1_append hg clX1 rfl tw2 wd_814 (fRoom_of rfl) rfl (Nat.le_of_ble_eq_true rfl) dX3_weave_147) (s_X1_append hg tw2 g8 g21 gv8 e22) rfl rfl rfl ?_
            refine fW_rg (fun hR23 => ?_)
            refine fW_iload 152 dX3_weave_150 rfl rfl ?_
            refine fW_iload 154 dX3_weave_152 rfl rfl ?_
            refine fW_iadd 155 dX3_weave_154 rfl ?_
            refine fW_istore 157 (ls' := [some (rv G 149), some (rv G w1), some (rv G w2), some (iv v3), some (iv v4), some (iv v5), some (iv v6), some (iv v7), some (iv (v8 + v5)), some (iv v9), some (iv v10), some (iv r6), some (iv r7), some (iv r8)]) dX3_weave_155 rfl rfl (by decide) ?_
            refine fW_iinc 160 (ls' := [some (rv G 149), some (rv G w1), some (rv G w2), some (iv v3), some (iv v4), some (iv v5), some (iv v6), some (iv v7), some (iv (v8 + v5)), some (iv v9), some (iv (v10 + 1)), some (iv r6), some (iv r7), some (iv r8)]) dX3_weave_157 rfl rfl rfl (by decide) ?_
            refine fW_goto 41 dX3_weave_160 rfl ?_
            obtain ⟨c24, h⟩ := fS h
            exact fW_sb (ih w1 w2 v3 v4 v5 v6 v7 (v8 + v5) v9 (v10 + 1) r22 tw1 tw2 gv3 gv4 gv5 gv6 gv7 c24 gv9 (rg_succ' gv10 gv9 c5) h) ⟨rfl, rfl, rfl, rfl, rfl, rfl, rfl, rfl, rfl, rfl, rfl, trivial⟩
          · replace h := fFf h c20
            refine fW_aload_n 116 dX3_weave_115 rfl rfl ?_
            refine fW_iload 118 dX3_weave_116 rfl rfl ?_
            refine fW_iload_n 119 dX3_weave_118 rfl rfl ?_
            obtain ⟨r25, e25, h⟩ := fBd h
            refine fW_cP (fI_SN (host := "RowStore") (as := [iv v3]) (rest := [iv r7, rv G w2]) miX10_numberOf (by decide +kernel) (fRoom_of rfl) rfl (Nat.le_of_ble_eq_true rfl) dX3_weave_119) (s_X10_numberOf hg gv3 e25) rfl rfl rfl (fun g25 => ?_)
            refine fW_iload 124 dX3_weave_122 rfl rfl ?_
            obtain ⟨r26, e26, h⟩ := fBd h
            refine fW_cV (fI_V (as := [iv r7, iv r25, iv v7]) (rest := []) miX1_append hg clX1 rfl tw2 wd_814 (fRoom_of rfl) rfl (Nat.le_of_ble_eq_true rfl) dX3_weave_124) (s_X1_append hg tw2 g7 g25 gv7 e26) rfl rfl rfl ?_
            refine fW_rg (fun hR27 => ?_)
            refine fW_iload 129 dX3_weave_127 rfl rfl ?_
            refine fW_iload 131 dX3_weave_129 rfl rfl ?_
            refine fW_iadd 132 dX3_weave_131 rfl ?_
            refine fW_istore 134 (ls' := [some (rv G 149), some (rv G w1), some (rv G w2), some (iv v3), some (iv v4), some (iv v5), some (iv v6), some (iv (v7 + v5)), some (iv v8), some (iv v9), some (iv v10), some (iv r6), some (iv r7), some (iv r8)]) dX3_weave_132 rfl rfl (by decide) ?_
            refine fW_goto 157 dX3_weave_134 rfl ?_
            refine fW_iinc 160 (ls' := [some (rv G 149), some (rv G w1), some (rv G w2), some (iv v3), some (iv v4), some (iv v5), some (iv v6), some (iv (v7 + v5)), some (iv v8), some (iv v9), some (iv (v10 + 1)), some (iv r6), some (iv r7), some (iv r8)]) dX3_weave_157 rfl rfl rfl (by decide) ?_
            refine fW_goto 41 dX3_weave_160 rfl ?_
            obtain ⟨c28, h⟩ := fS h
            exact fW_sb (ih w1 w2 v3 v4 v5 v6 (v7 + v5) v8 v9 (v10 + 1) r26 tw1 tw2 gv3 gv4 gv5 gv6 c28 gv8 gv9 (rg_succ' gv10 gv9 c5) h) ⟨rfl, rfl, rfl, rfl, rfl, rfl, rfl, rfl, rfl, rfl, rfl, trivial⟩
        · replace h := fFf h c19
          refine fW_aload_n 90 dX3_weave_89 rfl rfl ?_
          refine fW_iload 92 dX3_weave_90 rfl rfl ?_
          refine fW_aload_n 93 dX3_weave_92 rfl rfl ?_
          refine fW_iload 95 dX3_weave_93 rfl rfl ?_
          obtain ⟨r29, e29, h⟩ := fBd h
          refine fW_cP (fI_V (as := [iv v6]) (rest := [iv r6, rv G w2]) miX6_valueAt hg clX6 rfl tw1 wd_813 (fRoom_of rfl) rfl (Nat.le_of_ble_eq_true rfl) dX3_weave_95) (s_X6_valueAt hg tw1 gv6 e29) rfl rfl rfl (fun g29 => ?_)
          refine fW_iconst 99 dX3_weave_98 rfl ?_
          obtain ⟨r30, e30, h⟩ := fBd h
          refine fW_cV (fI_V (as := [iv r6, iv r29, iv ((-1))]) (rest := []) miX1_append hg clX1 rfl tw2 wd_814 (fRoom_of rfl) rfl (Nat.le_of_ble_eq_true rfl) dX3_weave_99) (s_X1_append hg tw2 g6 g29 (by decide) e30) rfl rfl rfl ?_
          refine fW_rg (fun hR31 => ?_)
          refine fW_iinc 105 (ls' := [some (rv G 149), some (rv G w1), some (rv G w2), some (iv v3), some (iv v4), some (iv v5), some (iv (v6 + 1)), some (iv v7), some (iv v8), some (iv v9), some (iv v10), some (iv r6), some (iv r7), some (iv r8)]) dX3_weave_102 rfl rfl rfl (by decide) ?_
          refine fW_goto 157 dX3_weave_105 rfl ?_
          refine fW_iinc 160 (ls' := [some (rv G 149), some (rv G w1), some (rv G w2), some (iv v3), some (iv v4), some (iv v5), some (iv (v6 + 1)), some (iv v7), some (iv v8), some (iv v9), some (iv (v10 + 1)), some (iv r6), some (iv r7), some (iv r8)]) dX3_weave_157 rfl rfl rfl (by decide) ?_
          refine fW_goto 41 dX3_weave_160 rfl ?_
          obtain ⟨c32, h⟩ := fS h
          exact fW_sb (ih w1 w2 v3 v4 v5 (v6 + 1) v7 v8 v9 (v10 + 1) r30 tw1 tw2 gv3 gv4 gv5 c32 gv7 gv8 gv9 (rg_succ' gv10 gv9 c5) h) ⟨rfl, rfl, rfl, rfl, rfl, rfl, rfl, rfl, rfl, rfl, rfl, trivial⟩
def f_X3_weave (p1 : Nat) (p2 : Nat) (a3 : Int) (a4 : Int) (a5 : Int) (M : fMem) : Option (fMem) := ((f_X3_marksIn a3 a5 M).bind fun (r1 : Int) => ((f_X3_marksIn a4 a5 M).bind fun (r2 : Int) => (if -2147483648 ≤ a5 - 1 ∧ a5 - 1 < 2147483648 then (if -2147483648 ≤ ((M p1 3) + r1) + r2 ∧ ((M p1 3) + r1) + r2 < 2147483648 then L_X3_weave_41 (fun  (M_33 : fMem) => some M_33) 20000 p1 p2 a3 a4 a5 0 (a5 - 1) (a5 - 1) (((M p1 3) + r1) + r2) 0 M else none) else none)))
set_option maxRecDepth 100000 in
set_option maxHeartbeats 4000000 in
theorem s_X3_weave {G : fG} (hg : gbt G = true) {p1 : Nat} (hp1 : fTyp p1 6) {p2 : Nat} (hp2 : fTyp p2 1) {a3 : Int} (ga3 : rg a3) {a4 : Int} (ga4 : rg a4) {a5 : Int} (ga5 : rg a5) {M : fMem} {q : fMem} (h : f_X3_weave p1 p2 a3 a4 a5 M = some q) : fSp G mX3_weave [rv G 149, rv G p1, rv G p2, iv a3, iv a4, iv a5] M (rV q) fNo := by
  refine fSp_of (by decide +kernel) (by decide +kernel) (fC1 rfl (fC1 rfl (fC1 rfl (fC1 rfl (fC1 rfl (fC1 rfl fC0)))))) (Nat.le_of_ble_eq_true rfl) ?_
  show fW G mX3_weave (fEm G mX3_weave (rV q) fNo) 0 0 0 [some (rv G 149), some (rv G p1), some (rv G p2), some (iv a3), some (iv a4), some (iv a5), none, none, none, none, none, none, none, none] [] M
  rw [f_X3_weave] at h
  refine fW_rg (fun hR => ?_)
  refine fW_iconst 1 dX3_weave_0 rfl ?_
  refine fW_istore 3 (ls' := [some (rv G 149), some (rv G p1), some (rv G p2), some (iv a3), some (iv a4), some (iv a5), some (iv 0), none, none, none, none, none, none, none]) dX3_weave_1 rfl rfl (by decide) ?_
  refine fW_iload 5 dX3_weave_3 rfl rfl ?_
  refine fW_iconst 6 dX3_weave_5 rfl ?_
  refine fW_isub 7 dX3_weave_6 rfl ?_
  refine fW_istore 9 (ls' := [some (rv G 149), some (rv G p1), some (rv G p2), some (iv a3), some (iv a4), some (iv a5), some (iv 0), some (iv (a5 - 1)), none, none, none, none, none, none]) dX3_weave_7 rfl rfl (by decide) ?_
  refine fW_iload 11 dX3_weave_9 rfl rfl ?_
  refine fW_iconst 12 dX3_weave_11 rfl ?_
  refine fW_isub 13 dX3_weave_12 rfl ?_
  refine fW_istore 15 (ls' := [some (rv G 149), some (rv G p1), some (rv G p2), some (iv a3), some (iv a4), some (iv a5), some (iv 0), some (iv (a5 - 1)), some (iv (a5 - 1)), none, none, none, none, none]) dX3_weave_13 rfl rfl (by decide) ?_
  refine fW_aload_n 16 dX3_weave_15 rfl rfl ?_
  refine fW_getI 19 3 (ji := 3) hg clX6 rfl (by decide) rfl hp1 wd_156 dX3_weave_16 rfl ?_
  refine fW_aload_n 20 dX3_weave_19 rfl rfl ?_
  refine fW_iload_n 21 dX3_weave_20 rfl rfl ?_
  refine fW_iload 23 dX3_weave_21 rfl rfl ?_
  obtain ⟨r1, e1, h⟩ := fBd h
  refine fW_cP (fI_V (as := [iv a3, iv a5]) (rest := [iv (M p1 3)]) miX3_marksIn hg clX3 rfl tc_149 wd_800 (fRoom_of rfl) rfl (Nat.le_of_ble_eq_true rfl) dX3_weave_23) (s_X3_marksIn hg ga3 ga5 e1) rfl rfl rfl (fun g1 => ?_)
  refine fW_iadd 27 dX3_weave_26 rfl ?_
  refine fW_aload_n 28 dX3_weave_27 rfl rfl ?_
  refine fW_iload 30 dX3_weave_28 rfl rfl ?_
  refine fW_iload 32 dX3_weave_30 rfl rfl ?_
  obtain ⟨r2, e2, h⟩ := fBd h
  refine fW_cP (fI_V (as := [iv a4, iv a5]) (rest := [iv ((M p1 3) + r1)]) miX3_marksIn hg clX3 rfl tc_149 wd_800 (fRoom_of rfl) rfl (Nat.le_of_ble_eq_true rfl) dX3_weave_32) (s_X3_marksIn hg ga4 ga5 e2) rfl rfl rfl (fun g2 => ?_)
  refine fW_iadd 36 dX3_weave_35 rfl ?_
  refine fW_istore 38 (ls' := [some (rv G 149), some (rv G p1), some (rv G p2), some (iv a3), some (iv a4), some (iv a5), some (iv 0), some (iv (a5 - 1)), some (iv (a5 - 1)), some (iv (((M p1 3) + r1) + r2)), none, none, none, none]) dX3_weave_36 rfl rfl (by decide) ?_
  refine fW_iconst 39 dX3_weave_38 rfl ?_
  refine fW_istore 41 (ls' := [some (rv G 149), some (rv G p1), some (rv G p2), some (iv a3), some (iv a4), some (iv a5), some (iv 0), some (iv (a5 - 1)), some (iv (a5 - 1)), some (iv (((M p1 3) + r1) + r2)), some (iv 0), none, none, none]) dX3_weave_39 rfl rfl (by decide) ?_
  obtain ⟨c3, h⟩ := fS h
  obtain ⟨c4, h⟩ := fS h
  refine fW_sb (l_X3_weave_41 hg ?_ 20000 p1 p2 a3 a4 a5 0 (a5 - 1) (a5 - 1) (((M p1 3) + r1) + r2) 0 M hp1 hp2 ga3 ga4 ga5 (by decide) c3 c3 c4 (by decide) h) ⟨rfl, rfl, rfl, rfl, rfl, rfl, rfl, rfl, rfl, rfl, rfl, trivial⟩
  intro M_33 h
  refine fW_rg (fun hR_33 => ?_)
  exact fW_vret rfl (by decide) (by decide) dX3_weave_163 (rV_i h)
def mX3_build : fMt := (yX3_build, cX3_build, 7, none, { frames := 3, cells := 0, slots := 0, locals := 120 })
theorem miX3_build : fMv mX3_build 2 := ⟨⟨fM 785 (by decide +kernel) rfl, fM 97 (by decide +kernel) rfl, ⟨by decide +kernel, by decide +kernel⟩, by decide +kernel⟩, fM 783 (by decide +kernel) rfl, fM 784 (by decide +kernel) rfl⟩
def L_X3_build_21  (k : Nat → Int → Int → fMem → Option (fMem)) : Nat → Nat → Int → Int → Int → Int → fMem → Option (fMem)
  | 0, _, _, _, _, _, _ => none
  | n + 1, w1, v2, v3, v4, v5, M => (if 0 ≤ v3 ∧ v3 < 9 then (if (ER v3) ≤ v5 then k w1 v2 v3 M else (if 0 ≤ v5 ∧ v5 < 19 then ((f_X1_clear (4 * psO v5.toNat + 151) M).bind fun (r8 : fMem) => (if v5 = v4 then (if 8 ≤ v3 then ((f_X6_isShut (w1 + 3 * v5.toNat + 3) r8).bind fun (r20 : Int) => (if r20 = 0 then L_X3_build_21  k n w1 v2 v3 v4 (v5 + 1) r8 else ((f_X3_weave (w1 + 3 * v5.toNat + 3) (4 * psO v5.toNat + 151) ((-1)) ((-1)) v2 r8).bind fun (r24 : fMem) => L_X3_build_21  k n w1 v2 v3 v4 (v5 + 1) r24))) else ((f_X7_leadOf w1 (v3 + 1) r8).bind fun (r26 : Int) => ((f_X7_youngestBut w1 (v3 + 1) r26 r8).bind fun (r29 : Int) => ((f_X3_weave (w1 + 3 * v5.toNat + 3) (4 * psO v5.toNat + 151) r26 r29 v2 r8).bind fun (r30 : fMem) => L_X3_build_21  k n w1 v2 v3 v4 (v5 + 1) r30)))) else ((f_X6_isShut (w1 + 3 * v5.toNat + 3) r8).bind fun (r12 : Int) => (if r12 = 0 then L_X3_build_21  k n w1 v2 v3 v4 (v5 + 1) r8 else ((f_X3_weave (w1 + 3 * v5.toNat + 3) (4 * psO v5.toNat + 151) ((-1)) ((-1)) v2 r8).bind fun (r16 : fMem) => L_X3_build_21  k n w1 v2 v3 v4 (v5 + 1) r16))))) else none)) else none)
set_option maxRecDepth 100000 in
set_option maxHeartbeats 4000000 in
theorem l_X3_build_21 {G : fG} (hg : gbt G = true)  {q : fMem} {k : Nat → Int → Int → fMem → Option (fMem)} (hk : ∀ (w1 : Nat) (v2 : Int) (v3 : Int) (M : fMem), fTyp w1 7 → rg v2 → rg v3 → k w1 v2 v3 M = some q → fW G mX3_build (fEm G mX3_build (rV q) fNo) 0 0 136 [some (rv G 149), some (rv G w1), some (iv v2), some (iv v3), none, none, none] [] M) : ∀ (n : Nat) (w1 : Nat) (v2 : Int) (v3 : Int) (v4 : Int) (v5 : Int) (M : fMem), fTyp w1 7 → rg v2 → rg v3 → rg v4 → rg v5 → L_X3_build_21 k n w1 v2 v3 v4 v5 M = some q → fW G mX3_build (fEm G mX3_build (rV q) fNo) 0 0 21 [some (rv G 149), some (rv G w1), some (iv v2), some (iv v3), some (iv v4), some (iv v5), none] [] M := by
  intro n
  induction n with
  | zero =>
    intro w1 v2 v3 v4 v5 M tw1 gv2 gv3 gv4 gv5 h
    rw [L_X3_build_21] at h
    exact absurd h (by simp)
  | succ n ih =>
    intro w1 v2 v3 v4 v5 M tw1 gv2 gv3 gv4 gv5 h
    rw [L_X3_build_21] at h
    refine fW_rg (fun hR => ?_)
    refine fW_iload 23 dX3_build_21 rfl rfl ?_
    refine fW_getsN 26 (host := "RowStore") 1 (by decide) (by decide +kernel) dX3_build_23 rfl ?_
    refine fW_iload_n 27 dX3_build_26 rfl rfl ?_
    obtain ⟨c4, h⟩ := fS h
    refine fW_sald 28 1 (by decide) c4 dX3_build_27 rfl ?_
    rw [show SV 1 v3 = ER v3 from rfl]
    refine fW_icmp_ge 31 136 gv5 (rg_ER c4) dX3_build_28 rfl rfl (fun c5 => ?_) (fun c5 => ?_)
    · replace h := fTt h c5
      exact fW_sb (hk w1 v2 v3 M tw1 gv2 gv3 h) ⟨rfl, rfl, rfl, rfl, trivial⟩
    · replace h := fFf h c5
      refine fW_aload_n 32 dX3_build_31 rfl rfl ?_
      refine fW_getR 35 (r := 150) 0 hg clX3 (by decide) rfl tc_149 tf_3_0 wd_361 dX3_build_32 rfl ?_
      refine fW_iload 37 dX3_build_35 rfl rfl ?_
      obtain ⟨c6, h⟩ := fS h
      have t7 := ta_14 (r := 4 * psO v5.toNat + 151) tc_150 c6 (by omega)
      refine fW_aald 38 2 hg tc_150 (by decide) (by decide) t7.1 t7.2.2 rfl dX3_build_37 rfl ?_
      obtain ⟨r8, e8, h⟩ := fBd h
      refine fW_cV (fI_V (as := []) (rest := []) miX1_clear hg clX1 rfl t7.2.1 wd_791 (fRoom_of rfl) rfl (Nat.le_of_ble_eq_true rfl) dX3_build_38) (s_X1_clear hg t7.2.1 e8) rfl rfl rfl ?_
      refine fW_rg (fun hR9 => ?_)
      refine fW_iload 43 dX3_build_41 rfl rfl ?_
      refine fW_iload 45 dX3_build_43 rfl rfl ?_
      refine fW_icmp_ne 48 96 gv5 gv4 dX3_build_45 rfl rfl (fun c10 => ?_) (fun c10 => ?_)
      · replace h := fFf h c10
        refine fW_aload_n 97 dX3_build_96 rfl rfl ?_
        refine fW_getR 100 (r := w1 + 1) 0 hg clX7 (by decide) rfl tw1 (tf_7_0 tw1) wd_182 dX3_build_97 rfl ?_
        refine fW_iload 102 dX3_build_100 rfl rfl ?_
        have t11 := ta_16 (r := w1 + 3 * v5.toNat + 3) (tt_7_0 tw1) c6 (by omega)
        refine fW_aald 103 4 hg (tt_7_0 tw1) (by decide) (by decide) t11.1 t11.2.2 rfl dX3_build_102 rfl ?_
        obtain ⟨r12, e12, h⟩ := fBd h
        refine fW_cB (fI_V (as := []) (rest := []) miX6_isShut hg clX6 rfl t11.2.1 wd_822 (fRoom_of rfl) rfl (Nat.le_of_ble_eq_true rfl) dX3_build_103) (s_X6_isShut hg t11.2.1 e12) rfl rfl rfl (fun g12 => ?_)
        refine fW_if_eq 109 130 (rg_z g12) dX3_build_106 rfl rfl (fun c13 => ?_) (fun c13 => ?_)
        · replace h := fTt h c13
          refine fW_iinc 133 (ls' := [some (rv G 149), some (rv G w1), some (iv v2), some (iv v3), some (iv v4), some (iv (v5 + 1)), none]) dX3_build_130 rfl rfl rfl (by decide) ?_
          refine fW_goto 21 dX3_build_133 rfl ?_
          exact fW_sb (ih w1 v2 v3 v4 (v5 + 1) r8 tw1 gv2 gv3 gv4 (rg_succ' gv5 (rg_ER c4) c5) h) ⟨rfl, rfl, rfl, rfl, rfl, rfl, trivial⟩
        · replace h := fFf h c13
          refine fW_aload_n 110 dX3_build_109 rfl rfl ?_
          refine fW_aload_n 111 dX3_build_110 rfl rfl ?_
          refine fW_getR 114 (r := w1 + 1) 0 hg clX7 (by decide) rfl tw1 (tf_7_0 tw1) wd_182 dX3_build_111 rfl ?_
          refine fW_iload 116 dX3_build_114 rfl rfl ?_
          have t14 := ta_16 (r := w1 + 3 * v5.toNat + 3) (tt_7_0 tw1) c6 (by omega)
          refine fW_aald 117 4 hg (tt_7_0 tw1) (by decide) (by decide) t14.1 t14.2.2 rfl dX3_build_116 rfl ?_
          refine fW_aload_n 118 dX3_build_117 rfl rfl ?_
          refine fW_getR 121 (r := 150) 0 hg clX3 (by decide) rfl tc_149 tf_3_0 wd_361 dX3_build_118 rfl ?_
          refine fW_iload 123 dX3_build_121 rfl rfl ?_
          have t15 := ta_14 (r := 4 * psO v5.toNat + 151) tc_150 c6 (by omega)
          refine fW_aald 124 2 hg tc_150 (by decide) (by decide) t15.1 t15.2.2 rfl dX3_build_123 rfl ?_
          refine fW_iconst 125 dX3_build_124 rfl ?_
          refine fW_iconst 126 dX3_build_125 rfl ?_
          refine fW_iload_n 127 dX3_build_126 rfl rfl ?_
          obtain ⟨r16, e16, h⟩ := fBd h
          refine fW_cV (fI_V (as := [rv G (w1 + 3 * v5.toNat + 3), rv G (4 * psO v5.toNat + 151), iv ((-1)), iv ((-1)), iv v2]) (rest := []) miX3_weave hg clX3 rfl tc_149 wd_796 (fRoom_of rfl) rfl (Nat.le_of_ble_eq_true rfl) dX3_build_127) (s_X3_weave hg t14.2.1 t15.2.1 (by decide) (by decide) gv2 e16) rfl rfl rfl ?_
          refine fW_rg (fun hR17 => ?_)
          refine fW_iinc 133 (ls' := [some (rv G 149), some (rv G w1), some (iv v2), some (iv v3), some (iv v4), some (iv (v5 + 1)), none]) dX3_build_130 rfl rfl rfl (by decide) ?_
          refine fW_goto 21 dX3_build_133 rfl ?_
          exact fW_sb (ih w1 v2 v3 v4 (v5 + 1) r16 tw1 gv2 gv3 gv4 (rg_succ' gv5 (rg_ER c4) c5) h) ⟨rfl, rfl, rfl, rfl, rfl, rfl, trivial⟩
      · replace h := fTt h c10
        refine fW_iload_n 49 dX3_build_48 rfl rfl ?_
        refine fW_bipush 51 dX3_build_49 rfl (by decide) ?_
        refine fW_icmp_ge 54 96 gv3 (by decide) dX3_build_51 rfl rfl (fun c18 => ?_) (fun c18 => ?_)
        · replace h := fTt h c18
          refine fW_aload_n 97 dX3_build_96 rfl rfl ?_
          refine fW_getR 100 (r := w1 + 1) 0 hg clX7 (by decide) rfl tw1 (tf_7_0 tw1) wd_182 dX3_build_97 rfl ?_
          refine fW_iload 102 dX3_build_100 rfl rfl ?_
          have t19 := ta_16 (r := w1 + 3 * v5.toNat + 3) (tt_7_0 tw1) c6 (by omega)
          refine fW_aald 103 4 hg (tt_7_0 tw1) (by decide) (by decide) t19.1 t19.2.2 rfl dX3_build_102 rfl ?_
          obtain ⟨r20, e20, h⟩ := fBd h
          refine fW_cB (fI_V (as := []) (rest := []) miX6_isShut hg clX6 rfl t19.2.1 wd_822 (fRoom_of rfl) rfl (Nat.le_of_ble_eq_true rfl) dX3_build_103) (s_X6_isShut hg t19.2.1 e20) rfl rfl rfl (fun g20 => ?_)
          refine fW_if_eq 109 130 (rg_z g20) dX3_build_106 rfl rfl (fun c21 => ?_) (fun c21 => ?_)
          · replace h := fTt h c21
            refine fW_iinc 133 (ls' := [some (rv G 149), some (rv G w1), some (iv v2), some (iv v3), some (iv v4), some (iv (v5 + 1)), none]) dX3_build_130 rfl rfl rfl (by decide) ?_
            refine fW_goto 21 dX3_build_133 rfl ?_
            exact fW_sb (ih w1 v2 v3 v4 (v5 + 1) r8 tw1 gv2 gv3 gv4 (rg_succ' gv5 (rg_ER c4) c5) h) ⟨rfl, rfl, rfl, rfl, rfl, rfl, trivial⟩
          · replace h := fFf h c21
            refine fW_aload_n 110 dX3_build_109 rfl rfl ?_
            refine fW_aload_n 111 dX3_build_110 rfl rfl ?_
            refine fW_getR 114 (r := w1 + 1) 0 hg clX7 (by decide) rfl tw1 (tf_7_0 tw1) wd_182 dX3_build_111 rfl ?_
            refine fW_iload 116 dX3_build_114 rfl rfl ?_
            have t22 := ta_16 (r := w1 + 3 * v5.toNat + 3) (tt_7_0 tw1) c6 (by omega)
            refine fW_aald 117 4 hg (tt_7_0 tw1) (by decide) (by decide) t22.1 t22.2.2 rfl dX3_build_116 rfl ?_
            refine fW_aload_n 118 dX3_build_117 rfl rfl ?_
            refine fW_getR 121 (r := 150) 0 hg clX3 (by decide) rfl tc_149 tf_3_0 wd_361 dX3_build_118 rfl ?_
            refine fW_iload 123 dX3_build_121 rfl rfl ?_
            have t23 := ta_14 (r := 4 * psO v5.toNat + 151) tc_150 c6 (by omega)
            refine fW_aald 124 2 hg tc_150 (by decide) (by decide) t23.1 t23.2.2 rfl dX3_build_123 rfl ?_
            refine fW_iconst 125 dX3_build_124 rfl ?_
            refine fW_iconst 126 dX3_build_125 rfl ?_
            refine fW_iload_n 127 dX3_build_126 rfl rfl ?_
            obtain ⟨r24, e24, h⟩ := fBd h
            refine fW_cV (fI_V (as := [rv G (w1 + 3 * v5.toNat + 3), rv G (4 * psO v5.toNat + 151), iv ((-1)), iv ((-1)), iv v2]) (rest := []) miX3_weave hg clX3 rfl tc_149 wd_796 (fRoom_of rfl) rfl (Nat.le_of_ble_eq_true rfl) dX3_build_127) (s_X3_weave hg t22.2.1 t23.2.1 (by decide) (by decide) gv2 e24) rfl rfl rfl ?_
            refine fW_rg (fun hR25 => ?_)
            refine fW_iinc 133 (ls' := [some (rv G 149), some (rv G w1), some (iv v2), some (iv v3), some (iv v4), some (iv (v5 + 1)), none]) dX3_build_130 rfl rfl rfl (by decide) ?_
            refine fW_goto 21 dX3_build_133 rfl ?_
            exact fW_sb (ih w1 v2 v3 v4 (v5 + 1) r24 tw1 gv2 gv3 gv4 (rg_succ' gv5 (rg_ER c4) c5) h) ⟨rfl, rfl, rfl, rfl, rfl, rfl, trivial⟩
        · replace h := fFf h c18
          refine fW_aload_n 55 dX3_build_54 rfl rfl ?_
          refine fW_iload_n 56 dX3_build_55 rfl rfl ?_
          refine fW_iconst 57 dX3_build_56 rfl ?_
          refine fW_iadd 58 dX3_build_57 rfl ?_
          obtain ⟨r26, e26, h⟩ := fBd h
          refine fW_cP (fI_V (as := [iv (v3 + 1)]) (rest := []) miX7_leadOf hg clX7 rfl tw1 wd_786 (fRoom_of rfl) rfl (Nat.le_of_ble_eq_true rfl) dX3_build_58) (s_X7_leadOf hg tw1 (rg_succ' gv3 (by decide) c18) e26) rfl rfl rfl (fun g26 => ?_)
          refine fW_istore 63 (ls' := [some (rv G 149), some (rv G w1), some (iv v2), some (iv v3), some (iv v4), some (iv v5), some (iv r26)]) dX3_build_61 rfl rfl (by decide) ?_
          refine fW_aload_n 64 dX3_build_63 rfl rfl ?_
          refine fW_aload_n 65 dX3_build_64 rfl rfl ?_
          refine fW_getR 68 (r := w1 + 1) 0 hg clX7 (by decide) rfl tw1 (tf_7_0 tw1) wd_182 dX3_build_65 rfl ?_
          refine fW_iload 70 dX3_build_68 rfl rfl ?_
          have t27 := ta_16 (r := w1 + 3 * v5.toNat + 3) (tt_7_0 tw1) c6 (by omega)
          refine fW_aald 71 4 hg (tt_7_0 tw1) (by decide) (by decide) t27.1 t27.2.2 rfl dX3_build_70 rfl ?_
          refine fW_aload_n 72 dX3_build_71 rfl rfl ?_
          refine fW_getR 75 (r := 150) 0 hg clX3 (by decide) rfl tc_149 tf_3_0 wd_361 dX3_build_72 rfl ?_
          refine fW_iload 77 dX3_build_75 rfl rfl ?_
          have t28 := ta_14 (r := 4 * psO v5.toNat + 151) tc_150 c6 (by omega)
          refine fW_aald 78 2 hg tc_150 (by decide) (by decide) t28.1 t28.2.2 rfl dX3_build_77 rfl ?_
          refine fW_iload 80 dX3_build_78 rfl rfl ?_
          refine fW_aload_n 81 dX3_build_80 rfl rfl ?_
          refine fW_iload_n 82 dX3_build_81 rfl rfl ?_
          refine fW_iconst 83 dX3_build_82 rfl ?_
          refine fW_iadd 84 dX3_build_83 rfl ?_
          refine fW_iload 86 dX3_build_84 rfl rfl ?_
          obtain ⟨r29, e29, h⟩ := fBd h
          refine fW_cP (fI_V (as := [iv (v3 + 1), iv r26]) (rest := [iv r26, rv G (4 * psO v5.toNat + 151), rv G (w1 + 3 * v5.toNat + 3), rv G 149]) miX7_youngestBut hg clX7 rfl tw1 wd_795 (fRoom_of rfl) rfl (Nat.le_of_ble_eq_true rfl) dX3_build_86) (s_X7_youngestBut hg tw1 (rg_succ' gv3 (by decide) c18) g26 e29) rfl rfl rfl (fun g29 => ?_)
          refine fW_iload_n 90 dX3_build_89 rfl rfl ?_
          obtain ⟨r30, e30, h⟩ := fBd h
          refine fW_cV (fI_V (as := [rv G (w1 + 3 * v5.toNat + 3), rv G (4 * psO v5.toNat + 151), iv r26, iv r29, iv v2]) (rest := []) miX3_weave hg clX3 rfl tc_149 wd_796 (fRoom_of rfl) rfl (Nat.le_of_ble_eq_true rfl) dX3_build_90) (s_X3_weave hg t27.2.1 t28.2.1 g26 g29 gv2 e30) rfl rfl rfl ?_
          refine fW_rg (fun hR31 => ?_)
          refine fW_goto 130 dX3_build_93 rfl ?_
          refine fW_iinc 133 (ls' := [some (rv G 149), some (rv G w1), some (iv v2), some (iv v3), some (iv v4), some (iv (v5 + 1)), some (iv r26)]) dX3_build_130 rfl rfl rfl (by decide) ?_
          refine fW_goto 21 dX3_build_133 rfl ?_
          exact fW_sb (ih w1 v2 v3 v4 (v5 + 1) r30 tw1 gv2 gv3 gv4 (rg_succ' gv5 (rg_ER c4) c5) h) ⟨rfl, rfl, rfl, rfl, rfl, rfl, trivial⟩
def L_X3_build_3  (k : fMem → Option (fMem)) : Nat → Nat → Int → Int → fMem → Option (fMem)
  | 0, _, _, _, _ => none
  | n + 1, w1, v2, v3, M => (if v3 < 0 then k  M else ((f_X7_leadOf w1 v3 M).bind fun (r2 : Int) => (if 0 ≤ v3 ∧ v3 < 9 then L_X3_build_21 (fun (w1_32 : Nat) (v2_32 : Int) (v3_32 : Int) (M_32 : fMem) => (if -2147483648 ≤ v3_32 + -1 ∧ v3_32 + -1 < 2147483648 then L_X3_build_3  k n w1_32 v2_32 (v3_32 + -1) M_32 else none)) 20000 w1 v2 v3 r2 (FR v3) M else none)))
set_option maxRecDepth 100000 in
set_option maxHeartbeats 4000000 in
theorem l_X3_build_3 {G : fG} (hg : gbt G = true)  {q : fMem} {k : fMem → Option (fMem)} (hk : ∀ (M : fMem), k M = some q → fW G mX3_build (fEm G mX3_build (rV q) fNo) 0 0 142 [some (rv G 149), none, none, none, none, none, none] [] M) : ∀ (n : Nat) (w1 : Nat) (v2 : Int) (v3 : Int) (M : fMem), fTyp w1 7 → rg v2 → rg v3 → L_X3_build_3 k n w1 v2 v3 M = some q → fW G mX3_build (fEm G mX3_build (rV q) fNo) 0 0 3 [some (rv G 149), some (rv G w1), some (iv v2), some (iv v3), none, none, none] [] M := by
  intro n
  induction n with
  | zero =>
    intro w1 v2 v3 M tw1 gv2 gv3 h
    rw [L_X3_build_3] at h
    exact absurd h (by simp)
  | succ n ih =>
    intro w1 v2 v3 M tw1 gv2 gv3 h
    rw [L_X3_build_3] at h
    refine fW_rg (fun hR => ?_)
    refine fW_iload_n 4 dX3_build_3 rfl rfl ?_
    refine fW_if_lt 7 142 gv3 dX3_build_4 rfl rfl (fun c1 => ?_) (fun c1 => ?_)
    · replace h := fTt h c1
      exact fW_sb (hk M h) ⟨rfl, trivial⟩
    · replace h := fFf h c1
      refine fW_aload_n 8 dX3_build_7 rfl rfl ?_
      refine fW_iload_n 9 dX3_build_8 rfl rfl ?_
      obtain ⟨r2, e2, h⟩ := fBd h
      refine fW_cP (fI_V (as := [iv v3]) (rest := []) miX7_leadOf hg clX7 rfl tw1 wd_786 (fRoom_of rfl) rfl (Nat.le_of_ble_eq_true rfl) dX3_build_9) (s_X7_leadOf hg tw1 gv3 e2) rfl rfl rfl (fun g2 => ?_)
      refine fW_istore 14 (ls' := [some (rv G 149), some (rv G w1), some (iv v2), some (iv v3), some (iv r2), none, none]) dX3_build_12 rfl rfl (by decide) ?_
      refine fW_getsN 17 (host := "RowStore") 0 (by decide) (by decide +kernel) dX3_build_14 rfl ?_
      refine fW_iload_n 18 dX3_build_17 rfl rfl ?_
      obtain ⟨c3, h⟩ := fS h
      refine fW_sald 19 0 (by decide) c3 dX3_build_18 rfl ?_
      rw [show SV 0 v3 = FR v3 from rfl]
      refine fW_istore 21 (ls' := [some (rv G 149), some (rv G w1), some (iv v2), some (iv v3), some (iv r2), some (iv (FR v3)), none]) dX3_build_19 rfl rfl (by decide) ?_
      refine fW_sb (l_X3_build_21 hg ?_ 20000 w1 v2 v3 r2 (FR v3) M tw1 gv2 gv3 g2 (rg_FR c3) h) ⟨rfl, rfl, rfl, rfl, rfl, rfl, trivial⟩
      intro w1_32 v2_32 v3_32 M_32 tw1_32 gv2_32 gv3_32 h
      refine fW_rg (fun hR_32 => ?_)
      refine fW_iinc 139 (ls' := [some (rv G 149), some (rv G w1_32), some (iv v2_32), some (iv (v3_32 + -1)), none, none, none]) dX3_build_136 rfl rfl rfl (by decide) ?_
      refine fW_goto 3 dX3_build_139 rfl ?_
      obtain ⟨c33, h⟩ := fS h
      exact fW_sb (ih w1_32 v2_32 (v3_32 + -1) M_32 tw1_32 gv2_32 c33 h) ⟨rfl, rfl, rfl, rfl, trivial⟩
def f_X3_build (p1 : Nat) (a2 : Int) (M : fMem) : Option (fMem) := L_X3_build_3 (fun  (M_34 : fMem) => some M_34) 20000 p1 a2 8 M
set_option maxRecDepth 100000 in
set_option maxHeartbeats 4000000 in
theorem s_X3_build {G : fG} (hg : gbt G = true) {p1 : Nat} (hp1 : fTyp p1 7) {a2 : Int} (ga2 : rg a2) {M : fMem} {q : fMem} (h : f_X3_build p1 a2 M = some q) : fSp G mX3_build [rv G 149, rv G p1, iv a2] M (rV q) fNo := by
  refine fSp_of (by decide +kernel) (by decide +kernel) (fC1 rfl (fC1 rfl (fC1 rfl fC0))) (Nat.le_of_ble_eq_true rfl) ?_
  show fW G mX3_build (fEm G mX3_build (rV q) fNo) 0 0 0 [some (rv G 149), some (rv G p1), some (iv a2), none, none, none, none] [] M
  rw [f_X3_build] at h
  refine fW_rg (fun hR => ?_)
  refine fW_bipush 2 dX3_build_0 rfl (by decide) ?_
  refine fW_istore_n 3 (ls' := [some (rv G 149), some (rv G p1), some (iv a2), some (iv 8), none, none, none]) dX3_build_2 rfl rfl rfl (by decide) ?_
  refine fW_sb (l_X3_build_3 hg ?_ 20000 p1 a2 8 M hp1 ga2 (by decide) h) ⟨rfl, rfl, rfl, rfl, trivial⟩
  intro M_34 h
  refine fW_rg (fun hR_34 => ?_)
  exact fW_vret rfl (by decide) (by decide) dX3_build_142 (rV_i h)
def mX5_start : fMt := (yX5_start, cX5_start, 1, none, { frames := 0, cells := 0, slots := 0, locals := 0 })
theorem miX5_start : fMv mX5_start 0 := ⟨⟨fM 834 (by decide +kernel) rfl, fM 99 (by decide +kernel) rfl, ⟨by decide +kernel, by decide +kernel⟩, by decide +kernel⟩, fM 833 (by decide +kernel) rfl, fM 17 (by decide +kernel) rfl⟩
def f_X5_start  (M : fMem) : Option (fMem) := ((some (mset M 227 4 0)).bind fun (N1 : fMem) => ((some (mset N1 227 5 0)).bind fun (N2 : fMem) => some N2))
set_option maxRecDepth 100000 in
set_option maxHeartbeats 4000000 in
theorem s_X5_start {G : fG} (hg : gbt G = true)  {M : fMem} {q : fMem} (h : f_X5_start M = some q) : fSp G mX5_start [rv G 227] M (rV q) fNo := by
  refine fSp_of (by decide +kernel) (by decide +kernel) (fC1 rfl fC0) (Nat.le_of_ble_eq_true rfl) ?_
  show fW G mX5_start (fEm G mX5_start (rV q) fNo) 0 0 0 [some (rv G 227)] [] M
  rw [f_X5_start] at h
  refine fW_rg (fun hR => ?_)
  refine fW_aload_n 1 dX5_start_0 rfl rfl ?_
  refine fW_iconst 2 dX5_start_1 rfl ?_
  obtain ⟨N1, e1, h⟩ := fBd h
  replace e1 := Option.some.inj e1
  refine fW_putI 5 4 (ji := 4) hg clX5 rfl (by decide) rfl rfl rfl tc_227 (by decide) wd_381 dX5_start_2 rfl ?_
  rw [e1]
  refine fW_rg (fun hR1 => ?_)
  refine fW_aload_n 6 dX5_start_5 rfl rfl ?_
  refine fW_iconst 7 dX5_start_6 rfl ?_
  obtain ⟨N2, e2, h⟩ := fBd h
  replace e2 := Option.some.inj e2
  refine fW_putI 10 5 (ji := 5) hg clX5 rfl (by decide) rfl rfl rfl tc_227 (by decide) wd_383 dX5_start_7 rfl ?_
  rw [e2]
  refine fW_rg (fun hR2 => ?_)
  exact fW_vret rfl (by decide) (by decide) dX5_start_10 (rV_i h)
end MTH
