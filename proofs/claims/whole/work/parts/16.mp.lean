section MTH
def mX11_shutYet : fMt := (yX11_shutYet, cX11_shutYet, 4, some .int, { frames := 2, cells := 0, slots := 0, locals := 80 })
theorem miX11_shutYet : fMv mX11_shutYet 1 := ⟨⟨fM 1643 (by decide +kernel) rfl, fM 101 (by decide +kernel) rfl, ⟨by decide +kernel, by decide +kernel⟩, by decide +kernel⟩, fM 1642 (by decide +kernel) rfl, fM 87 (by decide +kernel) rfl⟩
def L_X11_shutYet_4  (M : fMem) (k : Int → Option (Int)) : Nat → Int → Int → Int → Option (Int)
  | 0, _, _, _ => none
  | n + 1, v1, v2, v3 => (if 19 ≤ v3 then k v2 else ((f_X11_isKept v1 v3 M).bind fun (r2 : Int) => (if r2 = 0 then (if -2147483648 ≤ v2 + 0 ∧ v2 + 0 < 2147483648 then L_X11_shutYet_4 M k n v1 (v2 + 0) (v3 + 1) else none) else ((f_X11_isShut v3 M).bind fun (r5 : Int) => (if r5 = 0 then (if -2147483648 ≤ v2 + 0 ∧ v2 + 0 < 2147483648 then L_X11_shutYet_4 M k n v1 (v2 + 0) (v3 + 1) else none) else (if 0 ≤ 7638 + v3 ∧ 7638 + v3 < 7787 then ((f_X11_viewAt v1 M).bind fun (r9 : Int) => (if 0 ≤ (r9 + 7638) + v3 ∧ (r9 + 7638) + v3 < 22971 then (if (M 419 (7638 + v3)) = (M 435 ((r9 + 7638) + v3)) then (if -2147483648 ≤ v2 + 1 ∧ v2 + 1 < 2147483648 then L_X11_shutYet_4 M k n v1 (v2 + 1) (v3 + 1) else none) else (if -2147483648 ≤ v2 + 0 ∧ v2 + 0 < 2147483648 then L_X11_shutYet_4 M k n v1 (v2 + 0) (v3 + 1) else none)) else none)) else none))))))
set_option maxRecDepth 100000 in
set_option maxHeartbeats 4000000 in
theorem l_X11_shutYet_4 {G : fG} (hg : gbt G = true)  {M : fMem} {q : Int} {k : Int → Option (Int)} (hk : ∀ (v2 : Int), rg v2 → k v2 = some q → fW G mX11_shutYet (fEm G mX11_shutYet (rP M q) fNo) 0 0 69 [some (rv G 418), none, some (iv v2), none] [] M) : ∀ (n : Nat) (v1 : Int) (v2 : Int) (v3 : Int), rg v1 → rg v2 → rg v3 → L_X11_shutYet_4 M k n v1 v2 v3 = some q → fW G mX11_shutYet (fEm G mX11_shutYet (rP M q) fNo) 0 0 4 [some (rv G 418), some (iv v1), some (iv v2), some (iv v3)] [] M := by
  intro n
  induction n with
  | zero =>
    intro v1 v2 v3 gv1 gv2 gv3 h
    rw [L_X11_shutYet_4] at h
    exact absurd h (by simp)
  | succ n ih =>
    intro v1 v2 v3 gv1 gv2 gv3 h
    rw [L_X11_shutYet_4] at h
    refine fW_rg (fun hR => ?_)
    refine fW_iload_n 5 dX11_shutYet_4 rfl rfl ?_
    refine fW_bipush 7 dX11_shutYet_5 rfl (by decide) ?_
    refine fW_icmp_ge 10 69 gv3 (by decide) dX11_shutYet_7 rfl rfl (fun c1 => ?_) (fun c1 => ?_)
    · replace h := fTt h c1
      exact fW_sb (hk v2 gv2 h) ⟨rfl, rfl, trivial⟩
    · replace h := fFf h c1
      refine fW_iload_n 11 dX11_shutYet_10 rfl rfl ?_
      refine fW_aload_n 12 dX11_shutYet_11 rfl rfl ?_
      refine fW_iload_n 13 dX11_shutYet_12 rfl rfl ?_
      refine fW_iload_n 14 dX11_shutYet_13 rfl rfl ?_
      obtain ⟨r2, e2, h⟩ := fBd h
      refine fW_cB (fI_V (as := [iv v1, iv v3]) (rest := [iv v2]) miX11_isKept hg clX11 rfl tc_418 wd_1612 (fRoom_of rfl) rfl (Nat.le_of_ble_eq_true rfl) dX11_shutYet_14) (s_X11_isKept hg gv1 gv3 e2) rfl rfl rfl (fun g2 => ?_)
      refine fW_if_eq 20 60 (rg_z g2) dX11_shutYet_17 rfl rfl (fun c3 => ?_) (fun c3 => ?_)
      · replace h := fTt h c3
        refine fW_iconst 61 dX11_shutYet_60 rfl ?_
        refine fW_iadd 62 dX11_shutYet_61 rfl ?_
        refine fW_istore_n 63 (ls' := [some (rv G 418), some (iv v1), some (iv (v2 + 0)), some (iv v3)]) dX11_shutYet_62 rfl rfl rfl (by decide) ?_
        refine fW_iinc 66 (ls' := [some (rv G 418), some (iv v1), some (iv (v2 + 0)), some (iv (v3 + 1))]) dX11_shutYet_63 rfl rfl rfl (by decide) ?_
        refine fW_goto 4 dX11_shutYet_66 rfl ?_
        obtain ⟨c4, h⟩ := fS h
        exact fW_sb (ih v1 (v2 + 0) (v3 + 1) gv1 c4 (rg_succ' gv3 (by decide) c1) h) ⟨rfl, rfl, rfl, rfl, trivial⟩
      · replace h := fFf h c3
        refine fW_aload_n 21 dX11_shutYet_20 rfl rfl ?_
        refine fW_iload_n 22 dX11_shutYet_21 rfl rfl ?_
        obtain ⟨r5, e5, h⟩ := fBd h
        refine fW_cB (fI_V (as := [iv v3]) (rest := [iv v2]) miX11_isShut hg clX11 rfl tc_418 wd_1340 (fRoom_of rfl) rfl (Nat.le_of_ble_eq_true rfl) dX11_shutYet_22) (s_X11_isShut hg gv3 e5) rfl rfl rfl (fun g5 => ?_)
        refine fW_if_eq 28 60 (rg_z g5) dX11_shutYet_25 rfl rfl (fun c6 => ?_) (fun c6 => ?_)
        · replace h := fTt h c6
          refine fW_iconst 61 dX11_shutYet_60 rfl ?_
          refine fW_iadd 62 dX11_shutYet_61 rfl ?_
          refine fW_istore_n 63 (ls' := [some (rv G 418), some (iv v1), some (iv (v2 + 0)), some (iv v3)]) dX11_shutYet_62 rfl rfl rfl (by decide) ?_
          refine fW_iinc 66 (ls' := [some (rv G 418), some (iv v1), some (iv (v2 + 0)), some (iv (v3 + 1))]) dX11_shutYet_63 rfl rfl rfl (by decide) ?_
          refine fW_goto 4 dX11_shutYet_66 rfl ?_
          obtain ⟨c7, h⟩ := fS h
          exact fW_sb (ih v1 (v2 + 0) (v3 + 1) gv1 c7 (rg_succ' gv3 (by decide) c1) h) ⟨rfl, rfl, rfl, rfl, trivial⟩
        · replace h := fFf h c6
          refine fW_aload_n 29 dX11_shutYet_28 rfl rfl ?_
          refine fW_getR 32 (r := 419) 0 hg clX11 (by decide) rfl tc_418 tf_11_0 wd_1174 dX11_shutYet_29 rfl ?_
          refine fW_sipush 35 dX11_shutYet_32 rfl (by decide) ?_
          refine fW_iload_n 36 dX11_shutYet_35 rfl rfl ?_
          refine fW_iadd 37 dX11_shutYet_36 rfl ?_
          obtain ⟨c8, h⟩ := fS h
          refine fW_iald 38 hg tc_419 ⟨c8.1, by rw [show Ln 419 = 7787 from rfl]; exact c8.2⟩ dX11_shutYet_37 rfl ?_
          refine fW_aload_n 39 dX11_shutYet_38 rfl rfl ?_
          refine fW_getR 42 (r := 435) 23 hg clX11 (by decide) rfl tc_418 tf_11_23 wd_1197 dX11_shutYet_39 rfl ?_
          refine fW_iload_n 43 dX11_shutYet_42 rfl rfl ?_
          obtain ⟨r9, e9, h⟩ := fBd h
          refine fW_cP (fI_S (as := [iv v1]) (rest := [rv G 435, iv (M 419 (7638 + v3)), iv v2]) miX11_viewAt rfl wd_1605 (fRoom_of rfl) rfl (Nat.le_of_ble_eq_true rfl) dX11_shutYet_43) (s_X11_viewAt gv1 e9) rfl rfl rfl (fun g9 => ?_)
          refine fW_sipush 49 dX11_shutYet_46 rfl (by decide) ?_
          refine fW_iadd 50 dX11_shutYet_49 rfl ?_
          refine fW_iload_n 51 dX11_shutYet_50 rfl rfl ?_
          refine fW_iadd 52 dX11_shutYet_51 rfl ?_
          obtain ⟨c10, h⟩ := fS h
          refine fW_iald 53 hg tc_435 ⟨c10.1, by rw [show Ln 435 = 22971 from rfl]; exact c10.2⟩ dX11_shutYet_52 rfl ?_
          refine fW_icmp_ne 56 60 (hR 419 (7638 + v3)) (hR 435 ((r9 + 7638) + v3)) dX11_shutYet_53 rfl rfl (fun c11 => ?_) (fun c11 => ?_)
          · replace h := fFf h c11
            refine fW_iconst 61 dX11_shutYet_60 rfl ?_
            refine fW_iadd 62 dX11_shutYet_61 rfl ?_
            refine fW_istore_n 63 (ls' := [some (rv G 418), some (iv v1), some (iv (v2 + 0)), some (iv v3)]) dX11_shutYet_62 rfl rfl rfl (by decide) ?_
            refine fW_iinc 66 (ls' := [some (rv G 418), some (iv v1), some (iv (v2 + 0)), some (iv (v3 + 1))]) dX11_shutYet_63 rfl rfl rfl (by decide) ?_
            refine fW_goto 4 dX11_shutYet_66 rfl ?_
            obtain ⟨c12, h⟩ := fS h
            exact fW_sb (ih v1 (v2 + 0) (v3 + 1) gv1 c12 (rg_succ' gv3 (by decide) c1) h) ⟨rfl, rfl, rfl, rfl, trivial⟩
          · replace h := fTt h c11
            refine fW_iconst 57 dX11_shutYet_56 rfl ?_
            refine fW_goto 61 dX11_shutYet_57 rfl ?_
            refine fW_iadd 62 dX11_shutYet_61 rfl ?_
            refine fW_istore_n 63 (ls' := [some (rv G 418), some (iv v1), some (iv (v2 + 1)), some (iv v3)]) dX11_shutYet_62 rfl rfl rfl (by decide) ?_
            refine fW_iinc 66 (ls' := [some (rv G 418), some (iv v1), some (iv (v2 + 1)), some (iv (v3 + 1))]) dX11_shutYet_63 rfl rfl rfl (by decide) ?_
            refine fW_goto 4 dX11_shutYet_66 rfl ?_
            obtain ⟨c13, h⟩ := fS h
            exact fW_sb (ih v1 (v2 + 1) (v3 + 1) gv1 c13 (rg_succ' gv3 (by decide) c1) h) ⟨rfl, rfl, rfl, rfl, trivial⟩
def f_X11_shutYet (a1 : Int) (M : fMem) : Option (Int) := L_X11_shutYet_4 M (fun (v2_14 : Int) => some v2_14) 20000 a1 0 0
set_option maxRecDepth 100000 in
set_option maxHeartbeats 4000000 in
theorem s_X11_shutYet {G : fG} (hg : gbt G = true) {a1 : Int} (ga1 : rg a1) {M : fMem} {q : Int} (h : f_X11_shutYet a1 M = some q) : fSp G mX11_shutYet [rv G 418, iv a1] M (rP M q) fNo := by
  refine fSp_of (by decide +kernel) (by decide +kernel) (fC1 rfl (fC1 rfl fC0)) (Nat.le_of_ble_eq_true rfl) ?_
  show fW G mX11_shutYet (fEm G mX11_shutYet (rP M q) fNo) 0 0 0 [some (rv G 418), some (iv a1), none, none] [] M
  rw [f_X11_shutYet] at h
  refine fW_rg (fun hR => ?_)
  refine fW_iconst 1 dX11_shutYet_0 rfl ?_
  refine fW_istore_n 2 (ls' := [some (rv G 418), some (iv a1), some (iv 0), none]) dX11_shutYet_1 rfl rfl rfl (by decide) ?_
  refine fW_iconst 3 dX11_shutYet_2 rfl ?_
  refine fW_istore_n 4 (ls' := [some (rv G 418), some (iv a1), some (iv 0), some (iv 0)]) dX11_shutYet_3 rfl rfl rfl (by decide) ?_
  refine fW_sb (l_X11_shutYet_4 hg ?_ 20000 a1 0 0 ga1 (by decide) (by decide) h) ⟨rfl, rfl, rfl, rfl, trivial⟩
  intro v2_14 gv2_14 h
  refine fW_iload_n 70 dX11_shutYet_69 rfl rfl ?_
  exact fW_iret rfl (by decide) (by decide) dX11_shutYet_70 (rP_i h gv2_14)
def mX11_against : fMt := (yX11_against, cX11_against, 7, some .int, { frames := 5, cells := 0, slots := 0, locals := 200 })
theorem miX11_against : fMv mX11_against 2 := ⟨⟨fM 1639 (by decide +kernel) rfl, fM 101 (by decide +kernel) rfl, ⟨by decide +kernel, by decide +kernel⟩, by decide +kernel⟩, fM 1637 (by decide +kernel) rfl, fM 1638 (by decide +kernel) rfl⟩
def L_X11_against_62  (k : Int → fMem → Option (Int × fMem)) : Nat → Int → Int → Int → fMem → Option (Int × fMem)
  | 0, _, _, _, _ => none
  | n + 1, v2, v3, v4, M => (if 200 ≤ v4 then k v3 M else (if 0 ≤ v4 ∧ v4 < 200 then (if (M 437 v4) = ((-1)) then (if v2 = 0 then (if -2147483648 ≤ v3 + 0 ∧ v3 + 0 < 2147483648 then L_X11_against_62  k n v2 (v3 + 0) (v4 + 1) M else none) else (if v2 = 1 then (if -2147483648 ≤ v3 + 0 ∧ v3 + 0 < 2147483648 then L_X11_against_62  k n v2 (v3 + 0) (v4 + 1) M else none) else (if 0 ≤ v4 ∧ v4 < 200 then (if (M 422 v4) = ((-1)) then (if -2147483648 ≤ v3 + 0 ∧ v3 + 0 < 2147483648 then L_X11_against_62  k n v2 (v3 + 0) (v4 + 1) M else none) else (if -2147483648 ≤ v3 + 1 ∧ v3 + 1 < 2147483648 then L_X11_against_62  k n v2 (v3 + 1) (v4 + 1) M else none)) else none))) else (if v2 = 0 then (if -2147483648 ≤ v3 + 1 ∧ v3 + 1 < 2147483648 then L_X11_against_62  k n v2 (v3 + 1) (v4 + 1) M else none) else (if v2 = 1 then (if 0 ≤ v4 ∧ v4 < 200 then (if 0 ≤ v4 ∧ v4 < 200 then (if (M 437 v4) = (M 422 v4) then (if -2147483648 ≤ v3 + 0 ∧ v3 + 0 < 2147483648 then L_X11_against_62  k n v2 (v3 + 0) (v4 + 1) M else none) else (if -2147483648 ≤ v3 + 1 ∧ v3 + 1 < 2147483648 then L_X11_against_62  k n v2 (v3 + 1) (v4 + 1) M else none)) else none) else none) else (if -2147483648 ≤ v3 + 0 ∧ v3 + 0 < 2147483648 then L_X11_against_62  k n v2 (v3 + 0) (v4 + 1) M else none)))) else none))
set_option maxRecDepth 100000 in
set_option maxHeartbeats 4000000 in
theorem l_X11_against_62 {G : fG} (hg : gbt G = true)  {q : Int × fMem} {k : Int → fMem → Option (Int × fMem)} (hk : ∀ (v3 : Int) (M : fMem), rg v3 → k v3 M = some q → fW G mX11_against (fEm G mX11_against (rP q.2 q.1) fNo) 0 0 174 [some (rv G 418), none, none, some (iv v3), none, none, none] [] M) : ∀ (n : Nat) (v2 : Int) (v3 : Int) (v4 : Int) (M : fMem), rg v2 → rg v3 → rg v4 → L_X11_against_62 k n v2 v3 v4 M = some q → fW G mX11_against (fEm G mX11_against (rP q.2 q.1) fNo) 0 0 62 [some (rv G 418), none, some (iv v2), some (iv v3), some (iv v4), none, none] [] M := by
  intro n
  induction n with
  | zero =>
    intro v2 v3 v4 M gv2 gv3 gv4 h
    rw [L_X11_against_62] at h
    exact absurd h (by simp)
  | succ n ih =>
    intro v2 v3 v4 M gv2 gv3 gv4 h
    rw [L_X11_against_62] at h
    refine fW_rg (fun hR => ?_)
    refine fW_iload 64 dX11_against_62 rfl rfl ?_
    refine fW_sipush 67 dX11_against_64 rfl (by decide) ?_
    refine fW_icmp_ge 70 174 gv4 (by decide) dX11_against_67 rfl rfl (fun c13 => ?_) (fun c13 => ?_)
    · replace h := fTt h c13
      exact fW_sb (hk v3 M gv3 h) ⟨rfl, rfl, trivial⟩
    · replace h := fFf h c13
      refine fW_aload_n 71 dX11_against_70 rfl rfl ?_
      refine fW_getR 74 (r := 437) 25 hg clX11 (by decide) rfl tc_418 tf_11_25 wd_1199 dX11_against_71 rfl ?_
      refine fW_iload 76 dX11_against_74 rfl rfl ?_
      obtain ⟨c14, h⟩ := fS h
      refine fW_iald 77 hg tc_437 ⟨c14.1, by rw [show Ln 437 = 200 from rfl]; exact c14.2⟩ dX11_against_76 rfl ?_
      refine fW_iconst 78 dX11_against_77 rfl ?_
      refine fW_icmp_eq 81 85 (hR 437 v4) (by decide) dX11_against_78 rfl rfl (fun c15 => ?_) (fun c15 => ?_)
      · replace h := fTt h c15
        refine fW_iconst 86 dX11_against_85 rfl ?_
        refine fW_istore 88 (ls' := [some (rv G 418), none, some (iv v2), some (iv v3), some (iv v4), some (iv 0), none]) dX11_against_86 rfl rfl (by decide) ?_
        refine fW_iload_n 89 dX11_against_88 rfl rfl ?_
        refine fW_if_ne 92 97 gv2 dX11_against_89 rfl rfl (fun c16 => ?_) (fun c16 => ?_)
        · replace h := fFf h c16
          refine fW_iload_n 98 dX11_against_97 rfl rfl ?_
          refine fW_iconst 99 dX11_against_98 rfl ?_
          refine fW_icmp_ne 102 132 gv2 (by decide) dX11_against_99 rfl rfl (fun c17 => ?_) (fun c17 => ?_)
          · replace h := fFf h c17
            refine fW_iload 134 dX11_against_132 rfl rfl ?_
            refine fW_if_ne 137 152 (by decide) dX11_against_134 rfl rfl (fun c18 => ?_) (fun c18 => ?_)
            · exact absurd c18 (by decide)
            · refine fW_aload_n 138 dX11_against_137 rfl rfl ?_
              refine fW_getR 141 (r := 422) 5 hg clX11 (by decide) rfl tc_418 tf_11_5 wd_1179 dX11_against_138 rfl ?_
              refine fW_iload 143 dX11_against_141 rfl rfl ?_
              obtain ⟨c19, h⟩ := fS h
              refine fW_iald 144 hg tc_422 ⟨c19.1, by rw [show Ln 422 = 200 from rfl]; exact c19.2⟩ dX11_against_143 rfl ?_
              refine fW_iconst 145 dX11_against_144 rfl ?_
              refine fW_icmp_eq 148 152 (hR 422 v4) (by decide) dX11_against_145 rfl rfl (fun c20 => ?_) (fun c20 => ?_)
              · replace h := fTt h c20
                refine fW_iconst 153 dX11_against_152 rfl ?_
                refine fW_istore 155 (ls' := [some (rv G 418), none, some (iv v2), some (iv v3), some (iv v4), some (iv 0), some (iv 0)]) dX11_against_153 rfl rfl (by decide) ?_
                refine fW_iload_n 156 dX11_against_155 rfl rfl ?_
                refine fW_iload 158 dX11_against_156 rfl rfl ?_
                refine fW_if_eq 161 165 (by decide) dX11_against_158 rfl rfl (fun c21 => ?_) (fun c21 => ?_)
                · refine fW_iconst 166 dX11_against_165 rfl ?_
                  refine fW_iadd 167 dX11_against_166 rfl ?_
                  refine fW_istore_n 168 (ls' := [some (rv G 418), none, some (iv v2), some (iv (v3 + 0)), some (iv v4), some (iv 0), some (iv 0)]) dX11_against_167 rfl rfl rfl (by decide) ?_
                  refine fW_iinc 171 (ls' := [some (rv G 418), none, some (iv v2), some (iv (v3 + 0)), some (iv (v4 + 1)), some (iv 0), some (iv 0)]) dX11_against_168 rfl rfl rfl (by decide) ?_
                  refine fW_goto 62 dX11_against_171 rfl ?_
                  obtain ⟨c22, h⟩ := fS h
                  exact fW_sb (ih v2 (v3 + 0) (v4 + 1) M gv2 c22 (rg_succ' gv4 (by decide) c13) h) ⟨rfl, rfl, rfl, rfl, trivial⟩
                · exact absurd c21 (by decide)
              · replace h := fFf h c20
                refine fW_iconst 149 dX11_against_148 rfl ?_
                refine fW_goto 153 dX11_against_149 rfl ?_
                refine fW_istore 155 (ls' := [some (rv G 418), none, some (iv v2), some (iv v3), some (iv v4), some (iv 0), some (iv 1)]) dX11_against_153 rfl rfl (by decide) ?_
                refine fW_iload_n 156 dX11_against_155 rfl rfl ?_
                refine fW_iload 158 dX11_against_156 rfl rfl ?_
                refine fW_if_eq 161 165 (by decide) dX11_against_158 rfl rfl (fun c23 => ?_) (fun c23 => ?_)
                · exact absurd c23 (by decide)
                · refine fW_iconst 162 dX11_against_161 rfl ?_
                  refine fW_goto 166 dX11_against_162 rfl ?_
                  refine fW_iadd 167 dX11_against_166 rfl ?_
                  refine fW_istore_n 168 (ls' := [some (rv G 418), none, some (iv v2), some (iv (v3 + 1)), some (iv v4), some (iv 0), some (iv 1)]) dX11_against_167 rfl rfl rfl (by decide) ?_
                  refine fW_iinc 171 (ls' := [some (rv G 418), none, some (iv v2), some (iv (v3 + 1)), some (iv (v4 + 1)), some (iv 0), some (iv 1)]) dX11_against_168 rfl rfl rfl (by decide) ?_
                  refine fW_goto 62 dX11_against_171 rfl ?_
                  obtain ⟨c24, h⟩ := fS h
                  exact fW_sb (ih v2 (v3 + 1) (v4 + 1) M gv2 c24 (rg_succ' gv4 (by decide) c13) h) ⟨rfl, rfl, rfl, rfl, trivial⟩
          · replace h := fTt h c17
            refine fW_iload 104 dX11_against_102 rfl rfl ?_
            refine fW_if_eq 107 128 (by decide) dX11_against_104 rfl rfl (fun c25 => ?_) (fun c25 => ?_)
            · refine fW_iconst 129 dX11_against_128 rfl ?_
              refine fW_goto 153 dX11_against_129 rfl ?_
              refine fW_istore 155 (ls' := [some (rv G 418), none, some (iv v2), some (iv v3), some (iv v4), some (iv 0), some (iv 0)]) dX11_against_153 rfl rfl (by decide) ?_
              refine fW_iload_n 156 dX11_against_155 rfl rfl ?_
              refine fW_iload 158 dX11_against_156 rfl rfl ?_
              refine fW_if_eq 161 165 (by decide) dX11_against_158 rfl rfl (fun c26 => ?_) (fun c26 => ?_)
              · refine fW_iconst 166 dX11_against_165 rfl ?_
                refine fW_iadd 167 dX11_against_166 rfl ?_
                refine fW_istore_n 168 (ls' := [some (rv G 418), none, some (iv v2), some (iv (v3 + 0)), some (iv v4), some (iv 0), some (iv 0)]) dX11_against_167 rfl rfl rfl (by decide) ?_
                refine fW_iinc 171 (ls' := [some (rv G 418), none, some (iv v2), some (iv (v3 + 0)), some (iv (v4 + 1)), some (iv 0), some (iv 0)]) dX11_against_168 rfl rfl rfl (by decide) ?_
                refine fW_goto 62 dX11_against_171 rfl ?_
                obtain ⟨c27, h⟩ := fS h
                exact fW_sb (ih v2 (v3 + 0) (v4 + 1) M gv2 c27 (rg_succ' gv4 (by decide) c13) h) ⟨rfl, rfl, rfl, rfl, trivial⟩
              · exact absurd c26 (by decide)
            · exact absurd c25 (by decide)
        · replace h := fTt h c16
          refine fW_iload 94 dX11_against_92 rfl rfl ?_
          refine fW_goto 153 dX11_against_94 rfl ?_
          refine fW_istore 155 (ls' := [some (rv G 418), none, some (iv v2), some (iv v3), some (iv v4), some (iv 0), some (iv 0)]) dX11_against_153 rfl rfl (by decide) ?_
          refine fW_iload_n 156 dX11_against_155 rfl rfl ?_
          refine fW_iload 158 dX11_against_156 rfl rfl ?_
          refine fW_if_eq 161 165 (by decide) dX11_against_158 rfl rfl (fun c28 => ?_) (fun c28 => ?_)
          · refine fW_iconst 166 dX11_against_165 rfl ?_
            refine fW_iadd 167 dX11_against_166 rfl ?_
            refine fW_istore_n 168 (ls' := [some (rv G 418), none, some (iv v2), some (iv (v3 + 0)), some (iv v4), some (iv 0), some (iv 0)]) dX11_against_167 rfl rfl rfl (by decide) ?_
            refine fW_iinc 171 (ls' := [some (rv G 418), none, some (iv v2), some (iv (v3 + 0)), some (iv (v4 + 1)), some (iv 0), some (iv 0)]) dX11_against_168 rfl rfl rfl (by decide) ?_
            refine fW_goto 62 dX11_against_171 rfl ?_
            obtain ⟨c29, h⟩ := fS h
            exact fW_sb (ih v2 (v3 + 0) (v4 + 1) M gv2 c29 (rg_succ' gv4 (by decide) c13) h) ⟨rfl, rfl, rfl, rfl, trivial⟩
          · exact absurd c28 (by decide)
      · replace h := fFf h c15
        refine fW_iconst 82 dX11_against_81 rfl ?_
        refine fW_goto 86 dX11_against_82 rfl ?_
        refine fW_istore 88 (ls' := [some (rv G 418), none, some (iv v2), some (iv v3), some (iv v4), some (iv 1), none]) dX11_against_86 rfl rfl (by decide) ?_
        refine fW_iload_n 89 dX11_against_88 rfl rfl ?_
        refine fW_if_ne 92 97 gv2 dX11_against_89 rfl rfl (fun c30 => ?_) (fun c30 => ?_)
        · replace h := fFf h c30
          refine fW_iload_n 98 dX11_against_97 rfl rfl ?_
          refine fW_iconst 99 dX11_against_98 rfl ?_
          refine fW_icmp_ne 102 132 gv2 (by decide) dX11_against_99 rfl rfl (fun c31 => ?_) (fun c31 => ?_)
          · replace h := fFf h c31
            refine fW_iload 134 dX11_against_132 rfl rfl ?_
            refine fW_if_ne 137 152 (by decide) dX11_against_134 rfl rfl (fun c32 => ?_) (fun c32 => ?_)
            · refine fW_iconst 153 dX11_against_152 rfl ?_
              refine fW_istore 155 (ls' := [some (rv G 418), none, some (iv v2), some (iv v3), some (iv v4), some (iv 1), some (iv 0)]) dX11_against_153 rfl rfl (by decide) ?_
              refine fW_iload_n 156 dX11_against_155 rfl rfl ?_
              refine fW_iload 158 dX11_against_156 rfl rfl ?_
              refine fW_if_eq 161 165 (by decide) dX11_against_158 rfl rfl (fun c33 => ?_) (fun c33 => ?_)
              · refine fW_iconst 166 dX11_against_165 rfl ?_
                refine fW_iadd 167 dX11_against_166 rfl ?_
                refine fW_istore_n 168 (ls' := [some (rv G 418), none, some (iv v2), some (iv (v3 + 0)), some (iv v4), some (iv 1), some (iv 0)]) dX11_against_167 rfl rfl rfl (by decide) ?_
                refine fW_iinc 171 (ls' := [some (rv G 418), none, some (iv v2), some (iv (v3 + 0)), some (iv (v4 + 1)), some (iv 1), some (iv 0)]) dX11_against_168 rfl rfl rfl (by decide) ?_
                refine fW_goto 62 dX11_against_171 rfl ?_
                obtain ⟨c34, h⟩ := fS h
                exact fW_sb (ih v2 (v3 + 0) (v4 + 1) M gv2 c34 (rg_succ' gv4 (by decide) c13) h) ⟨rfl, rfl, rfl, rfl, trivial⟩
              · exact absurd c33 (by decide)
            · exact absurd c32 (by decide)
          · replace h := fTt h c31
            refine fW_iload 104 dX11_against_102 rfl rfl ?_
            refine fW_if_eq 107 128 (by decide) dX11_against_104 rfl rfl (fun c35 => ?_) (fun c35 => ?_)
            · exact absurd c35 (by decide)
            · refine fW_aload_n 108 dX11_against_107 rfl rfl ?_
              refine fW_getR 111 (r := 437) 25 hg clX11 (by decide) rfl tc_418 tf_11_25 wd_1199 dX11_against_108 rfl ?_
              refine fW_iload 113 dX11_against_111 rfl rfl ?_
              obtain ⟨c36, h⟩ := fS h
              refine fW_iald 114 hg tc_437 ⟨c36.1, by rw [show Ln 437 = 200 from rfl]; exact c36.2⟩ dX11_against_113 rfl ?_
              refine fW_aload_n 115 dX11_against_114 rfl rfl ?_
              refine fW_getR 118 (r := 422) 5 hg clX11 (by decide) rfl tc_418 tf_11_5 wd_1179 dX11_against_115 rfl ?_
              refine fW_iload 120 dX11_against_118 rfl rfl ?_
              obtain ⟨c37, h⟩ := fS h
              refine fW_iald 121 hg tc_422 ⟨c37.1, by rw [show Ln 422 = 200 from rfl]; exact c37.2⟩ dX11_against_120 rfl ?_
              refine fW_icmp_eq 124 128 (hR 437 v4) (hR 422 v4) dX11_against_121 rfl rfl (fun c38 => ?_) (fun c38 => ?_)
              · replace h := fTt h c38
                refine fW_iconst 129 dX11_against_128 rfl ?_
                refine fW_goto 153 dX11_against_129 rfl ?_
                refine fW_istore 155 (ls' := [some (rv G 418), none, some (iv v2), some (iv v3), some (iv v4), some (iv 1), some (iv 0)]) dX11_against_153 rfl rfl (by decide) ?_
                refine fW_iload_n 156 dX11_against_155 rfl rfl ?_
                refine fW_iload 158 dX11_against_156 rfl rfl ?_
                refine fW_if_eq 161 165 (by decide) dX11_against_158 rfl rfl (fun c39 => ?_) (fun c39 => ?_)
                · refine fW_iconst 166 dX11_against_165 rfl ?_
                  refine fW_iadd 167 dX11_against_166 rfl ?_
                  refine fW_istore_n 168 (ls' := [some (rv G 418), none, some (iv v2), some (iv (v3 + 0)), some (iv v4), some (iv 1), some (iv 0)]) dX11_against_167 rfl rfl rfl (by decide) ?_
                  refine fW_iinc 171 (ls' := [some (rv G 418), none, some (iv v2), some (iv (v3 + 0)), some (iv (v4 + 1)), some (iv 1), some (iv 0)]) dX11_against_168 rfl rfl rfl (by decide) ?_
                  refine fW_goto 62 dX11_against_171 rfl ?_
                  obtain ⟨c40, h⟩ := fS h
                  exact fW_sb (ih v2 (v3 + 0) (v4 + 1) M gv2 c40 (rg_succ' gv4 (by decide) c13) h) ⟨rfl, rfl, rfl, rfl, trivial⟩
                · exact absurd c39 (by decide)
              · replace h := fFf h c38
                refine fW_iconst 125 dX11_against_124 rfl ?_
                refine fW_goto 153 dX11_against_125 rfl ?_
                refine fW_istore 155 (ls' := [some (rv G 418), none, some (iv v2), some (iv v3), some (iv v4), some (iv 1), some (iv 1)]) dX11_against_153 rfl rfl (by decide) ?_
                refine fW_iload_n 156 dX11_against_155 rfl rfl ?_
                refine fW_iload 158 dX11_against_156 rfl rfl ?_
                refine fW_if_eq 161 165 (by decide) dX11_against_158 rfl rfl (fun c41 => ?_) (fun c41 => ?_)
                · exact absurd c41 (by decide)
                · refine fW_iconst 162 dX11_against_161 rfl ?_
                  refine fW_goto 166 dX11_against_162 rfl ?_
                  refine fW_iadd 167 dX11_against_166 rfl ?_
                  refine fW_istore_n 168 (ls' := [some (rv G 418), none, some (iv v2), some (iv (v3 + 1)), some (iv v4), some (iv 1), some (iv 1)]) dX11_against_167 rfl rfl rfl (by decide) ?_
                  refine fW_iinc 171 (ls' := [some (rv G 418), none, some (iv v2), some (iv (v3 + 1)), some (iv (v4 + 1)), some (iv 1), some (iv 1)]) dX11_against_168 rfl rfl rfl (by decide) ?_
                  refine fW_goto 62 dX11_against_171 rfl ?_
                  obtain ⟨c42, h⟩ := fS h
                  exact fW_sb (ih v2 (v3 + 1) (v4 + 1) M gv2 c42 (rg_succ' gv4 (by decide) c13) h) ⟨rfl, rfl, rfl, rfl, trivial⟩
        · replace h := fTt h c30
          refine fW_iload 94 dX11_against_92 rfl rfl ?_
          refine fW_goto 153 dX11_against_94 rfl ?_
          refine fW_istore 155 (ls' := [some (rv G 418), none, some (iv v2), some (iv v3), some (iv v4), some (iv 1), some (iv 1)]) dX11_against_153 rfl rfl (by decide) ?_
          refine fW_iload_n 156 dX11_against_155 rfl rfl ?_
          refine fW_iload 158 dX11_against_156 rfl rfl ?_
          refine fW_if_eq 161 165 (by decide) dX11_against_158 rfl rfl (fun c43 => ?_) (fun c43 => ?_)
          · exact absurd c43 (by decide)
          · refine fW_iconst 162 dX11_against_161 rfl ?_
            refine fW_goto 166 dX11_against_162 rfl ?_
            refine fW_iadd 167 dX11_against_166 rfl ?_
            refine fW_istore_n 168 (ls' := [some (rv G 418), none, some (iv v2), some (iv (v3 + 1)), some (iv v4), some (iv 1), some (iv 1)]) dX11_against_167 rfl rfl rfl (by decide) ?_
            refine fW_iinc 171 (ls' := [some (rv G 418), none, some (iv v2), some (iv (v3 + 1)), some (iv (v4 + 1)), some (iv 1), some (iv 1)]) dX11_against_168 rfl rfl rfl (by decide) ?_
            refine fW_goto 62 dX11_against_171 rfl ?_
            obtain ⟨c44, h⟩ := fS h
            exact fW_sb (ih v2 (v3 + 1) (v4 + 1) M gv2 c44 (rg_succ' gv4 (by decide) c13) h) ⟨rfl, rfl, rfl, rfl, trivial⟩
def j_X11_against_28  (v1 : Int) (v2 : Int) (x1 : Int) (M : fMem) : Option (Int × fMem) := (if 0 ≤ x1 ∧ x1 ≤ 1 then ((f_X11_right x1 1 M).bind fun (r5 : Int × fMem) => (if r5.1 = 0 then some (0, r5.2) else (if v2 = 3 then ((f_X11_shutYet v1 r5.2).bind fun (r46 : Int) => some (r46, r5.2)) else ((f_X11_laysSeen v1 r5.2).bind fun (r9 : fMem) => ((f_X11_laysKeys r9).bind fun (r11 : fMem) => L_X11_against_62 (fun (v3_45 : Int) (M_45 : fMem) => some (v3_45, M_45)) 20000 v2 0 0 r11))))) else none)
set_option maxRecDepth 100000 in
set_option maxHeartbeats 4000000 in
theorem i_X11_against_28 {G : fG} (hg : gbt G = true)  {v1 : Int} {v2 : Int} {x1 : Int} (gv1 : rg v1) (gv2 : rg v2) (gx1 : rg x1) {M : fMem} {q : Int × fMem} (h : j_X11_against_28 v1 v2 x1 M = some q) : fW G mX11_against (fEm G mX11_against (rP q.2 q.1) fNo) 0 0 28 [some (rv G 418), some (iv v1), some (iv v2), none, none, none, none] [iv x1, rv G 418] M := by
  rw [j_X11_against_28] at h
  refine fW_rg (fun hR => ?_)
  refine fW_iconst 29 dX11_against_28 rfl ?_
  obtain ⟨c4, h⟩ := fS h
  obtain ⟨r5, e5, h⟩ := fBd h
  refine fW_cB (fI_V (as := [iv x1, iv 1]) (rest := []) miX11_right hg clX11 rfl tc_418 wd_1396 (fRoom_of rfl) rfl (Nat.le_of_ble_eq_true rfl) dX11_against_29) (s_X11_right hg c4 (by decide) e5) rfl rfl rfl (fun g5 => ?_)
  refine fW_rg (fun hR6 => ?_)
  refine fW_if_ne 35 37 (rg_z g5) dX11_against_32 rfl rfl (fun c7 => ?_) (fun c7 => ?_)
  · replace h := fFf h c7
    refine fW_iload_n 38 dX11_against_37 rfl rfl ?_
    refine fW_iconst 39 dX11_against_38 rfl ?_
    refine fW_icmp_ne 42 48 gv2 (by decide) dX11_against_39 rfl rfl (fun c8 => ?_) (fun c8 => ?_)
    · replace h := fFf h c8
      refine fW_aload_n 49 dX11_against_48 rfl rfl ?_
      refine fW_iload_n 50 dX11_against_49 rfl rfl ?_
      obtain ⟨r9, e9, h⟩ := fBd h
      refine fW_cV (fI_V (as := [iv v1]) (rest := []) miX11_laysSeen hg clX11 rfl tc_418 wd_1628 (fRoom_of rfl) rfl (Nat.le_of_ble_eq_true rfl) dX11_against_50) (s_X11_laysSeen hg gv1 e9) rfl rfl rfl ?_
      refine fW_rg (fun hR10 => ?_)
      refine fW_aload_n 54 dX11_against_53 rfl rfl ?_
      obtain ⟨r11, e11, h⟩ := fBd h
      refine fW_cV (fI_V (as := []) (rest := []) miX11_laysKeys hg clX11 rfl tc_418 wd_1384 (fRoom_of rfl) rfl (Nat.le_of_ble_eq_true rfl) dX11_against_54) (s_X11_laysKeys hg e11) rfl rfl rfl ?_
      refine fW_rg (fun hR12 => ?_)
      refine fW_iconst 58 dX11_against_57 rfl ?_
      refine fW_istore_n 59 (ls' := [some (rv G 418), some (iv v1), some (iv v2), some (iv 0), none, none, none]) dX11_against_58 rfl rfl rfl (by decide) ?_
      refine fW_iconst 60 dX11_against_59 rfl ?_
      refine fW_istore 62 (ls' := [some (rv G 418), some (iv v1), some (iv v2), some (iv 0), some (iv 0), none, none]) dX11_against_60 rfl rfl (by decide) ?_
      refine fW_sb (l_X11_against_62 hg ?_ 20000 v2 0 0 r11 gv2 (by decide) (by decide) h) ⟨rfl, rfl, rfl, rfl, trivial⟩
      intro v3_45 M_45 gv3_45 h
      refine fW_rg (fun hR_45 => ?_)
      refine fW_iload_n 175 dX11_against_174 rfl rfl ?_
      exact fW_iret rfl (by decide) (by decide) dX11_against_175 (rI_i h gv3_45)
    · replace h := fTt h c8
      refine fW_aload_n 43 dX11_against_42 rfl rfl ?_
      refine fW_iload_n 44 dX11_against_43 rfl rfl ?_
      obtain ⟨r46, e46, h⟩ := fBd h
      refine fW_cP (fI_V (as := [iv v1]) (rest := []) miX11_shutYet hg clX11 rfl tc_418 wd_1640 (fRoom_of rfl) rfl (Nat.le_of_ble_eq_true rfl) dX11_against_44) (s_X11_shutYet hg gv1 e46) rfl rfl rfl (fun g46 => ?_)
      exact fW_iret rfl (by decide) (by decide) dX11_against_47 (rI_i h g46)
  · replace h := fTt h c7
    refine fW_iconst 36 dX11_against_35 rfl ?_
    exact fW_iret rfl (by decide) (by decide) dX11_against_36 (rI_i h (by decide))
def j_X11_against_27  (v1 : Int) (v2 : Int) (M : fMem) : Option (Int × fMem) := j_X11_against_28 v1 v2 0 M
set_option maxRecDepth 100000 in
set_option maxHeartbeats 4000000 in
theorem i_X11_against_27 {G : fG} (hg : gbt G = true)  {v1 : Int} {v2 : Int} (gv1 : rg v1) (gv2 : rg v2) {M : fMem} {q : Int × fMem} (h : j_X11_against_27 v1 v2 M = some q) : fW G mX11_against (fEm G mX11_against (rP q.2 q.1) fNo) 0 0 27 [some (rv G 418), some (iv v1), some (iv v2), none, none, none, none] [rv G 418] M := by
  rw [j_X11_against_27] at h
  refine fW_rg (fun hR => ?_)
  refine fW_iconst 28 dX11_against_27 rfl ?_
  exact fW_sb (i_X11_against_28 hg gv1 gv2 (by decide) h) ⟨rfl, rfl, rfl, trivial⟩
def f_X11_against (a1 : Int) (a2 : Int) (M : fMem) : Option (Int × fMem) := ((f_X11_isTakenView a1 (mset M 418 4 0)).bind fun (r2 : Int) => (if r2 = 0 then j_X11_against_27 a1 a2 (mset M 418 4 0) else ((f_X11_isIn a2 0 3 (mset M 418 4 0)).bind fun (r47 : Int) => (if r47 = 0 then j_X11_against_27 a1 a2 (mset M 418 4 0) else j_X11_against_28 a1 a2 1 (mset M 418 4 0)))))
set_option maxRecDepth 100000 in
set_option maxHeartbeats 4000000 in
theorem s_X11_against {G : fG} (hg : gbt G = true) {a1 : Int} (ga1 : rg a1) {a2 : Int} (ga2 : rg a2) {M : fMem} {q : Int × fMem} (h : f_X11_against a1 a2 M = some q) : fSp G mX11_against [rv G 418, iv a1, iv a2] M (rP q.2 q.1) fNo := by
  refine fSp_of (by decide +kernel) (by decide +kernel) (fC1 rfl (fC1 rfl (fC1 rfl fC0))) (Nat.le_of_ble_eq_true rfl) ?_
  show fW G mX11_against (fEm G mX11_against (rP q.2 q.1) fNo) 0 0 0 [some (rv G 418), some (iv a1), some (iv a2), none, none, none, none] [] M
  rw [f_X11_against] at h
  refine fW_rg (fun hR => ?_)
  refine fW_aload_n 1 dX11_against_0 rfl rfl ?_
  refine fW_iconst 2 dX11_against_1 rfl ?_
  refine fW_putI 5 4 (ji := 4) hg clX11 rfl (by decide) rfl rfl rfl tc_418 (by decide) wd_1178 dX11_against_2 rfl ?_
  refine fW_rg (fun hR1 => ?_)
  refine fW_aload_n 6 dX11_against_5 rfl rfl ?_
  refine fW_aload_n 7 dX11_against_6 rfl rfl ?_
  refine fW_iload_n 8 dX11_against_7 rfl rfl ?_
  obtain ⟨r2, e2, h⟩ := fBd h
  refine fW_cB (fI_V (as := [iv a1]) (rest := [rv G 418]) miX11_isTakenView hg clX11 rfl tc_418 wd_1620 (fRoom_of rfl) rfl (Nat.le_of_ble_eq_true rfl) dX11_against_8) (s_X11_isTakenView hg ga1 e2) rfl rfl rfl (fun g2 => ?_)
  refine fW_if_eq 14 27 (rg_z g2) dX11_against_11 rfl rfl (fun c3 => ?_) (fun c3 => ?_)
  · replace h := fTt h c3
    exact fW_sb (i_X11_against_27 hg ga1 ga2 h) ⟨rfl, rfl, rfl, trivial⟩
  · replace h := fFf h c3
    refine fW_iload_n 15 dX11_against_14 rfl rfl ?_
    refine fW_iconst 16 dX11_against_15 rfl ?_
    refine fW_iconst 17 dX11_against_16 rfl ?_
    obtain ⟨r47, e47, h⟩ := fBd h
    refine fW_cB (fI_S (as := [iv a2, iv 0, iv 3]) (rest := [rv G 418]) miX11_isIn rfl wd_1272 (fRoom_of rfl) rfl (Nat.le_of_ble_eq_true rfl) dX11_against_17) (s_X11_isIn ga2 (by decide) (by decide) e47) rfl rfl rfl (fun g47 => ?_)
    refine fW_if_eq 23 27 (rg_z g47) dX11_against_20 rfl rfl (fun c48 => ?_) (fun c48 => ?_)
    · replace h := fTt h c48
      exact fW_sb (i_X11_against_27 hg ga1 ga2 h) ⟨rfl, rfl, rfl, trivial⟩
    · replace h := fFf h c48
      refine fW_iconst 24 dX11_against_23 rfl ?_
      refine fW_goto 28 dX11_against_24 rfl ?_
      exact fW_sb (i_X11_against_28 hg ga1 ga2 (by decide) h) ⟨rfl, rfl, rfl, trivial⟩
end MTH
