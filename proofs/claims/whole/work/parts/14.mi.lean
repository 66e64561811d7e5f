section MTH
def mX5_halve : fMt := (yX5_halve, cX5_halve, 10, none, { frames := 1, cells := 0, slots := 0, locals := 40 })
theorem miX5_halve : fMv mX5_halve 4 := ⟨⟨fM 838 (by decide +kernel) rfl, fM 99 (by decide +kernel) rfl, ⟨by decide +kernel, by decide +kernel⟩, by decide +kernel⟩, fM 837 (by decide +kernel) rfl, fM 18 (by decide +kernel) rfl⟩
def L_X5_halve_32  (k : Int → Int → Int → Int → fMem → Option (fMem)) : Nat → Int → Nat → Int → Int → Int → Int → Int → Int → fMem → Option (fMem)
  | 0, _, _, _, _, _, _, _, _, _ => none
  | n + 1, v1, w2, v3, v4, v5, v6, v7, v8, M => (if v8 ≤ 0 then k v1 v3 v5 v7 M else (if v6 ≤ v5 then k v1 v3 v5 v7 M else (if 0 ≤ v5 + v6 ∧ v5 + v6 < 2147483648 then (if 0 ≤ (v5 + v6) / 2 ∧ (v5 + v6) / 2 < Ln w2 then (if v4 ≤ (M w2 ((v5 + v6) / 2)) then (if -2147483648 ≤ (v5 + v6) / 2 ∧ (v5 + v6) / 2 < 2147483648 then (if -2147483648 ≤ v7 + 1 ∧ v7 + 1 < 2147483648 then L_X5_halve_32  k n v1 w2 v3 v4 v5 ((v5 + v6) / 2) (v7 + 1) (v8 + -1) M else none) else none) else (if -2147483648 ≤ ((v5 + v6) / 2) + 1 ∧ ((v5 + v6) / 2) + 1 < 2147483648 then (if -2147483648 ≤ v7 + 1 ∧ v7 + 1 < 2147483648 then L_X5_halve_32  k n v1 w2 v3 v4 (((v5 + v6) / 2) + 1) v6 (v7 + 1) (v8 + -1) M else none) else none)) else none) else none)))
set_option maxRecDepth 100000 in
set_option maxHeartbeats 4000000 in
theorem l_X5_halve_32 {G : fG} (hg : gbt G = true)  {q : fMem} {k : Int → Int → Int → Int → fMem → Option (fMem)} (hk : ∀ (v1 : Int) (v3 : Int) (v5 : Int) (v7 : Int) (M : fMem), rg v1 → rg v3 → rg v5 → rg v7 → k v1 v3 v5 v7 M = some q → fW G mX5_halve (fEm G mX5_halve (rV q) fNo) 0 0 84 [some (rv G 227), some (iv v1), none, some (iv v3), none, some (iv v5), none, some (iv v7), none, none] [] M) : ∀ (n : Nat) (v1 : Int) (w2 : Nat) (v3 : Int) (v4 : Int) (v5 : Int) (v6 : Int) (v7 : Int) (v8 : Int) (M : fMem), rg v1 → fTyp w2 12 → rg v3 → rg v4 → rg v5 → rg v6 → rg v7 → rg v8 → L_X5_halve_32 k n v1 w2 v3 v4 v5 v6 v7 v8 M = some q → fW G mX5_halve (fEm G mX5_halve (rV q) fNo) 0 0 32 [some (rv G 227), some (iv v1), some (rv G w2), some (iv v3), some (iv v4), some (iv v5), some (iv v6), some (iv v7), some (iv v8), none] [] M := by
  intro n
  induction n with
  | zero =>
    intro v1 w2 v3 v4 v5 v6 v7 v8 M gv1 tw2 gv3 gv4 gv5 gv6 gv7 gv8 h
    rw [L_X5_halve_32] at h
    exact absurd h (by simp)
  | succ n ih =>
    intro v1 w2 v3 v4 v5 v6 v7 v8 M gv1 tw2 gv3 gv4 gv5 gv6 gv7 gv8 h
    rw [L_X5_halve_32] at h
    refine fW_rg (fun hR => ?_)
    refine fW_iload 34 dX5_halve_32 rfl rfl ?_
    refine fW_if_le 37 84 gv8 dX5_halve_34 rfl rfl (fun c3 => ?_) (fun c3 => ?_)
    · replace h := fTt h c3
      exact fW_sb (hk v1 v3 v5 v7 M gv1 gv3 gv5 gv7 h) ⟨rfl, rfl, rfl, rfl, rfl, trivial⟩
    · replace h := fFf h c3
      refine fW_iload 39 dX5_halve_37 rfl rfl ?_
      refine fW_iload 41 dX5_halve_39 rfl rfl ?_
      refine fW_icmp_ge 44 84 gv5 gv6 dX5_halve_41 rfl rfl (fun c4 => ?_) (fun c4 => ?_)
      · replace h := fTt h c4
        exact fW_sb (hk v1 v3 v5 v7 M gv1 gv3 gv5 gv7 h) ⟨rfl, rfl, rfl, rfl, rfl, trivial⟩
      · replace h := fFf h c4
        refine fW_iload 46 dX5_halve_44 rfl rfl ?_
        refine fW_iload 48 dX5_halve_46 rfl rfl ?_
        refine fW_iadd 49 dX5_halve_48 rfl ?_
        refine fW_iconst 50 dX5_halve_49 rfl ?_
        obtain ⟨c5, h⟩ := fS h
        refine fW_idiv 51 c5 (by decide) dX5_halve_50 rfl ?_
        refine fW_istore 53 (ls' := [some (rv G 227), some (iv v1), some (rv G w2), some (iv v3), some (iv v4), some (iv v5), some (iv v6), some (iv v7), some (iv v8), some (iv ((v5 + v6) / 2))]) dX5_halve_51 rfl rfl (by decide) ?_
        refine fW_iinc 56 (ls' := [some (rv G 227), some (iv v1), some (rv G w2), some (iv v3), some (iv v4), some (iv v5), some (iv v6), some (iv (v7 + 1)), some (iv v8), some (iv ((v5 + v6) / 2))]) dX5_halve_53 rfl rfl rfl (by decide) ?_
        refine fW_aload_n 57 dX5_halve_56 rfl rfl ?_
        refine fW_iload 59 dX5_halve_57 rfl rfl ?_
        obtain ⟨c6, h⟩ := fS h
        refine fW_iald 60 hg tw2 c6 dX5_halve_59 rfl ?_
        refine fW_iload 62 dX5_halve_60 rfl rfl ?_
        refine fW_icmp_ge 65 74 (hR w2 ((v5 + v6) / 2)) gv4 dX5_halve_62 rfl rfl (fun c7 => ?_) (fun c7 => ?_)
        · replace h := fTt h c7
          refine fW_iload 76 dX5_halve_74 rfl rfl ?_
          refine fW_istore 78 (ls' := [some (rv G 227), some (iv v1), some (rv G w2), some (iv v3), some (iv v4), some (iv v5), some (iv ((v5 + v6) / 2)), some (iv (v7 + 1)), some (iv v8), some (iv ((v5 + v6) / 2))]) dX5_halve_76 rfl rfl (by decide) ?_
          refine fW_iinc 81 (ls' := [some (rv G 227), some (iv v1), some (rv G w2), some (iv v3), some (iv v4), some (iv v5), some (iv ((v5 + v6) / 2)), some (iv (v7 + 1)), some (iv (v8 + -1)), some (iv ((v5 + v6) / 2))]) dX5_halve_78 rfl rfl rfl (by decide) ?_
          refine fW_goto 32 dX5_halve_81 rfl ?_
          obtain ⟨c8, h⟩ := fS h
          obtain ⟨c9, h⟩ := fS h
          exact fW_sb (ih v1 w2 v3 v4 v5 ((v5 + v6) / 2) (v7 + 1) (v8 + -1) M gv1 tw2 gv3 gv4 gv5 c8 c9 (rg_pred' gv8 (by decide) c3) h) ⟨rfl, rfl, rfl, rfl, rfl, rfl, rfl, rfl, rfl, trivial⟩
        · replace h := fFf h c7
          refine fW_iload 67 dX5_halve_65 rfl rfl ?_
          refine fW_iconst 68 dX5_halve_67 rfl ?_
          refine fW_iadd 69 dX5_halve_68 rfl ?_
          refine fW_istore 71 (ls' := [some (rv G 227), some (iv v1), some (rv G w2), some (iv v3), some (iv v4), some (iv (((v5 + v6) / 2) + 1)), some (iv v6), some (iv (v7 + 1)), some (iv v8), some (iv ((v5 + v6) / 2))]) dX5_halve_69 rfl rfl (by decide) ?_
          refine fW_goto 78 dX5_halve_71 rfl ?_
          refine fW_iinc 81 (ls' := [some (rv G 227), some (iv v1), some (rv G w2), some (iv v3), some (iv v4), some (iv (((v5 + v6) / 2) + 1)), some (iv v6), some (iv (v7 + 1)), some (iv (v8 + -1)), some (iv ((v5 + v6) / 2))]) dX5_halve_78 rfl rfl rfl (by decide) ?_
          refine fW_goto 32 dX5_halve_81 rfl ?_
          obtain ⟨c10, h⟩ := fS h
          obtain ⟨c11, h⟩ := fS h
          exact fW_sb (ih v1 w2 v3 v4 (((v5 + v6) / 2) + 1) v6 (v7 + 1) (v8 + -1) M gv1 tw2 gv3 gv4 c10 gv6 c11 (rg_pred' gv8 (by decide) c3) h) ⟨rfl, rfl, rfl, rfl, rfl, rfl, rfl, rfl, rfl, trivial⟩
def j_X5_halve_97  (v1 : Int) (v5 : Int) (x0 : Int) (x1 : Int) (M : fMem) : Option (fMem) := (if 0 ≤ v1 ∧ v1 < 19 then (if 0 ≤ v1 ∧ v1 < 19 then (if -2147483648 ≤ x0 + x1 ∧ x0 + x1 < 2147483648 then (if -2147483648 ≤ ((mset (mset M 230 v1 v5) 231 v1 (x0 + x1)) 227 5) + (x0 + x1) ∧ ((mset (mset M 230 v1 v5) 231 v1 (x0 + x1)) 227 5) + (x0 + x1) < 2147483648 then (if -2147483648 ≤ ((mset (mset (mset M 230 v1 v5) 231 v1 (x0 + x1)) 227 5 (((mset (mset M 230 v1 v5) 231 v1 (x0 + x1)) 227 5) + (x0 + x1))) 227 4) + 1 ∧ ((mset (mset (mset M 230 v1 v5) 231 v1 (x0 + x1)) 227 5 (((mset (mset M 230 v1 v5) 231 v1 (x0 + x1)) 227 5) + (x0 + x1))) 227 4) + 1 < 2147483648 then some (mset (mset (mset (mset M 230 v1 v5) 231 v1 (x0 + x1)) 227 5 (((mset (mset M 230 v1 v5) 231 v1 (x0 + x1)) 227 5) + (x0 + x1))) 227 4 (((mset (mset (mset M 230 v1 v5) 231 v1 (x0 + x1)) 227 5 (((mset (mset M 230 v1 v5) 231 v1 (x0 + x1)) 227 5) + (x0 + x1))) 227 4) + 1)) else none) else none) else none) else none) else none)
set_option maxRecDepth 100000 in
set_option maxHeartbeats 4000000 in
theorem i_X5_halve_97 {G : fG} (hg : gbt G = true)  {v1 : Int} {v5 : Int} {x0 : Int} {x1 : Int} (gv1 : rg v1) (gv5 : rg v5) (gx0 : rg x0) (gx1 : rg x1) {M : fMem} {q : fMem} (h : j_X5_halve_97 v1 v5 x0 x1 M = some q) : fW G mX5_halve (fEm G mX5_halve (rV q) fNo) 0 0 97 [some (rv G 227), some (iv v1), none, none, none, some (iv v5), none, none, none, none] [iv x1, iv x0] M := by
  rw [j_X5_halve_97] at h
  refine fW_rg (fun hR => ?_)
  refine fW_iadd 98 dX5_halve_97 rfl ?_
  refine fW_istore 100 (ls' := [some (rv G 227), some (iv v1), none, none, none, some (iv v5), none, some (iv (x0 + x1)), none, none]) dX5_halve_98 rfl rfl (by decide) ?_
  refine fW_aload_n 101 dX5_halve_100 rfl rfl ?_
  refine fW_getR 104 (r := 230) 2 hg clX5 (by decide) rfl tc_227 tf_5_2 wd_377 dX5_halve_101 rfl ?_
  refine fW_iload_n 105 dX5_halve_104 rfl rfl ?_
  refine fW_iload 107 dX5_halve_105 rfl rfl ?_
  obtain ⟨c14, h⟩ := fS h
  refine fW_iast 108 hg tc_230 ⟨c14.1, by rw [show Ln 230 = 19 from rfl]; exact c14.2⟩ gv5 dX5_halve_107 rfl ?_
  refine fW_rg (fun hR15 => ?_)
  refine fW_aload_n 109 dX5_halve_108 rfl rfl ?_
  refine fW_getR 112 (r := 231) 3 hg clX5 (by decide) rfl tc_227 tf_5_3 wd_379 dX5_halve_109 rfl ?_
  refine fW_iload_n 113 dX5_halve_112 rfl rfl ?_
  refine fW_iload 115 dX5_halve_113 rfl rfl ?_
  obtain ⟨c16, h⟩ := fS h
  obtain ⟨c17, h⟩ := fS h
  refine fW_iast 116 hg tc_231 ⟨c16.1, by rw [show Ln 231 = 19 from rfl]; exact c16.2⟩ c17 dX5_halve_115 rfl ?_
  refine fW_rg (fun hR18 => ?_)
  refine fW_aload_n 117 dX5_halve_116 rfl rfl ?_
  refine fW_dup 118 dX5_halve_117 rfl rfl ?_
  refine fW_getI 121 5 (ji := 5) hg clX5 rfl (by decide) rfl tc_227 wd_383 dX5_halve_118 rfl ?_
  refine fW_iload 123 dX5_halve_121 rfl rfl ?_
  refine fW_iadd 124 dX5_halve_123 rfl ?_
  obtain ⟨c19, h⟩ := fS h
  refine fW_putI 127 5 (ji := 5) hg clX5 rfl (by decide) rfl rfl rfl tc_227 c19 wd_383 dX5_halve_124 rfl ?_
  refine fW_rg (fun hR20 => ?_)
  refine fW_aload_n 128 dX5_halve_127 rfl rfl ?_
  refine fW_dup 129 dX5_halve_128 rfl rfl ?_
  refine fW_getI 132 4 (ji := 4) hg clX5 rfl (by decide) rfl tc_227 wd_381 dX5_halve_129 rfl ?_
  refine fW_iconst 133 dX5_halve_132 rfl ?_
  refine fW_iadd 134 dX5_halve_133 rfl ?_
  obtain ⟨c21, h⟩ := fS h
  refine fW_putI 137 4 (ji := 4) hg clX5 rfl (by decide) rfl rfl rfl tc_227 c21 wd_381 dX5_halve_134 rfl ?_
  refine fW_rg (fun hR22 => ?_)
  exact fW_vret rfl (by decide) (by decide) dX5_halve_137 (rV_i h)
def j_X5_halve_84  (v1 : Int) (v3 : Int) (v5 : Int) (v7 : Int) (M : fMem) : Option (fMem) := (if v3 ≤ v5 then j_X5_halve_97 v1 v5 v7 0 M else j_X5_halve_97 v1 v5 v7 1 M)
set_option maxRecDepth 100000 in
set_option maxHeartbeats 4000000 in
theorem i_X5_halve_84 {G : fG} (hg : gbt G = true)  {v1 : Int} {v3 : Int} {v5 : Int} {v7 : Int} (gv1 : rg v1) (gv3 : rg v3) (gv5 : rg v5) (gv7 : rg v7) {M : fMem} {q : fMem} (h : j_X5_halve_84 v1 v3 v5 v7 M = some q) : fW G mX5_halve (fEm G mX5_halve (rV q) fNo) 0 0 84 [some (rv G 227), some (iv v1), none, some (iv v3), none, some (iv v5), none, some (iv v7), none, none] [] M := by
  rw [j_X5_halve_84] at h
  refine fW_rg (fun hR => ?_)
  refine fW_iload 86 dX5_halve_84 rfl rfl ?_
  refine fW_iload 88 dX5_halve_86 rfl rfl ?_
  refine fW_iload_n 89 dX5_halve_88 rfl rfl ?_
  refine fW_icmp_ge 92 96 gv5 gv3 dX5_halve_89 rfl rfl (fun c13 => ?_) (fun c13 => ?_)
  · replace h := fTt h c13
    refine fW_iconst 97 dX5_halve_96 rfl ?_
    exact fW_sb (i_X5_halve_97 hg gv1 gv5 gv7 (by decide) h) ⟨rfl, rfl, rfl, trivial⟩
  · replace h := fFf h c13
    refine fW_iconst 93 dX5_halve_92 rfl ?_
    refine fW_goto 97 dX5_halve_93 rfl ?_
    exact fW_sb (i_X5_halve_97 hg gv1 gv5 gv7 (by decide) h) ⟨rfl, rfl, rfl, trivial⟩
def f_X5_halve (a1 : Int) (p2 : Nat) (a3 : Int) (a4 : Int) (M : fMem) : Option (fMem) := (if 0 ≤ a1 ∧ a1 < 19 then (if 0 ≤ a1 ∧ a1 < 19 then L_X5_halve_32 (fun (v1_12 : Int) (v3_12 : Int) (v5_12 : Int) (v7_12 : Int) (M_12 : fMem) => j_X5_halve_84 v1_12 v3_12 v5_12 v7_12 M_12) 20000 a1 p2 a3 a4 (M 228 a1) (min (M 229 a1) (min a3 (Ln p2))) 0 40 M else none) else none)
set_option maxRecDepth 100000 in
set_option maxHeartbeats 4000000 in
theorem s_X5_halve {G : fG} (hg : gbt G = true) {a1 : Int} (ga1 : rg a1) {p2 : Nat} (hp2 : fTyp p2 12) {a3 : Int} (ga3 : rg a3) {a4 : Int} (ga4 : rg a4) {M : fMem} {q : fMem} (h : f_X5_halve a1 p2 a3 a4 M = some q) : fSp G mX5_halve [rv G 227, iv a1, rv G p2, iv a3, iv a4] M (rV q) fNo := by
  refine fSp_of (by decide +kernel) (by decide +kernel) (fC1 rfl (fC1 rfl (fC1 rfl (fC1 rfl (fC1 rfl fC0))))) (Nat.le_of_ble_eq_true rfl) ?_
  show fW G mX5_halve (fEm G mX5_halve (rV q) fNo) 0 0 0 [some (rv G 227), some (iv a1), some (rv G p2), some (iv a3), some (iv a4), none, none, none, none, none] [] M
  rw [f_X5_halve] at h
  refine fW_rg (fun hR => ?_)
  refine fW_aload_n 1 dX5_halve_0 rfl rfl ?_
  refine fW_getR 4 (r := 228) 0 hg clX5 (by decide) rfl tc_227 tf_5_0 wd_373 dX5_halve_1 rfl ?_
  refine fW_iload_n 5 dX5_halve_4 rfl rfl ?_
  obtain ⟨c1, h⟩ := fS h
  refine fW_iald 6 hg tc_228 ⟨c1.1, by rw [show Ln 228 = 19 from rfl]; exact c1.2⟩ dX5_halve_5 rfl ?_
  refine fW_istore 8 (ls' := [some (rv G 227), some (iv a1), some (rv G p2), some (iv a3), some (iv a4), some (iv (M 228 a1)), none, none, none, none]) dX5_halve_6 rfl rfl (by decide) ?_
  refine fW_aload_n 9 dX5_halve_8 rfl rfl ?_
  refine fW_getR 12 (r := 229) 1 hg clX5 (by decide) rfl tc_227 tf_5_1 wd_375 dX5_halve_9 rfl ?_
  refine fW_iload_n 13 dX5_halve_12 rfl rfl ?_
  obtain ⟨c2, h⟩ := fS h
  refine fW_iald 14 hg tc_229 ⟨c2.1, by rw [show Ln 229 = 19 from rfl]; exact c2.2⟩ dX5_halve_13 rfl ?_
  refine fW_iload_n 15 dX5_halve_14 rfl rfl ?_
  refine fW_aload_n 16 dX5_halve_15 rfl rfl ?_
  refine fW_alen 17 hg hp2 dX5_halve_16 rfl ?_
  refine fW_mmin 20 ga3 (rg_ln p2) wd_839 (by decide) (Nat.le_of_ble_eq_true rfl) (by decide) (by decide) dX5_halve_17 rfl ?_
  refine fW_mmin 23 (hR 229 a1) (rg_min ga3 (rg_ln p2)) wd_839 (by decide) (Nat.le_of_ble_eq_true rfl) (by decide) (by decide) dX5_halve_20 rfl ?_
  refine fW_istore 25 (ls' := [some (rv G 227), some (iv a1), some (rv G p2), some (iv a3), some (iv a4), some (iv (M 228 a1)), some (iv (min (M 229 a1) (min a3 (Ln p2)))), none, none, none]) dX5_halve_23 rfl rfl (by decide) ?_
  refine fW_iconst 26 dX5_halve_25 rfl ?_
  refine fW_istore 28 (ls' := [some (rv G 227), some (iv a1), some (rv G p2), some (iv a3), some (iv a4), some (iv (M 228 a1)), some (iv (min (M 229 a1) (min a3 (Ln p2)))), some (iv 0), none, none]) dX5_halve_26 rfl rfl (by decide) ?_
  refine fW_bipush 30 dX5_halve_28 rfl (by decide) ?_
  refine fW_istore 32 (ls' := [some (rv G 227), some (iv a1), some (rv G p2), some (iv a3), some (iv a4), some (iv (M 228 a1)), some (iv (min (M 229 a1) (min a3 (Ln p2)))), some (iv 0), some (iv 40), none]) dX5_halve_30 rfl rfl (by decide) ?_
  refine fW_sb (l_X5_halve_32 hg ?_ 20000 a1 p2 a3 a4 (M 228 a1) (min (M 229 a1) (min a3 (Ln p2))) 0 40 M ga1 hp2 ga3 ga4 (hR 228 a1) (rg_min (hR 229 a1) (rg_min ga3 (rg_ln p2))) (by decide) (by decide) h) ⟨rfl, rfl, rfl, rfl, rfl, rfl, rfl, rfl, rfl, trivial⟩
  intro v1_12 v3_12 v5_12 v7_12 M_12 gv1_12 gv3_12 gv5_12 gv7_12 h
  refine fW_rg (fun hR_12 => ?_)
  exact fW_sb (i_X5_halve_84 hg gv1_12 gv3_12 gv5_12 gv7_12 h) ⟨rfl, rfl, rfl, rfl, rfl, trivial⟩
def mX5_enter : fMt := (yX5_enter, cX5_enter, 7, some .boolean, { frames := 3, cells := 0, slots := 0, locals := 120 })
theorem miX5_enter : fMv mX5_enter 4 := ⟨⟨fM 848 (by decide +kernel) rfl, fM 99 (by decide +kernel) rfl, ⟨by decide +kernel, by decide +kernel⟩, by decide +kernel⟩, fM 847 (by decide +kernel) rfl, fM 19 (by decide +kernel) rfl⟩
def f_X5_enter (p1 : Nat) (a3 : Int) (a4 : Int) (M : fMem) : Option (Int × fMem) := (if 0 ≤ a3 ∧ a3 < 19 then ((f_X5_narrow p1 a3 M).bind fun (r3 : fMem) => ((f_X5_halve a3 (4 * psO a3.toNat + 152) (r3 (4 * psO a3.toNat + 151) 3) a4 r3).bind fun (r5 : fMem) => (if 0 ≤ a3 ∧ a3 < 19 then ((f_X1_keyAt (4 * psO a3.toNat + 151) (r5 230 a3) r5).bind fun (r8 : Int) => (if r8 = a4 then ((f_X1_placeAt (4 * psO a3.toNat + 151) (r5 230 a3) r5).bind fun (r10 : Int) => (if r10 = ((-1)) then some (1, r5) else some (0, r5))) else some (0, r5))) else none))) else none)
set_option maxRecDepth 100000 in
set_option maxHeartbeats 4000000 in
theorem s_X5_enter {G : fG} (hg : gbt G = true) {p1 : Nat} (hp1 : fTyp p1 7) {a3 : Int} (ga3 : rg a3) {a4 : Int} (ga4 : rg a4) {M : fMem} {q : Int × fMem} (h : f_X5_enter p1 a3 a4 M = some q) : fSp G mX5_enter [rv G 227, rv G p1, rv G 149, iv a3, iv a4] M (rB q.2 q.1) fNo := by
  refine fSp_of (by decide +kernel) (by decide +kernel) (fC1 rfl (fC1 rfl (fC1 rfl (fC1 rfl (fC1 rfl fC0))))) (Nat.le_of_ble_eq_true rfl) ?_
  show fW G mX5_enter (fEm G mX5_enter (rB q.2 q.1) fNo) 0 0 0 [some (rv G 227), some (rv G p1), some (rv G 149), some (iv a3), some (iv a4), none, none] [] M
  rw [f_X5_enter] at h
  refine fW_rg (fun hR => ?_)
  refine fW_aload_n 1 dX5_enter_0 rfl rfl ?_
  refine fW_getR 4 (r := 150) 0 hg clX3 (by decide) rfl tc_149 tf_3_0 wd_362 dX5_enter_1 rfl ?_
  refine fW_iload_n 5 dX5_enter_4 rfl rfl ?_
  obtain ⟨c1, h⟩ := fS h
  have t2 := ta_14 (r := 4 * psO a3.toNat + 151) tc_150 c1 (by omega)
  refine fW_aald 6 2 hg tc_150 (by decide) (by decide) t2.1 t2.2.2 rfl dX5_enter_5 rfl ?_
  refine fW_astore 8 (ls' := [some (rv G 227), some (rv G p1), some (rv G 149), some (iv a3), some (iv a4), some (rv G (4 * psO a3.toNat + 151)), none]) dX5_enter_6 rfl rfl (by decide) ?_
  refine fW_aload_n 9 dX5_enter_8 rfl rfl ?_
  refine fW_aload_n 10 dX5_enter_9 rfl rfl ?_
  refine fW_aload_n 11 dX5_enter_10 rfl rfl ?_
  refine fW_iload_n 12 dX5_enter_11 rfl rfl ?_
  obtain ⟨r3, e3, h⟩ := fBd h
  refine fW_cV (fI_V (as := [rv G p1, rv G 149, iv a3]) (rest := []) miX5_narrow hg clX5 rfl tc_227 wd_849 (fRoom_of rfl) rfl (Nat.le_of_ble_eq_true rfl) dX5_enter_12) (s_X5_narrow hg hp1 ga3 e3) rfl rfl rfl ?_
  refine fW_rg (fun hR4 => ?_)
  refine fW_aload_n 16 dX5_enter_15 rfl rfl ?_
  refine fW_iload_n 17 dX5_enter_16 rfl rfl ?_
  refine fW_aload 19 dX5_enter_17 rfl rfl ?_
  refine fW_getR 22 (r := 4 * psO a3.toNat + 152) 0 hg clX1 (by decide) rfl t2.2.1 (tf_1_0 t2.2.1) wd_341 dX5_enter_19 rfl ?_
  refine fW_aload 24 dX5_enter_22 rfl rfl ?_
  refine fW_getI 27 3 (ji := 3) hg clX1 rfl (by decide) rfl t2.2.1 wd_346 dX5_enter_24 rfl ?_
  refine fW_iload 29 dX5_enter_27 rfl rfl ?_
  obtain ⟨r5, e5, h⟩ := fBd h
  refine fW_cV (fI_V (as := [iv a3, rv G (4 * psO a3.toNat + 152), iv (r3 (4 * psO a3.toNat + 151) 3), iv a4]) (rest := []) miX5_halve hg clX5 rfl tc_227 wd_835 (fRoom_of rfl) rfl (Nat.le_of_ble_eq_true rfl) dX5_enter_29) (s_X5_halve hg ga3 (tt_1_0 t2.2.1) (hR4 (4 * psO a3.toNat + 151) 3) ga4 e5) rfl rfl rfl ?_
  refine fW_rg (fun hR6 => ?_)
  refine fW_aload_n 33 dX5_enter_32 rfl rfl ?_
  refine fW_getR 36 (r := 230) 2 hg clX5 (by decide) rfl tc_227 tf_5_2 wd_377 dX5_enter_33 rfl ?_
  refine fW_iload_n 37 dX5_enter_36 rfl rfl ?_
  obtain ⟨c7, h⟩ := fS h
  refine fW_iald 38 hg tc_230 ⟨c7.1, by rw [show Ln 230 = 19 from rfl]; exact c7.2⟩ dX5_enter_37 rfl ?_
  refine fW_istore 40 (ls' := [some (rv G 227), some (rv G p1), some (rv G 149), some (iv a3), some (iv a4), some (rv G (4 * psO a3.toNat + 151)), some (iv (r5 230 a3))]) dX5_enter_38 rfl rfl (by decide) ?_
  refine fW_aload 42 dX5_enter_40 rfl rfl ?_
  refine fW_iload 44 dX5_enter_42 rfl rfl ?_
  obtain ⟨r8, e8, h⟩ := fBd h
  refine fW_cP (fI_V (as := [iv (r5 230 a3)]) (rest := []) miX1_keyAt hg clX1 rfl t2.2.1 wd_865 (fRoom_of rfl) rfl (Nat.le_of_ble_eq_true rfl) dX5_enter_44) (s_X1_keyAt hg t2.2.1 (hR6 230 a3) e8) rfl rfl rfl (fun g8 => ?_)
  refine fW_iload 49 dX5_enter_47 rfl rfl ?_
  refine fW_icmp_ne 52 67 g8 ga4 dX5_enter_49 rfl rfl (fun c9 => ?_) (fun c9 => ?_)
  · replace h := fFf h c9
    refine fW_iconst 68 dX5_enter_67 rfl ?_
    exact fW_zret rfl (by decide) (by decide) (by decide) dX5_enter_68 (rBI_i h (by decide))
  · replace h := fTt h c9
    refine fW_aload 54 dX5_enter_52 rfl rfl ?_
    refine fW_iload 56 dX5_enter_54 rfl rfl ?_
    obtain ⟨r10, e10, h⟩ := fBd h
    refine fW_cP (fI_V (as := [iv (r5 230 a3)]) (rest := []) miX1_placeAt hg clX1 rfl t2.2.1 wd_866 (fRoom_of rfl) rfl (Nat.le_of_ble_eq_true rfl) dX5_enter_56) (s_X1_placeAt hg t2.2.1 (hR6 230 a3) e10) rfl rfl rfl (fun g10 => ?_)
    refine fW_iconst 60 dX5_enter_59 rfl ?_
    refine fW_icmp_ne 63 67 g10 (by decide) dX5_enter_60 rfl rfl (fun c11 => ?_) (fun c11 => ?_)
    · replace h := fFf h c11
      refine fW_iconst 68 dX5_enter_67 rfl ?_
      exact fW_zret rfl (by decide) (by decide) (by decide) dX5_enter_68 (rBI_i h (by decide))
    · replace h := fTt h c11
      refine fW_iconst 64 dX5_enter_63 rfl ?_
      refine fW_goto 68 dX5_enter_64 rfl ?_
      exact fW_zret rfl (by decide) (by decide) (by decide) dX5_enter_68 (rBI_i h (by decide))
def mX5_follow : fMt := (yX5_follow, cX5_follow, 6, none, { frames := 4, cells := 0, slots := 0, locals := 160 })
theorem miX5_follow : fMv mX5_follow 3 := ⟨⟨fM 844 (by decide +kernel) rfl, fM 99 (by decide +kernel) rfl, ⟨by decide +kernel, by decide +kernel⟩, by decide +kernel⟩, fM 842 (by decide +kernel) rfl, fM 843 (by decide +kernel) rfl⟩
def L_X5_follow_10  (k : fMem → Option (fMem)) : Nat → Nat → Int → Int → Int → fMem → Option (fMem)
  | 0, _, _, _, _, _ => none
  | n + 1, w1, v3, v4, v5, M => (if (M w1 2) ≤ v5 then k  M else (if v4 = 0 then (if 0 ≤ v5 ∧ v5 < 19 then ((f_X5_enter w1 (M (w1 + 2) v5) v3 M).bind fun (r6 : Int × fMem) => L_X5_follow_10  k n w1 v3 r6.1 (v5 + 1) r6.2) else none) else k  M))
set_option maxRecDepth 100000 in
set_option maxHeartbeats 4000000 in
theorem l_X5_follow_10 {G : fG} (hg : gbt G = true)  {q : fMem} {k : fMem → Option (fMem)} (hk : ∀ (M : fMem), k M = some q → fW G mX5_follow (fEm G mX5_follow (rV q) fNo) 0 0 46 [some (rv G 227), none, none, none, none, none] [] M) : ∀ (n : Nat) (w1 : Nat) (v3 : Int) (v4 : Int) (v5 : Int) (M : fMem), fTyp w1 7 → rg v3 → rg v4 → rg v5 → L_X5_follow_10 k n w1 v3 v4 v5 M = some q → fW G mX5_follow (fEm G mX5_follow (rV q) fNo) 0 0 10 [some (rv G 227), some (rv G w1), some (rv G 149), some (iv v3), some (iv v4), some (iv v5)] [] M := by
  intro n
  induction n with
  | zero =>
    intro w1 v3 v4 v5 M tw1 gv3 gv4 gv5 h
    rw [L_X5_follow_10] at h
    exact absurd h (by simp)
  | succ n ih =>
    intro w1 v3 v4 v5 M tw1 gv3 gv4 gv5 h
    rw [L_X5_follow_10] at h
    refine fW_rg (fun hR => ?_)
    refine fW_iload 12 dX5_follow_10 rfl rfl ?_
    refine fW_aload_n 13 dX5_follow_12 rfl rfl ?_
    refine fW_getI 16 2 (ji := 2) hg clX7 rfl (by decide) rfl tw1 wd_191 dX5_follow_13 rfl ?_
    refine fW_icmp_ge 19 46 gv5 (hR w1 2) dX5_follow_16 rfl rfl (fun c3 => ?_) (fun c3 => ?_)
    · replace h := fTt h c3
      exact fW_sb (hk M h) ⟨rfl, trivial⟩
    · replace h := fFf h c3
      refine fW_iload 21 dX5_follow_19 rfl rfl ?_
      refine fW_if_ne 24 46 gv4 dX5_follow_21 rfl rfl (fun c4 => ?_) (fun c4 => ?_)
      · replace h := fFf h c4
        exact fW_sb (hk M h) ⟨rfl, trivial⟩
      · replace h := fTt h c4
        refine fW_aload_n 25 dX5_follow_24 rfl rfl ?_
        refine fW_aload_n 26 dX5_follow_25 rfl rfl ?_
        refine fW_aload_n 27 dX5_follow_26 rfl rfl ?_
        refine fW_aload_n 28 dX5_follow_27 rfl rfl ?_
        refine fW_getR 31 (r := w1 + 2) 1 hg clX7 (by decide) rfl tw1 (tf_7_1 tw1) wd_187 dX5_follow_28 rfl ?_
        refine fW_iload 33 dX5_follow_31 rfl rfl ?_
        obtain ⟨c5, h⟩ := fS h
        refine fW_iald 34 hg (tt_7_1 tw1) ⟨c5.1, by rw [lf_7_1 tw1]; exact c5.2⟩ dX5_follow_33 rfl ?_
        refine fW_iload_n 35 dX5_follow_34 rfl rfl ?_
        obtain ⟨r6, e6, h⟩ := fBd h
        refine fW_cB (fI_V (as := [rv G w1, rv G 149, iv (M (w1 + 2) v5), iv v3]) (rest := []) miX5_enter hg clX5 rfl tc_227 wd_845 (fRoom_of rfl) rfl (Nat.le_of_ble_eq_true rfl) dX5_follow_35) (s_X5_enter hg tw1 (hR (w1 + 2) v5) gv3 e6) rfl rfl rfl (fun g6 => ?_)
        refine fW_rg (fun hR7 => ?_)
        refine fW_istore 40 (ls' := [some (rv G 227), some (rv G w1), some (rv G 149), some (iv v3), some (iv r6.1), some (iv v5)]) dX5_follow_38 rfl rfl (by decide) ?_
        refine fW_iinc 43 (ls' := [some (rv G 227), some (rv G w1), some (rv G 149), some (iv v3), some (iv r6.1), some (iv (v5 + 1))]) dX5_follow_40 rfl rfl rfl (by decide) ?_
        refine fW_goto 10 dX5_follow_43 rfl ?_
        exact fW_sb (ih w1 v3 r6.1 (v5 + 1) r6.2 tw1 gv3 (rg_z g6) (rg_succ' gv5 (hR w1 2) c3) h) ⟨rfl, rfl, rfl, rfl, rfl, rfl, trivial⟩
def f_X5_follow (p1 : Nat) (a3 : Int) (M : fMem) : Option (fMem) := ((f_X5_start M).bind fun (r1 : fMem) => L_X5_follow_10 (fun  (M_8 : fMem) => some M_8) 20000 p1 a3 0 0 r1)
set_option maxRecDepth 100000 in
set_option maxHeartbeats 4000000 in
theorem s_X5_follow {G : fG} (hg : gbt G = true) {p1 : Nat} (hp1 : fTyp p1 7) {a3 : Int} (ga3 : rg a3) {M : fMem} {q : fMem} (h : f_X5_follow p1 a3 M = some q) : fSp G mX5_follow [rv G 227, rv G p1, rv G 149, iv a3] M (rV q) fNo := by
  refine fSp_of (by decide +kernel) (by decide +kernel) (fC1 rfl (fC1 rfl (fC1 rfl (fC1 rfl fC0)))) (Nat.le_of_ble_eq_true rfl) ?_
  show fW G mX5_follow (fEm G mX5_follow (rV q) fNo) 0 0 0 [some (rv G 227), some (rv G p1), some (rv G 149), some (iv a3), none, none] [] M
  rw [f_X5_follow] at h
  refine fW_rg (fun hR => ?_)
  refine fW_aload_n 1 dX5_follow_0 rfl rfl ?_
  obtain ⟨r1, e1, h⟩ := fBd h
  refine fW_cV (fI_V (as := []) (rest := []) miX5_start hg clX5 rfl tc_227 wd_831 (fRoom_of rfl) rfl (Nat.le_of_ble_eq_true rfl) dX5_follow_1) (s_X5_start hg e1) rfl rfl rfl ?_
  refine fW_rg (fun hR2 => ?_)
  refine fW_iconst 5 dX5_follow_4 rfl ?_
  refine fW_istore 7 (ls' := [some (rv G 227), some (rv G p1), some (rv G 149), some (iv a3), some (iv 0), none]) dX5_follow_5 rfl rfl (by decide) ?_
  refine fW_iconst 8 dX5_follow_7 rfl ?_
  refine fW_istore 10 (ls' := [some (rv G 227), some (rv G p1), some (rv G 149), some (iv a3), some (iv 0), some (iv 0)]) dX5_follow_8 rfl rfl (by decide) ?_
  refine fW_sb (l_X5_follow_10 hg ?_ 20000 p1 a3 0 0 r1 hp1 ga3 (by decide) (by decide) h) ⟨rfl, rfl, rfl, rfl, rfl, rfl, trivial⟩
  intro M_8 h
  refine fW_rg (fun hR_8 => ?_)
  exact fW_vret rfl (by decide) (by decide) dX5_follow_46 (rV_i h)
def mX5_followAll : fMt := (yX5_followAll, cX5_followAll, 5, none, { frames := 4, cells := 0, slots := 0, locals := 160 })
theorem miX5_followAll : fMv mX5_followAll 3 := ⟨⟨fM 895 (by decide +kernel) rfl, fM 99 (by decide +kernel) rfl, ⟨by decide +kernel, by decide +kernel⟩, by decide +kernel⟩, fM 893 (by decide +kernel) rfl, fM 894 (by decide +kernel) rfl⟩
def L_X5_followAll_7  (k : fMem → Option (fMem)) : Nat → Nat → Int → Int → fMem → Option (fMem)
  | 0, _, _, _, _ => none
  | n + 1, w1, v3, v4, M => (if (M w1 2) ≤ v4 then k  M else (if 0 ≤ v4 ∧ v4 < 19 then ((f_X5_enter w1 (M (w1 + 2) v4) v3 M).bind fun (r5 : Int × fMem) => L_X5_followAll_7  k n w1 v3 (v4 + 1) r5.2) else none))
set_option maxRecDepth 100000 in
set_option maxHeartbeats 4000000 in
theorem l_X5_followAll_7 {G : fG} (hg : gbt G = true)  {q : fMem} {k : fMem → Option (fMem)} (hk : ∀ (M : fMem), k M = some q → fW G mX5_followAll (fEm G mX5_followAll (rV q) fNo) 0 0 37 [some (rv G 227), none, none, none, none] [] M) : ∀ (n : Nat) (w1 : Nat) (v3 : Int) (v4 : Int) (M : fMem), fTyp w1 7 → rg v3 → rg v4 → L_X5_followAll_7 k n w1 v3 v4 M = some q → fW G mX5_followAll (fEm G mX5_followAll (rV q) fNo) 0 0 7 [some (rv G 227), some (rv G w1), some (rv G 149), some (iv v3), some (iv v4)] [] M := by
  intro n
  induction n with
  | zero =>
    intro w1 v3 v4 M tw1 gv3 gv4 h
    rw [L_X5_followAll_7] at h
    exact absurd h (by simp)
  | succ n ih =>
    intro w1 v3 v4 M tw1 gv3 gv4 h
    rw [L_X5_followAll_7] at h
    refine fW_rg (fun hR => ?_)
    refine fW_iload 9 dX5_followAll_7 rfl rfl ?_
    refine fW_aload_n 10 dX5_followAll_9 rfl rfl ?_
    refine fW_getI 13 2 (ji := 2) hg clX7 rfl (by decide) rfl tw1 wd_191 dX5_followAll_10 rfl ?_
    refine fW_icmp_ge 16 37 gv4 (hR w1 2) dX5_followAll_13 rfl rfl (fun c3 => ?_) (fun c3 => ?_)
    · replace h := fTt h c3
      exact fW_sb (hk M h) ⟨rfl, trivial⟩
    · replace h := fFf h c3
      refine fW_aload_n 17 dX5_followAll_16 rfl rfl ?_
      refine fW_aload_n 18 dX5_followAll_17 rfl rfl ?_
      refine fW_aload_n 19 dX5_followAll_18 rfl rfl ?_
      refine fW_aload_n 20 dX5_followAll_19 rfl rfl ?_
      refine fW_getR 23 (r := w1 + 2) 1 hg clX7 (by decide) rfl tw1 (tf_7_1 tw1) wd_187 dX5_followAll_20 rfl ?_
      refine fW_iload 25 dX5_followAll_23 rfl rfl ?_
      obtain ⟨c4, h⟩ := fS h
      refine fW_iald 26 hg (tt_7_1 tw1) ⟨c4.1, by rw [lf_7_1 tw1]; exact c4.2⟩ dX5_followAll_25 rfl ?_
      refine fW_iload_n 27 dX5_followAll_26 rfl rfl ?_
      obtain ⟨r5, e5, h⟩ := fBd h
      refine fW_cB (fI_V (as := [rv G w1, rv G 149, iv (M (w1 + 2) v4), iv v3]) (rest := []) miX5_enter hg clX5 rfl tc_227 wd_845 (fRoom_of rfl) rfl (Nat.le_of_ble_eq_true rfl) dX5_followAll_27) (s_X5_enter hg tw1 (hR (w1 + 2) v4) gv3 e5) rfl rfl rfl (fun g5 => ?_)
      refine fW_rg (fun hR6 => ?_)
      refine fW_pop 31 dX5_followAll_30 rfl rfl ?_
      refine fW_iinc 34 (ls' := [some (rv G 227), some (rv G w1), some (rv G 149), some (iv v3), some (iv (v4 + 1))]) dX5_followAll_31 rfl rfl rfl (by decide) ?_
      refine fW_goto 7 dX5_followAll_34 rfl ?_
      exact fW_sb (ih w1 v3 (v4 + 1) r5.2 tw1 gv3 (rg_succ' gv4 (hR w1 2) c3) h) ⟨rfl, rfl, rfl, rfl, rfl, trivial⟩
def f_X5_followAll (p1 : Nat) (a3 : Int) (M : fMem) : Option (fMem) := ((f_X5_start M).bind fun (r1 : fMem) => L_X5_followAll_7 (fun  (M_7 : fMem) => some M_7) 20000 p1 a3 0 r1)
set_option maxRecDepth 100000 in
set_option maxHeartbeats 4000000 in
theorem s_X5_followAll {G : fG} (hg : gbt G = true) {p1 : Nat} (hp1 : fTyp p1 7) {a3 : Int} (ga3 : rg a3) {M : fMem} {q : fMem} (h : f_X5_followAll p1 a3 M = some q) : fSp G mX5_followAll [rv G 227, rv G p1, rv G 149, iv a3] M (rV q) fNo := by
  refine fSp_of (by decide +kernel) (by decide +kernel) (fC1 rfl (fC1 rfl (fC1 rfl (fC1 rfl fC0)))) (Nat.le_of_ble_eq_true rfl) ?_
  show fW G mX5_followAll (fEm G mX5_followAll (rV q) fNo) 0 0 0 [some (rv G 227), some (rv G p1), some (rv G 149), some (iv a3), none] [] M
  rw [f_X5_followAll] at h
  refine fW_rg (fun hR => ?_)
  refine fW_aload_n 1 dX5_followAll_0 rfl rfl ?_
  obtain ⟨r1, e1, h⟩ := fBd h
  refine fW_cV (fI_V (as := []) (rest := []) miX5_start hg clX5 rfl tc_227 wd_831 (fRoom_of rfl) rfl (Nat.le_of_ble_eq_true rfl) dX5_followAll_1) (s_X5_start hg e1) rfl rfl rfl ?_
  refine fW_rg (fun hR2 => ?_)
  refine fW_iconst 5 dX5_followAll_4 rfl ?_
  refine fW_istore 7 (ls' := [some (rv G 227), some (rv G p1), some (rv G 149), some (iv a3), some (iv 0)]) dX5_followAll_5 rfl rfl (by decide) ?_
  refine fW_sb (l_X5_followAll_7 hg ?_ 20000 p1 a3 0 r1 hp1 ga3 (by decide) h) ⟨rfl, rfl, rfl, rfl, rfl, trivial⟩
  intro M_7 h
  refine fW_rg (fun hR_7 => ?_)
  exact fW_vret rfl (by decide) (by decide) dX5_followAll_37 (rV_i h)
def mX5_followPlain : fMt := (yX5_followPlain, cX5_followPlain, 7, none, { frames := 2, cells := 0, slots := 0, locals := 80 })
theorem miX5_followPlain : fMv mX5_followPlain 2 := ⟨⟨fM 830 (by decide +kernel) rfl, fM 99 (by decide +kernel) rfl, ⟨by decide +kernel, by decide +kernel⟩, by decide +kernel⟩, fM 828 (by decide +kernel) rfl, fM 829 (by decide +kernel) rfl⟩
def L_X5_followPlain_9  (k : fMem → Option (fMem)) : Nat → Nat → Int → Int → Int → fMem → Option (fMem)
  | 0, _, _, _, _, _ => none
  | n + 1, w1, v2, v3, v4, M => (if (M w1 2) ≤ v4 then k  M else (if v3 = 0 then (if 0 ≤ v4 ∧ v4 < 19 then (if 0 ≤ M (w1 + 2) v4 ∧ M (w1 + 2) v4 < 19 then (if 0 ≤ M (w1 + 2) v4 ∧ M (w1 + 2) v4 < 19 then (if 0 ≤ M (w1 + 2) v4 ∧ M (w1 + 2) v4 < 19 then ((f_X5_halve (M (w1 + 2) v4) (w1 + 3 * (M (w1 + 2) v4).toNat + 4) ((mset (mset M 228 (M (w1 + 2) v4) 0) 229 (M (w1 + 2) v4) ((mset M 228 (M (w1 + 2) v4) 0) (w1 + 3 * (M (w1 + 2) v4).toNat + 3) 3)) (w1 + 3 * (M (w1 + 2) v4).toNat + 3) 3) v2 (mset (mset M 228 (M (w1 + 2) v4) 0) 229 (M (w1 + 2) v4) ((mset M 228 (M (w1 + 2) v4) 0) (w1 + 3 * (M (w1 + 2) v4).toNat + 3) 3))).bind fun (r12 : fMem) => (if 0 ≤ M (w1 + 2) v4 ∧ M (w1 + 2) v4 < 19 then ((f_X6_keyAt (w1 + 3 * (M (w1 + 2) v4).toNat + 3) (r12 230 (M (w1 + 2) v4)) r12).bind fun (r15 : Int) => (if r15 = v2 then L_X5_followPlain_9  k n w1 v2 1 (v4 + 1) r12 else L_X5_followPlain_9  k n w1 v2 0 (v4 + 1) r12)) else none)) else none) else none) else none) else none) else k  M))
set_option maxRecDepth 100000 in
set_option maxHeartbeats 4000000 in
theorem l_X5_followPlain_9 {G : fG} (hg : gbt G = true)  {q : fMem} {k : fMem → Option (fMem)} (hk : ∀ (M : fMem), k M = some q → fW G mX5_followPlain (fEm G mX5_followPlain (rV q) fNo) 0 0 105 [some (rv G 227), none, none, none, none, none, none] [] M) : ∀ (n : Nat) (w1 : Nat) (v2 : Int) (v3 : Int) (v4 : Int) (M : fMem), fTyp w1 7 → rg v2 → rg v3 → rg v4 → L_X5_followPlain_9 k n w1 v2 v3 v4 M = some q → fW G mX5_followPlain (fEm G mX5_followPlain (rV q) fNo) 0 0 9 [some (rv G 227), some (rv G w1), some (iv v2), some (iv v3), some (iv v4), none, none] [] M := by
  intro n
  induction n with
  | zero =>
    intro w1 v2 v3 v4 M tw1 gv2 gv3 gv4 h
    rw [L_X5_followPlain_9] at h
    exact absurd h (by simp)
  | succ n ih =>
    intro w1 v2 v3 v4 M tw1 gv2 gv3 gv4 h
    rw [L_X5_followPlain_9] at h
    refine fW_rg (fun hR => ?_)
    refine fW_iload 11 dX5_followPlain_9 rfl rfl ?_
    refine fW_aload_n 12 dX5_followPlain_11 rfl rfl ?_
    refine fW_getI 15 2 (ji := 2) hg clX7 rfl (by decide) rfl tw1 wd_191 dX5_followPlain_12 rfl ?_
    refine fW_icmp_ge 18 105 gv4 (hR w1 2) dX5_followPlain_15 rfl rfl (fun c3 => ?_) (fun c3 => ?_)
    · replace h := fTt h c3
      exact fW_sb (hk M h) ⟨rfl, trivial⟩
    · replace h := fFf h c3
      refine fW_iload_n 19 dX5_followPlain_18 rfl rfl ?_
      refine fW_if_ne 22 105 gv3 dX5_followPlain_19 rfl rfl (fun c4 => ?_) (fun c4 => ?_)
      · replace h := fFf h c4
        exact fW_sb (hk M h) ⟨rfl, trivial⟩
      · replace h := fTt h c4
        refine fW_aload_n 23 dX5_followPlain_22 rfl rfl ?_
        refine fW_getR 26 (r := w1 + 2) 1 hg clX7 (by decide) rfl tw1 (tf_7_1 tw1) wd_187 dX5_followPlain_23 rfl ?_
        refine fW_iload 28 dX5_followPlain_26 rfl rfl ?_
        obtain ⟨c5, h⟩ := fS h
        refine fW_iald 29 hg (tt_7_1 tw1) ⟨c5.1, by rw [lf_7_1 tw1]; exact c5.2⟩ dX5_followPlain_28 rfl ?_
        refine fW_istore 31 (ls' := [some (rv G 227), some (rv G w1), some (iv v2), some (iv v3), some (iv v4), some (iv (M (w1 + 2) v4)), none]) dX5_followPlain_29 rfl rfl (by decide) ?_
        refine fW_aload_n 32 dX5_followPlain_31 rfl rfl ?_
        refine fW_getR 35 (r := w1 + 1) 0 hg clX7 (by decide) rfl tw1 (tf_7_0 tw1) wd_184 dX5_followPlain_32 rfl ?_
        refine fW_iload 37 dX5_followPlain_35 rfl rfl ?_
        obtain ⟨c6, h⟩ := fS h
        have t7 := ta_16 (r := w1 + 3 * (M (w1 + 2) v4).toNat + 3) (tt_7_0 tw1) c6 (by omega)
        refine fW_aald 38 4 hg (tt_7_0 tw1) (by decide) (by decide) t7.1 t7.2.2 rfl dX5_followPlain_37 rfl ?_
        refine fW_astore 40 (ls' := [some (rv G 227), some (rv G w1), some (iv v2), some (iv v3), some (iv v4), some (iv (M (w1 + 2) v4)), some (rv G (w1 + 3 * (M (w1 + 2) v4).toNat + 3))]) dX5_followPlain_38 rfl rfl (by decide) ?_
        refine fW_aload_n 41 dX5_followPlain_40 rfl rfl ?_
        refine fW_getR 44 (r := 228) 0 hg clX5 (by decide) rfl tc_227 tf_5_0 wd_373 dX5_followPlain_41 rfl ?_
        refine fW_iload 46 dX5_followPlain_44 rfl rfl ?_
        refine fW_iconst 47 dX5_followPlain_46 rfl ?_
        obtain ⟨c8, h⟩ := fS h
        refine fW_iast 48 hg tc_228 ⟨c8.1, by rw [show Ln 228 = 19 from rfl]; exact c8.2⟩ (by decide) dX5_followPlain_47 rfl ?_
        refine fW_rg (fun hR9 => ?_)
        refine fW_aload_n 49 dX5_followPlain_48 rfl rfl ?_
        refine fW_getR 52 (r := 229) 1 hg clX5 (by decide) rfl tc_227 tf_5_1 wd_375 dX5_followPlain_49 rfl ?_
        refine fW_iload 54 dX5_followPlain_52 rfl rfl ?_
        refine fW_aload 56 dX5_followPlain_54 rfl rfl ?_
        refine fW_getI 59 3 (ji := 3) hg clX6 rfl (by decide) rfl t7.2.1 wd_157 dX5_followPlain_56 rfl ?_
        obtain ⟨c10, h⟩ := fS h
        refine fW_iast 60 hg tc_229 ⟨c10.1, by rw [show Ln 229 = 19 from rfl]; exact c10.2⟩ (hR9 (w1 + 3 * (M (w1 + 2) v4).toNat + 3) 3) dX5_followPlain_59 rfl ?_
        refine fW_rg (fun hR11 => ?_)
        refine fW_aload_n 61 dX5_followPlain_60 rfl rfl ?_
        refine fW_iload 63 dX5_followPlain_61 rfl rfl ?_
        refine fW_aload 65 dX5_followPlain_63 rfl rfl ?_
        refine fW_getR 68 (r := w1 + 3 * (M (w1 + 2) v4).toNat + 4) 0 hg clX6 (by decide) rfl t7.2.1 (tf_6_0 t7.2.1) wd_148 dX5_followPlain_65 rfl ?_
        refine fW_aload 70 dX5_followPlain_68 rfl rfl ?_
        refine fW_getI 73 3 (ji := 3) hg clX6 rfl (by decide) rfl t7.2.1 wd_157 dX5_followPlain_70 rfl ?_
        refine fW_iload_n 74 dX5_followPlain_73 rfl rfl ?_
        obtain ⟨r12, e12, h⟩ := fBd h
        refine fW_cV (fI_V (as := [iv (M (w1 + 2) v4), rv G (w1 + 3 * (M (w1 + 2) v4).toNat + 4), iv ((mset (mset M 228 (M (w1 + 2) v4) 0) 229 (M (w1 + 2) v4) ((mset M 228 (M (w1 + 2) v4) 0) (w1 + 3 * (M (w1 + 2) v4).toNat + 3) 3)) (w1 + 3 * (M (w1 + 2) v4).toNat + 3) 3), iv v2]) (rest := []) miX5_halve hg clX5 rfl tc_227 wd_835 (fRoom_of rfl) rfl (Nat.le_of_ble_eq_true rfl) dX5_followPlain_74) (s_X5_halve hg (hR (w1 + 2) v4) (tt_6_0 t7.2.1) (hR11 (w1 + 3 * (M (w1 + 2) v4).toNat + 3) 3) gv2 e12) rfl rfl rfl ?_
        refine fW_rg (fun hR13 => ?_)
        refine fW_aload 79 dX5_followPlain_77 rfl rfl ?_
        refine fW_aload_n 80 dX5_followPlain_79 rfl rfl ?_
        refine fW_getR 83 (r := 230) 2 hg clX5 (by decide) rfl tc_227 tf_5_2 wd_377 dX5_followPlain_80 rfl ?_
        refine fW_iload 85 dX5_followPlain_83 rfl rfl ?_
        obtain ⟨c14, h⟩ := fS h
        refine fW_iald 86 hg tc_230 ⟨c14.1, by rw [show Ln 230 = 19 from rfl]; exact c14.2⟩ dX5_followPlain_85 rfl ?_
        obtain ⟨r15, e15, h⟩ := fBd h
        refine fW_cP (fI_V (as := [iv (r12 230 (M (w1 + 2) v4))]) (rest := []) miX6_keyAt hg clX6 rfl t7.2.1 wd_840 (fRoom_of rfl) rfl (Nat.le_of_ble_eq_true rfl) dX5_followPlain_86) (s_X6_keyAt hg t7.2.1 (hR13 230 (M (w1 + 2) v4)) e15) rfl rfl rfl (fun g15 => ?_)
        refine fW_iload_n 90 dX5_followPlain_89 rfl rfl ?_
        refine fW_icmp_ne 93 97 g15 gv2 dX5_followPlain_90 rfl rfl (fun c16 => ?_) (fun c16 => ?_)
        · replace h := fFf h c16
          refine fW_iconst 98 dX5_followPlain_97 rfl ?_
          refine fW_istore_n 99 (ls' := [some (rv G 227), some (rv G w1), some (iv v2), some (iv 0), some (iv v4), some (iv (M (w1 + 2) v4)), some (rv G (w1 + 3 * (M (w1 + 2) v4).toNat + 3))]) dX5_followPlain_98 rfl rfl rfl (by decide) ?_
          refine fW_iinc 102 (ls' := [some (rv G 227), some (rv G w1), some (iv v2), some (iv 0), some (iv (v4 + 1)), some (iv (M (w1 + 2) v4)), some (rv G (w1 + 3 * (M (w1 + 2) v4).toNat + 3))]) dX5_followPlain_99 rfl rfl rfl (by decide) ?_
          refine fW_goto 9 dX5_followPlain_102 rfl ?_
          exact fW_sb (ih w1 v2 0 (v4 + 1) r12 tw1 gv2 (by decide) (rg_succ' gv4 (hR w1 2) c3) h) ⟨rfl, rfl, rfl, rfl, rfl, trivial⟩
        · replace h := fTt h c16
          refine fW_iconst 94 dX5_followPlain_93 rfl ?_
          refine fW_goto 98 dX5_followPlain_94 rfl ?_
          refine fW_istore_n 99 (ls' := [some (rv G 227), some (rv G w1), some (iv v2), some (iv 1), some (iv v4), some (iv (M (w1 + 2) v4)), some (rv G (w1 + 3 * (M (w1 + 2) v4).toNat + 3))]) dX5_followPlain_98 rfl rfl rfl (by decide) ?_
          refine fW_iinc 102 (ls' := [some (rv G 227), some (rv G w1), some (iv v2), some (iv 1), some (iv (v4 + 1)), some (iv (M (w1 + 2) v4)), some (rv G (w1 + 3 * (M (w1 + 2) v4).toNat + 3))]) dX5_followPlain_99 rfl rfl rfl (by decide) ?_
          refine fW_goto 9 dX5_followPlain_102 rfl ?_
          exact fW_sb (ih w1 v2 1 (v4 + 1) r12 tw1 gv2 (by decide) (rg_succ' gv4 (hR w1 2) c3) h) ⟨rfl, rfl, rfl, rfl, rfl, trivial⟩
def f_X5_followPlain (p1 : Nat) (a2 : Int) (M : fMem) : Option (fMem) := ((f_X5_start M).bind fun (r1 : fMem) => L_X5_followPlain_9 (fun  (M_17 : fMem) => some M_17) 20000 p1 a2 0 0 r1)
set_option maxRecDepth 100000 in
set_option maxHeartbeats 4000000 in
theorem s_X5_followPlain {G : fG} (hg : gbt G = true) {p1 : Nat} (hp1 : fTyp p1 7) {a2 : Int} (ga2 : rg a2) {M : fMem} {q : fMem} (h : f_X5_followPlain p1 a2 M = some q) : fSp G mX5_followPlain [rv G 227, rv G p1, iv a2] M (rV q) fNo := by
  refine fSp_of (by decide +kernel) (by decide +kernel) (fC1 rfl (fC1 rfl (fC1 rfl fC0))) (Nat.le_of_ble_eq_true rfl) ?_
  show fW G mX5_followPlain (fEm G mX5_followPlain (rV q) fNo) 0 0 0 [some (rv G 227), some (rv G p1), some (iv a2), none, none, none, none] [] M
  rw [f_X5_followPlain] at h
  refine fW_rg (fun hR => ?_)
  refine fW_aload_n 1 dX5_followPlain_0 rfl rfl ?_
  obtain ⟨r1, e1, h⟩ := fBd h
  refine fW_cV (fI_V (as := []) (rest := []) miX5_start hg clX5 rfl tc_227 wd_831 (fRoom_of rfl) rfl (Nat.le_of_ble_eq_true rfl) dX5_followPlain_1) (s_X5_start hg e1) rfl rfl rfl ?_
  refine fW_rg (fun hR2 => ?_)
  refine fW_iconst 5 dX5_followPlain_4 rfl ?_
  refine fW_istore_n 6 (ls' := [some (rv G 227), some (rv G p1), some (iv a2), some (iv 0), none, none, none]) dX5_followPlain_5 rfl rfl rfl (by decide) ?_
  refine fW_iconst 7 dX5_followPlain_6 rfl ?_
  refine fW_istore 9 (ls' := [some (rv G 227), some (rv G p1), some (iv a2), some (iv 0), some (iv 0), none, none]) dX5_followPlain_7 rfl rfl (by decide) ?_
  refine fW_sb (l_X5_followPlain_9 hg ?_ 20000 p1 a2 0 0 r1 hp1 ga2 (by decide) (by decide) h) ⟨rfl, rfl, rfl, rfl, rfl, trivial⟩
  intro M_17 h
  refine fW_rg (fun hR_17 => ?_)
  exact fW_vret rfl (by decide) (by decide) dX5_followPlain_105 (rV_i h)
end MTH
