section MTH
def mX11_many : fMt := (yX11_many, cX11_many, 5, some .int, { frames := 4, cells := 0, slots := 0, locals := 160 })
theorem miX11_many : fMv mX11_many 2 := ⟨⟨fM 1407 (by decide +kernel) rfl, fM 101 (by decide +kernel) rfl, ⟨by decide +kernel, by decide +kernel⟩, by decide +kernel⟩, fM 1405 (by decide +kernel) rfl, fM 1406 (by decide +kernel) rfl⟩
def L_X11_many_43  (k : Int → fMem → Option (Int × fMem)) : Nat → Int → Int → Int → fMem → Option (Int × fMem)
  | 0, _, _, _, _ => none
  | n + 1, v2, v3, v4, M => (if v2 < v4 then k v3 M else (if 0 ≤ v4 ∧ v4 < 200 then (if (M 422 v4) = ((-1)) then (if -2147483648 ≤ v3 + 0 ∧ v3 + 0 < 2147483648 then (if -2147483648 ≤ v4 + 1 ∧ v4 + 1 < 2147483648 then L_X11_many_43  k n v2 (v3 + 0) (v4 + 1) M else none) else none) else (if -2147483648 ≤ v3 + 1 ∧ v3 + 1 < 2147483648 then (if -2147483648 ≤ v4 + 1 ∧ v4 + 1 < 2147483648 then L_X11_many_43  k n v2 (v3 + 1) (v4 + 1) M else none) else none)) else none))
set_option maxRecDepth 100000 in
set_option maxHeartbeats 4000000 in
theorem l_X11_many_43 {G : fG} (hg : gbt G = true)  {q : Int × fMem} {k : Int → fMem → Option (Int × fMem)} (hk : ∀ (v3 : Int) (M : fMem), rg v3 → k v3 M = some q → fW G mX11_many (fEm G mX11_many (rP q.2 q.1) fNo) 0 0 74 [some (rv G 418), none, none, some (iv v3), none] [] M) : ∀ (n : Nat) (v2 : Int) (v3 : Int) (v4 : Int) (M : fMem), rg v2 → rg v3 → rg v4 → L_X11_many_43 k n v2 v3 v4 M = some q → fW G mX11_many (fEm G mX11_many (rP q.2 q.1) fNo) 0 0 43 [some (rv G 418), none, some (iv v2), some (iv v3), some (iv v4)] [] M := by
  intro n
  induction n with
  | zero =>
    intro v2 v3 v4 M gv2 gv3 gv4 h
    rw [L_X11_many_43] at h
    exact absurd h (by simp)
  | succ n ih =>
    intro v2 v3 v4 M gv2 gv3 gv4 h
    rw [L_X11_many_43] at h
    refine fW_rg (fun hR => ?_)
    refine fW_iload 45 dX11_many_43 rfl rfl ?_
    refine fW_iload_n 46 dX11_many_45 rfl rfl ?_
    refine fW_icmp_gt 49 74 gv4 gv2 dX11_many_46 rfl rfl (fun c10 => ?_) (fun c10 => ?_)
    · replace h := fTt h c10
      exact fW_sb (hk v3 M gv3 h) ⟨rfl, rfl, trivial⟩
    · replace h := fFf h c10
      refine fW_iload_n 50 dX11_many_49 rfl rfl ?_
      refine fW_aload_n 51 dX11_many_50 rfl rfl ?_
      refine fW_getR 54 (r := 422) 5 hg clX11 (by decide) rfl tc_418 tf_11_5 wd_1179 dX11_many_51 rfl ?_
      refine fW_iload 56 dX11_many_54 rfl rfl ?_
      obtain ⟨c11, h⟩ := fS h
      refine fW_iald 57 hg tc_422 ⟨c11.1, by rw [show Ln 422 = 200 from rfl]; exact c11.2⟩ dX11_many_56 rfl ?_
      refine fW_iconst 58 dX11_many_57 rfl ?_
      refine fW_icmp_ne 61 65 (hR 422 v4) (by decide) dX11_many_58 rfl rfl (fun c12 => ?_) (fun c12 => ?_)
      · replace h := fFf h c12
        refine fW_iconst 66 dX11_many_65 rfl ?_
        refine fW_iadd 67 dX11_many_66 rfl ?_
        refine fW_istore_n 68 (ls' := [some (rv G 418), none, some (iv v2), some (iv (v3 + 1)), some (iv v4)]) dX11_many_67 rfl rfl rfl (by decide) ?_
        refine fW_iinc 71 (ls' := [some (rv G 418), none, some (iv v2), some (iv (v3 + 1)), some (iv (v4 + 1))]) dX11_many_68 rfl rfl rfl (by decide) ?_
        refine fW_goto 43 dX11_many_71 rfl ?_
        obtain ⟨c13, h⟩ := fS h
        obtain ⟨c14, h⟩ := fS h
        exact fW_sb (ih v2 (v3 + 1) (v4 + 1) M gv2 c13 c14 h) ⟨rfl, rfl, rfl, rfl, trivial⟩
      · replace h := fTt h c12
        refine fW_iconst 62 dX11_many_61 rfl ?_
        refine fW_goto 66 dX11_many_62 rfl ?_
        refine fW_iadd 67 dX11_many_66 rfl ?_
        refine fW_istore_n 68 (ls' := [some (rv G 418), none, some (iv v2), some (iv (v3 + 0)), some (iv v4)]) dX11_many_67 rfl rfl rfl (by decide) ?_
        refine fW_iinc 71 (ls' := [some (rv G 418), none, some (iv v2), some (iv (v3 + 0)), some (iv (v4 + 1))]) dX11_many_68 rfl rfl rfl (by decide) ?_
        refine fW_goto 43 dX11_many_71 rfl ?_
        obtain ⟨c15, h⟩ := fS h
        obtain ⟨c16, h⟩ := fS h
        exact fW_sb (ih v2 (v3 + 0) (v4 + 1) M gv2 c15 c16 h) ⟨rfl, rfl, rfl, rfl, trivial⟩
def j_X11_many_25  (v1 : Int) (v2 : Int) (x1 : Int) (M : fMem) : Option (Int × fMem) := (if 0 ≤ x1 ∧ x1 ≤ 1 then ((f_X11_right x1 1 M).bind fun (r5 : Int × fMem) => (if r5.1 = 0 then some (0, r5.2) else ((f_X11_laysKeys r5.2).bind fun (r8 : fMem) => L_X11_many_43 (fun (v3_17 : Int) (M_17 : fMem) => some (v3_17, M_17)) 20000 v2 0 v1 r8))) else none)
set_option maxRecDepth 100000 in
set_option maxHeartbeats 4000000 in
theorem i_X11_many_25 {G : fG} (hg : gbt G = true)  {v1 : Int} {v2 : Int} {x1 : Int} (gv1 : rg v1) (gv2 : rg v2) (gx1 : rg x1) {M : fMem} {q : Int × fMem} (h : j_X11_many_25 v1 v2 x1 M = some q) : fW G mX11_many (fEm G mX11_many (rP q.2 q.1) fNo) 0 0 25 [some (rv G 418), some (iv v1), some (iv v2), none, none] [iv x1, rv G 418] M := by
  rw [j_X11_many_25] at h
  refine fW_rg (fun hR => ?_)
  refine fW_iconst 26 dX11_many_25 rfl ?_
  obtain ⟨c4, h⟩ := fS h
  obtain ⟨r5, e5, h⟩ := fBd h
  refine fW_cB (fI_V (as := [iv x1, iv 1]) (rest := []) miX11_right hg clX11 rfl tc_418 wd_1396 (fRoom_of rfl) rfl (Nat.le_of_ble_eq_true rfl) dX11_many_26) (s_X11_right hg c4 (by decide) e5) rfl rfl rfl (fun g5 => ?_)
  refine fW_rg (fun hR6 => ?_)
  refine fW_if_ne 32 34 (rg_z g5) dX11_many_29 rfl rfl (fun c7 => ?_) (fun c7 => ?_)
  · replace h := fFf h c7
    refine fW_aload_n 35 dX11_many_34 rfl rfl ?_
    obtain ⟨r8, e8, h⟩ := fBd h
    refine fW_cV (fI_V (as := []) (rest := []) miX11_laysKeys hg clX11 rfl tc_418 wd_1384 (fRoom_of rfl) rfl (Nat.le_of_ble_eq_true rfl) dX11_many_35) (s_X11_laysKeys hg e8) rfl rfl rfl ?_
    refine fW_rg (fun hR9 => ?_)
    refine fW_iconst 39 dX11_many_38 rfl ?_
    refine fW_istore_n 40 (ls' := [some (rv G 418), some (iv v1), some (iv v2), some (iv 0), none]) dX11_many_39 rfl rfl rfl (by decide) ?_
    refine fW_iload_n 41 dX11_many_40 rfl rfl ?_
    refine fW_istore 43 (ls' := [some (rv G 418), some (iv v1), some (iv v2), some (iv 0), some (iv v1)]) dX11_many_41 rfl rfl (by decide) ?_
    refine fW_sb (l_X11_many_43 hg ?_ 20000 v2 0 v1 r8 gv2 (by decide) gv1 h) ⟨rfl, rfl, rfl, rfl, trivial⟩
    intro v3_17 M_17 gv3_17 h
    refine fW_rg (fun hR_17 => ?_)
    refine fW_iload_n 75 dX11_many_74 rfl rfl ?_
    exact fW_iret rfl (by decide) (by decide) dX11_many_75 (rI_i h gv3_17)
  · replace h := fTt h c7
    refine fW_iconst 33 dX11_many_32 rfl ?_
    exact fW_iret rfl (by decide) (by decide) dX11_many_33 (rI_i h (by decide))
def j_X11_many_24  (v1 : Int) (v2 : Int) (M : fMem) : Option (Int × fMem) := j_X11_many_25 v1 v2 0 M
set_option maxRecDepth 100000 in
set_option maxHeartbeats 4000000 in
theorem i_X11_many_24 {G : fG} (hg : gbt G = true)  {v1 : Int} {v2 : Int} (gv1 : rg v1) (gv2 : rg v2) {M : fMem} {q : Int × fMem} (h : j_X11_many_24 v1 v2 M = some q) : fW G mX11_many (fEm G mX11_many (rP q.2 q.1) fNo) 0 0 24 [some (rv G 418), some (iv v1), some (iv v2), none, none] [rv G 418] M := by
  rw [j_X11_many_24] at h
  refine fW_rg (fun hR => ?_)
  refine fW_iconst 25 dX11_many_24 rfl ?_
  exact fW_sb (i_X11_many_25 hg gv1 gv2 (by decide) h) ⟨rfl, rfl, rfl, trivial⟩
def f_X11_many (a1 : Int) (a2 : Int) (M : fMem) : Option (Int × fMem) := ((some (mset M 418 4 0)).bind fun (N1 : fMem) => ((f_X11_isKey a1 N1).bind fun (r2 : Int) => (if r2 = 0 then j_X11_many_24 a1 a2 N1 else ((f_X11_isKey a2 N1).bind fun (r18 : Int) => (if r18 = 0 then j_X11_many_24 a1 a2 N1 else j_X11_many_25 a1 a2 1 N1)))))
set_option maxRecDepth 100000 in
set_option maxHeartbeats 4000000 in
theorem s_X11_many {G : fG} (hg : gbt G = true) {a1 : Int} (ga1 : rg a1) {a2 : Int} (ga2 : rg a2) {M : fMem} {q : Int × fMem} (h : f_X11_many a1 a2 M = some q) : fSp G mX11_many [rv G 418, iv a1, iv a2] M (rP q.2 q.1) fNo := by
  refine fSp_of (by decide +kernel) (by decide +kernel) (fC1 rfl (fC1 rfl (fC1 rfl fC0))) (Nat.le_of_ble_eq_true rfl) ?_
  show fW G mX11_many (fEm G mX11_many (rP q.2 q.1) fNo) 0 0 0 [some (rv G 418), some (iv a1), some (iv a2), none, none] [] M
  rw [f_X11_many] at h
  refine fW_rg (fun hR => ?_)
  refine fW_aload_n 1 dX11_many_0 rfl rfl ?_
  refine fW_iconst 2 dX11_many_1 rfl ?_
  obtain ⟨N1, e1, h⟩ := fBd h
  replace e1 := Option.some.inj e1
  refine fW_putI 5 4 (ji := 4) hg clX11 rfl (by decide) rfl rfl rfl tc_418 (by decide) wd_1178 dX11_many_2 rfl ?_
  rw [e1]
  refine fW_rg (fun hR1 => ?_)
  refine fW_aload_n 6 dX11_many_5 rfl rfl ?_
  refine fW_iload_n 7 dX11_many_6 rfl rfl ?_
  obtain ⟨r2, e2, h⟩ := fBd h
  refine fW_cB (fI_S (as := [iv a1]) (rest := [rv G 418]) miX11_isKey rfl wd_1275 (fRoom_of rfl) rfl (Nat.le_of_ble_eq_true rfl) dX11_many_7) (s_X11_isKey ga1 e2) rfl rfl rfl (fun g2 => ?_)
  refine fW_if_eq 13 24 (rg_z g2) dX11_many_10 rfl rfl (fun c3 => ?_) (fun c3 => ?_)
  · replace h := fTt h c3
    exact fW_sb (i_X11_many_24 hg ga1 ga2 h) ⟨rfl, rfl, rfl, trivial⟩
  · replace h := fFf h c3
    refine fW_iload_n 14 dX11_many_13 rfl rfl ?_
    obtain ⟨r18, e18, h⟩ := fBd h
    refine fW_cB (fI_S (as := [iv a2]) (rest := [rv G 418]) miX11_isKey rfl wd_1275 (fRoom_of rfl) rfl (Nat.le_of_ble_eq_true rfl) dX11_many_14) (s_X11_isKey ga2 e18) rfl rfl rfl (fun g18 => ?_)
    refine fW_if_eq 20 24 (rg_z g18) dX11_many_17 rfl rfl (fun c19 => ?_) (fun c19 => ?_)
    · replace h := fTt h c19
      exact fW_sb (i_X11_many_24 hg ga1 ga2 h) ⟨rfl, rfl, rfl, trivial⟩
    · replace h := fFf h c19
      refine fW_iconst 21 dX11_many_20 rfl ?_
      refine fW_goto 25 dX11_many_21 rfl ?_
      exact fW_sb (i_X11_many_25 hg ga1 ga2 (by decide) h) ⟨rfl, rfl, rfl, trivial⟩
def mX11_trace : fMt := (yX11_trace, cX11_trace, 4, some .int, { frames := 4, cells := 0, slots := 0, locals := 160 })
theorem miX11_trace : fMv mX11_trace 2 := ⟨⟨fM 1411 (by decide +kernel) rfl, fM 101 (by decide +kernel) rfl, ⟨by decide +kernel, by decide +kernel⟩, by decide +kernel⟩, fM 1409 (by decide +kernel) rfl, fM 1410 (by decide +kernel) rfl⟩
def j_X11_trace_27  (v1 : Int) (v2 : Int) (x1 : Int) (M : fMem) : Option (Int × fMem) := (if 0 ≤ x1 ∧ x1 ≤ 1 then ((f_X11_right x1 1 M).bind fun (r5 : Int × fMem) => (if r5.1 = 0 then some (0, r5.2) else ((f_X11_laysKeys r5.2).bind fun (r8 : fMem) => (if v2 = 0 then (if 0 ≤ v1 ∧ v1 < 200 then some (r8 424 v1, r8) else none) else (if 0 ≤ v1 ∧ v1 < 200 then (if (r8 423 v1) = ((-1)) then some ((-1), r8) else (if v2 = 1 then ((f_X11_levelOf (r8 423 v1) r8).bind fun (r16 : Int) => some (r16, r8)) else ((f_X11_levelOf (r8 423 v1) r8).bind fun (r14 : Int) => (if -2147483648 ≤ (r8 423 v1) - (2 * r14) ∧ (r8 423 v1) - (2 * r14) < 2147483648 then some ((r8 423 v1) - (2 * r14), r8) else none)))) else none))))) else none)
set_option maxRecDepth 100000 in
set_option maxHeartbeats 4000000 in
theorem i_X11_trace_27 {G : fG} (hg : gbt G = true)  {v1 : Int} {v2 : Int} {x1 : Int} (gv1 : rg v1) (gv2 : rg v2) (gx1 : rg x1) {M : fMem} {q : Int × fMem} (h : j_X11_trace_27 v1 v2 x1 M = some q) : fW G mX11_trace (fEm G mX11_trace (rP q.2 q.1) fNo) 0 0 27 [some (rv G 418), some (iv v1), some (iv v2), none] [iv x1, rv G 418] M := by
  rw [j_X11_trace_27] at h
  refine fW_rg (fun hR => ?_)
  refine fW_iconst 28 dX11_trace_27 rfl ?_
  obtain ⟨c4, h⟩ := fS h
  obtain ⟨r5, e5, h⟩ := fBd h
  refine fW_cB (fI_V (as := [iv x1, iv 1]) (rest := []) miX11_right hg clX11 rfl tc_418 wd_1396 (fRoom_of rfl) rfl (Nat.le_of_ble_eq_true rfl) dX11_trace_28) (s_X11_right hg c4 (by decide) e5) rfl rfl rfl (fun g5 => ?_)
  refine fW_rg (fun hR6 => ?_)
  refine fW_if_ne 34 36 (rg_z g5) dX11_trace_31 rfl rfl (fun c7 => ?_) (fun c7 => ?_)
  · replace h := fFf h c7
    refine fW_aload_n 37 dX11_trace_36 rfl rfl ?_
    obtain ⟨r8, e8, h⟩ := fBd h
    refine fW_cV (fI_V (as := []) (rest := []) miX11_laysKeys hg clX11 rfl tc_418 wd_1384 (fRoom_of rfl) rfl (Nat.le_of_ble_eq_true rfl) dX11_trace_37) (s_X11_laysKeys hg e8) rfl rfl rfl ?_
    refine fW_rg (fun hR9 => ?_)
    refine fW_iload_n 41 dX11_trace_40 rfl rfl ?_
    refine fW_if_ne 44 51 gv2 dX11_trace_41 rfl rfl (fun c10 => ?_) (fun c10 => ?_)
    · replace h := fFf h c10
      refine fW_aload_n 52 dX11_trace_51 rfl rfl ?_
      refine fW_getR 55 (r := 423) 6 hg clX11 (by decide) rfl tc_418 tf_11_6 wd_1180 dX11_trace_52 rfl ?_
      refine fW_iload_n 56 dX11_trace_55 rfl rfl ?_
      obtain ⟨c11, h⟩ := fS h
      refine fW_iald 57 hg tc_423 ⟨c11.1, by rw [show Ln 423 = 200 from rfl]; exact c11.2⟩ dX11_trace_56 rfl ?_
      refine fW_istore_n 58 (ls' := [some (rv G 418), some (iv v1), some (iv v2), some (iv (r8 423 v1))]) dX11_trace_57 rfl rfl rfl (by decide) ?_
      refine fW_iload_n 59 dX11_trace_58 rfl rfl ?_
      refine fW_iconst 60 dX11_trace_59 rfl ?_
      refine fW_icmp_ne 63 65 (hR9 423 v1) (by decide) dX11_trace_60 rfl rfl (fun c12 => ?_) (fun c12 => ?_)
      · replace h := fFf h c12
        refine fW_iload_n 66 dX11_trace_65 rfl rfl ?_
        refine fW_iconst 67 dX11_trace_66 rfl ?_
        refine fW_icmp_ne 70 77 gv2 (by decide) dX11_trace_67 rfl rfl (fun c13 => ?_) (fun c13 => ?_)
        · replace h := fFf h c13
          refine fW_iload_n 78 dX11_trace_77 rfl rfl ?_
          refine fW_iconst 79 dX11_trace_78 rfl ?_
          refine fW_iload_n 80 dX11_trace_79 rfl rfl ?_
          obtain ⟨r14, e14, h⟩ := fBd h
          refine fW_cP (fI_S (as := [iv (r8 423 v1)]) (rest := [iv 2, iv (r8 423 v1)]) miX11_levelOf rfl wd_1412 (fRoom_of rfl) rfl (Nat.le_of_ble_eq_true rfl) dX11_trace_80) (s_X11_levelOf (hR9 423 v1) e14) rfl rfl rfl (fun g14 => ?_)
          refine fW_imul 84 dX11_trace_83 rfl ?_
          refine fW_isub 85 dX11_trace_84 rfl ?_
          obtain ⟨c15, h⟩ := fS h
          exact fW_iret rfl (by decide) (by decide) dX11_trace_85 (rI_i h c15)
        · replace h := fTt h c13
          refine fW_iload_n 71 dX11_trace_70 rfl rfl ?_
          obtain ⟨r16, e16, h⟩ := fBd h
          refine fW_cP (fI_S (as := [iv (r8 423 v1)]) (rest := []) miX11_levelOf rfl wd_1412 (fRoom_of rfl) rfl (Nat.le_of_ble_eq_true rfl) dX11_trace_71) (s_X11_levelOf (hR9 423 v1) e16) rfl rfl rfl (fun g16 => ?_)
          refine fW_goto 85 dX11_trace_74 rfl ?_
          exact fW_iret rfl (by decide) (by decide) dX11_trace_85 (rI_i h g16)
      · replace h := fTt h c12
        refine fW_iconst 64 dX11_trace_63 rfl ?_
        exact fW_iret rfl (by decide) (by decide) dX11_trace_64 (rI_i h (by decide))
    · replace h := fTt h c10
      refine fW_aload_n 45 dX11_trace_44 rfl rfl ?_
      refine fW_getR 48 (r := 424) 7 hg clX11 (by decide) rfl tc_418 tf_11_7 wd_1181 dX11_trace_45 rfl ?_
      refine fW_iload_n 49 dX11_trace_48 rfl rfl ?_
      obtain ⟨c17, h⟩ := fS h
      refine fW_iald 50 hg tc_424 ⟨c17.1, by rw [show Ln 424 = 200 from rfl]; exact c17.2⟩ dX11_trace_49 rfl ?_
      exact fW_iret rfl (by decide) (by decide) dX11_trace_50 (rI_i h (hR9 424 v1))
  · replace h := fTt h c7
    refine fW_iconst 35 dX11_trace_34 rfl ?_
    exact fW_iret rfl (by decide) (by decide) dX11_trace_35 (rI_i h (by decide))
def j_X11_trace_26  (v1 : Int) (v2 : Int) (M : fMem) : Option (Int × fMem) := j_X11_trace_27 v1 v2 0 M
set_option maxRecDepth 100000 in
set_option maxHeartbeats 4000000 in
theorem i_X11_trace_26 {G : fG} (hg : gbt G = true)  {v1 : Int} {v2 : Int} (gv1 : rg v1) (gv2 : rg v2) {M : fMem} {q : Int × fMem} (h : j_X11_trace_26 v1 v2 M = some q) : fW G mX11_trace (fEm G mX11_trace (rP q.2 q.1) fNo) 0 0 26 [some (rv G 418), some (iv v1), some (iv v2), none] [rv G 418] M := by
  rw [j_X11_trace_26] at h
  refine fW_rg (fun hR => ?_)
  refine fW_iconst 27 dX11_trace_26 rfl ?_
  exact fW_sb (i_X11_trace_27 hg gv1 gv2 (by decide) h) ⟨rfl, rfl, rfl, trivial⟩
def f_X11_trace (a1 : Int) (a2 : Int) (M : fMem) : Option (Int × fMem) := ((some (mset M 418 4 0)).bind fun (N1 : fMem) => ((f_X11_isKey a1 N1).bind fun (r2 : Int) => (if r2 = 0 then j_X11_trace_26 a1 a2 N1 else ((f_X11_isIn a2 0 2 N1).bind fun (r18 : Int) => (if r18 = 0 then j_X11_trace_26 a1 a2 N1 else j_X11_trace_27 a1 a2 1 N1)))))
set_option maxRecDepth 100000 in
set_option maxHeartbeats 4000000 in
theorem s_X11_trace {G : fG} (hg : gbt G = true) {a1 : Int} (ga1 : rg a1) {a2 : Int} (ga2 : rg a2) {M : fMem} {q : Int × fMem} (h : f_X11_trace a1 a2 M = some q) : fSp G mX11_trace [rv G 418, iv a1, iv a2] M (rP q.2 q.1) fNo := by
  refine fSp_of (by decide +kernel) (by decide +kernel) (fC1 rfl (fC1 rfl (fC1 rfl fC0))) (Nat.le_of_ble_eq_true rfl) ?_
  show fW G mX11_trace (fEm G mX11_trace (rP q.2 q.1) fNo) 0 0 0 [some (rv G 418), some (iv a1), some (iv a2), none] [] M
  rw [f_X11_trace] at h
  refine fW_rg (fun hR => ?_)
  refine fW_aload_n 1 dX11_trace_0 rfl rfl ?_
  refine fW_iconst 2 dX11_trace_1 rfl ?_
  obtain ⟨N1, e1, h⟩ := fBd h
  replace e1 := Option.some.inj e1
  refine fW_putI 5 4 (ji := 4) hg clX11 rfl (by decide) rfl rfl rfl tc_418 (by decide) wd_1178 dX11_trace_2 rfl ?_
  rw [e1]
  refine fW_rg (fun hR1 => ?_)
  refine fW_aload_n 6 dX11_trace_5 rfl rfl ?_
  refine fW_iload_n 7 dX11_trace_6 rfl rfl ?_
  obtain ⟨r2, e2, h⟩ := fBd h
  refine fW_cB (fI_S (as := [iv a1]) (rest := [rv G 418]) miX11_isKey rfl wd_1275 (fRoom_of rfl) rfl (Nat.le_of_ble_eq_true rfl) dX11_trace_7) (s_X11_isKey ga1 e2) rfl rfl rfl (fun g2 => ?_)
  refine fW_if_eq 13 26 (rg_z g2) dX11_trace_10 rfl rfl (fun c3 => ?_) (fun c3 => ?_)
  · replace h := fTt h c3
    exact fW_sb (i_X11_trace_26 hg ga1 ga2 h) ⟨rfl, rfl, rfl, trivial⟩
  · replace h := fFf h c3
    refine fW_iload_n 14 dX11_trace_13 rfl rfl ?_
    refine fW_iconst 15 dX11_trace_14 rfl ?_
    refine fW_iconst 16 dX11_trace_15 rfl ?_
    obtain ⟨r18, e18, h⟩ := fBd h
    refine fW_cB (fI_S (as := [iv a2, iv 0, iv 2]) (rest := [rv G 418]) miX11_isIn rfl wd_1272 (fRoom_of rfl) rfl (Nat.le_of_ble_eq_true rfl) dX11_trace_16) (s_X11_isIn ga2 (by decide) (by decide) e18) rfl rfl rfl (fun g18 => ?_)
    refine fW_if_eq 22 26 (rg_z g18) dX11_trace_19 rfl rfl (fun c19 => ?_) (fun c19 => ?_)
    · replace h := fTt h c19
      exact fW_sb (i_X11_trace_26 hg ga1 ga2 h) ⟨rfl, rfl, rfl, trivial⟩
    · replace h := fFf h c19
      refine fW_iconst 23 dX11_trace_22 rfl ?_
      refine fW_goto 27 dX11_trace_23 rfl ?_
      exact fW_sb (i_X11_trace_27 hg ga1 ga2 (by decide) h) ⟨rfl, rfl, rfl, trivial⟩
def mX11_allThings : fMt := (yX11_allThings, cX11_allThings, 3, some .int, { frames := 1, cells := 0, slots := 0, locals := 40 })
theorem miX11_allThings : fMv mX11_allThings 0 := ⟨⟨fM 1426 (by decide +kernel) rfl, fM 101 (by decide +kernel) rfl, ⟨by decide +kernel, by decide +kernel⟩, by decide +kernel⟩, fM 1425 (by decide +kernel) rfl, fM 53 (by decide +kernel) rfl⟩
def L_X11_allThings_4  (M : fMem) (k : Int → Option (Int)) : Nat → Int → Int → Option (Int)
  | 0, _, _ => none
  | n + 1, v1, v2 => (if 19 ≤ v2 then k v1 else ((f_X11_isShut v2 M).bind fun (r2 : Int) => (if r2 = 0 then (if -2147483648 ≤ v1 + 0 ∧ v1 + 0 < 2147483648 then L_X11_allThings_4 M k n (v1 + 0) (v2 + 1) else none) else (if 0 ≤ 7600 + v2 ∧ 7600 + v2 < 7787 then (if -2147483648 ≤ v1 + (M 419 (7600 + v2)) ∧ v1 + (M 419 (7600 + v2)) < 2147483648 then L_X11_allThings_4 M k n (v1 + (M 419 (7600 + v2))) (v2 + 1) else none) else none))))
set_option maxRecDepth 100000 in
set_option maxHeartbeats 4000000 in
theorem l_X11_allThings_4 {G : fG} (hg : gbt G = true)  {M : fMem} {q : Int} {k : Int → Option (Int)} (hk : ∀ (v1 : Int), rg v1 → k v1 = some q → fW G mX11_allThings (fEm G mX11_allThings (rP M q) fNo) 0 0 41 [some (rv G 418), some (iv v1), none] [] M) : ∀ (n : Nat) (v1 : Int) (v2 : Int), rg v1 → rg v2 → L_X11_allThings_4 M k n v1 v2 = some q → fW G mX11_allThings (fEm G mX11_allThings (rP M q) fNo) 0 0 4 [some (rv G 418), some (iv v1), some (iv v2)] [] M := by
  intro n
  induction n with
  | zero =>
    intro v1 v2 gv1 gv2 h
    rw [L_X11_allThings_4] at h
    exact absurd h (by simp)
  | succ n ih =>
    intro v1 v2 gv1 gv2 h
    rw [L_X11_allThings_4] at h
    refine fW_rg (fun hR => ?_)
    refine fW_iload_n 5 dX11_allThings_4 rfl rfl ?_
    refine fW_bipush 7 dX11_allThings_5 rfl (by decide) ?_
    refine fW_icmp_ge 10 41 gv2 (by decide) dX11_allThings_7 rfl rfl (fun c1 => ?_) (fun c1 => ?_)
    · replace h := fTt h c1
      exact fW_sb (hk v1 gv1 h) ⟨rfl, rfl, trivial⟩
    · replace h := fFf h c1
      refine fW_iload_n 11 dX11_allThings_10 rfl rfl ?_
      refine fW_aload_n 12 dX11_allThings_11 rfl rfl ?_
      refine fW_iload_n 13 dX11_allThings_12 rfl rfl ?_
      obtain ⟨r2, e2, h⟩ := fBd h
      refine fW_cB (fI_V (as := [iv v2]) (rest := [iv v1]) miX11_isShut hg clX11 rfl tc_418 wd_1340 (fRoom_of rfl) rfl (Nat.le_of_ble_eq_true rfl) dX11_allThings_13) (s_X11_isShut hg gv2 e2) rfl rfl rfl (fun g2 => ?_)
      refine fW_if_eq 19 32 (rg_z g2) dX11_allThings_16 rfl rfl (fun c3 => ?_) (fun c3 => ?_)
      · replace h := fTt h c3
        refine fW_iconst 33 dX11_allThings_32 rfl ?_
        refine fW_iadd 34 dX11_allThings_33 rfl ?_
        refine fW_istore_n 35 (ls' := [some (rv G 418), some (iv (v1 + 0)), some (iv v2)]) dX11_allThings_34 rfl rfl rfl (by decide) ?_
        refine fW_iinc 38 (ls' := [some (rv G 418), some (iv (v1 + 0)), some (iv (v2 + 1))]) dX11_allThings_35 rfl rfl rfl (by decide) ?_
        refine fW_goto 4 dX11_allThings_38 rfl ?_
        obtain ⟨c4, h⟩ := fS h
        exact fW_sb (ih (v1 + 0) (v2 + 1) c4 (rg_succ' gv2 (by decide) c1) h) ⟨rfl, rfl, rfl, trivial⟩
      · replace h := fFf h c3
        refine fW_aload_n 20 dX11_allThings_19 rfl rfl ?_
        refine fW_getR 23 (r := 419) 0 hg clX11 (by decide) rfl tc_418 tf_11_0 wd_1174 dX11_allThings_20 rfl ?_
        refine fW_sipush 26 dX11_allThings_23 rfl (by decide) ?_
        refine fW_iload_n 27 dX11_allThings_26 rfl rfl ?_
        refine fW_iadd 28 dX11_allThings_27 rfl ?_
        obtain ⟨c5, h⟩ := fS h
        refine fW_iald 29 hg tc_419 ⟨c5.1, by rw [show Ln 419 = 7787 from rfl]; exact c5.2⟩ dX11_allThings_28 rfl ?_
        refine fW_goto 33 dX11_allThings_29 rfl ?_
        refine fW_iadd 34 dX11_allThings_33 rfl ?_
        refine fW_istore_n 35 (ls' := [some (rv G 418), some (iv (v1 + (M 419 (7600 + v2)))), some (iv v2)]) dX11_allThings_34 rfl rfl rfl (by decide) ?_
        refine fW_iinc 38 (ls' := [some (rv G 418), some (iv (v1 + (M 419 (7600 + v2)))), some (iv (v2 + 1))]) dX11_allThings_35 rfl rfl rfl (by decide) ?_
        refine fW_goto 4 dX11_allThings_38 rfl ?_
        obtain ⟨c6, h⟩ := fS h
        exact fW_sb (ih (v1 + (M 419 (7600 + v2))) (v2 + 1) c6 (rg_succ' gv2 (by decide) c1) h) ⟨rfl, rfl, rfl, trivial⟩
def f_X11_allThings  (M : fMem) : Option (Int) := L_X11_allThings_4 M (fun (v1_7 : Int) => some v1_7) 20000 0 0
set_option maxRecDepth 100000 in
set_option maxHeartbeats 4000000 in
theorem s_X11_allThings {G : fG} (hg : gbt G = true)  {M : fMem} {q : Int} (h : f_X11_allThings M = some q) : fSp G mX11_allThings [rv G 418] M (rP M q) fNo := by
  refine fSp_of (by decide +kernel) (by decide +kernel) (fC1 rfl fC0) (Nat.le_of_ble_eq_true rfl) ?_
  show fW G mX11_allThings (fEm G mX11_allThings (rP M q) fNo) 0 0 0 [some (rv G 418), none, none] [] M
  rw [f_X11_allThings] at h
  refine fW_rg (fun hR => ?_)
  refine fW_iconst 1 dX11_allThings_0 rfl ?_
  refine fW_istore_n 2 (ls' := [some (rv G 418), some (iv 0), none]) dX11_allThings_1 rfl rfl rfl (by decide) ?_
  refine fW_iconst 3 dX11_allThings_2 rfl ?_
  refine fW_istore_n 4 (ls' := [some (rv G 418), some (iv 0), some (iv 0)]) dX11_allThings_3 rfl rfl rfl (by decide) ?_
  refine fW_sb (l_X11_allThings_4 hg ?_ 20000 0 0 (by decide) (by decide) h) ⟨rfl, rfl, rfl, trivial⟩
  intro v1_7 gv1_7 h
  refine fW_iload_n 42 dX11_allThings_41 rfl rfl ?_
  exact fW_iret rfl (by decide) (by decide) dX11_allThings_42 (rP_i h gv1_7)
def mX11_waste : fMt := (yX11_waste, cX11_waste, 6, some .int, { frames := 5, cells := 0, slots := 0, locals := 200 })
theorem miX11_waste : fMv mX11_waste 1 := ⟨⟨fM 1418 (by decide +kernel) rfl, fM 101 (by decide +kernel) rfl, ⟨by decide +kernel, by decide +kernel⟩, by decide +kernel⟩, fM 1416 (by decide +kernel) rfl, fM 1417 (by decide +kernel) rfl⟩
def L_X11_waste_34  (k : Int → Int → Int → Int → fMem → Option (Int × fMem)) : Nat → Int → Int → Int → Int → Int → fMem → Option (Int × fMem)
  | 0, _, _, _, _, _, _ => none
  | n + 1, v1, v2, v3, v4, v5, M => (if 200 ≤ v5 then k v1 v2 v3 v4 M else (if 0 ≤ v5 ∧ v5 < 200 then (if (M 424 v5) ≤ 0 then (if (M 424 v5) = 1 then (if (M 422 v5) = ((-1)) then (if -2147483648 ≤ v3 + 0 ∧ v3 + 0 < 2147483648 then (if -2147483648 ≤ v4 + 1 ∧ v4 + 1 < 2147483648 then L_X11_waste_34  k n v1 v2 (v3 + 0) (v4 + 1) (v5 + 1) M else none) else none) else (if -2147483648 ≤ v3 + 0 ∧ v3 + 0 < 2147483648 then (if -2147483648 ≤ v4 + 0 ∧ v4 + 0 < 2147483648 then L_X11_waste_34  k n v1 v2 (v3 + 0) (v4 + 0) (v5 + 1) M else none) else none)) else (if -2147483648 ≤ v3 + 0 ∧ v3 + 0 < 2147483648 then (if -2147483648 ≤ v4 + 0 ∧ v4 + 0 < 2147483648 then L_X11_waste_34  k n v1 v2 (v3 + 0) (v4 + 0) (v5 + 1) M else none) else none)) else (if (M 424 v5) = 1 then (if (M 422 v5) = ((-1)) then (if -2147483648 ≤ v3 + 1 ∧ v3 + 1 < 2147483648 then (if -2147483648 ≤ v4 + 1 ∧ v4 + 1 < 2147483648 then L_X11_waste_34  k n v1 v2 (v3 + 1) (v4 + 1) (v5 + 1) M else none) else none) else (if -2147483648 ≤ v3 + 1 ∧ v3 + 1 < 2147483648 then (if -2147483648 ≤ v4 + 0 ∧ v4 + 0 < 2147483648 then L_X11_waste_34  k n v1 v2 (v3 + 1) (v4 + 0) (v5 + 1) M else none) else none)) else (if -2147483648 ≤ v3 + 1 ∧ v3 + 1 < 2147483648 then (if -2147483648 ≤ v4 + 0 ∧ v4 + 0 < 2147483648 then L_X11_waste_34  k n v1 v2 (v3 + 1) (v4 + 0) (v5 + 1) M else none) else none))) else none))
set_option maxRecDepth 100000 in
set_option maxHeartbeats 4000000 in
theorem l_X11_waste_34 {G : fG} (hg : gbt G = true)  {q : Int × fMem} {k : Int → Int → Int → Int → fMem → Option (Int × fMem)} (hk : ∀ (v1 : Int) (v2 : Int) (v3 : Int) (v4 : Int) (M : fMem), rg v1 → rg v2 → rg v3 → rg v4 → k v1 v2 v3 v4 M = some q → fW G mX11_waste (fEm G mX11_waste (rP q.2 q.1) fNo) 0 0 98 [some (rv G 418), some (iv v1), some (iv v2), some (iv v3), some (iv v4), none] [] M) : ∀ (n : Nat) (v1 : Int) (v2 : Int) (v3 : Int) (v4 : Int) (v5 : Int) (M : fMem), rg v1 → rg v2 → rg v3 → rg v4 → rg v5 → L_X11_waste_34 k n v1 v2 v3 v4 v5 M = some q → fW G mX11_waste (fEm G mX11_waste (rP q.2 q.1) fNo) 0 0 34 [some (rv G 418), some (iv v1), some (iv v2), some (iv v3), some (iv v4), some (iv v5)] [] M := by
  intro n
  induction n with
  | zero =>
    intro v1 v2 v3 v4 v5 M gv1 gv2 gv3 gv4 gv5 h
    rw [L_X11_waste_34] at h
    exact absurd h (by simp)
  | succ n ih =>
    intro v1 v2 v3 v4 v5 M gv1 gv2 gv3 gv4 gv5 h
    rw [L_X11_waste_34] at h
    refine fW_rg (fun hR => ?_)
    refine fW_iload 36 dX11_waste_34 rfl rfl ?_
    refine fW_sipush 39 dX11_waste_36 rfl (by decide) ?_
    refine fW_icmp_ge 42 98 gv5 (by decide) dX11_waste_39 rfl rfl (fun c8 => ?_) (fun c8 => ?_)
    · replace h := fTt h c8
      exact fW_sb (hk v1 v2 v3 v4 M gv1 gv2 gv3 gv4 h) ⟨rfl, rfl, rfl, rfl, rfl, trivial⟩
    · replace h := fFf h c8
      refine fW_iload_n 43 dX11_waste_42 rfl rfl ?_
      refine fW_aload_n 44 dX11_waste_43 rfl rfl ?_
      refine fW_getR 47 (r := 424) 7 hg clX11 (by decide) rfl tc_418 tf_11_7 wd_1181 dX11_waste_44 rfl ?_
      refine fW_iload 49 dX11_waste_47 rfl rfl ?_
      obtain ⟨c9, h⟩ := fS h
      refine fW_iald 50 hg tc_424 ⟨c9.1, by rw [show Ln 424 = 200 from rfl]; exact c9.2⟩ dX11_waste_49 rfl ?_
      refine fW_if_le 53 57 (hR 424 v5) dX11_waste_50 rfl rfl (fun c10 => ?_) (fun c10 => ?_)
      · replace h := fTt h c10
        refine fW_iconst 58 dX11_waste_57 rfl ?_
        refine fW_iadd 59 dX11_waste_58 rfl ?_
        refine fW_istore_n 60 (ls' := [some (rv G 418), some (iv v1), some (iv v2), some (iv (v3 + 0)), some (iv v4), some (iv v5)]) dX11_waste_59 rfl rfl rfl (by decide) ?_
        refine fW_iload 62 dX11_waste_60 rfl rfl ?_
        refine fW_aload_n 63 dX11_waste_62 rfl rfl ?_
        refine fW_getR 66 (r := 424) 7 hg clX11 (by decide) rfl tc_418 tf_11_7 wd_1181 dX11_waste_63 rfl ?_
        refine fW_iload 68 dX11_waste_66 rfl rfl ?_
        refine fW_iald 69 hg tc_424 ⟨c9.1, by rw [show Ln 424 = 200 from rfl]; exact c9.2⟩ dX11_waste_68 rfl ?_
        refine fW_iconst 70 dX11_waste_69 rfl ?_
        refine fW_icmp_ne 73 88 (hR 424 v5) (by decide) dX11_waste_70 rfl rfl (fun c11 => ?_) (fun c11 => ?_)
        · replace h := fFf h c11
          refine fW_iconst 89 dX11_waste_88 rfl ?_
          refine fW_iadd 90 dX11_waste_89 rfl ?_
          refine fW_istore 92 (ls' := [some (rv G 418), some (iv v1), some (iv v2), some (iv (v3 + 0)), some (iv (v4 + 0)), some (iv v5)]) dX11_waste_90 rfl rfl (by decide) ?_
          refine fW_iinc 95 (ls' := [some (rv G 418), some (iv v1), some (iv v2), some (iv (v3 + 0)), some (iv (v4 + 0)), some (iv (v5 + 1))]) dX11_waste_92 rfl rfl rfl (by decide) ?_
          refine fW_goto 34 dX11_waste_95 rfl ?_
          obtain ⟨c12, h⟩ := fS h
          obtain ⟨c13, h⟩ := fS h
          exact fW_sb (ih v1 v2 (v3 + 0) (v4 + 0) (v5 + 1) M gv1 gv2 c12 c13 (rg_succ' gv5 (by decide) c8) h) ⟨rfl, rfl, rfl, rfl, rfl, rfl, trivial⟩
        · replace h := fTt h c11
          refine fW_aload_n 74 dX11_waste_73 rfl rfl ?_
          refine fW_getR 77 (r := 422) 5 hg clX11 (by decide) rfl tc_418 tf_11_5 wd_1179 dX11_waste_74 rfl ?_
          refine fW_iload 79 dX11_waste_77 rfl rfl ?_
          refine fW_iald 80 hg tc_422 ⟨c9.1, by rw [show Ln 422 = 200 from rfl]; exact c9.2⟩ dX11_waste_79 rfl ?_
          refine fW_iconst 81 dX11_waste_80 rfl ?_
          refine fW_icmp_ne 84 88 (hR 422 v5) (by decide) dX11_waste_81 rfl rfl (fun c14 => ?_) (fun c14 => ?_)
          · replace h := fFf h c14
            refine fW_iconst 89 dX11_waste_88 rfl ?_
            refine fW_iadd 90 dX11_waste_89 rfl ?_
            refine fW_istore 92 (ls' := [some (rv G 418), some (iv v1), some (iv v2), some (iv (v3 + 0)), some (iv (v4 + 0)), some (iv v5)]) dX11_waste_90 rfl rfl (by decide) ?_
            refine fW_iinc 95 (ls' := [some (rv G 418), some (iv v1), some (iv v2), some (iv (v3 + 0)), some (iv (v4 + 0)), some (iv (v5 + 1))]) dX11_waste_92 rfl rfl rfl (by decide) ?_
            refine fW_goto 34 dX11_waste_95 rfl ?_
            obtain ⟨c15, h⟩ := fS h
            obtain ⟨c16, h⟩ := fS h
            exact fW_sb (ih v1 v2 (v3 + 0) (v4 + 0) (v5 + 1) M gv1 gv2 c15 c16 (rg_succ' gv5 (by decide) c8) h) ⟨rfl, rfl, rfl, rfl, rfl, rfl, trivial⟩
          · replace h := fTt h c14
            refine fW_iconst 85 dX11_waste_84 rfl ?_
            refine fW_goto 89 dX11_waste_85 rfl ?_
            refine fW_iadd 90 dX11_waste_89 rfl ?_
            refine fW_istore 92 (ls' := [some (rv G 418), some (iv v1), some (iv v2), some (iv (v3 + 0)), some (iv (v4 + 1)), some (iv v5)]) dX11_waste_90 rfl rfl (by decide) ?_
            refine fW_iinc 95 (ls' := [some (rv G 418), some (iv v1), some (iv v2), some (iv (v3 + 0)), some (iv (v4 + 1)), some (iv (v5 + 1))]) dX11_waste_92 rfl rfl rfl (by decide) ?_
            refine fW_goto 34 dX11_waste_95 rfl ?_
            obtain ⟨c17, h⟩ := fS h
            obtain ⟨c18, h⟩ := fS h
            exact fW_sb (ih v1 v2 (v3 + 0) (v4 + 1) (v5 + 1) M gv1 gv2 c17 c18 (rg_succ' gv5 (by decide) c8) h) ⟨rfl, rfl, rfl, rfl, rfl, rfl, trivial⟩
      · replace h := fFf h c10
        refine fW_iconst 54 dX11_waste_53 rfl ?_
        refine fW_goto 58 dX11_waste_54 rfl ?_
        refine fW_iadd 59 dX11_waste_58 rfl ?_
        refine fW_istore_n 60 (ls' := [some (rv G 418), some (iv v1), some (iv v2), some (iv (v3 + 1)), some (iv v4), some (iv v5)]) dX11_waste_59 rfl rfl rfl (by decide) ?_
        refine fW_iload 62 dX11_waste_60 rfl rfl ?_
        refine fW_aload_n 63 dX11_waste_62 rfl rfl ?_
        refine fW_getR 66 (r := 424) 7 hg clX11 (by decide) rfl tc_418 tf_11_7 wd_1181 dX11_waste_63 rfl ?_
        refine fW_iload 68 dX11_waste_66 rfl rfl ?_
        refine fW_iald 69 hg tc_424 ⟨c9.1, by rw [show Ln 424 = 200 from rfl]; exact c9.2⟩ dX11_waste_68 rfl ?_
        refine fW_iconst 70 dX11_waste_69 rfl ?_
        refine fW_icmp_ne 73 88 (hR 424 v5) (by decide) dX11_waste_70 rfl rfl (fun c19 => ?_) (fun c19 => ?_)
        · replace h := fFf h c19
          refine fW_iconst 89 dX11_waste_88 rfl ?_
          refine fW_iadd 90 dX11_waste_89 rfl ?_
          refine fW_istore 92 (ls' := [some (rv G 418), some (iv v1), some (iv v2), some (iv (v3 + 1)), some (iv (v4 + 0)), some (iv v5)]) dX11_waste_90 rfl rfl (by decide) ?_
          refine fW_iinc 95 (ls' := [some (rv G 418), some (iv v1), some (iv v2), some (iv (v3 + 1)), some (iv (v4 + 0)), some (iv (v5 + 1))]) dX11_waste_92 rfl rfl rfl (by decide) ?_
          refine fW_goto 34 dX11_waste_95 rfl ?_
          obtain ⟨c20, h⟩ := fS h
          obtain ⟨c21, h⟩ := fS h
          exact fW_sb (ih v1 v2 (v3 + 1) (v4 + 0) (v5 + 1) M gv1 gv2 c20 c21 (rg_succ' gv5 (by decide) c8) h) ⟨rfl, rfl, rfl, rfl, rfl, rfl, trivial⟩
        · replace h := fTt h c19
          refine fW_aload_n 74 dX11_waste_73 rfl rfl ?_
          refine fW_getR 77 (r := 422) 5 hg clX11 (by decide) rfl tc_418 tf_11_5 wd_1179 dX11_waste_74 rfl ?_
          refine fW_iload 79 dX11_waste_77 rfl rfl ?_
          refine fW_iald 80 hg tc_422 ⟨c9.1, by rw [show Ln 422 = 200 from rfl]; exact c9.2⟩ dX11_waste_79 rfl ?_
          refine fW_iconst 81 dX11_waste_80 rfl ?_
          refine fW_icmp_ne 84 88 (hR 422 v5) (by decide) dX11_waste_81 rfl rfl (fun c22 => ?_) (fun c22 => ?_)
          · replace h := fFf h c22
            refine fW_iconst 89 dX11_waste_88 rfl ?_
            refine fW_iadd 90 dX11_waste_89 rfl ?_
            refine fW_istore 92 (ls' := [some (rv G 418), some (iv v1), some (iv v2), some (iv (v3 + 1)), some (iv (v4 + 0)), some (iv v5)]) dX11_waste_90 rfl rfl (by decide) ?_
            refine fW_iinc 95 (ls' := [some (rv G 418), some (iv v1), some (iv v2), some (iv (v3 + 1)), some (iv (v4 + 0)), some (iv (v5 + 1))]) dX11_waste_92 rfl rfl rfl (by decide) ?_
            refine fW_goto 34 dX11_waste_95 rfl ?_
            obtain ⟨c23, h⟩ := fS h
            obtain ⟨c24, h⟩ := fS h
            exact fW_sb (ih v1 v2 (v3 + 1) (v4 + 0) (v5 + 1) M gv1 gv2 c23 c24 (rg_succ' gv5 (by decide) c8) h) ⟨rfl, rfl, rfl, rfl, rfl, rfl, trivial⟩
          · replace h := fTt h c22
            refine fW_iconst 85 dX11_waste_84 rfl ?_
            refine fW_goto 89 dX11_waste_85 rfl ?_
            refine fW_iadd 90 dX11_waste_89 rfl ?_
            refine fW_istore 92 (ls' := [some (rv G 418), some (iv v1), some (iv v2), some (iv (v3 + 1)), some (iv (v4 + 1)), some (iv v5)]) dX11_waste_90 rfl rfl (by decide) ?_
            refine fW_iinc 95 (ls' := [some (rv G 418), some (iv v1), some (iv v2), some (iv (v3 + 1)), some (iv (v4 + 1)), some (iv (v5 + 1))]) dX11_waste_92 rfl rfl rfl (by decide) ?_
            refine fW_goto 34 dX11_waste_95 rfl ?_
            obtain ⟨c25, h⟩ := fS h
            obtain ⟨c26, h⟩ := fS h
            exact fW_sb (ih v1 v2 (v3 + 1) (v4 + 1) (v5 + 1) M gv1 gv2 c25 c26 (rg_succ' gv5 (by decide) c8) h) ⟨rfl, rfl, rfl, rfl, rfl, rfl, trivial⟩
def f_X11_waste (a1 : Int) (M : fMem) : Option (Int × fMem) := ((some (mset M 418 4 0)).bind fun (N1 : fMem) => ((f_X11_isIn a1 0 2 N1).bind fun (r2 : Int) => ((f_X11_right r2 1 N1).bind fun (r3 : Int × fMem) => (if r3.1 = 0 then some (0, r3.2) else ((f_X11_thereMany r3.2).bind fun (r6 : Int × fMem) => L_X11_waste_34 (fun (v1_27 : Int) (v2_27 : Int) (v3_27 : Int) (v4_27 : Int) (M_27 : fMem) => (if v1_27 = 0 then ((f_X11_allThings M_27).bind fun (r32 : Int) => (if -2147483648 ≤ r32 - v3_27 ∧ r32 - v3_27 < 2147483648 then some (r32 - v3_27, M_27) else none)) else (if v1_27 = 1 then some (v4_27, M_27) else ((f_X11_allThings M_27).bind fun (r30 : Int) => (if -2147483648 ≤ r30 - v2_27 ∧ r30 - v2_27 < 2147483648 then some (r30 - v2_27, M_27) else none))))) 20000 a1 r6.1 0 0 0 r6.2)))))
set_option maxRecDepth 100000 in
set_option maxHeartbeats 4000000 in
theorem s_X11_waste {G : fG} (hg : gbt G = true) {a1 : Int} (ga1 : rg a1) {M : fMem} {q : Int × fMem} (h : f_X11_waste a1 M = some q) : fSp G mX11_waste [rv G 418, iv a1] M (rP q.2 q.1) fNo := by
  refine fSp_of (by decide +kernel) (by decide +kernel) (fC1 rfl (fC1 rfl fC0)) (Nat.le_of_ble_eq_true rfl) ?_
  show fW G mX11_waste (fEm G mX11_waste (rP q.2 q.1) fNo) 0 0 0 [some (rv G 418), some (iv a1), none, none, none, none] [] M
  rw [f_X11_waste] at h
  refine fW_rg (fun hR => ?_)
  refine fW_aload_n 1 dX11_waste_0 rfl rfl ?_
  refine fW_iconst 2 dX11_waste_1 rfl ?_
  obtain ⟨N1, e1, h⟩ := fBd h
  replace e1 := Option.some.inj e1
  refine fW_putI 5 4 (ji := 4) hg clX11 rfl (by decide) rfl rfl rfl tc_418 (by decide) wd_1178 dX11_waste_2 rfl ?_
  rw [e1]
  refine fW_rg (fun hR1 => ?_)
  refine fW_aload_n 6 dX11_waste_5 rfl rfl ?_
  refine fW_iload_n 7 dX11_waste_6 rfl rfl ?_
  refine fW_iconst 8 dX11_waste_7 rfl ?_
  refine fW_iconst 9 dX11_waste_8 rfl ?_
  obtain ⟨r2, e2, h⟩ := fBd h
  refine fW_cB (fI_S (as := [iv a1, iv 0, iv 2]) (rest := [rv G 418]) miX11_isIn rfl wd_1272 (fRoom_of rfl) rfl (Nat.le_of_ble_eq_true rfl) dX11_waste_9) (s_X11_isIn ga1 (by decide) (by decide) e2) rfl rfl rfl (fun g2 => ?_)
  refine fW_iconst 13 dX11_waste_12 rfl ?_
  obtain ⟨r3, e3, h⟩ := fBd h
  refine fW_cB (fI_V (as := [iv r2, iv 1]) (rest := []) miX11_right hg clX11 rfl tc_418 wd_1396 (fRoom_of rfl) rfl (Nat.le_of_ble_eq_true rfl) dX11_waste_13) (s_X11_right hg g2 (by decide) e3) rfl rfl rfl (fun g3 => ?_)
  refine fW_rg (fun hR4 => ?_)
  refine fW_if_ne 19 21 (rg_z g3) dX11_waste_16 rfl rfl (fun c5 => ?_) (fun c5 => ?_)
  · replace h := fFf h c5
    refine fW_aload_n 22 dX11_waste_21 rfl rfl ?_
    obtain ⟨r6, e6, h⟩ := fBd h
    refine fW_cP (fI_V (as := []) (rest := []) miX11_thereMany hg clX11 rfl tc_418 wd_1419 (fRoom_of rfl) rfl (Nat.le_of_ble_eq_true rfl) dX11_waste_22) (s_X11_thereMany hg e6) rfl rfl rfl (fun g6 => ?_)
    refine fW_rg (fun hR7 => ?_)
    refine fW_istore_n 26 (ls' := [some (rv G 418), some (iv a1), some (iv r6.1), none, none, none]) dX11_waste_25 rfl rfl rfl (by decide) ?_
    refine fW_iconst 27 dX11_waste_26 rfl ?_
    refine fW_istore_n 28 (ls' := [some (rv G 418), some (iv a1), some (iv r6.1), some (iv 0), none, none]) dX11_waste_27 rfl rfl rfl (by decide) ?_
    refine fW_iconst 29 dX11_waste_28 rfl ?_
    refine fW_istore 31 (ls' := [some (rv G 418), some (iv a1), some (iv r6.1), some (iv 0), some (iv 0), none]) dX11_waste_29 rfl rfl (by decide) ?_
    refine fW_iconst 32 dX11_waste_31 rfl ?_
    refine fW_istore 34 (ls' := [some (rv G 418), some (iv a1), some (iv r6.1), some (iv 0), some (iv 0), some (iv 0)]) dX11_waste_32 rfl rfl (by decide) ?_
    refine fW_sb (l_X11_waste_34 hg ?_ 20000 a1 r6.1 0 0 0 r6.2 ga1 g6 (by decide) (by decide) (by decide) h) ⟨rfl, rfl, rfl, rfl, rfl, rfl, trivial⟩
    intro v1_27 v2_27 v3_27 v4_27 M_27 gv1_27 gv2_27 gv3_27 gv4_27 h
    refine fW_rg (fun hR_27 => ?_)
    refine fW_iload_n 99 dX11_waste_98 rfl rfl ?_
    refine fW_if_ne 102 111 gv1_27 dX11_waste_99 rfl rfl (fun c28 => ?_) (fun c28 => ?_)
    · replace h := fFf h c28
      refine fW_iload_n 112 dX11_waste_111 rfl rfl ?_
      refine fW_iconst 113 dX11_waste_112 rfl ?_
      refine fW_icmp_ne 116 121 gv1_27 (by decide) dX11_waste_113 rfl rfl (fun c29 => ?_) (fun c29 => ?_)
      · replace h := fFf h c29
        refine fW_aload_n 122 dX11_waste_121 rfl rfl ?_
        obtain ⟨r30, e30, h⟩ := fBd h
        refine fW_cP (fI_V (as := []) (rest := []) miX11_allThings hg clX11 rfl tc_418 wd_1423 (fRoom_of rfl) rfl (Nat.le_of_ble_eq_true rfl) dX11_waste_122) (s_X11_allThings hg e30) rfl rfl rfl (fun g30 => ?_)
        refine fW_iload_n 126 dX11_waste_125 rfl rfl ?_
        refine fW_isub 127 dX11_waste_126 rfl ?_
        obtain ⟨c31, h⟩ := fS h
        exact fW_iret rfl (by decide) (by decide) dX11_waste_127 (rI_i h c31)
      · replace h := fTt h c29
        refine fW_iload 118 dX11_waste_116 rfl rfl ?_
        refine fW_goto 127 dX11_waste_118 rfl ?_
        exact fW_iret rfl (by decide) (by decide) dX11_waste_127 (rI_i h gv4_27)
    · replace h := fTt h c28
      refine fW_aload_n 103 dX11_waste_102 rfl rfl ?_
      obtain ⟨r32, e32, h⟩ := fBd h
      refine fW_cP (fI_V (as := []) (rest := []) miX11_allThings hg clX11 rfl tc_418 wd_1423 (fRoom_of rfl) rfl (Nat.le_of_ble_eq_true rfl) dX11_waste_103) (s_X11_allThings hg e32) rfl rfl rfl (fun g32 => ?_)
      refine fW_iload_n 107 dX11_waste_106 rfl rfl ?_
      refine fW_isub 108 dX11_waste_107 rfl ?_
      refine fW_goto 127 dX11_waste_108 rfl ?_
      obtain ⟨c33, h⟩ := fS h
      exact fW_iret rfl (by decide) (by decide) dX11_waste_127 (rI_i h c33)
  · replace h := fTt h c5
    refine fW_iconst 20 dX11_waste_19 rfl ?_
    exact fW_iret rfl (by decide) (by decide) dX11_waste_20 (rI_i h (by decide))
def mX11_leadOf : fMt := (yX11_leadOf, cX11_leadOf, 2, some .int, { frames := 3, cells := 0, slots := 0, locals := 120 })
theorem miX11_leadOf : fMv mX11_leadOf 1 := ⟨⟨fM 1450 (by decide +kernel) rfl, fM 101 (by decide +kernel) rfl, ⟨by decide +kernel, by decide +kernel⟩, by decide +kernel⟩, fM 1449 (by decide +kernel) rfl, fM 58 (by decide +kernel) rfl⟩
def f_X11_leadOf (a1 : Int) (M : fMem) : Option (Int) := ((f_X11_byAge a1 0 M).bind fun (r1 : Int) => some r1)
set_option maxRecDepth 100000 in
set_option maxHeartbeats 4000000 in
theorem s_X11_leadOf {G : fG} (hg : gbt G = true) {a1 : Int} (ga1 : rg a1) {M : fMem} {q : Int} (h : f_X11_leadOf a1 M = some q) : fSp G mX11_leadOf [rv G 418, iv a1] M (rP M q) fNo := by
  refine fSp_of (by decide +kernel) (by decide +kernel) (fC1 rfl (fC1 rfl fC0)) (Nat.le_of_ble_eq_true rfl) ?_
  show fW G mX11_leadOf (fEm G mX11_leadOf (rP M q) fNo) 0 0 0 [some (rv G 418), some (iv a1)] [] M
  rw [f_X11_leadOf] at h
  refine fW_rg (fun hR => ?_)
  refine fW_aload_n 1 dX11_leadOf_0 rfl rfl ?_
  refine fW_iload_n 2 dX11_leadOf_1 rfl rfl ?_
  refine fW_iconst 3 dX11_leadOf_2 rfl ?_
  obtain ⟨r1, e1, h⟩ := fBd h
  refine fW_cP (fI_V (as := [iv a1, iv 0]) (rest := []) miX11_byAge hg clX11 rfl tc_418 wd_1348 (fRoom_of rfl) rfl (Nat.le_of_ble_eq_true rfl) dX11_leadOf_3) (s_X11_byAge hg ga1 (by decide) e1) rfl rfl rfl (fun g1 => ?_)
  exact fW_iret rfl (by decide) (by decide) dX11_leadOf_6 (rP_i h g1)
end MTH
