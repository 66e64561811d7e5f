section MTH
def mX11_against : fMt := (yX11_against, cX11_against, 7, some .int, { frames := 5, cells := 0, slots := 0, locals := 200 })
theorem miX11_against : fMv mX11_against 2 := ⟨⟨fM 1639 (by decide +kernel) rfl, fM 101 (by decide +kernel) rfl, ⟨by decide +kernel, by decide +kernel⟩, by decide +kernel⟩, fM 1637 (by decide +kernel) rfl, fM 1638 (by decide +kernel) rfl⟩
def L_X11_against_62  (k : Int → fMem → Option (Int × fMem)) : Nat → Int → Int → Int → fMem → Option (Int × fMem)
  | 0, _, _, _, _ => none
  | n + 1, v2, v3, v4, M => (if 200 ≤ v4 then k v3 M else (if 0 ≤ v4 ∧ v4 < 200 then (if (M 437 v4) = ((-1)) then (if v2 = 0 then (if -2147483648 ≤ v3 + 0 ∧ v3 + 0 < 2147483648 then L_X11_against_62  k n v2 (v3 + 0) (v4 + 1) M else none) else (if v2 = 1 then (if -2147483648 ≤ v3 + 0 ∧ v3 + 0 < 2147483648 then L_X11_against_62  k n v2 (v3 + 0) (v4 + 1) M else none) else (if (M 422 v4) = ((-1)) then (if -2147483648 ≤ v3 + 0 ∧ v3 + 0 < 2147483648 then L_X11_against_62  k n v2 (v3 + 0) (v4 + 1) M else none) else (if -2147483648 ≤ v3 + 1 ∧ v3 + 1 < 2147483648 then L_X11_against_62  k n v2 (v3 + 1) (v4 + 1) M else none)))) else (if v2 = 0 then (if -2147483648 ≤ v3 + 1 ∧ v3 + 1 < 2147483648 then L_X11_against_62  k n v2 (v3 + 1) (v4 + 1) M else none) else (if v2 = 1 then (if (M 437 v4) = (M 422 v4) then (if -2147483648 ≤ v3 + 0 ∧ v3 + 0 < 2147483648 then L_X11_against_62  k n v2 (v3 + 0) (v4 + 1) M else none) else (if -2147483648 ≤ v3 + 1 ∧ v3 + 1 < 2147483648 then L_X11_against_62  k n v2 (v3 + 1) (v4 + 1) M else none)) else (if -2147483648 ≤ v3 + 0 ∧ v3 + 0 < 2147483648 then L_X11_against_62  k n v2 (v3 + 0) (v4 + 1) M else none)))) else none))
set_option maxRecDepth 100000 in
set_option maxHeartbeats 4000000 in
theorem l_X11_against_62 {G : fG} (hg : gbt G = true)  {q : Int × fMem} {k : Int → fMem → Option (Int × fMem)} (hk : ∀ (v3 : Int) (M : fMem), rg v3 → k v3 M = some q → fW G mX11_against (fEm G mX11_against (rP q.2 q.1) fNo) 0 0 174 [some (rv G 418), none, none, some (iv v3), none, none, none] [] M) : ∀ (n : Nat) (v2 : Int) (v3 : Int) (v4 : Int) (M : fMem), rg v2 → rg v3 → rg v4 → L_X11_against_62 k n v2 v3 v4 M = some q → fW G mX11_against (fEm G mX11_against (rP q.2 q.1) fNo) 0 0 62 [some (rv G 418), none, some (iv v2), some (iv v3), some (iv v4), none, none] [] M := by
  intro n
  induction n with
  | zero =>
    intro v2 v3 v4 M gv2 gv3 gv4 h
    rw [L_X11_against_62] at h
    exact absurd h (by simp)
  | succ n ih =>
    intro v2 v3 v4 M gv2 gv3 gv4 h
    rw [L_X11_against_62] at h
    refine fW_rg (fun hR => ?_)
    refine fW_iload 64 dX11_against_62 rfl rfl ?_
    refine fW_sipush 67 dX11_against_64 rfl (by decide) ?_
    refine fW_icmp_ge 70 174 gv4 (by decide) dX11_against_67 rfl rfl (fun c13 => ?_) (fun c13 => ?_)
    · replace h := fTt h c13
      exact fW_sb (hk v3 M gv3 h) ⟨rfl, rfl, trivial⟩
    · replace h := fFf h c13
      refine fW_aload_n 71 dX11_against_70 rfl rfl ?_
      refine fW_getR 74 (r := 437) 25 hg clX11 (by decide) rfl tc_418 tf_11_25 wd_1199 dX11_against_71 rfl ?_
      refine fW_iload 76 dX11_against_74 rfl rfl ?_
      obtain ⟨c14, h⟩ := fS h
      refine fW_iald 77 hg tc_437 ⟨c14.1, by rw [show Ln 437 = 200 from rfl]; exact c14.2⟩ dX11_against_76 rfl ?_
      refine fW_iconst 78 dX11_against_77 rfl ?_
      refine fW_icmp_eq 81 85 (hR 437 v4) (by decide) dX11_against_78 rfl rfl (fun c15 => ?_) (fun c15 => ?_)
      · replace h := fTt h c15
        refine fW_iconst 86 dX11_against_85 rfl ?_
        refine fW_istore 88 (ls' := [some (rv G 418), none, some (iv v2), some (iv v3), some (iv v4), some (iv 0), none]) dX11_against_86 rfl rfl (by decide) ?_
        refine fW_iload_n 89 dX11_against_88 rfl rfl ?_
        refine fW_if_ne 92 97 gv2 dX11_against_89 rfl rfl (fun c16 => ?_) (fun c16 => ?_)
        · replace h := fFf h c16
          refine fW_iload_n 98 dX11_against_97 rfl rfl ?_
          refine fW_iconst 99 dX11_against_98 rfl ?_
          refine fW_icmp_ne 102 132 gv2 (by decide) dX11_against_99 rfl rfl (fun c17 => ?_) (fun c17 => ?_)
          · replace h := fFf h c17
            refine fW_iload 134 dX11_against_132 rfl rfl ?_
            refine fW_if_ne 137 152 (by decide) dX11_against_134 rfl rfl (fun c18 => ?_) (fun c18 => ?_)
            · exact absurd c18 (by decide)
            · refine fW_aload_n 138 dX11_against_137 rfl rfl ?_
              refine fW_getR 141 (r := 422) 5 hg clX11 (by decide) rfl tc_418 tf_11_5 wd_1179 dX11_against_138 rfl ?_
              refine fW_iload 143 dX11_against_141 rfl rfl ?_
              refine fW_iald 144 hg tc_422 ⟨c14.1, by rw [show Ln 422 = 200 from rfl]; exact c14.2⟩ dX11_against_143 rfl ?_
              refine fW_iconst 145 dX11_against_144 rfl ?_
              refine fW_icmp_eq 148 152 (hR 422 v4) (by decide) dX11_against_145 rfl rfl (fun c19 => ?_) (fun c19 => ?_)
              · replace h := fTt h c19
                refine fW_iconst 153 dX11_against_152 rfl ?_
                refine fW_istore 155 (ls' := [some (rv G 418), none, some (iv v2), some (iv v3), some (iv v4), some (iv 0), some (iv 0)]) dX11_against_153 rfl rfl (by decide) ?_
                refine fW_iload_n 156 dX11_against_155 rfl rfl ?_
                refine fW_iload 158 dX11_against_156 rfl rfl ?_
                refine fW_if_eq 161 165 (by decide) dX11_against_158 rfl rfl (fun c20 => ?_) (fun c20 => ?_)
                · refine fW_iconst 166 dX11_against_165 rfl ?_
                  refine fW_iadd 167 dX11_against_166 rfl ?_
                  refine fW_istore_n 168 (ls' := [some (rv G 418), none, some (iv v2), some (iv (v3 + 0)), some (iv v4), some (iv 0), some (iv 0)]) dX11_against_167 rfl rfl rfl (by decide) ?_
                  refine fW_iinc 171 (ls' := [some (rv G 418), none, some (iv v2), some (iv (v3 + 0)), some (iv (v4 + 1)), some (iv 0), some (iv 0)]) dX11_against_168 rfl rfl rfl (by decide) ?_
                  refine fW_goto 62 dX11_against_171 rfl ?_
                  obtain ⟨c21, h⟩ := fS h
                  exact fW_sb (ih v2 (v3 + 0) (v4 + 1) M gv2 c21 (rg_succ' gv4 (by decide) c13) h) ⟨rfl, rfl, rfl, rfl, trivial⟩
                · exact absurd c20 (by decide)
              · replace h := fFf h c19
                refine fW_iconst 149 dX11_against_148 rfl ?_
                refine fW_goto 153 dX11_against_149 rfl ?_
                refine fW_istore 155 (ls' := [some (rv G 418), none, some (iv v2), some (iv v3), some (iv v4), some (iv 0), some (iv 1)]) dX11_against_153 rfl rfl (by decide) ?_
                refine fW_iload_n 156 dX11_against_155 rfl rfl ?_
                refine fW_iload 158 dX11_against_156 rfl rfl ?_
                refine fW_if_eq 161 165 (by decide) dX11_against_158 rfl rfl (fun c22 => ?_) (fun c22 => ?_)
                · exact absurd c22 (by decide)
                · refine fW_iconst 162 dX11_against_161 rfl ?_
                  refine fW_goto 166 dX11_against_162 rfl ?_
                  refine fW_iadd 167 dX11_against_166 rfl ?_
                  refine fW_istore_n 168 (ls' := [some (rv G 418), none, some (iv v2), some (iv (v3 + 1)), some (iv v4), some (iv 0), some (iv 1)]) dX11_against_167 rfl rfl rfl (by decide) ?_
                  refine fW_iinc 171 (ls' := [some (rv G 418), none, some (iv v2), some (iv (v3 + 1)), some (iv (v4 + 1)), some (iv 0), some (iv 1)]) dX11_against_168 rfl rfl rfl (by decide) ?_
                  refine fW_goto 62 dX11_against_171 rfl ?_
                  obtain ⟨c23, h⟩ := fS h
                  exact fW_sb (ih v2 (v3 + 1) (v4 + 1) M gv2 c23 (rg_succ' gv4 (by decide) c13) h) ⟨rfl, rfl, rfl, rfl, trivial⟩
          · replace h := fTt h c17
            refine fW_iload 104 dX11_against_102 rfl rfl ?_
            refine fW_if_eq 107 128 (by decide) dX11_against_104 rfl rfl (fun c24 => ?_) (fun c24 => ?_)
            · refine fW_iconst 129 dX11_against_128 rfl ?_
              refine fW_goto 153 dX11_against_129 rfl ?_
              refine fW_istore 155 (ls' := [some (rv G 418), none, some (iv v2), some (iv v3), some (iv v4), some (iv 0), some (iv 0)]) dX11_against_153 rfl rfl (by decide) ?_
              refine fW_iload_n 156 dX11_against_155 rfl rfl ?_
              refine fW_iload 158 dX11_against_156 rfl rfl ?_
              refine fW_if_eq 161 165 (by decide) dX11_against_158 rfl rfl (fun c25 => ?_) (fun c25 => ?_)
              · refine fW_iconst 166 dX11_against_165 rfl ?_
                refine fW_iadd 167 dX11_against_166 rfl ?_
                refine fW_istore_n 168 (ls' := [some (rv G 418), none, some (iv v2), some (iv (v3 + 0)), some (iv v4), some (iv 0), some (iv 0)]) dX11_against_167 rfl rfl rfl (by decide) ?_
                refine fW_iinc 171 (ls' := [some (rv G 418), none, some (iv v2), some (iv (v3 + 0)), some (iv (v4 + 1)), some (iv 0), some (iv 0)]) dX11_against_168 rfl rfl rfl (by decide) ?_
                refine fW_goto 62 dX11_against_171 rfl ?_
                obtain ⟨c26, h⟩ := fS h
                exact fW_sb (ih v2 (v3 + 0) (v4 + 1) M gv2 c26 (rg_succ' gv4 (by decide) c13) h) ⟨rfl, rfl, rfl, rfl, trivial⟩
              · exact absurd c25 (by decide)
            · exact absurd c24 (by decide)
        · replace h := fTt h c16
          refine fW_iload 94 dX11_against_92 rfl rfl ?_
          refine fW_goto 153 dX11_against_94 rfl ?_
          refine fW_istore 155 (ls' := [some (rv G 418), none, some (iv v2), some (iv v3), some (iv v4), some (iv 0), some (iv 0)]) dX11_against_153 rfl rfl (by decide) ?_
          refine fW_iload_n 156 dX11_against_155 rfl rfl ?_
          refine fW_iload 158 dX11_against_156 rfl rfl ?_
          refine fW_if_eq 161 165 (by decide) dX11_against_158 rfl rfl (fun c27 => ?_) (fun c27 => ?_)
          · refine fW_iconst 166 dX11_against_165 rfl ?_
            refine fW_iadd 167 dX11_against_166 rfl ?_
            refine fW_istore_n 168 (ls' := [some (rv G 418), none, some (iv v2), some (iv (v3 + 0)), some (iv v4), some (iv 0), some (iv 0)]) dX11_against_167 rfl rfl rfl (by decide) ?_
            refine fW_iinc 171 (ls' := [some (rv G 418), none, some (iv v2), some (iv (v3 + 0)), some (iv (v4 + 1)), some (iv 0), some (iv 0)]) dX11_against_168 rfl rfl rfl (by decide) ?_
            refine fW_goto 62 dX11_against_171 rfl ?_
            obtain ⟨c28, h⟩ := fS h
            exact fW_sb (ih v2 (v3 + 0) (v4 + 1) M gv2 c28 (rg_succ' gv4 (by decide) c13) h) ⟨rfl, rfl, rfl, rfl, trivial⟩
          · exact absurd c27 (by decide)
      · replace h := fFf h c15
        refine fW_iconst 82 dX11_against_81 rfl ?_
        refine fW_goto 86 dX11_against_82 rfl ?_
        refine fW_istore 88 (ls' := [some (rv G 418), none, some (iv v2), some (iv v3), some (iv v4), some (iv 1), none]) dX11_against_86 rfl rfl (by decide) ?_
        refine fW_iload_n 89 dX11_against_88 rfl rfl ?_
        refine fW_if_ne 92 97 gv2 dX11_against_89 rfl rfl (fun c29 => ?_) (fun c29 => ?_)
        · replace h := fFf h c29
          refine fW_iload_n 98 dX11_against_97 rfl rfl ?_
          refine fW_iconst 99 dX11_against_98 rfl ?_
          refine fW_icmp_ne 102 132 gv2 (by decide) dX11_against_99 rfl rfl (fun c30 => ?_) (fun c30 => ?_)
          · replace h := fFf h c30
            refine fW_iload 134 dX11_against_132 rfl rfl ?_
            refine fW_if_ne 137 152 (by decide) dX11_against_134 rfl rfl (fun c31 => ?_) (fun c31 => ?_)
            · refine fW_iconst 153 dX11_against_152 rfl ?_
              refine fW_istore 155 (ls' := [some (rv G 418), none, some (iv v2), some (iv v3), some (iv v4), some (iv 1), some (iv 0)]) dX11_against_153 rfl rfl (by decide) ?_
              refine fW_iload_n 156 dX11_against_155 rfl rfl ?_
              refine fW_iload 158 dX11_against_156 rfl rfl ?_
              refine fW_if_eq 161 165 (by decide) dX11_against_158 rfl rfl (fun c32 => ?_) (fun c32 => ?_)
              · refine fW_iconst 166 dX11_against_165 rfl ?_
                refine fW_iadd 167 dX11_against_166 rfl ?_
                refine fW_istore_n 168 (ls' := [some (rv G 418), none, some (iv v2), some (iv (v3 + 0)), some (iv v4), some (iv 1), some (iv 0)]) dX11_against_167 rfl rfl rfl (by decide) ?_
                refine fW_iinc 171 (ls' := [some (rv G 418), none, some (iv v2), some (iv (v3 + 0)), some (iv (v4 + 1)), some (iv 1), some (iv 0)]) dX11_against_168 rfl rfl rfl (by decide) ?_
                refine fW_goto 62 dX11_against_171 rfl ?_
                obtain ⟨c33, h⟩ := fS h
                exact fW_sb (ih v2 (v3 + 0) (v4 + 1) M gv2 c33 (rg_succ' gv4 (by decide) c13) h) ⟨rfl, rfl, rfl, rfl, trivial⟩
              · exact absurd c32 (by decide)
            · exact absurd c31 (by decide)
          · replace h := fTt h c30
            refine fW_iload 104 dX11_against_102 rfl rfl ?_
            refine fW_if_eq 107 128 (by decide) dX11_against_104 rfl rfl (fun c34 => ?_) (fun c34 => ?_)
            · exact absurd c34 (by decide)
            · refine fW_aload_n 108 dX11_against_107 rfl rfl ?_
              refine fW_getR 111 (r := 437) 25 hg clX11 (by decide) rfl tc_418 tf_11_25 wd_1199 dX11_against_108 rfl ?_
              refine fW_iload 113 dX11_against_111 rfl rfl ?_
              refine fW_iald 114 hg tc_437 ⟨c14.1, by rw [show Ln 437 = 200 from rfl]; exact c14.2⟩ dX11_against_113 rfl ?_
              refine fW_aload_n 115 dX11_against_114 rfl rfl ?_
              refine fW_getR 118 (r := 422) 5 hg clX11 (by decide) rfl tc_418 tf_11_5 wd_1179 dX11_against_115 rfl ?_
              refine fW_iload 120 dX11_against_118 rfl rfl ?_
              refine fW_iald 121 hg tc_422 ⟨c14.1, by rw [show Ln 422 = 200 from rfl]; exact c14.2⟩ dX11_against_120 rfl ?_
              refine fW_icmp_eq 124 128 (hR 437 v4) (hR 422 v4) dX11_against_121 rfl rfl (fun c35 => ?_) (fun c35 => ?_)
              · replace h := fTt h c35
                refine fW_iconst 129 dX11_against_128 rfl ?_
                refine fW_goto 153 dX11_against_129 rfl ?_
                refine fW_istore 155 (ls' := [some (rv G 418), none, some (iv v2), some (iv v3), some (iv v4), some (iv 1), some (iv 0)]) dX11_against_153 rfl rfl (by decide) ?_
                refine fW_iload_n 156 dX11_against_155 rfl rfl ?_
                refine fW_iload 158 dX11_against_156 rfl rfl ?_
                refine fW_if_eq 161 165 (by decide) dX11_against_158 rfl rfl (fun c36 => ?_) (fun c36 => ?_)
                · refine fW_iconst 166 dX11_against_165 rfl ?_
                  refine fW_iadd 167 dX11_against_166 rfl ?_
                  refine fW_istore_n 168 (ls' := [some (rv G 418), none, some (iv v2), some (iv (v3 + 0)), some (iv v4), some (iv 1), some (iv 0)]) dX11_against_167 rfl rfl rfl (by decide) ?_
                  refine fW_iinc 171 (ls' := [some (rv G 418), none, some (iv v2), some (iv (v3 + 0)), some (iv (v4 + 1)), some (iv 1), some (iv 0)]) dX11_against_168 rfl rfl rfl (by decide) ?_
                  refine fW_goto 62 dX11_against_171 rfl ?_
                  obtain ⟨c37, h⟩ := fS h
                  exact fW_sb (ih v2 (v3 + 0) (v4 + 1) M gv2 c37 (rg_succ' gv4 (by decide) c13) h) ⟨rfl, rfl, rfl, rfl, trivial⟩
                · exact absurd c36 (by decide)
              · replace h := fFf h c35
                refine fW_iconst 125 dX11_against_124 rfl ?_
                refine fW_goto 153 dX11_against_125 rfl ?_
                refine fW_istore 155 (ls' := [some (rv G 418), none, some (iv v2), some (iv v3), some (iv v4), some (iv 1), some (iv 1)]) dX11_against_153 rfl rfl (by decide) ?_
                refine fW_iload_n 156 dX11_against_155 rfl rfl ?_
                refine fW_iload 158 dX11_against_156 rfl rfl ?_
                refine fW_if_eq 161 165 (by decide) dX11_against_158 rfl rfl (fun c38 => ?_) (fun c38 => ?_)
                · exact absurd c38 (by decide)
                · refine fW_iconst 162 dX11_against_161 rfl ?_
                  refine fW_goto 166 dX11_against_162 rfl ?_
                  refine fW_iadd 167 dX11_against_166 rfl ?_
                  refine fW_istore_n 168 (ls' := [some (rv G 418), none, some (iv v2), some (iv (v3 + 1)), some (iv v4), some (iv 1), some (iv 1)]) dX11_against_167 rfl rfl rfl (by decide) ?_
                  refine fW_iinc 171 (ls' := [some (rv G 418), none, some (iv v2), some (iv (v3 + 1)), some (iv (v4 + 1)), some (iv 1), some (iv 1)]) dX11_against_168 rfl rfl rfl (by decide) ?_
                  refine fW_goto 62 dX11_against_171 rfl ?_
                  obtain ⟨c39, h⟩ := fS h
                  exact fW_sb (ih v2 (v3 + 1) (v4 + 1) M gv2 c39 (rg_succ' gv4 (by decide) c13) h) ⟨rfl, rfl, rfl, rfl, trivial⟩
        · replace h := fTt h c29
          refine fW_iload 94 dX11_against_92 rfl rfl ?_
          refine fW_goto 153 dX11_against_94 rfl ?_
          refine fW_istore 155 (ls' := [some (rv G 418), none, some (iv v2), some (iv v3), some (iv v4), some (iv 1), some (iv 1)]) dX11_against_153 rfl rfl (by decide) ?_
          refine fW_iload_n 156 dX11_against_155 rfl rfl ?_
          refine fW_iload 158 dX11_against_156 rfl rfl ?_
          refine fW_if_eq 161 165 (by decide) dX11_against_158 rfl rfl (fun c40 => ?_) (fun c40 => ?_)
          · exact absurd c40 (by decide)
          · refine fW_iconst 162 dX11_against_161 rfl ?_
            refine fW_goto 166 dX11_against_162 rfl ?_
            refine fW_iadd 167 dX11_against_166 rfl ?_
            refine fW_istore_n 168 (ls' := [some (rv G 418), none, some (iv v2), some (iv (v3 + 1)), some (iv v4), some (iv 1), some (iv 1)]) dX11_against_167 rfl rfl rfl (by decide) ?_
            refine fW_iinc 171 (ls' := [some (rv G 418), none, some (iv v2), some (iv (v3 + 1)), some (iv (v4 + 1)), some (iv 1), some (iv 1)]) dX11_against_168 rfl rfl rfl (by decide) ?_
            refine fW_goto 62 dX11_against_171 rfl ?_
            obtain ⟨c41, h⟩ := fS h
            exact fW_sb (ih v2 (v3 + 1) (v4 + 1) M gv2 c41 (rg_succ' gv4 (by decide) c13) h) ⟨rfl, rfl, rfl, rfl, trivial⟩
def j_X11_against_28  (v1 : Int) (v2 : Int) (x1 : Int) (M : fMem) : Option (Int × fMem) := (if 0 ≤ x1 ∧ x1 ≤ 1 then ((f_X11_right x1 1 M).bind fun (r5 : Int × fMem) => (if r5.1 = 0 then some (0, r5.2) else (if v2 = 3 then ((f_X11_shutYet v1 r5.2).bind fun (r43 : Int) => some (r43, r5.2)) else ((f_X11_laysSeen v1 r5.2).bind fun (r9 : fMem) => ((f_X11_laysKeys r9).bind fun (r11 : fMem) => L_X11_against_62 (fun (v3_42 : Int) (M_42 : fMem) => some (v3_42, M_42)) 20000 v2 0 0 r11))))) else none)
set_option maxRecDepth 100000 in
set_option maxHeartbeats 4000000 in
theorem i_X11_against_28 {G : fG} (hg : gbt G = true)  {v1 : Int} {v2 : Int} {x1 : Int} (gv1 : rg v1) (gv2 : rg v2) (gx1 : rg x1) {M : fMem} {q : Int × fMem} (h : j_X11_against_28 v1 v2 x1 M = some q) : fW G mX11_against (fEm G mX11_against (rP q.2 q.1) fNo) 0 0 28 [some (rv G 418), some (iv v1), some (iv v2), none, none, none, none] [iv x1, rv G 418] M := by
  rw [j_X11_against_28] at h
  refine fW_rg (fun hR => ?_)
  refine fW_iconst 29 dX11_against_28 rfl ?_
  obtain ⟨c4, h⟩ := fS h
  obtain ⟨r5, e5, h⟩ := fBd h
  refine fW_cB (fI_V (as := [iv x1, iv 1]) (rest := []) miX11_right hg clX11 rfl tc_418 wd_1396 (fRoom_of rfl) rfl (Nat.le_of_ble_eq_true rfl) dX11_against_29) (s_X11_right hg c4 (by decide) e5) rfl rfl rfl (fun g5 => ?_)
  refine fW_rg (fun hR6 => ?_)
  refine fW_if_ne 35 37 (rg_z g5) dX11_against_32 rfl rfl (fun c7 => ?_) (fun c7 => ?_)
  · replace h := fFf h c7
    refine fW_iload_n 38 dX11_against_37 rfl rfl ?_
    refine fW_iconst 39 dX11_against_38 rfl ?_
    refine fW_icmp_ne 42 48 gv2 (by decide) dX11_against_39 rfl rfl (fun c8 => ?_) (fun c8 => ?_)
    · replace h := fFf h c8
      refine fW_aload_n 49 dX11_against_48 rfl rfl ?_
      refine fW_iload_n 50 dX11_against_49 rfl rfl ?_
      obtain ⟨r9, e9, h⟩ := fBd h
      refine fW_cV (fI_V (as := [iv v1]) (rest := []) miX11_laysSeen hg clX11 rfl tc_418 wd_1628 (fRoom_of rfl) rfl (Nat.le_of_ble_eq_true rfl) dX11_against_50) (s_X11_laysSeen hg gv1 e9) rfl rfl rfl ?_
      refine fW_rg (fun hR10 => ?_)
      refine fW_aload_n 54 dX11_against_53 rfl rfl ?_
      obtain ⟨r11, e11, h⟩ := fBd h
      refine fW_cV (fI_V (as := []) (rest := []) miX11_laysKeys hg clX11 rfl tc_418 wd_1384 (fRoom_of rfl) rfl (Nat.le_of_ble_eq_true rfl) dX11_against_54) (s_X11_laysKeys hg e11) rfl rfl rfl ?_
      refine fW_rg (fun hR12 => ?_)
      refine fW_iconst 58 dX11_against_57 rfl ?_
      refine fW_istore_n 59 (ls' := [some (rv G 418), some (iv v1), some (iv v2), some (iv 0), none, none, none]) dX11_against_58 rfl rfl rfl (by decide) ?_
      refine fW_iconst 60 dX11_against_59 rfl ?_
      refine fW_istore 62 (ls' := [some (rv G 418), some (iv v1), some (iv v2), some (iv 0), some (iv 0), none, none]) dX11_against_60 rfl rfl (by decide) ?_
      refine fW_sb (l_X11_against_62 hg ?_ 20000 v2 0 0 r11 gv2 (by decide) (by decide) h) ⟨rfl, rfl, rfl, rfl, trivial⟩
      intro v3_42 M_42 gv3_42 h
      refine fW_rg (fun hR_42 => ?_)
      refine fW_iload_n 175 dX11_against_174 rfl rfl ?_
      exact fW_iret rfl (by decide) (by decide) dX11_against_175 (rI_i h gv3_42)
    · replace h := fTt h c8
      refine fW_aload_n 43 dX11_against_42 rfl rfl ?_
      refine fW_iload_n 44 dX11_against_43 rfl rfl ?_
      obtain ⟨r43, e43, h⟩ := fBd h
      refine fW_cP (fI_V (as := [iv v1]) (rest := []) miX11_shutYet hg clX11 rfl tc_418 wd_1640 (fRoom_of rfl) rfl (Nat.le_of_ble_eq_true rfl) dX11_against_44) (s_X11_shutYet hg gv1 e43) rfl rfl rfl (fun g43 => ?_)
      exact fW_iret rfl (by decide) (by decide) dX11_against_47 (rI_i h g43)
  · replace h := fTt h c7
    refine fW_iconst 36 dX11_against_35 rfl ?_
    exact fW_iret rfl (by decide) (by decide) dX11_against_36 (rI_i h (by decide))
def j_X11_against_27  (v1 : Int) (v2 : Int) (M : fMem) : Option (Int × fMem) := j_X11_against_28 v1 v2 0 M
set_option maxRecDepth 100000 in
set_option maxHeartbeats 4000000 in
theorem i_X11_against_27 {G : fG} (hg : gbt G = true)  {v1 : Int} {v2 : Int} (gv1 : rg v1) (gv2 : rg v2) {M : fMem} {q : Int × fMem} (h : j_X11_against_27 v1 v2 M = some q) : fW G mX11_against (fEm G mX11_against (rP q.2 q.1) fNo) 0 0 27 [some (rv G 418), some (iv v1), some (iv v2), none, none, none, none] [rv G 418] M := by
  rw [j_X11_against_27] at h
  refine fW_rg (fun hR => ?_)
  refine fW_iconst 28 dX11_against_27 rfl ?_
  exact fW_sb (i_X11_against_28 hg gv1 gv2 (by decide) h) ⟨rfl, rfl, rfl, trivial⟩
def f_X11_against (a1 : Int) (a2 : Int) (M : fMem) : Option (Int × fMem) := ((some (mset M 418 4 0)).bind fun (N1 : fMem) => ((f_X11_isTakenView a1 N1).bind fun (r2 : Int) => (if r2 = 0 then j_X11_against_27 a1 a2 N1 else ((f_X11_isIn a2 0 3 N1).bind fun (r44 : Int) => (if r44 = 0 then j_X11_against_27 a1 a2 N1 else j_X11_against_28 a1 a2 1 N1)))))
set_option maxRecDepth 100000 in
set_option maxHeartbeats 4000000 in
theorem s_X11_against {G : fG} (hg : gbt G = true) {a1 : Int} (ga1 : rg a1) {a2 : Int} (ga2 : rg a2) {M : fMem} {q : Int × fMem} (h : f_X11_against a1 a2 M = some q) : fSp G mX11_against [rv G 418, iv a1, iv a2] M (rP q.2 q.1) fNo := by
  refine fSp_of (by decide +kernel) (by decide +kernel) (fC1 rfl (fC1 rfl (fC1 rfl fC0))) (Nat.le_of_ble_eq_true rfl) ?_
  show fW G mX11_against (fEm G mX11_against (rP q.2 q.1) fNo) 0 0 0 [some (rv G 418), some (iv a1), some (iv a2), none, none, none, none] [] M
  rw [f_X11_against] at h
  refine fW_rg (fun hR => ?_)
  refine fW_aload_n 1 dX11_against_0 rfl rfl ?_
  refine fW_iconst 2 dX11_against_1 rfl ?_
  obtain ⟨N1, e1, h⟩ := fBd h
  replace e1 := Option.some.inj e1
  refine fW_putI 5 4 (ji := 4) hg clX11 rfl (by decide) rfl rfl rfl tc_418 (by decide) wd_1178 dX11_against_2 rfl ?_
  rw [e1]
  refine fW_rg (fun hR1 => ?_)
  refine fW_aload_n 6 dX11_against_5 rfl rfl ?_
  refine fW_aload_n 7 dX11_against_6 rfl rfl ?_
  refine fW_iload_n 8 dX11_against_7 rfl rfl ?_
  obtain ⟨r2, e2, h⟩ := fBd h
  refine fW_cB (fI_V (as := [iv a1]) (rest := [rv G 418]) miX11_isTakenView hg clX11 rfl tc_418 wd_1620 (fRoom_of rfl) rfl (Nat.le_of_ble_eq_true rfl) dX11_against_8) (s_X11_isTakenView hg ga1 e2) rfl rfl rfl (fun g2 => ?_)
  refine fW_if_eq 14 27 (rg_z g2) dX11_against_11 rfl rfl (fun c3 => ?_) (fun c3 => ?_)
  · replace h := fTt h c3
    exact fW_sb (i_X11_against_27 hg ga1 ga2 h) ⟨rfl, rfl, rfl, trivial⟩
  · replace h := fFf h c3
    refine fW_iload_n 15 dX11_against_14 rfl rfl ?_
    refine fW_iconst 16 dX11_against_15 rfl ?_
    refine fW_iconst 17 dX11_against_16 rfl ?_
    obtain ⟨r44, e44, h⟩ := fBd h
    refine fW_cB (fI_S (as := [iv a2, iv 0, iv 3]) (rest := [rv G 418]) miX11_isIn rfl wd_1272 (fRoom_of rfl) rfl (Nat.le_of_ble_eq_true rfl) dX11_against_17) (s_X11_isIn ga2 (by decide) (by decide) e44) rfl rfl rfl (fun g44 => ?_)
    refine fW_if_eq 23 27 (rg_z g44) dX11_against_20 rfl rfl (fun c45 => ?_) (fun c45 => ?_)
    · replace h := fTt h c45
      exact fW_sb (i_X11_against_27 hg ga1 ga2 h) ⟨rfl, rfl, rfl, trivial⟩
    · replace h := fFf h c45
      refine fW_iconst 24 dX11_against_23 rfl ?_
      refine fW_goto 28 dX11_against_24 rfl ?_
      exact fW_sb (i_X11_against_28 hg ga1 ga2 (by decide) h) ⟨rfl, rfl, rfl, trivial⟩
def mX11_between : fMt := (yX11_between, cX11_between, 5, some .int, { frames := 5, cells := 0, slots := 0, locals := 200 })
theorem miX11_between : fMv mX11_between 2 := ⟨⟨fM 1647 (by decide +kernel) rfl, fM 101 (by decide +kernel) rfl, ⟨by decide +kernel, by decide +kernel⟩, by decide +kernel⟩, fM 1645 (by decide +kernel) rfl, fM 1646 (by decide +kernel) rfl⟩
def L_X11_between_43  (k : Int → fMem → Option (Int × fMem)) : Nat → Int → Int → fMem → Option (Int × fMem)
  | 0, _, _, _ => none
  | n + 1, v2, v3, M => (if 200 ≤ v3 then k v2 M else (if 0 ≤ v3 ∧ v3 < 200 then ((some (mset M 438 v3 (M 437 v3))).bind fun (N12 : fMem) => L_X11_between_43  k n v2 (v3 + 1) N12) else none))
set_option maxRecDepth 100000 in
set_option maxHeartbeats 4000000 in
theorem l_X11_between_43 {G : fG} (hg : gbt G = true)  {q : Int × fMem} {k : Int → fMem → Option (Int × fMem)} (hk : ∀ (v2 : Int) (M : fMem), rg v2 → k v2 M = some q → fW G mX11_between (fEm G mX11_between (rP q.2 q.1) fNo) 0 0 68 [some (rv G 418), none, some (iv v2), none, none] [] M) : ∀ (n : Nat) (v2 : Int) (v3 : Int) (M : fMem), rg v2 → rg v3 → L_X11_between_43 k n v2 v3 M = some q → fW G mX11_between (fEm G mX11_between (rP q.2 q.1) fNo) 0 0 43 [some (rv G 418), none, some (iv v2), some (iv v3), none] [] M := by
  intro n
  induction n with
  | zero =>
    intro v2 v3 M gv2 gv3 h
    rw [L_X11_between_43] at h
    exact absurd h (by simp)
  | succ n ih =>
    intro v2 v3 M gv2 gv3 h
    rw [L_X11_between_43] at h
    refine fW_rg (fun hR => ?_)
    refine fW_iload_n 44 dX11_between_43 rfl rfl ?_
    refine fW_sipush 47 dX11_between_44 rfl (by decide) ?_
    refine fW_icmp_ge 50 68 gv3 (by decide) dX11_between_47 rfl rfl (fun c10 => ?_) (fun c10 => ?_)
    · replace h := fTt h c10
      exact fW_sb (hk v2 M gv2 h) ⟨rfl, rfl, trivial⟩
    · replace h := fFf h c10
      refine fW_aload_n 51 dX11_between_50 rfl rfl ?_
      refine fW_getR 54 (r := 438) 26 hg clX11 (by decide) rfl tc_418 tf_11_26 wd_1200 dX11_between_51 rfl ?_
      refine fW_iload_n 55 dX11_between_54 rfl rfl ?_
      refine fW_aload_n 56 dX11_between_55 rfl rfl ?_
      refine fW_getR 59 (r := 437) 25 hg clX11 (by decide) rfl tc_418 tf_11_25 wd_1199 dX11_between_56 rfl ?_
      refine fW_iload_n 60 dX11_between_59 rfl rfl ?_
      obtain ⟨c11, h⟩ := fS h
      refine fW_iald 61 hg tc_437 ⟨c11.1, by rw [show Ln 437 = 200 from rfl]; exact c11.2⟩ dX11_between_60 rfl ?_
      obtain ⟨N12, e12, h⟩ := fBd h
      replace e12 := Option.some.inj e12
      refine fW_iast 62 hg tc_438 ⟨c11.1, by rw [show Ln 438 = 200 from rfl]; exact c11.2⟩ (hR 437 v3) dX11_between_61 rfl ?_
      rw [e12]
      refine fW_rg (fun hR12 => ?_)
      refine fW_iinc 65 (ls' := [some (rv G 418), none, some (iv v2), some (iv (v3 + 1)), none]) dX11_between_62 rfl rfl rfl (by decide) ?_
      refine fW_goto 43 dX11_between_65 rfl ?_
      exact fW_sb (ih v2 (v3 + 1) N12 gv2 (rg_succ' gv3 (by decide) c10) h) ⟨rfl, rfl, rfl, trivial⟩
def L_X11_between_78  (k : Int → fMem → Option (Int × fMem)) : Nat → Int → Int → fMem → Option (Int × fMem)
  | 0, _, _, _ => none
  | n + 1, v3, v4, M => (if 200 ≤ v4 then k v3 M else (if 0 ≤ v4 ∧ v4 < 200 then (if (M 438 v4) = (M 437 v4) then (if -2147483648 ≤ v3 + 0 ∧ v3 + 0 < 2147483648 then L_X11_between_78  k n (v3 + 0) (v4 + 1) M else none) else (if -2147483648 ≤ v3 + 1 ∧ v3 + 1 < 2147483648 then L_X11_between_78  k n (v3 + 1) (v4 + 1) M else none)) else none))
set_option maxRecDepth 100000 in
set_option maxHeartbeats 4000000 in
theorem l_X11_between_78 {G : fG} (hg : gbt G = true)  {q : Int × fMem} {k : Int → fMem → Option (Int × fMem)} (hk : ∀ (v3 : Int) (M : fMem), rg v3 → k v3 M = some q → fW G mX11_between (fEm G mX11_between (rP q.2 q.1) fNo) 0 0 117 [some (rv G 418), none, none, some (iv v3), none] [] M) : ∀ (n : Nat) (v3 : Int) (v4 : Int) (M : fMem), rg v3 → rg v4 → L_X11_between_78 k n v3 v4 M = some q → fW G mX11_between (fEm G mX11_between (rP q.2 q.1) fNo) 0 0 78 [some (rv G 418), none, none, some (iv v3), some (iv v4)] [] M := by
  intro n
  induction n with
  | zero =>
    intro v3 v4 M gv3 gv4 h
    rw [L_X11_between_78] at h
    exact absurd h (by simp)
  | succ n ih =>
    intro v3 v4 M gv3 gv4 h
    rw [L_X11_between_78] at h
    refine fW_rg (fun hR => ?_)
    refine fW_iload 80 dX11_between_78 rfl rfl ?_
    refine fW_sipush 83 dX11_between_80 rfl (by decide) ?_
    refine fW_icmp_ge 86 117 gv4 (by decide) dX11_between_83 rfl rfl (fun c16 => ?_) (fun c16 => ?_)
    · replace h := fTt h c16
      exact fW_sb (hk v3 M gv3 h) ⟨rfl, rfl, trivial⟩
    · replace h := fFf h c16
      refine fW_iload_n 87 dX11_between_86 rfl rfl ?_
      refine fW_aload_n 88 dX11_between_87 rfl rfl ?_
      refine fW_getR 91 (r := 438) 26 hg clX11 (by decide) rfl tc_418 tf_11_26 wd_1200 dX11_between_88 rfl ?_
      refine fW_iload 93 dX11_between_91 rfl rfl ?_
      obtain ⟨c17, h⟩ := fS h
      refine fW_iald 94 hg tc_438 ⟨c17.1, by rw [show Ln 438 = 200 from rfl]; exact c17.2⟩ dX11_between_93 rfl ?_
      refine fW_aload_n 95 dX11_between_94 rfl rfl ?_
      refine fW_getR 98 (r := 437) 25 hg clX11 (by decide) rfl tc_418 tf_11_25 wd_1199 dX11_between_95 rfl ?_
      refine fW_iload 100 dX11_between_98 rfl rfl ?_
      refine fW_iald 101 hg tc_437 ⟨c17.1, by rw [show Ln 437 = 200 from rfl]; exact c17.2⟩ dX11_between_100 rfl ?_
      refine fW_icmp_eq 104 108 (hR 438 v4) (hR 437 v4) dX11_between_101 rfl rfl (fun c18 => ?_) (fun c18 => ?_)
      · replace h := fTt h c18
        refine fW_iconst 109 dX11_between_108 rfl ?_
        refine fW_iadd 110 dX11_between_109 rfl ?_
        refine fW_istore_n 111 (ls' := [some (rv G 418), none, none, some (iv (v3 + 0)), some (iv v4)]) dX11_between_110 rfl rfl rfl (by decide) ?_
        refine fW_iinc 114 (ls' := [some (rv G 418), none, none, some (iv (v3 + 0)), some (iv (v4 + 1))]) dX11_between_111 rfl rfl rfl (by decide) ?_
        refine fW_goto 78 dX11_between_114 rfl ?_
        obtain ⟨c19, h⟩ := fS h
        exact fW_sb (ih (v3 + 0) (v4 + 1) M c19 (rg_succ' gv4 (by decide) c16) h) ⟨rfl, rfl, rfl, trivial⟩
      · replace h := fFf h c18
        refine fW_iconst 105 dX11_between_104 rfl ?_
        refine fW_goto 109 dX11_between_105 rfl ?_
        refine fW_iadd 110 dX11_between_109 rfl ?_
        refine fW_istore_n 111 (ls' := [some (rv G 418), none, none, some (iv (v3 + 1)), some (iv v4)]) dX11_between_110 rfl rfl rfl (by decide) ?_
        refine fW_iinc 114 (ls' := [some (rv G 418), none, none, some (iv (v3 + 1)), some (iv (v4 + 1))]) dX11_between_111 rfl rfl rfl (by decide) ?_
        refine fW_goto 78 dX11_between_114 rfl ?_
        obtain ⟨c20, h⟩ := fS h
        exact fW_sb (ih (v3 + 1) (v4 + 1) M c20 (rg_succ' gv4 (by decide) c16) h) ⟨rfl, rfl, rfl, trivial⟩
def j_X11_between_27  (v1 : Int) (v2 : Int) (x1 : Int) (M : fMem) : Option (Int × fMem) := (if 0 ≤ x1 ∧ x1 ≤ 1 then ((f_X11_right x1 1 M).bind fun (r5 : Int × fMem) => (if r5.1 = 0 then some (0, r5.2) else ((f_X11_laysSeen v1 r5.2).bind fun (r8 : fMem) => L_X11_between_43 (fun (v2_13 : Int) (M_13 : fMem) => ((f_X11_laysSeen v2_13 M_13).bind fun (r14 : fMem) => L_X11_between_78 (fun (v3_21 : Int) (M_21 : fMem) => some (v3_21, M_21)) 20000 0 0 r14)) 20000 v2 0 r8))) else none)
set_option maxRecDepth 100000 in
set_option maxHeartbeats 4000000 in
theorem i_X11_between_27 {G : fG} (hg : gbt G = true)  {v1 : Int} {v2 : Int} {x1 : Int} (gv1 : rg v1) (gv2 : rg v2) (gx1 : rg x1) {M : fMem} {q : Int × fMem} (h : j_X11_between_27 v1 v2 x1 M = some q) : fW G mX11_between (fEm G mX11_between (rP q.2 q.1) fNo) 0 0 27 [some (rv G 418), some (iv v1), some (iv v2), none, none] [iv x1, rv G 418] M := by
  rw [j_X11_between_27] at h
  refine fW_rg (fun hR => ?_)
  refine fW_iconst 28 dX11_between_27 rfl ?_
  obtain ⟨c4, h⟩ := fS h
  obtain ⟨r5, e5, h⟩ := fBd h
  refine fW_cB (fI_V (as := [iv x1, iv 1]) (rest := []) miX11_right hg clX11 rfl tc_418 wd_1396 (fRoom_of rfl) rfl (Nat.le_of_ble_eq_true rfl) dX11_between_28) (s_X11_right hg c4 (by decide) e5) rfl rfl rfl (fun g5 => ?_)
  refine fW_rg (fun hR6 => ?_)
  refine fW_if_ne 34 36 (rg_z g5) dX11_between_31 rfl rfl (fun c7 => ?_) (fun c7 => ?_)
  · replace h := fFf h c7
    refine fW_aload_n 37 dX11_between_36 rfl rfl ?_
    refine fW_iload_n 38 dX11_between_37 rfl rfl ?_
    obtain ⟨r8, e8, h⟩ := fBd h
    refine fW_cV (fI_V (as := [iv v1]) (rest := []) miX11_laysSeen hg clX11 rfl tc_418 wd_1628 (fRoom_of rfl) rfl (Nat.le_of_ble_eq_true rfl) dX11_between_38) (s_X11_laysSeen hg gv1 e8) rfl rfl rfl ?_
    refine fW_rg (fun hR9 => ?_)
    refine fW_iconst 42 dX11_between_41 rfl ?_
    refine fW_istore_n 43 (ls' := [some (rv G 418), some (iv v1), some (iv v2), some (iv 0), none]) dX11_between_42 rfl rfl rfl (by decide) ?_
    refine fW_sb (l_X11_between_43 hg ?_ 20000 v2 0 r8 gv2 (by decide) h) ⟨rfl, rfl, rfl, trivial⟩
    intro v2_13 M_13 gv2_13 h
    refine fW_rg (fun hR_13 => ?_)
    refine fW_aload_n 69 dX11_between_68 rfl rfl ?_
    refine fW_iload_n 70 dX11_between_69 rfl rfl ?_
    obtain ⟨r14, e14, h⟩ := fBd h
    refine fW_cV (fI_V (as := [iv v2_13]) (rest := []) miX11_laysSeen hg clX11 rfl tc_418 wd_1628 (fRoom_of rfl) rfl (Nat.le_of_ble_eq_true rfl) dX11_between_70) (s_X11_laysSeen hg gv2_13 e14) rfl rfl rfl ?_
    refine fW_rg (fun hR15 => ?_)
    refine fW_iconst 74 dX11_between_73 rfl ?_
    refine fW_istore_n 75 (ls' := [some (rv G 418), none, some (iv v2_13), some (iv 0), none]) dX11_between_74 rfl rfl rfl (by decide) ?_
    refine fW_iconst 76 dX11_between_75 rfl ?_
    refine fW_istore 78 (ls' := [some (rv G 418), none, some (iv v2_13), some (iv 0), some (iv 0)]) dX11_between_76 rfl rfl (by decide) ?_
    refine fW_sb (l_X11_between_78 hg ?_ 20000 0 0 r14 (by decide) (by decide) h) ⟨rfl, rfl, rfl, trivial⟩
    intro v3_21 M_21 gv3_21 h
    refine fW_rg (fun hR_21 => ?_)
    refine fW_iload_n 118 dX11_between_117 rfl rfl ?_
    exact fW_iret rfl (by decide) (by decide) dX11_between_118 (rI_i h gv3_21)
  · replace h := fTt h c7
    refine fW_iconst 35 dX11_between_34 rfl ?_
    exact fW_iret rfl (by decide) (by decide) dX11_between_35 (rI_i h (by decide))
def j_X11_between_26  (v1 : Int) (v2 : Int) (M : fMem) : Option (Int × fMem) := j_X11_between_27 v1 v2 0 M
set_option maxRecDepth 100000 in
set_option maxHeartbeats 4000000 in
theorem i_X11_between_26 {G : fG} (hg : gbt G = true)  {v1 : Int} {v2 : Int} (gv1 : rg v1) (gv2 : rg v2) {M : fMem} {q : Int × fMem} (h : j_X11_between_26 v1 v2 M = some q) : fW G mX11_between (fEm G mX11_between (rP q.2 q.1) fNo) 0 0 26 [some (rv G 418), some (iv v1), some (iv v2), none, none] [rv G 418] M := by
  rw [j_X11_between_26] at h
  refine fW_rg (fun hR => ?_)
  refine fW_iconst 27 dX11_between_26 rfl ?_
  exact fW_sb (i_X11_between_27 hg gv1 gv2 (by decide) h) ⟨rfl, rfl, rfl, trivial⟩
def f_X11_between (a1 : Int) (a2 : Int) (M : fMem) : Option (Int × fMem) := ((some (mset M 418 4 0)).bind fun (N1 : fMem) => ((f_X11_isTakenView a1 N1).bind fun (r2 : Int) => (if r2 = 0 then j_X11_between_26 a1 a2 N1 else ((f_X11_isTakenView a2 N1).bind fun (r22 : Int) => (if r22 = 0 then j_X11_between_26 a1 a2 N1 else j_X11_between_27 a1 a2 1 N1)))))
set_option maxRecDepth 100000 in
set_option maxHeartbeats 4000000 in
theorem s_X11_between {G : fG} (hg : gbt G = true) {a1 : Int} (ga1 : rg a1) {a2 : Int} (ga2 : rg a2) {M : fMem} {q : Int × fMem} (h : f_X11_between a1 a2 M = some q) : fSp G mX11_between [rv G 418, iv a1, iv a2] M (rP q.2 q.1) fNo := by
  refine fSp_of (by decide +kernel) (by decide +kernel) (fC1 rfl (fC1 rfl (fC1 rfl fC0))) (Nat.le_of_ble_eq_true rfl) ?_
  show fW G mX11_between (fEm G mX11_between (rP q.2 q.1) fNo) 0 0 0 [some (rv G 418), some (iv a1), some (iv a2), none, none] [] M
  rw [f_X11_between] at h
  refine fW_rg (fun hR => ?_)
  refine fW_aload_n 1 dX11_between_0 rfl rfl ?_
  refine fW_iconst 2 dX11_between_1 rfl ?_
  obtain ⟨N1, e1, h⟩ := fBd h
  replace e1 := Option.some.inj e1
  refine fW_putI 5 4 (ji := 4) hg clX11 rfl (by decide) rfl rfl rfl tc_418 (by decide) wd_1178 dX11_between_2 rfl ?_
  rw [e1]
  refine fW_rg (fun hR1 => ?_)
  refine fW_aload_n 6 dX11_between_5 rfl rfl ?_
  refine fW_aload_n 7 dX11_between_6 rfl rfl ?_
  refine fW_iload_n 8 dX11_between_7 rfl rfl ?_
  obtain ⟨r2, e2, h⟩ := fBd h
  refine fW_cB (fI_V (as := [iv a1]) (rest := [rv G 418]) miX11_isTakenView hg clX11 rfl tc_418 wd_1620 (fRoom_of rfl) rfl (Nat.le_of_ble_eq_true rfl) dX11_between_8) (s_X11_isTakenView hg ga1 e2) rfl rfl rfl (fun g2 => ?_)
  refine fW_if_eq 14 26 (rg_z g2) dX11_between_11 rfl rfl (fun c3 => ?_) (fun c3 => ?_)
  · replace h := fTt h c3
    exact fW_sb (i_X11_between_26 hg ga1 ga2 h) ⟨rfl, rfl, rfl, trivial⟩
  · replace h := fFf h c3
    refine fW_aload_n 15 dX11_between_14 rfl rfl ?_
    refine fW_iload_n 16 dX11_between_15 rfl rfl ?_
    obtain ⟨r22, e22, h⟩ := fBd h
    refine fW_cB (fI_V (as := [iv a2]) (rest := [rv G 418]) miX11_isTakenView hg clX11 rfl tc_418 wd_1620 (fRoom_of rfl) rfl (Nat.le_of_ble_eq_true rfl) dX11_between_16) (s_X11_isTakenView hg ga2 e22) rfl rfl rfl (fun g22 => ?_)
    refine fW_if_eq 22 26 (rg_z g22) dX11_between_19 rfl rfl (fun c23 => ?_) (fun c23 => ?_)
    · replace h := fTt h c23
      exact fW_sb (i_X11_between_26 hg ga1 ga2 h) ⟨rfl, rfl, rfl, trivial⟩
    · replace h := fFf h c23
      refine fW_iconst 23 dX11_between_22 rfl ?_
      refine fW_goto 27 dX11_between_23 rfl ?_
      exact fW_sb (i_X11_between_27 hg ga1 ga2 (by decide) h) ⟨rfl, rfl, rfl, trivial⟩
def mX11_restore : fMt := (yX11_restore, cX11_restore, 3, some .int, { frames := 5, cells := 0, slots := 0, locals := 200 })
theorem miX11_restore : fMv mX11_restore 1 := ⟨⟨fM 1651 (by decide +kernel) rfl, fM 101 (by decide +kernel) rfl, ⟨by decide +kernel, by decide +kernel⟩, by decide +kernel⟩, fM 1649 (by decide +kernel) rfl, fM 1650 (by decide +kernel) rfl⟩
def L_X11_restore_22  (k : Int → fMem → Option (Int × fMem)) : Nat → Int → Int → fMem → Option (Int × fMem)
  | 0, _, _, _ => none
  | n + 1, v1, v2, M => (if 9 ≤ v2 then k v1 M else (if 0 ≤ 7657 + v2 ∧ 7657 + v2 < 7787 then ((some (mset M 419 (7657 + v2) 0)).bind fun (N8 : fMem) => L_X11_restore_22  k n v1 (v2 + 1) N8) else none))
set_option maxRecDepth 100000 in
set_option maxHeartbeats 4000000 in
theorem l_X11_restore_22 {G : fG} (hg : gbt G = true)  {q : Int × fMem} {k : Int → fMem → Option (Int × fMem)} (hk : ∀ (v1 : Int) (M : fMem), rg v1 → k v1 M = some q → fW G mX11_restore (fEm G mX11_restore (rP q.2 q.1) fNo) 0 0 45 [some (rv G 418), some (iv v1), none] [] M) : ∀ (n : Nat) (v1 : Int) (v2 : Int) (M : fMem), rg v1 → rg v2 → L_X11_restore_22 k n v1 v2 M = some q → fW G mX11_restore (fEm G mX11_restore (rP q.2 q.1) fNo) 0 0 22 [some (rv G 418), some (iv v1), some (iv v2)] [] M := by
  intro n
  induction n with
  | zero =>
    intro v1 v2 M gv1 gv2 h
    rw [L_X11_restore_22] at h
    exact absurd h (by simp)
  | succ n ih =>
    intro v1 v2 M gv1 gv2 h
    rw [L_X11_restore_22] at h
    refine fW_rg (fun hR => ?_)
    refine fW_iload_n 23 dX11_restore_22 rfl rfl ?_
    refine fW_bipush 25 dX11_restore_23 rfl (by decide) ?_
    refine fW_icmp_ge 28 45 gv2 (by decide) dX11_restore_25 rfl rfl (fun c6 => ?_) (fun c6 => ?_)
    · replace h := fTt h c6
      exact fW_sb (hk v1 M gv1 h) ⟨rfl, rfl, trivial⟩
    · replace h := fFf h c6
      refine fW_aload_n 29 dX11_restore_28 rfl rfl ?_
      refine fW_getR 32 (r := 419) 0 hg clX11 (by decide) rfl tc_418 tf_11_0 wd_1174 dX11_restore_29 rfl ?_
      refine fW_sipush 35 dX11_restore_32 rfl (by decide) ?_
      refine fW_iload_n 36 dX11_restore_35 rfl rfl ?_
      refine fW_iadd 37 dX11_restore_36 rfl ?_
      refine fW_iconst 38 dX11_restore_37 rfl ?_
      obtain ⟨c7, h⟩ := fS h
      obtain ⟨N8, e8, h⟩ := fBd h
      replace e8 := Option.some.inj e8
      refine fW_iast 39 hg tc_419 ⟨c7.1, by rw [show Ln 419 = 7787 from rfl]; exact c7.2⟩ (by decide) dX11_restore_38 rfl ?_
      rw [e8]
      refine fW_rg (fun hR8 => ?_)
      refine fW_iinc 42 (ls' := [some (rv G 418), some (iv v1), some (iv (v2 + 1))]) dX11_restore_39 rfl rfl rfl (by decide) ?_
      refine fW_goto 22 dX11_restore_42 rfl ?_
      exact fW_sb (ih v1 (v2 + 1) N8 gv1 (rg_succ' gv2 (by decide) c6) h) ⟨rfl, rfl, rfl, trivial⟩
def f_X11_restore (a1 : Int) (M : fMem) : Option (Int × fMem) := ((some (mset M 418 4 0)).bind fun (N1 : fMem) => ((f_X11_isTakenView a1 N1).bind fun (r2 : Int) => (if r2 = 0 then some ((-1), N1) else ((f_X11_becomes a1 N1).bind fun (r4 : fMem) => L_X11_restore_22 (fun (v1_9 : Int) (M_9 : fMem) => ((f_X11_asksAll M_9).bind fun (r10 : fMem) => ((f_X11_keptMany v1_9 r10).bind fun (r12 : Int) => some (r12, r10)))) 20000 a1 0 r4))))
set_option maxRecDepth 100000 in
set_option maxHeartbeats 4000000 in
theorem s_X11_restore {G : fG} (hg : gbt G = true) {a1 : Int} (ga1 : rg a1) {M : fMem} {q : Int × fMem} (h : f_X11_restore a1 M = some q) : fSp G mX11_restore [rv G 418, iv a1] M (rP q.2 q.1) fNo := by
  refine fSp_of (by decide +kernel) (by decide +kernel) (fC1 rfl (fC1 rfl fC0)) (Nat.le_of_ble_eq_true rfl) ?_
  show fW G mX11_restore (fEm G mX11_restore (rP q.2 q.1) fNo) 0 0 0 [some (rv G 418), some (iv a1), none] [] M
  rw [f_X11_restore] at h
  refine fW_rg (fun hR => ?_)
  refine fW_aload_n 1 dX11_restore_0 rfl rfl ?_
  refine fW_iconst 2 dX11_restore_1 rfl ?_
  obtain ⟨N1, e1, h⟩ := fBd h
  replace e1 := Option.some.inj e1
  refine fW_putI 5 4 (ji := 4) hg clX11 rfl (by decide) rfl rfl rfl tc_418 (by decide) wd_1178 dX11_restore_2 rfl ?_
  rw [e1]
  refine fW_rg (fun hR1 => ?_)
  refine fW_aload_n 6 dX11_restore_5 rfl rfl ?_
  refine fW_iload_n 7 dX11_restore_6 rfl rfl ?_
  obtain ⟨r2, e2, h⟩ := fBd h
  refine fW_cB (fI_V (as := [iv a1]) (rest := []) miX11_isTakenView hg clX11 rfl tc_418 wd_1620 (fRoom_of rfl) rfl (Nat.le_of_ble_eq_true rfl) dX11_restore_7) (s_X11_isTakenView hg ga1 e2) rfl rfl rfl (fun g2 => ?_)
  refine fW_if_ne 13 15 (rg_z g2) dX11_restore_10 rfl rfl (fun c3 => ?_) (fun c3 => ?_)
  · replace h := fFf h c3
    refine fW_aload_n 16 dX11_restore_15 rfl rfl ?_
    refine fW_iload_n 17 dX11_restore_16 rfl rfl ?_
    obtain ⟨r4, e4, h⟩ := fBd h
    refine fW_cV (fI_V (as := [iv a1]) (rest := []) miX11_becomes hg clX11 rfl tc_418 wd_1632 (fRoom_of rfl) rfl (Nat.le_of_ble_eq_true rfl) dX11_restore_17) (s_X11_becomes hg ga1 e4) rfl rfl rfl ?_
    refine fW_rg (fun hR5 => ?_)
    refine fW_iconst 21 dX11_restore_20 rfl ?_
    refine fW_istore_n 22 (ls' := [some (rv G 418), some (iv a1), some (iv 0)]) dX11_restore_21 rfl rfl rfl (by decide) ?_
    refine fW_sb (l_X11_restore_22 hg ?_ 20000 a1 0 r4 ga1 (by decide) h) ⟨rfl, rfl, rfl, trivial⟩
    intro v1_9 M_9 gv1_9 h
    refine fW_rg (fun hR_9 => ?_)
    refine fW_aload_n 46 dX11_restore_45 rfl rfl ?_
    obtain ⟨r10, e10, h⟩ := fBd h
    refine fW_cV (fI_V (as := []) (rest := []) miX11_asksAll hg clX11 rfl tc_418 wd_1328 (fRoom_of rfl) rfl (Nat.le_of_ble_eq_true rfl) dX11_restore_46) (s_X11_asksAll hg e10) rfl rfl rfl ?_
    refine fW_rg (fun hR11 => ?_)
    refine fW_aload_n 50 dX11_restore_49 rfl rfl ?_
    refine fW_iload_n 51 dX11_restore_50 rfl rfl ?_
    obtain ⟨r12, e12, h⟩ := fBd h
    refine fW_cP (fI_V (as := [iv v1_9]) (rest := []) miX11_keptMany hg clX11 rfl tc_418 wd_1608 (fRoom_of rfl) rfl (Nat.le_of_ble_eq_true rfl) dX11_restore_51) (s_X11_keptMany hg gv1_9 e12) rfl rfl rfl (fun g12 => ?_)
    exact fW_iret rfl (by decide) (by decide) dX11_restore_54 (rI_i h g12)
  · replace h := fTt h c3
    refine fW_iconst 14 dX11_restore_13 rfl ?_
    exact fW_iret rfl (by decide) (by decide) dX11_restore_14 (rI_i h (by decide))
end MTH
