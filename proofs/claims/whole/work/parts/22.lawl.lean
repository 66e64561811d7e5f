section LAWL
variable {G : fG}
def L_law (sc : Int → Int) (sn : Int) : Nat → Int → fMem → Option Int
  | 0, _, _ => none
  | n + 1, i, M => (if sn - 6 < i then some 1 else (if 0 ≤ i ∧ i < sn then (if sc i % 2 ^ 6 = 0 then law_c0 sc sn (fun (N : fMem) => L_law sc sn n (i + 6) N) i M else (if sc i % 2 ^ 6 = 1 then law_c1 sc sn (fun (N : fMem) => L_law sc sn n (i + 6) N) i M else (if sc i % 2 ^ 6 = 2 then law_c2 sc sn (fun (N : fMem) => L_law sc sn n (i + 6) N) i M else (if sc i % 2 ^ 6 = 3 then law_c3 sc sn (fun (N : fMem) => L_law sc sn n (i + 6) N) i M else (if sc i % 2 ^ 6 = 4 then law_c4 sc sn (fun (N : fMem) => L_law sc sn n (i + 6) N) i M else (if sc i % 2 ^ 6 = 5 then law_c5 sc sn (fun (N : fMem) => L_law sc sn n (i + 6) N) i M else (if sc i % 2 ^ 6 = 6 then law_c6 sc sn (fun (N : fMem) => L_law sc sn n (i + 6) N) i M else (if sc i % 2 ^ 6 = 7 then law_c7 sc sn (fun (N : fMem) => L_law sc sn n (i + 6) N) i M else (if sc i % 2 ^ 6 = 8 then law_c8 sc sn (fun (N : fMem) => L_law sc sn n (i + 6) N) i M else (if sc i % 2 ^ 6 = 9 then law_c9 sc sn (fun (N : fMem) => L_law sc sn n (i + 6) N) i M else (if sc i % 2 ^ 6 = 10 then law_c10 sc sn (fun (N : fMem) => L_law sc sn n (i + 6) N) i M else (if sc i % 2 ^ 6 = 11 then law_c11 sc sn (fun (N : fMem) => L_law sc sn n (i + 6) N) i M else (if sc i % 2 ^ 6 = 12 then law_c12 sc sn (fun (N : fMem) => L_law sc sn n (i + 6) N) i M else (if sc i % 2 ^ 6 = 13 then law_c13 sc sn (fun (N : fMem) => L_law sc sn n (i + 6) N) i M else (if sc i % 2 ^ 6 = 14 then law_c14 sc sn (fun (N : fMem) => L_law sc sn n (i + 6) N) i M else (if sc i % 2 ^ 6 = 15 then law_c15 sc sn (fun (N : fMem) => L_law sc sn n (i + 6) N) i M else (if sc i % 2 ^ 6 = 16 then law_c16 sc sn (fun (N : fMem) => L_law sc sn n (i + 6) N) i M else (if sc i % 2 ^ 6 = 17 then law_c17 sc sn (fun (N : fMem) => L_law sc sn n (i + 6) N) i M else (if sc i % 2 ^ 6 = 18 then law_c18 sc sn (fun (N : fMem) => L_law sc sn n (i + 6) N) i M else (if sc i % 2 ^ 6 = 19 then law_c19 sc sn (fun (N : fMem) => L_law sc sn n (i + 6) N) i M else (if sc i % 2 ^ 6 = 20 then law_c20 sc sn (fun (N : fMem) => L_law sc sn n (i + 6) N) i M else (if sc i % 2 ^ 6 = 21 then law_c21 sc sn (fun (N : fMem) => L_law sc sn n (i + 6) N) i M else (if sc i % 2 ^ 6 = 22 then law_c22 sc sn (fun (N : fMem) => L_law sc sn n (i + 6) N) i M else (if sc i % 2 ^ 6 = 23 then law_c23 sc sn (fun (N : fMem) => L_law sc sn n (i + 6) N) i M else (if sc i % 2 ^ 6 = 24 then law_c24 sc sn (fun (N : fMem) => L_law sc sn n (i + 6) N) i M else (if sc i % 2 ^ 6 = 25 then law_c25 sc sn (fun (N : fMem) => L_law sc sn n (i + 6) N) i M else (if sc i % 2 ^ 6 = 26 then law_c26 sc sn (fun (N : fMem) => L_law sc sn n (i + 6) N) i M else (if sc i % 2 ^ 6 = 27 then law_c27 sc sn (fun (N : fMem) => L_law sc sn n (i + 6) N) i M else (if sc i % 2 ^ 6 = 28 then law_c28 sc sn (fun (N : fMem) => L_law sc sn n (i + 6) N) i M else (if sc i % 2 ^ 6 = 29 then law_c29 sc sn (fun (N : fMem) => L_law sc sn n (i + 6) N) i M else (if sc i % 2 ^ 6 = 30 then law_c30 sc sn (fun (N : fMem) => L_law sc sn n (i + 6) N) i M else (if sc i % 2 ^ 6 = 31 then law_c31 sc sn (fun (N : fMem) => L_law sc sn n (i + 6) N) i M else (if sc i % 2 ^ 6 = 32 then law_c32 sc sn (fun (N : fMem) => L_law sc sn n (i + 6) N) i M else L_law sc sn n (i + 6) M))))))))))))))))))))))))))))))))) else none))
theorem fW_lret {c0 s0 pc : Nat} {ls : List (Option Value)} {M : fMem} (hc : c0 ≤ 601024) (hs : s0 ≤ 7293034) (d : decode code pc = .ok (.ireturn, 1)) : fW G mL_law (fEL G) c0 s0 pc ls [iv 1] M := by
  intro p e s m args below meth c H locs la z hC hP hS hL
  by_cases hq : args = #[Value.ref (gsb G)] ∧ z = gb G
  · obtain ⟨rfl, hz⟩ := hq
    have hsz := hC.size
    have h1 : W p (gl G) e room_1 s m #[Value.ref (gsb G)] below meth c H ([] ++ locs) 601024 7293034 (lw_Z below #[Value.ref (gsb G)] s) (F0 m pc la [.int 1]) := W.forget (fun q hq => by
      rcases hS.2.2 q hq with h | h
      · rw [hsz, hz]; exact h.1
      · rw [hsz]; exact h) (lw_ret hC.exec hC.bytes hC.ret hC.locks d)
    refine W.widen hc hs ?_
    intro T hT X
    obtain ⟨t, h2, h3⟩ := h1 T hT X
    exact ⟨t, h2, fun _ => h3⟩
  · intro T hT X
    exact ⟨_, Steps.refl _, fun h => absurd h hq⟩
set_option maxRecDepth 100000 in
set_option maxHeartbeats 4000000 in
theorem l_law (hg : gbt G = true) (hL3 : gsn G ≤ 3072) {sc : Int → Int} {sn : Int} (hsc : scr G = sc) (hsn : (gsn G : Int) = sn) (rsc : ∀ i, rg (sc i)) : ∀ (n : Nat), n ≤ 600 → ∀ (i : Int) (M : fMem), 0 ≤ i → i ≤ sn → L_law sc sn n i M = some 1 → fW G mL_law (fEL G) (604 + (600 - n) * 6) (183005 + (600 - n) * 36) 23 [some (.ref (gsb G)), some (rv G 0), some (rv G 418), some (rv G 439), some (iv i), none, none] [] M := by
  intro n
  induction n with
  | zero =>
    intro _ i M _ _ h
    rw [L_law] at h
    exact absurd h (by simp)
  | succ n ih =>
    intro hnF i M hi0 hin h
    rw [L_law] at h
    have hsn3 : sn ≤ 3072 := by omega
    have gi : rg i := ⟨by omega, by omega⟩
    have gsn' : rg (sn - 6) := ⟨by omega, by omega⟩
    refine fW_rg (fun hR => ?_)
    refine fW_iload 25 dL_law_23 rfl rfl ?_
    refine fW_aload_n 26 dL_law_25 rfl rfl ?_
    refine fW_slen 27 hL3 dL_law_26 rfl ?_
    rw [hsn]
    refine fW_bipush 29 dL_law_27 rfl (by decide) ?_
    refine fW_isub 30 dL_law_29 rfl ?_
    refine fW_icmp_gt 33 2026 gi gsn' dL_law_30 rfl rfl (fun c1 => ?_) (fun c1 => ?_)
    · refine fW_iconst 2027 dL_law_2026 rfl ?_
      exact fW_lret (by omega) (by omega) dL_law_2027
    · replace h := fFf h c1
      obtain ⟨c2, h⟩ := fS h
      refine fW_aload_n 34 dL_law_33 rfl rfl ?_
      refine fW_iload 36 dL_law_34 rfl rfl ?_
      refine fW_sld 37 hL3 (by rw [← hsn] at c2; exact c2) dL_law_36 rfl ?_
      rw [show scr G i = sc i from congrFun hsc _]
      refine fW_bipush 39 dL_law_37 rfl (by decide) ?_
      refine fW_iand 40 6 (by decide) (by decide) dL_law_39 rfl ?_
      have gop : rg (sc i % 2 ^ 6) := by
        have h1 : 0 ≤ sc i % 2 ^ 6 := Int.emod_nonneg _ (by decide)
        have h2 : sc i % 2 ^ 6 < 64 := Int.emod_lt_of_pos _ (by decide)
        exact ⟨by omega, by omega⟩
      have hk : ∀ N : fMem, L_law sc sn n (i + 6) N = some 1 → fW G mL_law (fEL G) (604 + (600 - (n + 1)) * 6 + 6) (183005 + (600 - (n + 1)) * 36 + 36) 2020 [some (.ref (gsb G)), some (rv G 0), some (rv G 418), some (rv G 439), some (iv i), none, none] [] N := by
        intro N hN
        refine fW_iinc 2023 (ls' := [some (.ref (gsb G)), some (rv G 0), some (rv G 418), some (rv G 439), some (iv (i + 6)), none, none]) dL_law_2020 rfl rfl rfl (by decide) ?_
        refine fW_goto 23 dL_law_2023 rfl ?_
        refine fW_wide (c1 := 604 + (600 - n) * 6) (s1 := 183005 + (600 - n) * 36) (by omega) (by omega) ?_
        exact ih (by omega) (i + 6) N (by omega) (by omega) hN
      by_cases y0 : sc i % 2 ^ 6 = 0
      · replace h := fTt h y0
        refine fW_tabIn 188 y0 (by decide) dL_law_40 (by decide) (by decide) rfl rfl ?_
        exact t_law_c0 hg hL3 hsc hsn rsc (by omega) (by omega) gi hk h
      replace h := fFf h y0
      by_cases y1 : sc i % 2 ^ 6 = 1
      · replace h := fTt h y1
        refine fW_tabIn 261 y1 (by decide) dL_law_40 (by decide) (by decide) rfl rfl ?_
        exact t_law_c1 hg hL3 hsc hsn rsc (by omega) (by omega) gi hk h
      replace h := fFf h y1
      by_cases y2 : sc i % 2 ^ 6 = 2
      · replace h := fTt h y2
        refine fW_tabIn 286 y2 (by decide) dL_law_40 (by decide) (by decide) rfl rfl ?_
        exact t_law_c2 hg hL3 hsc hsn rsc (by omega) (by omega) gi hk h
      replace h := fFf h y2
      by_cases y3 : sc i % 2 ^ 6 = 3
      · replace h := fTt h y3
        refine fW_tabIn 323 y3 (by decide) dL_law_40 (by decide) (by decide) rfl rfl ?_
        exact t_law_c3 hg hL3 hsc hsn rsc (by omega) (by omega) gi hk h
      replace h := fFf h y3
      by_cases y4 : sc i % 2 ^ 6 = 4
      · replace h := fTt h y4
        refine fW_tabIn 348 y4 (by decide) dL_law_40 (by decide) (by decide) rfl rfl ?_
        exact t_law_c4 hg hL3 hsc hsn rsc (by omega) (by omega) gi hk h
      replace h := fFf h y4
      by_cases y5 : sc i % 2 ^ 6 = 5
      · replace h := fTt h y5
        refine fW_tabIn 373 y5 (by decide) dL_law_40 (by decide) (by decide) rfl rfl ?_
        exact t_law_c5 hg hL3 hsc hsn rsc (by omega) (by omega) gi hk h
      replace h := fFf h y5
      by_cases y6 : sc i % 2 ^ 6 = 6
      · replace h := fTt h y6
        refine fW_tabIn 398 y6 (by decide) dL_law_40 (by decide) (by decide) rfl rfl ?_
        exact t_law_c6 hg hL3 hsc hsn rsc (by omega) (by omega) gi hk h
      replace h := fFf h y6
      by_cases y7 : sc i % 2 ^ 6 = 7
      · replace h := fTt h y7
        refine fW_tabIn 423 y7 (by decide) dL_law_40 (by decide) (by decide) rfl rfl ?_
        exact t_law_c7 hg hL3 hsc hsn rsc (by omega) (by omega) gi hk h
      replace h := fFf h y7
      by_cases y8 : sc i % 2 ^ 6 = 8
      · replace h := fTt h y8
        refine fW_tabIn 448 y8 (by decide) dL_law_40 (by decide) (by decide) rfl rfl ?_
        exact t_law_c8 hg hL3 hsc hsn rsc (by omega) (by omega) gi hk h
      replace h := fFf h y8
      by_cases y9 : sc i % 2 ^ 6 = 9
      · replace h := fTt h y9
        refine fW_tabIn 532 y9 (by decide) dL_law_40 (by decide) (by decide) rfl rfl ?_
        exact t_law_c9 hg hL3 hsc hsn rsc (by omega) (by omega) gi hk h
      replace h := fFf h y9
      by_cases y10 : sc i % 2 ^ 6 = 10
      · replace h := fTt h y10
        refine fW_tabIn 612 y10 (by decide) dL_law_40 (by decide) (by decide) rfl rfl ?_
        exact t_law_c10 hg hL3 hsc hsn rsc (by omega) (by omega) gi hk h
      replace h := fFf h y10
      by_cases y11 : sc i % 2 ^ 6 = 11
      · replace h := fTt h y11
        refine fW_tabIn 720 y11 (by decide) dL_law_40 (by decide) (by decide) rfl rfl ?_
        exact t_law_c11 hg hL3 hsc hsn rsc (by omega) (by omega) gi hk h
      replace h := fFf h y11
      by_cases y12 : sc i % 2 ^ 6 = 12
      · replace h := fTt h y12
        refine fW_tabIn 800 y12 (by decide) dL_law_40 (by decide) (by decide) rfl rfl ?_
        exact t_law_c12 hg hL3 hsc hsn rsc (by omega) (by omega) gi hk h
      replace h := fFf h y12
      by_cases y13 : sc i % 2 ^ 6 = 13
      · replace h := fTt h y13
        refine fW_tabIn 856 y13 (by decide) dL_law_40 (by decide) (by decide) rfl rfl ?_
        exact t_law_c13 hg hL3 hsc hsn rsc (by omega) (by omega) gi hk h
      replace h := fFf h y13
      by_cases y14 : sc i % 2 ^ 6 = 14
      · replace h := fTt h y14
        refine fW_tabIn 912 y14 (by decide) dL_law_40 (by decide) (by decide) rfl rfl ?_
        exact t_law_c14 hg hL3 hsc hsn rsc (by omega) (by omega) gi hk h
      replace h := fFf h y14
      by_cases y15 : sc i % 2 ^ 6 = 15
      · replace h := fTt h y15
        refine fW_tabIn 968 y15 (by decide) dL_law_40 (by decide) (by decide) rfl rfl ?_
        exact t_law_c15 hg hL3 hsc hsn rsc (by omega) (by omega) gi hk h
      replace h := fFf h y15
      by_cases y16 : sc i % 2 ^ 6 = 16
      · replace h := fTt h y16
        refine fW_tabIn 1036 y16 (by decide) dL_law_40 (by decide) (by decide) rfl rfl ?_
        exact t_law_c16 hg hL3 hsc hsn rsc (by omega) (by omega) gi hk h
      replace h := fFf h y16
      by_cases y17 : sc i % 2 ^ 6 = 17
      · replace h := fTt h y17
        refine fW_tabIn 1104 y17 (by decide) dL_law_40 (by decide) (by decide) rfl rfl ?_
        exact t_law_c17 hg hL3 hsc hsn rsc (by omega) (by omega) gi hk h
      replace h := fFf h y17
      by_cases y18 : sc i % 2 ^ 6 = 18
      · replace h := fTt h y18
        refine fW_tabIn 1172 y18 (by decide) dL_law_40 (by decide) (by decide) rfl rfl ?_
        exact t_law_c18 hg hL3 hsc hsn rsc (by omega) (by omega) gi hk h
      replace h := fFf h y18
      by_cases y19 : sc i % 2 ^ 6 = 19
      · replace h := fTt h y19
        refine fW_tabIn 1252 y19 (by decide) dL_law_40 (by decide) (by decide) rfl rfl ?_
        exact t_law_c19 hg hL3 hsc hsn rsc (by omega) (by omega) gi hk h
      replace h := fFf h y19
      by_cases y20 : sc i % 2 ^ 6 = 20
      · replace h := fTt h y20
        refine fW_tabIn 1344 y20 (by decide) dL_law_40 (by decide) (by decide) rfl rfl ?_
        exact t_law_c20 hg hL3 hsc hsn rsc (by omega) (by omega) gi hk h
      replace h := fFf h y20
      by_cases y21 : sc i % 2 ^ 6 = 21
      · replace h := fTt h y21
        refine fW_tabIn 1436 y21 (by decide) dL_law_40 (by decide) (by decide) rfl rfl ?_
        exact t_law_c21 hg hL3 hsc hsn rsc (by omega) (by omega) gi hk h
      replace h := fFf h y21
      by_cases y22 : sc i % 2 ^ 6 = 22
      · replace h := fTt h y22
        refine fW_tabIn 1492 y22 (by decide) dL_law_40 (by decide) (by decide) rfl rfl ?_
        exact t_law_c22 hg hL3 hsc hsn rsc (by omega) (by omega) gi hk h
      replace h := fFf h y22
      by_cases y23 : sc i % 2 ^ 6 = 23
      · replace h := fTt h y23
        refine fW_tabIn 1548 y23 (by decide) dL_law_40 (by decide) (by decide) rfl rfl ?_
        exact t_law_c23 hg hL3 hsc hsn rsc (by omega) (by omega) gi hk h
      replace h := fFf h y23
      by_cases y24 : sc i % 2 ^ 6 = 24
      · replace h := fTt h y24
        refine fW_tabIn 1616 y24 (by decide) dL_law_40 (by decide) (by decide) rfl rfl ?_
        exact t_law_c24 hg hL3 hsc hsn rsc (by omega) (by omega) gi hk h
      replace h := fFf h y24
      by_cases y25 : sc i % 2 ^ 6 = 25
      · replace h := fTt h y25
        refine fW_tabIn 1672 y25 (by decide) dL_law_40 (by decide) (by decide) rfl rfl ?_
        exact t_law_c25 hg hL3 hsc hsn rsc (by omega) (by omega) gi hk h
      replace h := fFf h y25
      by_cases y26 : sc i % 2 ^ 6 = 26
      · replace h := fTt h y26
        refine fW_tabIn 1728 y26 (by decide) dL_law_40 (by decide) (by decide) rfl rfl ?_
        exact t_law_c26 hg hL3 hsc hsn rsc (by omega) (by omega) gi hk h
      replace h := fFf h y26
      by_cases y27 : sc i % 2 ^ 6 = 27
      · replace h := fTt h y27
        refine fW_tabIn 1741 y27 (by decide) dL_law_40 (by decide) (by decide) rfl rfl ?_
        exact t_law_c27 hg hL3 hsc hsn rsc (by omega) (by omega) gi hk h
      replace h := fFf h y27
      by_cases y28 : sc i % 2 ^ 6 = 28
      · replace h := fTt h y28
        refine fW_tabIn 1766 y28 (by decide) dL_law_40 (by decide) (by decide) rfl rfl ?_
        exact t_law_c28 hg hL3 hsc hsn rsc (by omega) (by omega) gi hk h
      replace h := fFf h y28
      by_cases y29 : sc i % 2 ^ 6 = 29
      · replace h := fTt h y29
        refine fW_tabIn 1791 y29 (by decide) dL_law_40 (by decide) (by decide) rfl rfl ?_
        exact t_law_c29 hg hL3 hsc hsn rsc (by omega) (by omega) gi hk h
      replace h := fFf h y29
      by_cases y30 : sc i % 2 ^ 6 = 30
      · replace h := fTt h y30
        refine fW_tabIn 1859 y30 (by decide) dL_law_40 (by decide) (by decide) rfl rfl ?_
        exact t_law_c30 hg hL3 hsc hsn rsc (by omega) (by omega) gi hk h
      replace h := fFf h y30
      by_cases y31 : sc i % 2 ^ 6 = 31
      · replace h := fTt h y31
        refine fW_tabIn 1927 y31 (by decide) dL_law_40 (by decide) (by decide) rfl rfl ?_
        exact t_law_c31 hg hL3 hsc hsn rsc (by omega) (by omega) gi hk h
      replace h := fFf h y31
      by_cases y32 : sc i % 2 ^ 6 = 32
      · replace h := fTt h y32
        refine fW_tabIn 1995 y32 (by decide) dL_law_40 (by decide) (by decide) rfl rfl ?_
        exact t_law_c32 hg hL3 hsc hsn rsc (by omega) (by omega) gi hk h
      replace h := fFf h y32
      refine fW_tabOut 2020 gop dL_law_40 (by omega) rfl ?_
      refine fW_wide (c1 := 604 + (600 - (n + 1)) * 6 + 6) (s1 := 183005 + (600 - (n + 1)) * 36 + 36) (by omega) (by omega) ?_
      exact hk M h
/-- from the entry till both are made -/
theorem t_pro {E : fE} (hg : gbt G = false) {M0 M2 M4 : fMem} (h0 : M0 440 0 = 0) (h1 : f_X10_init 0 (mnew M0) = some M2) (h2 : M2 440 0 = 418) (h3 : f_X11_init 418 (mnew M2) = some M4) (h4 : M4 440 0 = 439) (k : fW G mL_law E 604 183005 23 [some (.ref (gsb G)), some (rv G 0), some (rv G 418), some (rv G 439), some (iv 0), none, none] [] (mnew M4)) : fW G mL_law E 0 0 0 [some (.ref (gsb G)), none, none, none, none, none, none] [] M0 := by
  refine fU_new 3 hg clX10 dfX10 (by omega) (by omega) (by rw [h0]; rfl) wc_109 wi_10 wn_10 (by decide) (by decide) dL_law_0 rfl ?_
  rw [show (M0 440 0).toNat = 0 by rw [h0]; rfl]
  refine fW_dup 4 dL_law_3 rfl rfl ?_
  refine fU_cV 582 89915 (fI_I (as := []) (rest := [rv G 0]) miX10_init rfl wd_111 (fRoom_of rfl) rfl (Nat.le_of_ble_eq_true rfl) dL_law_4) (s_X10_init hg h1) rfl rfl rfl ?_
  refine fW_astore_n 8 (ls' := [some (.ref (gsb G)), some (rv G 0), none, none, none, none, none]) dL_law_7 rfl rfl rfl (by decide) ?_
  refine fU_new 11 hg clX11 dfX11 (by omega) (by omega) (by rw [h2]; rfl) wc_1168 wi_11 wn_11 (by decide) (by decide) dL_law_8 rfl ?_
  rw [show (M2 440 0).toNat = 418 by rw [h2]; rfl]
  refine fW_dup 12 dL_law_11 rfl rfl ?_
  refine fU_cV 603 183004 (fI_I (as := []) (rest := [rv G 418]) miX11_init rfl wd_1170 (fRoom_of rfl) rfl (Nat.le_of_ble_eq_true rfl) dL_law_12) (s_X11_init hg h3) rfl rfl rfl ?_
  refine fW_astore_n 16 (ls' := [some (.ref (gsb G)), some (rv G 0), some (rv G 418), none, none, none, none]) dL_law_15 rfl rfl rfl (by decide) ?_
  refine fW_iconst 17 dL_law_16 rfl ?_
  refine fU_newa 19 (atype := .long) rfl hg (Or.inr (Or.inr ⟨rfl, rfl, rfl⟩)) (by omega) (by omega) (by rw [h4]; rfl) (by rw [h4]; rfl) (by decide) wa_18 (by decide) (sx := 1) (by decide) (by decide) dL_law_17 rfl ?_
  rw [show (M4 440 0).toNat = 439 by rw [h4]; rfl]
  refine fW_astore_n 20 (ls' := [some (.ref (gsb G)), some (rv G 0), some (rv G 418), some (rv G 439), none, none, none]) dL_law_19 rfl rfl rfl (by decide) ?_
  refine fW_iconst 21 dL_law_20 rfl ?_
  refine fW_istore 23 (ls' := [some (.ref (gsb G)), some (rv G 0), some (rv G 418), some (rv G 439), some (iv 0), none, none]) dL_law_21 rfl rfl (by decide) ?_
  exact k
/-- all is made: from now on references stand -/
def gBt (G : fG) : fG := (gl G, gD G, gcA G, gst G, gb G, true, gsb G, gsn G, gsx G)
def fAll (M : fMem) : Prop := M 440 0 = 440 ∧ (∀ k, k < 440 → ∀ j : Nat, (fRt (Ty k) j).isSome → M k j ≠ 0) ∧ ∀ k, k < 440 → 14 ≤ Ty k → Ty k < 18 → ∀ j : Nat, j < Lnn k → M k j ≠ 0
theorem fP_build (hg : gbt G = false) {M : fMem} {H : Heap} (hA : fAll M) (hP : fP G M H) : fP (gBt G) M H := by
  have hN : gN G M = 440 := by rw [gN_un hg, hA.1]; rfl
  have hN2 : gN (gBt G) M = 440 := by simp [gN, gBt, gbt]
  refine ⟨?_, hP.2.1, by rw [hN2]; exact Nat.le_refl _, fun h => by simp [gBt, gbt] at h⟩
  intro k q hk
  obtain ⟨hk1, rfl⟩ := fWs_inv hk
  rw [hN2] at hk1
  have h9 := hP.1 k _ (fWs_get (by rw [hN]; exact hk1))
  by_cases t1 : Ty k < 12
  · rw [fCell_obj rfl t1] at h9 ⊢
    have hfs : fFs (gBt G) M k (Ty k) = fFs G M k (Ty k) := by
      unfold fFs
      apply List.map_congr_left
      intro j _
      unfold fFv
      cases hr : fRt (Ty k) j with
      | none => rfl
      | some u =>
        have h0 := hA.2.1 k hk1 j (by rw [hr]; rfl)
        simp [gRf, h0, gBt, gbt, gb]
    rw [hfs]
    exact h9
  · by_cases t2 : Ty k < 14
    · rw [fCell_int rfl (by omega) t2] at h9 ⊢
      exact h9
    · by_cases t3 : Ty k < 18
      · rw [fCell_ref rfl (by omega) t3] at h9 ⊢
        have h8 : H[gb G + k]? = some (vp_cell (gcA G (Ty k)) (Lnn k, .inr (.inr (.inr (.inr (fun j => gRf G M k j)))))) := h9
        show H[gb G + k]? = some (vp_cell (gcA G (Ty k)) (Lnn k, .inr (.inr (.inr (.inr (fun j => gRf (gBt G) M k j))))))
        rw [h8, vp_cell_q, vp_cell_q]
        congr 1
        unfold arrV
        congr 1
        apply Array.ext_getElem?
        intro j
        by_cases hj : j < Lnn k
        · have h0 := hA.2.2 k hk1 (by omega) t3 j hj
          simp [hj, gRf, h0, gBt, gbt, gb]
        · simp [hj]
      · have t4 : Ty k = 18 := by
          have h5 : ∀ k, k < 440 → Ty k ≤ 18 := by decide +kernel
          have := h5 k hk1
          omega
        rw [fCell_long t4] at h9 ⊢
        exact h9
theorem fW_build {mt : fMt} {c0 s0 pc : Nat} {ls : List (Option Value)} {st : List Value} {M : fMem} (hg : gbt G = false) (hA : fAll M) (k : fW (gBt G) mt (fEL (gBt G)) c0 s0 pc ls st M) : fW G mt (fEL G) c0 s0 pc ls st M := by
  intro p e s m args below meth c H locs la z hC hP hS hL
  exact k p e s m args below meth c H locs la z hC (fP_build hg hA hP) hS hL
end LAWL
