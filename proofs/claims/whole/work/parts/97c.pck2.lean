/-! pack, the call -/
section PCK2
theorem frA_clm {g : Int → Int} (hi : InvS g) : clm (frA g) := by
  obtain ⟨a, b, c⟩ := frA_v g
  have n2 : ∀ r, 0 ≤ r → r < 19 → frA g (7619 + r) ≠ 2 := fun r r0 r1 => by rw [(a r r0 r1).1]; omega
  refine ⟨⟨fun r r0 r1 z => absurd z (n2 r r0 r1), fun r q r0 r1 _ _ _ z => absurd z (n2 r r0 r1), ?_⟩, fun r r0 r1 _ => a r r0 r1, fun l l0 l1 => ⟨b l l0 l1, ?_⟩, fun r r0 r1 z => absurd z (n2 r r0 r1), fun x => ?_⟩
  · have := sh_one (g := frA g) (r := 0) (l := 8) (fun q q0 q1 z => absurd z (n2 q q0 q1)) (by omega)
    omega
  · rw [c _ (by omega)]; exact (hi.2.1 l l0 l1).2.1
  · unfold frA mgF frF
    split
    · unfold rg; omega
    · split
      · unfold rg; omega
      · exact hi.2.2.2.2.2 x
theorem Inv_one {g : Int → Int} {r : Int} (h : clm g) (h1 : ∀ q, 0 ≤ q → q < 19 → g (7619 + q) = 2 → q = r) : Inv g := by
  refine ⟨InvS_clm h, fun l l0 l1 z => ?_⟩
  have := sh_one h1 ⟨l0, l1⟩
  omega
noncomputable def pkV (g : Int → Int) (r : Int) : Int → Int := sShut (pkL (nK g) r 200 0 (frA g)) r
theorem pkV_v {g : Int → Int} {r : Int} (hi : InvS g) (hv : okV g) (hr : 0 ≤ r ∧ r < 19) (hc : 0 < kS (tH (nK g)) 0 200) (hm : kS (tH (nK g)) 0 200 ≤ rmR r) (h38 : rg (g 7738 + 1)) : Inv (pkV g r) ∧ pkV g r 7738 = g 7738 + 1 ∧ ∀ x, 7666 ≤ x → x ≠ 7738 → pkV g r x = g x := by
  obtain ⟨a, b, c⟩ := frA_v g
  have cl := frA_clm hi
  have s0 := (a r hr.1 hr.2).2
  have i0 : pkI r (frA g) 0 (frA g) := ⟨by omega, fun j j0 j1 => by omega, fun i j i0 ij j1 => by omega, fun _ _ _ _ => rfl, cl.2.2.2.2⟩
  obtain ⟨p1, p2⟩ := pkL_I (F := nK g) (g0 := frA g) hr (fun κ _ _ => hV_bd hv _ (ordL_mem hv)) 200 0 (frA g) (by omega) (by omega) i0 (by omega)
  obtain ⟨G, hG⟩ : ∃ G, G = pkL (nK g) r 200 0 (frA g) := ⟨_, rfl⟩
  rw [← hG] at p1 p2
  obtain ⟨q1, q2, q3, q4, q5⟩ := p1
  have g38 : G 7738 = g 7738 := by rw [q4 7738 (by omega) (by omega) (by omega), c 7738 (by omega)]
  have e : pkV g r = sShut G r := by unfold pkV; rw [← hG]
  have v1 : pkV g r (7619 + r) = 2 := by rw [e]; unfold sShut; rw [us_ne (by omega), us_ne (by omega), us_eq]
  have v2 : pkV g r 7738 = g 7738 + 1 := by rw [e]; unfold sShut; rw [us_ne (by omega), us_eq, g38]
  have v3 : pkV g r (7638 + r) = g 7738 + 1 := by rw [e]; unfold sShut; rw [us_eq, g38]
  have v4 : ∀ x, x ≠ 7619 + r → x ≠ 7738 → x ≠ 7638 + r → pkV g r x = G x := fun x x1 x2 x3 => by rw [e]; unfold sShut; rw [us_ne x3, us_ne x2, us_ne x1]
  have rb := rmR_bd r
  have own : ∀ q, 0 ≤ q → q < 19 → q ≠ r → pkV g r (7619 + q) = 0 ∧ pkV g r (7600 + q) = 0 := fun q z0 z1 z2 => by
    rw [v4 _ (by omega) (by omega) (by omega), v4 _ (by omega) (by omega) (by omega), q4 _ (by omega) (by omega) (by omega), q4 _ (by omega) (by omega) (by omega)]
    exact a q z0 z1
  have one : ∀ q, 0 ≤ q → q < 19 → pkV g r (7619 + q) = 2 → q = r := fun q z0 z1 z2 => by
    by_cases y : q = r
    · exact y
    · have := (own q z0 z1 y).1; omega
  have sz : pkV g r (7600 + r) = kS (tH (nK g)) 0 200 := by rw [v4 _ (by omega) (by omega) (by omega), p2]; omega
  have far : ∀ x, 7666 ≤ x → x ≠ 7738 → pkV g r x = g x := fun x x0 x1 => by
    rw [v4 _ (by omega) x1 (by omega), q4 _ (by omega) (by omega) (by omega), c _ (by omega)]
  refine ⟨Inv_one ⟨⟨fun q z0 z1 z2 => ?_, fun q t z0 z1 y0 y1 ne z2 y2 => ?_, ?_⟩, fun q z0 z1 z2 => ?_, fun l l0 l1 => ?_, fun q z0 z1 z2 => ?_, fun x => ?_⟩ one, v2, far⟩
  · have := one q z0 z1 z2
    subst this
    have kk : ∀ j, 0 ≤ j → j < pkV g q (7600 + q) → pkV g q (200 * q + j) = G (200 * q + j) ∧ pkV g q (3800 + 200 * q + j) = G (3800 + 200 * q + j) := fun j j0 j1 => ⟨v4 _ (by omega) (by omega) (by omega), v4 _ (by omega) (by omega) (by omega)⟩
    refine ⟨Or.inr (Or.inr v1), by omega, fun z => by omega, fun _ => by omega, fun j j0 j1 => ?_, fun i j i0 ij j1 => ?_⟩
    · rw [(kk j j0 j1).1, (kk j j0 j1).2]
      have := q2 j j0 (by omega); omega
    · rw [(kk i i0 (by omega)).1, (kk j (by omega) j1).1]
      exact q3 i j i0 ij (by omega)
  · have h1 := one q z0 z1 z2
    have h2 := one t y0 y1 y2
    omega
  · have := sh_one one (l := 8) (by omega); omega
  · exact own q z0 z1 (fun y => by subst y; exact z2 v1)
  · rw [v4 _ (by omega) (by omega) (by omega), q4 _ (by omega) (by omega) (by omega), far (7666 + l) (by omega) (by omega)]
    exact ⟨b l l0 l1, (hi.2.1 l l0 l1).2.1⟩
  · have := one q z0 z1 z2
    subst this
    omega
  · rw [e]
    unfold sShut
    rw [g38]
    exact us_rg (us_rg (us_rg q5 (by unfold rg; omega)) h38) h38 x
theorem K_pack {M : fMem} {n : Int} (h : St M n) (hn : n < 600) : ∃ v M1 M2, f_X10_pack M = some (v, M1) ∧ f_X11_pack M1 = some (v, M2) ∧ St M2 (n + 1) := by
  obtain ⟨A, a1, a2, a3, a4⟩ := C_read h
  obtain ⟨g, hg⟩ : ∃ g, g = M 419 := ⟨_, rfl⟩
  rw [← hg] at a4
  have gA : A 419 = g := by rw [a3 419 (by omega), hg]
  obtain ⟨hR, hv⟩ := C_rel a2
  obtain ⟨hc, hs, h16, hn0⟩ := a2
  rw [gA] at hc hs hv
  have hI : InvS g := hs.1.1.1
  have h38 := Run_rg hs.1 (x := 7738) (by unfold isC; omega)
  obtain ⟨f1, f2, f3⟩ := frA_v g
  obtain ⟨B, b1', b2⟩ := c_freeAll (M0 := A) (g := g) ⟨hc.1, frm_rf 1 71 A⟩
  obtain ⟨C, hC⟩ : ∃ C, C = mset B 0 11 1 := ⟨_, rfl⟩
  have cn : ∀ x, x ≠ 0 → C x = B x := fun x hx => by rw [hC, mset_ne hx]
  have rC : RF 1 C C (frA g) := ⟨⟨fun r r0 r1 => rowE_cg ⟨r0, r1⟩ (b2.1.1 r r0 r1) ⟨cn _ (by omega), cn _ (by omega), cn _ (by omega)⟩ (fun _ _ => rfl), fun l l0 l1 => mrgE_cg ⟨l0, l1⟩ (b2.1.2.1 l l0 l1) (cn _ (by omega)) (fun _ _ => rfl), ctrE_cg b2.1.2.2 (cn _ (by omega)) (fun _ _ _ => rfl)⟩, frm_rf 1 71 C⟩
  have cA : ∀ x, 72 ≤ x → C x = A x := fun x hx => by rw [cn x (by omega), b2.2 x (by omega)]
  have c33 : ∀ κ, 0 ≤ κ → κ < 200 → C 233 κ = nK g κ := fun κ k0 k1 => by rw [cA 233 (by omega)]; exact (a4.1 κ k0 k1).1
  have bd := kS_bd (f := tH (nK g)) 200 0 (fun j _ _ => tH_bd _ _)
  have kt : f_X2_keysThere 232 0 199 C = some (kS (tH (nK g)) 0 200) := by
    rw [c_keysThere (by omega) (by omega)]
    have ek : kS (tH (C 233)) 0 (199 + 1 - 0 : Int).toNat = kS (tH (nK g)) 0 200 := kS_cg _ _ (fun j j0 j1 => by unfold tH; rw [c33 j (by omega) (by omega)])
    show some (kS (tH (C 233)) 0 (199 + 1 - 0 : Int).toNat) = _
    rw [ek]
  have hn9 : St A n := by unfold St; rw [gA]; exact ⟨hc, hs, h16, hn0⟩
  -- the reference from a memory E with the class's part done
  have ref : ∀ E : fMem, (∀ x, 72 ≤ x → E x = A x) → ∃ N1, f_X11_thereMany (mset E 418 4 0) = some (kS (tH (nK g)) 0 200, N1) ∧ (∀ κ, 0 ≤ κ → κ < 200 → N1 422 κ = nK g κ) ∧ N1 419 = g ∧ ∀ x, x ≠ 422 → x ≠ 423 → x ≠ 424 → N1 x = mset E 418 4 0 x := by
    intro E hE
    have e9 : mset E 418 4 0 419 = g := by rw [mset_ne (by omega), hE 419 (by omega), gA]
    obtain ⟨N1, t1, t2, t3⟩ := r_laysKeys (M := mset E 418 4 0) (by rw [e9]; exact hv)
    rw [e9] at t2
    refine ⟨N1, ?_, fun κ k0 k1 => (t2 κ k0 k1).2.1, by rw [t3 419 (by omega) (by omega) (by omega), e9], t3⟩
    unfold f_X11_thereMany
    refine bc t1 ?_
    rw [r_thereL 200 20000 0 0 (by omega) (by omega) (by omega) (by omega) (by omega), Int.zero_add]
    rw [kS_cg (f := tH (N1 422)) (f1 := tH (nK g)) _ _ (fun j j0 j1 => by unfold tH; rw [(t2 j (by omega) (by omega)).2.1]; rfl)]
  -- the state behind it
  have fin : ∀ (E Q : fMem) (g1 : Int → Int), (∀ x, 72 ≤ x → E x = A x) → RelE 1 E g1 → E 0 10 = A 0 10 → E 0 11 = 1 → Inv g1 → (g1 7738 = g 7738 ∨ g1 7738 = g 7738 + 1) → (∀ x, 7666 ≤ x → x ≠ 7738 → g1 x = g x) → (∀ x, x ≠ 418 → x ≠ 419 → x ≠ 422 → x ≠ 423 → x ≠ 424 → Q x = E x) → Q 419 = g1 → (∀ i, i ≠ 4 → Q 418 i = E 418 i) → St Q (n + 1) := by
    intro E Q g1 hE rE e10 e11 iv v38 far qn q9 q18
    have TTn := TTs n
    have qa : ∀ x, 425 ≤ x → Q x = A x := fun x hx => by rw [qn x (by omega) (by omega) (by omega) (by omega) (by omega), hE x (by omega)]
    unfold St
    rw [q9, qa 435 (by omega), qa 436 (by omega), qn 421 (by omega) (by omega) (by omega) (by omega) (by omega), hE 421 (by omega), q18 3 (by omega), q18 16 (by omega), hE 418 (by omega), TTn]
    have lo : ∀ x, x < 418 → Q x = E x := fun x hx => qn x (by omega) (by omega) (by omega) (by omega) (by omega)
    refine ⟨CR_en2 hc ?_ (fun x hx => by rw [lo x (by omega), hE x (by omega)]) (by rw [lo 0 (by omega), e10]) (by rw [lo 0 (by omega), e11]) (fun x hx => far x (by omega) (by omega)), SI_new hs iv (fun x hx => ?_) (fun x hx => far x (by omega) (by omega)) (by unfold TT; omega), by omega, by omega⟩
    · exact ⟨fun r r0 r1 => rowE_cg ⟨r0, r1⟩ (rE.1 r r0 r1) ⟨lo _ (by omega), lo _ (by omega), lo _ (by omega)⟩ (fun _ _ => rfl), fun l l0 l1 => mrgE_cg ⟨l0, l1⟩ (rE.2.1 l l0 l1) (lo _ (by omega)) (fun _ _ => rfl), ctrE_cg rE.2.2 (lo _ (by omega)) (fun _ _ _ => rfl)⟩
    · unfold isC at hx
      by_cases y : x = 7738
      · subst y; omega
      · rw [far x (by omega) y]; omega
  have C010 : C 0 10 = A 0 10 := by rw [hC, mset_slot (by omega), b2.2 0 (by omega)]
  have C011 : C 0 11 = 1 := by rw [hC, mset_self]
  by_cases z : kS (tH (nK g)) 0 200 = 0
  · obtain ⟨N1, t1, t2, t3, t4⟩ := ref C cA
    refine ⟨0, C, oset N1 419 (frA g), ?_, ?_, ?_⟩
    · unfold f_X10_pack
      refine bc a1 (bc b1' (bs fun x e => ?_))
      rw [← hC] at e
      rw [e]
      exact bc kt (it z rfl)
    · unfold f_X11_pack
      refine bs fun x e => ?_
      subst e
      refine bc t1 (bc r_freesAll (it z ?_))
      show some ((0 : Int), oset N1 419 (frA (N1 419))) = _
      rw [t3]
    · exact fin C _ (frA g) cA rC.1 C010 C011 (Inv_one (r := 0) (frA_clm hI) (fun q q0 q1 y => by have := (f1 q q0 q1).1; omega)) (Or.inl (f3 7738 (by omega))) (fun x x0 _ => f3 x (by omega)) (fun x x1 x2 x3 x4 x5 => by rw [os_ne x2, t4 x x3 x4 x5, mset_ne x1]) (os _ _ _) (fun i hi => by rw [os_ne (by omega), t4 418 (by omega) (by omega) (by omega), mset_slot hi])
  · obtain ⟨l, l1, l2, l3, l4⟩ := lvl_for (c := kS (tH (nK g)) 0 200) (by omega) 8 0 (by omega)
    obtain ⟨r, hr⟩ : ∃ r : Int, r = 2 * (l : Int) := ⟨_, rfl⟩
    rw [← hr] at l2
    have s0 := (f1 r (by omega) (by omega)).2
    obtain ⟨w1, w2, w3⟩ := pkV_v hI hv (r := r) (by omega) (by omega) l2 h38
    have i0 : pkI r (frA g) 0 (frA g) := ⟨by omega, fun j j0 j1 => by omega, fun i j i0 ij j1 => by omega, fun _ _ _ _ => rfl, (frA_clm hI).2.2.2.2⟩
    obtain ⟨p1, p2⟩ := pkL_I (F := nK g) (g0 := frA g) (r := r) (by omega) (fun κ _ _ => hV_bd hv _ (ordL_mem hv)) 200 0 (frA g) (by omega) (by omega) i0 (by omega)
    have pg : rg (pkL (nK g) r 200 0 (frA g) 7738 + 1) := by rw [p1.2.2.2.1 7738 (by omega) (by omega) (by omega), f3 7738 (by omega)]; exact h38
    obtain ⟨D, d1, d2⟩ := c_pkL (M0 := C) (F := nK g) (r := r) (c := kS (tH (nK g)) 0 200) (k := fun (v1_18 : Int) (w2_18 : Nat) (M_18 : fMem) => ((f_X0_shut 1 w2_18 M_18).bind fun (r19 : fMem) => some (v1_18, r19))) (by omega) c33 200 20000 0 C (frA g) (by omega) (by omega) (by omega) rC (by omega) (by omega)
    obtain ⟨E, e1, e2⟩ := c_shut (r := r) d2 (by omega) pg
    rw [show 1 + 3 * r.toNat + 4 = 3 * r.toNat + 5 by omega] at e1
    have eC : ∀ x, x < 1 ∨ 72 ≤ x → E x = C x := fun x hx => e2.2 x (by omega)
    have eA : ∀ x, 72 ≤ x → E x = A x := fun x hx => by rw [eC x (by omega), cA x hx]
    obtain ⟨N1, t1, t2, t3, t4⟩ := ref E eA
    have rr := r_pkL (N := N1) (F := nK g) (r := r) (c := kS (tH (nK g)) 0 200) (k := fun (v1_23 : Int) (v3_23 : Int) (M_23 : fMem) => ((f_X11_shuts v3_23 M_23).bind fun (r24 : fMem) => some (v1_23, r24))) (by omega) t2 200 20000 0 (frA g) (by omega) (by omega) (by omega) (by omega) (by omega)
    have es := e_shuts (M := N1) (r := r) (g := pkL (nK g) r 200 0 (frA g)) (by omega) pg
    refine ⟨kS (tH (nK g)) 0 200, E, oset N1 419 (pkV g r), ?_, ?_, ?_⟩
    · unfold f_X10_pack
      refine bc a1 (bc b1' (bs fun x e => ?_))
      rw [← hC] at e
      rw [e]
      refine bc kt (ie z (bc (l3 C 20000 (by omega)) (bc (r := r) ?_ (it (by omega) ?_))))
      · unfold f_X10_at
        have fr : FR (l : Int) + 0 = r := by unfold FR; omega
        rw [fr]
        exact it (by omega) (it (by omega) rfl)
      · exact d1.trans (bc e1 rfl)
    · unfold f_X11_pack
      refine bs fun x e => ?_
      subst e
      refine bc t1 (bc r_freesAll (ie z ?_))
      show L_X11_pack_22 _ 20000 (kS (tH (nK g)) 0 200) 0 (oset N1 419 (frA (N1 419))) = _
      rw [t3]
      have l5 := l4 (oset N1 419 (frA g)) (fun (v1_11 : Int) (v2_11 : Int) (M_11 : fMem) => ((f_X11_rowAt v2_11 0 M_11).bind fun (r12 : Int) => L_X11_pack_44 (fun (v1_23 : Int) (v3_23 : Int) (M_23 : fMem) => ((f_X11_shuts v3_23 M_23).bind fun (r24 : fMem) => some (v1_23, r24))) 20000 v1_11 r12 0 M_11)) 20000 (by omega)
      refine l5.trans (bc (r := r) ?_ (rr.trans (bc es rfl)))
      unfold f_X11_rowAt
      rw [show 2 * (l : Int) + 0 = r by omega]
      exact it (by omega) rfl
    · exact fin E _ (pkV g r) eA e2.1 (by rw [eC 0 (by omega), C010]) (by rw [eC 0 (by omega), C011]) w1 (Or.inr w2) w3 (fun x x1 x2 x3 x4 x5 => by rw [os_ne x2, t4 x x3 x4 x5, mset_ne x1]) (os _ _ _) (fun i hi => by rw [os_ne (by omega), t4 418 (by omega) (by omega) (by omega), mset_slot hi])
end PCK2
