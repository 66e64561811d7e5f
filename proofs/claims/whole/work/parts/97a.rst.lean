/-! restore -/
section RST
def rsV (h g : Int → Int) : Int → Int := mgF (bec h g) 9
theorem rsV_v {h g : Int → Int} (ho : okV h) : agV h (rsV h g) ∧ (∀ r, 0 ≤ r → r < 19 → h (7619 + r) ≠ 2 → rsV h g (7619 + r) = 0 ∧ rsV h g (7600 + r) = 0) ∧ (∀ l, 0 ≤ l → l ≤ 8 → rsV h g (7657 + l) = 0) ∧ ∀ x, 7666 ≤ x → rsV h g x = g x := by
  obtain ⟨a, b, c⟩ := bec_v (g := g) ho
  have e : ∀ x, x < 7657 → rsV h g x = bec h g x := fun x hx => by unfold rsV mgF; rw [if_neg (by omega)]
  refine ⟨agV_tr a (agV_of (okV_v a ho) (fun x _ x1 => e x x1)), fun r r0 r1 z => ?_, fun l l0 l1 => ?_, fun x hx => ?_⟩
  · rw [e _ (by omega), e _ (by omega)]; exact b r r0 r1 z
  · unfold rsV mgF; rw [if_pos (by omega)]
  · unfold rsV mgF; rw [if_neg (by omega)]; exact c x (by omega)
theorem rsV_clm {h g : Int → Int} (ho : okV h) (hi : InvS g) (hs : ∀ r, 0 ≤ r → r < 19 → h (7619 + r) = 2 → h (7638 + r) ≤ g 7738) (hh : ∀ x, rg (h x)) : clm (rsV h g) := by
  obtain ⟨a, b, c, d⟩ := rsV_v (g := g) ho
  refine ⟨okV_v a ho, fun r r0 r1 z => b r r0 r1 (fun y => z ((a r r0 r1).1.mpr y)), fun l l0 l1 => ⟨c l l0 l1, ?_⟩, fun r r0 r1 z => ?_, fun x => ?_⟩
  · rw [d _ (by omega)]; exact (hi.2.1 l l0 l1).2.1
  · have z0 := (a r r0 r1).1.mp z
    rw [((a r r0 r1).2 z0).2.1, d 7738 (by omega)]
    exact hs r r0 r1 z0
  · unfold rsV mgF
    split
    · unfold rg; omega
    · exact bec_rg hh hi.2.2.2.2.2 x
theorem rowE_rs {o : Nat} {M : fMem} {h g1 : Int → Int} {r : Int} (ag : agV h g1) (hr : 0 ≤ r ∧ r < 19) (hz : h (7619 + r) ≠ 2 → g1 (7619 + r) = 0 ∧ g1 (7600 + r) = 0) (c : cpd o M h r) : rowE (o + 3 * r.toNat + 3) M g1 r := by
  obtain ⟨a, b⟩ := ag r hr.1 hr.2
  by_cases q : h (7619 + r) = 2
  · obtain ⟨x1, x2, x3, x4, x5, x6⟩ := c.1 q
    obtain ⟨e1, e2, e3⟩ := b q
    have e0 := a.mpr q
    refine ⟨by rw [x1, q, e0], by rw [x2, e1], ?_, fun _ => by rw [x4 q, e2], by rw [e1]; exact x5, fun j j0 j1 => ?_⟩
    · rw [x3, e1]
      exact (sgN_cg _ (fun j j0 j1 => (e3 j j0 (by omega)).2)).symm
    · rw [(e3 j j0 (by omega)).1, (e3 j j0 (by omega)).2]
      exact x6 j j0 (by omega)
  · obtain ⟨y1, y2, y3⟩ := c.2 q
    obtain ⟨z1, z2⟩ := hz q
    have := rmR_bd r
    refine ⟨by rw [y1, z1], by rw [y2, z2], by rw [y3, z2]; rfl, fun z => by omega, by rw [z2]; omega, fun j j0 j1 => by omega⟩
theorem K_restore {M : fMem} {n a : Int} (h : St M n) (hn : n < 600) : ∃ v M1 M2, f_X10_restore a M = some (v, M1) ∧ f_X11_restore a M1 = some (v, M2) ∧ St M2 (n + 1) := by
  have ti := tkn_iff (a := a) h
  by_cases q : tkn (M 436) a
  · have ha := q.1
    have a3 : a = 0 ∨ a = 1 ∨ a = 2 := by omega
    obtain ⟨hc, hs, h16, hn0⟩ := h
    obtain ⟨g, hg⟩ : ∃ g, g = M 419 := ⟨_, rfl⟩
    obtain ⟨H, hH⟩ : ∃ H, H = kv (M 435) a := ⟨_, rfl⟩
    obtain ⟨vw1, vw2⟩ := hc.2.2.2.2.1 a ha.1 ha.2
    obtain ⟨sv1, sv2, sv3⟩ := hs.2.2.2.2.2.2.1 a ha.1 ha.2
    have hI : InvS g := by rw [hg]; exact hs.1.1.1
    have hrg : ∀ x, rg (H x) := fun x => by rw [hH]; exact hs.2.2.2.2.2.2.2 _
    have rE : RelE 1 M g := by rw [hg]; exact hc.1
    rw [← hH] at vw2 sv2 sv3
    rw [← hg] at sv3
    have cl := rsV_clm (g := g) sv2 hI sv3 hrg
    obtain ⟨g1, hg1⟩ : ∃ g1, g1 = rsV H g := ⟨_, rfl⟩
    obtain ⟨ag, ez, em, ef⟩ := rsV_v (g := g) sv2
    rw [← hg1] at cl ag ez em ef
    have hI1 := InvS_clm cl
    have h8 := fFr_clm cl
    obtain ⟨iv, -⟩ := sAll_inv 9 g1 (by omega) hI1 (fun k k0 k1 => by omega) (fun _ _ => Or.inr h8)
    obtain ⟨g2, hg2⟩ : ∃ g2, g2 = sAll g1 9 := ⟨_, rfl⟩
    have g2x : ∀ x, 7720 ≤ x → g2 x = g x := fun x hx => by rw [hg2, sAll_x hI1 (fun _ => Or.inr h8) (by omega), ef x (by omega)]
    rw [← hg2] at iv
    -- the class
    obtain ⟨A, a1, a2⟩ := c_freeAll (M0 := M) ⟨rE, frm_rf 1 71 M⟩
    obtain ⟨f1, f2, f3⟩ := frA_v g
    have vwA : RelV (60 * a.toNat + 238) A H := RelV_cg vw2 (fun x x0 x1 => a2.2 x (by omega))
    obtain ⟨B, b1', b2, b3⟩ := c_copyShut (o := 2) (Or.inl rfl) (p := 60 * a.toNat + 238) (by omega) (by omega) vwA
    have rB : RF 1 M B g1 := by
      refine ⟨⟨fun r r0 r1 => ?_, fun l l0 l1 => ?_, ?_⟩, fun x hx => by rw [b2 x (by omega), a2.2 x hx]⟩
      · have := rowE_rs ag ⟨r0, r1⟩ (ez r r0 r1) (b3 r r0 r1)
        rw [show 2 + 3 * r.toNat + 3 = 1 + 3 * r.toNat + 4 by omega] at this
        exact this
      · refine mrgE_cg ⟨l0, l1⟩ (a2.1.2.1 l l0 l1) (b2 _ (by omega)) (fun y hy => ?_)
        by_cases e : y = 7657 + l
        · rw [e, em l l0 l1, f2 l l0 l1]
        · rw [ef y (by omega), f3 y (by omega)]
      · exact ctrE_cg a2.1.2.2 (b2 _ (by omega)) (fun y hy _ => by rw [ef y (by omega), f3 y (by omega)])
    obtain ⟨C, c1, c2⟩ := c_askLevels rB hI1
    rw [← hg2] at c2
    obtain ⟨D, hD⟩ : ∃ D, D = mset C 0 11 1 := ⟨_, rfl⟩
    have dn : ∀ x, x ≠ 0 → D x = C x := fun x hx => by rw [hD, mset_ne hx]
    have rD : RelE 1 D g2 := ⟨fun r r0 r1 => rowE_cg ⟨r0, r1⟩ (c2.1.1 r r0 r1) ⟨dn _ (by omega), dn _ (by omega), dn _ (by omega)⟩ (fun _ _ => rfl), fun l l0 l1 => mrgE_cg ⟨l0, l1⟩ (c2.1.2.1 l l0 l1) (dn _ (by omega)) (fun _ _ => rfl), ctrE_cg c2.1.2.2 (dn _ (by omega)) (fun _ _ _ => rfl)⟩
    have hv2 : okV g2 := okV_of iv.1
    obtain ⟨E, e1, e2, e3⟩ := c_arrange (RelV_of rD (Or.inl rfl)).1 hv2
    have ex : ∀ x, 72 ≤ x → E x = M x := fun x hx => by rw [e3.2 x (by omega) (by omega), dn x (by omega), c2.2 x (by omega)]
    -- the reference
    have sh : ordL g2 = ordL g1 ∧ True := by
      refine ⟨?_, trivial⟩
      rw [hg2]
      refine ordL_v (fun r r0 r1 => ?_)
      have ak := (sAll_inv 9 g1 (by omega) hI1 (fun k k0 k1 => by omega) (fun _ _ => Or.inr h8)).2
      have st : sAll g1 9 (7619 + r) = 2 ↔ g1 (7619 + r) = 2 := by have := ak.2 r r0 r1; omega
      refine ⟨st, fun z => ?_⟩
      have o2 := (hI1.1 r r0 r1).2.1
      have rb := rmR_bd r
      exact ⟨sAll_x hI1 (fun _ => Or.inr h8) (by omega), sAll_x hI1 (fun _ => Or.inr h8) (by omega), fun j j0 j1 => ⟨sAll_x hI1 (fun _ => Or.inr h8) (by omega), sAll_x hI1 (fun _ => Or.inr h8) (by omega)⟩⟩
    obtain ⟨P, hP⟩ : ∃ P, P = mset E 418 4 0 := ⟨_, rfl⟩
    have pn : ∀ x, x ≠ 418 → P x = E x := fun x hx => by rw [hP, mset_ne hx]
    have p35 : P 435 = M 435 := by rw [pn 435 (by omega), ex 435 (by omega)]
    have p19 : P 419 = g := by rw [pn 419 (by omega), ex 419 (by omega), hg]
    have bb := r_becomes (M := P) ha
    rw [p35, p19, ← hH] at bb
    have rl := r_rstL (N := P) (g := bec H g) (w := a) (k := fun (v1_9 : Int) (M_9 : fMem) => ((f_X11_asksAll M_9).bind fun (r10 : fMem) => ((f_X11_keptMany v1_9 r10).bind fun (r12 : Int) => some (r12, r10)))) 9 20000 0 (by omega) (by omega) (by omega)
    rw [mgF_0] at rl
    obtain ⟨Q, hQ⟩ : ∃ Q, Q = oset P 419 g2 := ⟨_, rfl⟩
    have as : f_X11_asksAll (oset P 419 (mgF (bec H g) 9)) = some Q := by
      rw [e_asksAll, hQ, hg2, hg1]; rfl
    have q35 : Q 435 = M 435 := by rw [hQ, os_ne (by omega), p35]
    have km : f_X11_keptMany a Q = some ((ordL g2).length : Int) := by
      have := r_keptL (M := Q) ha (by rw [q35, ← hH]; exact sv2)
      rw [q35, ← hH] at this
      rw [this, sh.1, ordL_v ag]
    refine ⟨((ordL g2).length : Int), E, Q, ?_, ?_, ?_⟩
    · unfold f_X10_restore
      refine bc (c_isTaken _ _) ?_
      rw [if_pos (ti.mpr q)]
      refine ie (by omega) (bc a1 (si ha (bc b1' (bc c1 (bs fun x e => ?_)))))
      rw [← hD] at e
      rw [e]
      exact bc e1 rfl
    · unfold f_X11_restore
      refine bs fun x e => ?_
      rw [← hP] at e
      subst e
      refine bc (r_isTaken _ _) ?_
      rw [if_pos (c := tkn (x 436) a) (by rw [pn 436 (by omega), ex 436 (by omega)]; exact q)]
      exact ie (by omega) (bc bb (rl.trans (bc as (bc km rfl))))
    · have qn : ∀ x, x ≠ 418 → x ≠ 419 → Q x = E x := fun x h1 h2 => by rw [hQ, os_ne h2, pn x h1]
      have q18 : ∀ i, i ≠ 4 → Q 418 i = M 418 i := fun i hi => by rw [hQ, os_ne (by omega), hP, mset_slot hi, ex 418 (by omega)]
      have TTn := TTs n
      unfold St
      rw [show Q 419 = g2 by rw [hQ, os], q35, qn 436 (by omega) (by omega), ex 436 (by omega), qn 421 (by omega) (by omega), ex 421 (by omega), q18 3 (by omega), q18 16 (by omega), TTn]
      rw [← hg] at hc hs
      refine ⟨CR_en2 hc ?_ (fun x hx => by rw [qn x (by omega) (by omega), ex x (by omega)]) ?_ ?_ (fun x hx => g2x x (by omega)), SI_new hs iv (fun x hx => by unfold isC at hx; rw [g2x x (by omega)]; omega) (fun x hx => g2x x (by omega)) (by unfold TT; omega), by omega, by omega⟩
      · exact ⟨fun r r0 r1 => rowE_cg ⟨r0, r1⟩ (rD.1 r r0 r1) ⟨by rw [qn _ (by omega) (by omega), e3.2 _ (by omega) (by omega)], by rw [qn _ (by omega) (by omega), e3.2 _ (by omega) (by omega)], by rw [qn _ (by omega) (by omega), e3.2 _ (by omega) (by omega)]⟩ (fun _ _ => rfl), fun l l0 l1 => mrgE_cg ⟨l0, l1⟩ (rD.2.1 l l0 l1) (by rw [qn _ (by omega) (by omega), e3.2 _ (by omega) (by omega)]) (fun _ _ => rfl), ctrE_cg rD.2.2 (by rw [qn _ (by omega) (by omega), e3.2 _ (by omega) (by omega)]) (fun _ _ _ => rfl)⟩
      · rw [qn 0 (by omega) (by omega), e3.2 0 (by omega) (by omega), hD, mset_slot (by omega), c2.2 0 (by omega)]
      · rw [qn 0 (by omega) (by omega), e3.2 0 (by omega) (by omega), hD, mset_self]
  · refine ⟨-1, M, _, ?_, ?_, K_ref (c := 0) h hn⟩
    · unfold f_X10_restore
      refine bc (c_isTaken _ _) ?_
      rw [if_neg (fun z => q (ti.mp z))]
      exact it rfl rfl
    · unfold f_X11_restore
      refine bs fun x e => ?_
      subst e
      refine bc (r_isTaken _ _) ?_
      rw [if_neg (c := tkn (mset M 418 4 0 436) a) (by rw [mset_ne (by omega)]; exact q)]
      exact it rfl rfl
end RST
