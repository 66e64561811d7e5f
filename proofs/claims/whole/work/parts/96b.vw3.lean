/-! view, leave, seen -/
section VW3
theorem l_view {k : Int → fMem → Option (Int × fMem)} {w : Int} (hw : 0 ≤ w ∧ w < 3) (m : Nat) : ∀ (fu : Nat) (v : Int) (M : fMem), 0 ≤ v → 7657 - v = m → m < fu → L_X11_view_17 k fu w v M = k w (oset M 435 (fun x => if 7657 * w + v ≤ x ∧ x < 7657 * w + 7657 then M 419 (x - 7657 * w) else M 435 x)) := by
  induction m with
  | zero =>
    intro fu v M v0 hm hf
    obtain ⟨f, rfl⟩ : ∃ f, fu = f + 1 := ⟨fu - 1, by omega⟩
    refine it (by omega) ?_
    have : oset M 435 (fun x => if 7657 * w + v ≤ x ∧ x < 7657 * w + 7657 then M 419 (x - 7657 * w) else M 435 x) = M := by
      funext a i
      by_cases ha : a = 435
      · subst ha
        rw [os]
        show (if 7657 * w + v ≤ i ∧ i < 7657 * w + 7657 then _ else _) = _
        rw [if_neg (c := 7657 * w + v ≤ i ∧ i < 7657 * w + 7657) (by omega)]
      · rw [os_ne ha]
    rw [this]
  | succ m ih =>
    intro fu v M v0 hm hf
    obtain ⟨f, rfl⟩ : ∃ f, fu = f + 1 := ⟨fu - 1, by omega⟩
    refine ie (by omega) (bc (it (by omega) rfl) (it (by omega) (it (by omega) (bs fun x e => ?_))))
    rw [ih f (v + 1) x (by omega) (by omega) (by omega), e]
    have : oset (mset M 435 (7657 * w + v) (M 419 v)) 435 (fun x => if 7657 * w + (v + 1) ≤ x ∧ x < 7657 * w + 7657 then mset M 435 (7657 * w + v) (M 419 v) 419 (x - 7657 * w) else mset M 435 (7657 * w + v) (M 419 v) 435 x) = oset M 435 (fun x => if 7657 * w + v ≤ x ∧ x < 7657 * w + 7657 then M 419 (x - 7657 * w) else M 435 x) := by
      funext a i
      by_cases ha : a = 435
      · subst ha
        rw [os, os, mset_ne (by omega), mset_at]
        by_cases c : i = 7657 * w + v
        · subst c
          rw [if_neg (c := 7657 * w + (v + 1) ≤ 7657 * w + v ∧ 7657 * w + v < 7657 * w + 7657) (by omega), if_pos (c := 7657 * w + v ≤ 7657 * w + v ∧ 7657 * w + v < 7657 * w + 7657) (by omega), us_eq, show 7657 * w + v - 7657 * w = v by omega]
        · by_cases d : 7657 * w + v ≤ i ∧ i < 7657 * w + 7657
          · rw [if_pos (c := 7657 * w + (v + 1) ≤ i ∧ i < 7657 * w + 7657) (by omega), if_pos d]
          · rw [if_neg (c := 7657 * w + (v + 1) ≤ i ∧ i < 7657 * w + 7657) (by omega), if_neg d, us_ne c]
      · rw [os_ne ha, os_ne ha, mset_ne ha]
    rw [this]
theorem CR_w {M M1 : fMem} {g K tk tp K1 tk1 : Int → Int} {tn : Int} (h : CR M g K tk tp tn) (f : ∀ x, keep x → x ≠ 144 → x < 238 → M1 x = M x) (h10 : M1 0 10 = M 0 10) (hi : M1 0 11 = 0 → idxR M1 g) (hv : viewR M1 K1 tk1) : CR M1 g K1 tk1 tp tn := by
  obtain ⟨a, b, c, d, e, -⟩ := h
  refine ⟨?_, by rw [h10, b], ⟨?_, fun j j0 j1 => ?_⟩, ⟨?_, ?_, fun i i0 i1 => ?_⟩, hv, hi⟩
  · unfold keep at f
    refine ⟨fun r r0 r1 => ?_, fun l l0 l1 => ?_, ?_⟩
    · exact rowE_cg ⟨r0, r1⟩ (a.1 r r0 r1) ⟨f _ (by omega) (by omega) (by omega), f _ (by omega) (by omega) (by omega), f _ (by omega) (by omega) (by omega)⟩ (fun _ _ => rfl)
    · exact mrgE_cg ⟨l0, l1⟩ (a.2.1 l l0 l1) (f _ (by omega) (by omega) (by omega)) (fun _ _ => rfl)
    · exact ctrE_cg a.2.2 (f _ (by omega) (by omega) (by omega)) (fun _ _ _ => rfl)
  · rw [f 145 (by unfold keep; omega) (by omega) (by omega)]; exact c.1
  · rw [f 146 (by unfold keep; omega) (by omega) (by omega)]; exact c.2 j j0 j1
  · rw [f 147 (by unfold keep; omega) (by omega) (by omega)]; exact d.1
  · rw [f 147 (by unfold keep; omega) (by omega) (by omega)]; exact d.2.1
  · rw [f 148 (by unfold keep; omega) (by omega) (by omega)]; exact d.2.2 i i0 i1
theorem K_leave {M : fMem} {n a : Int} (h : St M n) (hn : n < 600) : ∃ v M1 M2, f_X10_leave a M = some (v, M1) ∧ f_X11_leave a M1 = some (v, M2) ∧ St M2 (n + 1) := by
  have ti := tkn_iff (a := a) h
  by_cases q : tkn (M 436) a
  · obtain ⟨hc, hs, h16, hn0⟩ := h
    obtain ⟨ha, hq⟩ := q
    obtain ⟨vw1, vw2⟩ := hc.2.2.2.2.1 a ha.1 ha.2
    obtain ⟨sv1, sv2, sv3⟩ := hs.2.2.2.2.2.2.1 a ha.1 ha.2
    obtain ⟨A, hA⟩ : ∃ A, A = mset M 144 a 0 := ⟨_, rfl⟩
    have an : ∀ x, x ≠ 144 → A x = M x := fun x hx => by rw [hA, mset_ne hx]
    have vwA : RelV (60 * a.toNat + 238) A (kv (M 435) a) := RelV_cg vw2 (fun x x0 x1 => an x (by omega))
    obtain ⟨B, b1', b2, b3⟩ := c_arrange vwA.1 sv2
    have bn : ∀ x, x ≠ 144 → x ≠ 60 * a.toNat + 238 → x ≠ 60 * a.toNat + 238 + 2 → B x = M x := fun x h1 h2 h3 => by rw [b3.2 x h2 h3, an x h1]
    obtain ⟨C, hC⟩ : ∃ C, C = mset (mset B 418 4 0) 436 a 0 := ⟨_, rfl⟩
    have cn : ∀ x, x ≠ 418 → x ≠ 436 → C x = B x := fun x h1 h2 => by rw [hC, mset_ne h2, mset_ne h1]
    have c35 : C 435 = M 435 := by rw [cn 435 (by omega) (by omega), bn 435 (by omega) (by omega) (by omega)]
    have c36 : C 436 = us (M 436) a 0 := by rw [hC, mset_at, mset_ne (by omega), bn 436 (by omega) (by omega) (by omega)]
    have b44 : B 144 = us (M 144) a 0 := by rw [b3.2 144 (by omega) (by omega), hA, mset_at]
    refine ⟨((ordL (kv (M 435) a)).length : Int), B, C, ?_, ?_, ?_⟩
    · unfold f_X10_leave
      refine bc (c_isTaken _ _) ?_
      rw [if_pos (ti.mpr ⟨ha, hq⟩)]
      refine ie (by omega) (si ha (bs fun x e => ?_))
      rw [← hA] at e
      rw [e]
      exact bc b1' rfl
    · unfold f_X11_leave
      refine bs fun x e => ?_
      refine bc (r_isTaken _ _) ?_
      rw [if_pos (c := tkn (x 436) a) (by rw [e, mset_ne (by omega), bn 436 (by omega) (by omega) (by omega)]; exact ⟨ha, hq⟩)]
      refine ie (by omega) (si ha (bs fun y e2 => ?_))
      rw [e, ← hC] at e2
      rw [e2]
      exact bc (by rw [r_keptL ha (by rw [c35]; exact sv2), c35]) rfl
    · have c18 : ∀ i, i ≠ 4 → C 418 i = M 418 i := fun i hi => by rw [hC, mset_ne (by omega), mset_slot hi, bn 418 (by omega) (by omega) (by omega)]
      have c9 : C 419 = M 419 := by rw [cn 419 (by omega) (by omega), bn 419 (by omega) (by omega) (by omega)]
      have c21 : C 421 = M 421 := by rw [cn 421 (by omega) (by omega), bn 421 (by omega) (by omega) (by omega)]
      have lo : ∀ x, x < 418 → x ≠ 144 → x ≠ 60 * a.toNat + 238 → x ≠ 60 * a.toNat + 238 + 2 → C x = M x := fun x h0 h1 h2 h3 => by rw [cn x (by omega) (by omega), bn x h1 h2 h3]
      unfold St
      rw [c9, c35, c36, c21, c18 3 (by omega), c18 16 (by omega)]
      refine ⟨CR_w hc (fun x hx h1 h2 => lo x (by omega) h1 (by omega) (by omega)) (by rw [lo 0 (by omega) (by omega) (by omega) (by omega)]) (fun z => ?_) (fun w w0 w1 => ⟨?_, ?_⟩), ?_, by omega, by omega⟩
      · rw [lo 0 (by omega) (by omega) (by omega) (by omega)] at z
        obtain ⟨i1, i2⟩ := hc.2.2.2.2.2 z
        exact ⟨ixR_cg i1 (fun x x0 x1 => lo x (by omega) (by omega) (by omega) (by omega)), by rw [lo 2 (by omega) (by omega) (by omega) (by omega)]; exact i2.1, fun j x hx => by rw [lo (2 + 2) (by omega) (by omega) (by omega) (by omega)]; exact i2.2 j x hx⟩
      · rw [cn 144 (by omega) (by omega), b44]
        by_cases c : w = a
        · subst c; rw [us_eq, us_eq]
        · rw [us_ne c, us_ne c]; exact (hc.2.2.2.2.1 w w0 w1).1
      · refine RelV_cg (hc.2.2.2.2.1 w w0 w1).2 (fun x x0 x1 => lo x (by omega) (by omega) ?_ ?_)
        · have : w = 0 ∨ w = 1 ∨ w = 2 := by omega
          have : a = 0 ∨ a = 1 ∨ a = 2 := by omega
          omega
        · have : w = 0 ∨ w = 1 ∨ w = 2 := by omega
          have : a = 0 ∨ a = 1 ∨ a = 2 := by omega
          omega
      · obtain ⟨s1, s2, s3, s4, s5, s6, s7, s8⟩ := SI_up (U := TT (n + 1)) hs (by unfold TT; omega) (by unfold TT; omega)
        refine ⟨s1, s2, s3, s4, s5, s6, fun w w0 w1 => ?_, s8⟩
        obtain ⟨y1, y2⟩ := s7 w w0 w1
        refine ⟨?_, y2⟩
        by_cases c : w = a
        · subst c; rw [us_eq]; exact Or.inl rfl
        · rw [us_ne c]; exact y1
  · refine ⟨-1, M, _, ?_, ?_, K_ref (c := 0) h hn⟩
    · unfold f_X10_leave
      refine bc (c_isTaken _ _) ?_
      rw [if_neg (fun z => q (ti.mp z))]
      exact it rfl rfl
    · unfold f_X11_leave
      refine bs fun x e => ?_
      subst e
      refine bc (r_isTaken _ _) ?_
      rw [if_neg (c := tkn (mset M 418 4 0 436) a) (by rw [mset_ne (by omega)]; exact q)]
      exact it rfl rfl
theorem K_view {M : fMem} {n a : Int} (h : St M n) (hn : n < 600) : ∃ v M1 M2, f_X10_view a M = some (v, M1) ∧ f_X11_view a M1 = some (v, M2) ∧ St M2 (n + 1) := by
  by_cases ha : 0 ≤ a ∧ a < 3
  · obtain ⟨hR, hv⟩ := C_rel h
    obtain ⟨hc, hs, h16, hn0⟩ := h
    have a3 : a = 0 ∨ a = 1 ∨ a = 2 := by omega
    obtain ⟨P, p1, p2, p3⟩ := c_copyShut (o := 60 * a.toNat + 238) (by omega) (Or.inl rfl) (by omega) hR
    have pV : RelV (60 * a.toNat + 238) P (M 419) := RelV_cpd (by omega) p3
    obtain ⟨A, hA⟩ : ∃ A, A = mset P 144 a 1 := ⟨_, rfl⟩
    have an : ∀ x, x ≠ 144 → A x = P x := fun x hx => by rw [hA, mset_ne hx]
    have vwA : RelV (60 * a.toNat + 238) A (M 419) := RelV_cg pV (fun x x0 x1 => an x (by omega))
    obtain ⟨B, b1', b2, b3⟩ := c_arrange vwA.1 hv
    have vwB : RelV (60 * a.toNat + 238) B (M 419) := RelV_cg vwA (fun x x0 x1 => b3.2 x (by omega) (by omega))
    have bn : ∀ x, x ≠ 144 → (x < 60 * a.toNat + 238 ∨ 60 * a.toNat + 238 + 60 ≤ x) → B x = M x := fun x h1 h2 => by rw [b3.2 x (by omega) (by omega), an x h1, p2 x (by omega)]
    obtain ⟨K1, hK1⟩ : ∃ K1, K1 = (fun x => if 7657 * a + 0 ≤ x ∧ x < 7657 * a + 7657 then M 419 (x - 7657 * a) else M 435 x) := ⟨_, rfl⟩
    have kOwn : ∀ x, 0 ≤ x → x < 7657 → kv K1 a x = M 419 x := fun x x0 x1 => by
      unfold kv
      rw [hK1]
      show (if 7657 * a + 0 ≤ 7657 * a + x ∧ 7657 * a + x < 7657 * a + 7657 then _ else _) = _
      rw [if_pos (c := 7657 * a + 0 ≤ 7657 * a + x ∧ 7657 * a + x < 7657 * a + 7657) (by omega), show 7657 * a + x - 7657 * a = x by omega]
    have kOth : ∀ w, 0 ≤ w → w < 3 → w ≠ a → ∀ x, 0 ≤ x → x < 7657 → kv K1 w x = kv (M 435) w x := fun w w0 w1 hwa x x0 x1 => by
      unfold kv
      rw [hK1]
      show (if 7657 * a + 0 ≤ 7657 * w + x ∧ 7657 * w + x < 7657 * a + 7657 then _ else _) = _
      rw [if_neg (c := 7657 * a + 0 ≤ 7657 * w + x ∧ 7657 * w + x < 7657 * a + 7657) (by omega)]
    have agO : agV (M 419) (kv K1 a) := agV_of hv kOwn
    obtain ⟨D, hD⟩ : ∃ D, D = oset (mset B 418 4 0) 435 K1 := ⟨_, rfl⟩
    obtain ⟨C, hC⟩ : ∃ C, C = mset D 436 a 1 := ⟨_, rfl⟩
    have c35 : C 435 = K1 := by rw [hC, mset_ne (by omega), hD, os]
    have cn : ∀ x, x ≠ 418 → x ≠ 435 → x ≠ 436 → C x = B x := fun x h1 h2 h3 => by rw [hC, mset_ne h3, hD, os_ne h2, mset_ne h1]
    have c36 : C 436 = us (M 436) a 1 := by rw [hC, mset_at, hD, os_ne (by omega), mset_ne (by omega), bn 436 (by omega) (by omega)]
    have b44 : B 144 = us (M 144) a 1 := by rw [b3.2 144 (by omega) (by omega), hA, mset_at, p2 144 (by omega)]
    refine ⟨((ordL (M 419)).length : Int), B, C, ?_, ?_, ?_⟩
    · unfold f_X10_view
      refine bc (c_isView _ _) ?_
      rw [if_pos ha]
      refine ie (by omega) (si ha (bc p1 (bs fun x e => ?_)))
      rw [← hA] at e
      rw [e]
      exact bc b1' rfl
    · unfold f_X11_view
      refine bs fun x e => ?_
      refine bc (r_isView _ _) ?_
      rw [if_pos ha]
      refine ie (by omega) ?_
      rw [l_view ha 7657 20000 0 x (by omega) (by omega) (by omega)]
      have x5 : x 435 = M 435 := by rw [e, mset_ne (by omega), bn 435 (by omega) (by omega)]
      have x9 : x 419 = M 419 := by rw [e, mset_ne (by omega), bn 419 (by omega) (by omega)]
      rw [x5, x9, ← hK1]
      refine si ha (bs fun y e2 => ?_)
      rw [e, ← hD, ← hC] at e2
      rw [e2]
      have kl := r_keptL (M := C) ha (by rw [c35]; exact okV_v agO hv)
      rw [c35, ordL_v agO] at kl
      exact bc kl rfl
    · have c18 : ∀ i, i ≠ 4 → C 418 i = M 418 i := fun i hi => by rw [hC, mset_ne (by omega), hD, os_ne (by omega), mset_slot hi, bn 418 (by omega) (by omega)]
      have c9 : C 419 = M 419 := by rw [cn 419 (by omega) (by omega) (by omega), bn 419 (by omega) (by omega)]
      have c21 : C 421 = M 421 := by rw [cn 421 (by omega) (by omega) (by omega), bn 421 (by omega) (by omega)]
      have lo : ∀ x, x < 418 → x ≠ 144 → (x < 60 * a.toNat + 238 ∨ 60 * a.toNat + 238 + 60 ≤ x) → C x = M x := fun x h0 h1 h2 => by rw [cn x (by omega) (by omega) (by omega), bn x h1 h2]
      unfold St
      rw [c9, c35, c36, c21, c18 3 (by omega), c18 16 (by omega)]
      refine ⟨CR_w hc (fun x hx h1 h2 => lo x (by omega) h1 (by omega)) (by rw [lo 0 (by omega) (by omega) (by omega)]) (fun z => ?_) (fun w w0 w1 => ⟨?_, ?_⟩), ?_, by omega, by omega⟩
      · rw [lo 0 (by omega) (by omega) (by omega)] at z
        obtain ⟨i1, i2⟩ := hc.2.2.2.2.2 z
        exact ⟨ixR_cg i1 (fun x x0 x1 => lo x (by omega) (by omega) (by omega)), by rw [lo 2 (by omega) (by omega) (by omega)]; exact i2.1, fun j x hx => by rw [lo (2 + 2) (by omega) (by omega) (by omega)]; exact i2.2 j x hx⟩
      · rw [cn 144 (by omega) (by omega) (by omega), b44]
        by_cases c : w = a
        · subst c; rw [us_eq, us_eq]
        · rw [us_ne c, us_ne c]; exact (hc.2.2.2.2.1 w w0 w1).1
      · by_cases c : w = a
        · subst c
          exact RelV_cg (RelV_v agO hv vwB) (fun x x0 x1 => cn x (by omega) (by omega) (by omega))
        · obtain ⟨sv1, sv2, sv3⟩ := hs.2.2.2.2.2.2.1 w w0 w1
          refine RelV_v (agV_of sv2 (kOth w w0 w1 c)) sv2 (RelV_cg (hc.2.2.2.2.1 w w0 w1).2 (fun x x0 x1 => lo x (by omega) (by omega) ?_))
          have : w = 0 ∨ w = 1 ∨ w = 2 := by omega
          omega
      · obtain ⟨s1, s2, s3, s4, s5, s6, s7, s8⟩ := SI_up (U := TT (n + 1)) hs (by unfold TT; omega) (by unfold TT; omega)
        refine ⟨s1, s2, s3, s4, s5, s6, fun w w0 w1 => ?_, fun x => ?_⟩
        · by_cases c : w = a
          · subst c
            refine ⟨Or.inr (us_eq _ _ _), okV_v agO hv, fun r r0 r1 hr => ?_⟩
            rw [kOwn _ (by omega) (by omega)] at hr ⊢
            exact s1.1.1.2.2.1.1 r r0 r1 hr
          · obtain ⟨y1, y2, y3⟩ := s7 w w0 w1
            refine ⟨by rw [us_ne c]; exact y1, okV_v (agV_of y2 (kOth w w0 w1 c)) y2, fun r r0 r1 hr => ?_⟩
            rw [kOth w w0 w1 c _ (by omega) (by omega)] at hr ⊢
            exact y3 r r0 r1 hr
        · rw [hK1]
          show rg (if _ then _ else _)
          split
          · exact s1.1.1.2.2.2.2.2 _
          · exact s8 x
  · refine ⟨-1, M, _, ?_, ?_, K_ref (c := 0) h hn⟩
    · unfold f_X10_view
      refine bc (c_isView _ _) ?_
      rw [if_neg ha]
      exact it rfl rfl
    · unfold f_X11_view
      refine bs fun x e => ?_
      subst e
      refine bc (r_isView _ _) ?_
      rw [if_neg ha]
      exact it rfl rfl
end VW3
