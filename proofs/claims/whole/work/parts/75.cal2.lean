/-! feed, batch -/
section CAL2
def byv (a i : Int) : Int := if i = 0 then a / 16777216 % 256 else if i = 1 then a / 65536 % 256 else if i = 2 then a / 256 % 256 else a % 256
theorem byv_bd (a i : Int) : 0 ≤ byv a i ∧ byv a i ≤ 255 := by unfold byv; repeat' split; all_goals omega
theorem aN_step {M : fMem} {k : fMem → Option fMem} {n : Nat} {a v s : Int} (h : M 145 1 = s) (hs : 0 ≤ s ∧ s < 200) (hv : 0 ≤ v ∧ v < 32) : L_X8_addNumber_3 k (n + 1) a v M = L_X8_addNumber_3 k n a (v + (-8)) (mset (mset M 146 s ((a % 4294967296 / 2 ^ v.toNat) % 2 ^ 8)) 145 1 (s + 1)) := by
  have hb : 0 ≤ (a % 4294967296 / 2 ^ v.toNat) % 2 ^ 8 ∧ (a % 4294967296 / 2 ^ v.toNat) % 2 ^ 8 < 256 := ⟨Int.emod_nonneg _ (by decide), Int.emod_lt_of_pos _ (by decide)⟩
  generalize hB : (a % 4294967296 / 2 ^ v.toNat) % 2 ^ 8 = B at *
  rw [L_X8_addNumber_3, h, hB]
  refine ie (by omega) (ie (by omega) (si hv (si hs (si (by omega) (bs fun x e => ?_)))))
  have z : x 145 1 = s := by rw [e, mset_ne (by omega), h]
  rw [z]
  refine si (by omega) (bs fun y e2 => ?_)
  rw [e2, e]
  exact si (by omega) rfl
theorem la_step {M : fMem} {k : fMem → Option fMem} {n : Nat} {a v s : Int} (h : M 418 3 = s) (hs : 0 ≤ s ∧ s < 200) (hv : 0 ≤ v ∧ v < 32) : L_X11_lays_3 k (n + 1) a v M = L_X11_lays_3 k n a (v + (-8)) (mset (mset M 421 s ((a / 2 ^ v.toNat) % 2 ^ 8)) 418 3 (s + 1)) := by
  have hb : 0 ≤ (a / 2 ^ v.toNat) % 2 ^ 8 ∧ (a / 2 ^ v.toNat) % 2 ^ 8 < 256 := ⟨Int.emod_nonneg _ (by decide), Int.emod_lt_of_pos _ (by decide)⟩
  generalize hB : (a / 2 ^ v.toNat) % 2 ^ 8 = B at *
  rw [L_X11_lays_3, h, hB]
  refine ie (by omega) (si hv (si hs (si (by omega) (bs fun x e => ?_))))
  have z : x 418 3 = s := by rw [e, mset_ne (by omega), h]
  rw [z]
  refine si (by omega) (bs fun y e2 => ?_)
  rw [e2, e]
  exact si (by omega) rfl
/-- four bytes behind each other -/
def m4b (M : fMem) (p q : Nat) (i s a : Int) : fMem := mset (mset (mset (mset (mset (mset (mset (mset M p s (byv a 0)) q i (s + 1)) p (s + 1) (byv a 1)) q i (s + 2)) p (s + 2) (byv a 2)) q i (s + 3)) p (s + 3) (byv a 3)) q i (s + 4)
theorem m4b_v {M : fMem} {p q : Nat} {i s a : Int} (h : p ≠ q) : m4b M p q i s a q i = s + 4 ∧ (∀ j, j ≠ i → m4b M p q i s a q j = M q j) ∧ (∀ j, m4b M p q i s a p j = if s ≤ j ∧ j < s + 4 then byv a (j - s) else M p j) ∧ ∀ x, x ≠ p → x ≠ q → m4b M p q i s a x = M x := by
  unfold m4b
  refine ⟨mset_self _ _ _ _, fun j hj => ?_, fun j => ?_, fun x h1 h2 => ?_⟩
  · rw [mset_slot hj, mset_ne (Ne.symm h), mset_slot hj, mset_ne (Ne.symm h), mset_slot hj, mset_ne (Ne.symm h), mset_slot hj, mset_ne (Ne.symm h)]
  · have e : mset (mset (mset (mset (mset (mset (mset (mset M p s (byv a 0)) q i (s + 1)) p (s + 1) (byv a 1)) q i (s + 2)) p (s + 2) (byv a 2)) q i (s + 3)) p (s + 3) (byv a 3)) q i (s + 4) p = us (us (us (us (M p) s (byv a 0)) (s + 1) (byv a 1)) (s + 2) (byv a 2)) (s + 3) (byv a 3) := by
      rw [mset_ne h, mset_at, mset_ne h, mset_at, mset_ne h, mset_at, mset_ne h, mset_at]
    rw [e]
    by_cases c3 : j = s + 3
    · rw [if_pos (by omega), c3, us_eq, show s + 3 - s = 3 by omega]
    · rw [us_ne c3]
      by_cases c2 : j = s + 2
      · rw [if_pos (by omega), c2, us_eq, show s + 2 - s = 2 by omega]
      · rw [us_ne c2]
        by_cases c1 : j = s + 1
        · rw [if_pos (by omega), c1, us_eq, show s + 1 - s = 1 by omega]
        · rw [us_ne c1]
          by_cases c0 : j = s
          · rw [if_pos (by omega), c0, us_eq, show s - s = 0 by omega]
          · rw [us_ne c0, if_neg (by omega)]
  · rw [mset_ne h2, mset_ne h1, mset_ne h2, mset_ne h1, mset_ne h2, mset_ne h1, mset_ne h2, mset_ne h1]
theorem c_addN {M : fMem} {a s : Int} (h : M 145 1 = s) (hs : 0 ≤ s ∧ s + 4 ≤ 200) : f_X8_addNumber a M = some (m4b M 146 145 1 s a) := by
  have b0 : (a % 4294967296 / 2 ^ (24 : Int).toNat) % 2 ^ 8 = byv a 0 := by
    show (a % 4294967296 / 16777216) % 256 = byv a 0
    unfold byv; rw [if_pos rfl]; omega
  have b1 : (a % 4294967296 / 2 ^ ((24 : Int) + -8).toNat) % 2 ^ 8 = byv a 1 := by
    show (a % 4294967296 / 65536) % 256 = byv a 1
    unfold byv; rw [if_neg (by omega), if_pos rfl]; omega
  have b2 : (a % 4294967296 / 2 ^ ((24 : Int) + -8 + -8).toNat) % 2 ^ 8 = byv a 2 := by
    show (a % 4294967296 / 256) % 256 = byv a 2
    unfold byv; rw [if_neg (by omega), if_neg (by omega), if_pos rfl]; omega
  have b3 : (a % 4294967296 / 2 ^ ((24 : Int) + -8 + -8 + -8).toNat) % 2 ^ 8 = byv a 3 := by
    show (a % 4294967296 / 1) % 256 = byv a 3
    unfold byv; rw [if_neg (by omega), if_neg (by omega), if_neg (by omega)]; omega
  unfold f_X8_addNumber
  rw [aN_step h (by omega) (by omega), b0, aN_step (s := s + 1) (mset_self _ _ _ _) (by omega) (by omega), b1, show s + 1 + 1 = s + 2 by omega, aN_step (s := s + 2) (mset_self _ _ _ _) (by omega) (by omega), b2, show s + 2 + 1 = s + 3 by omega, aN_step (s := s + 3) (mset_self _ _ _ _) (by omega) (by omega), b3, show s + 3 + 1 = s + 4 by omega, L_X8_addNumber_3]
  exact it (by omega) rfl
theorem r_lays {M : fMem} {a s : Int} (h : M 418 3 = s) (hs : 0 ≤ s ∧ s + 4 ≤ 200) : f_X11_lays a M = some (m4b M 421 418 3 s a) := by
  have b0 : (a / 2 ^ (24 : Int).toNat) % 2 ^ 8 = byv a 0 := by
    show (a / 16777216) % 256 = byv a 0
    unfold byv; rw [if_pos rfl]
  have b1 : (a / 2 ^ ((24 : Int) + -8).toNat) % 2 ^ 8 = byv a 1 := by
    show (a / 65536) % 256 = byv a 1
    unfold byv; rw [if_neg (by omega), if_pos rfl]
  have b2 : (a / 2 ^ ((24 : Int) + -8 + -8).toNat) % 2 ^ 8 = byv a 2 := by
    show (a / 256) % 256 = byv a 2
    unfold byv; rw [if_neg (by omega), if_neg (by omega), if_pos rfl]
  have b3 : (a / 2 ^ ((24 : Int) + -8 + -8 + -8).toNat) % 2 ^ 8 = byv a 3 := by
    show (a / 1) % 256 = byv a 3
    unfold byv; rw [if_neg (by omega), if_neg (by omega), if_neg (by omega)]; omega
  unfold f_X11_lays
  rw [la_step h (by omega) (by omega), b0, la_step (s := s + 1) (mset_self _ _ _ _) (by omega) (by omega), b1, show s + 1 + 1 = s + 2 by omega, la_step (s := s + 2) (mset_self _ _ _ _) (by omega) (by omega), b2, show s + 2 + 1 = s + 3 by omega, la_step (s := s + 3) (mset_self _ _ _ _) (by omega) (by omega), b3, show s + 3 + 1 = s + 4 by omega, L_X11_lays_3]
  exact it (by omega) rfl
/-- the two tapes are alike -/
def tp2 (M N : fMem) (tp : Int → Int) (s : Int) : Prop := M 145 1 = s ∧ N 418 3 = s ∧ (∀ j, 0 ≤ j → j < s → M 146 j = N 421 j) ∧ ∀ j, 0 ≤ j → j < s → 0 ≤ N 421 j ∧ N 421 j ≤ 255
theorem tp2_step {M N : fMem} {tp : Int → Int} {s a : Int} (h : tp2 M N tp s) (hs : 0 ≤ s) : tp2 (m4b M 146 145 1 s a) (m4b N 421 418 3 s a) tp (s + 4) := by
  obtain ⟨h1, h2, h3, h4⟩ := h
  obtain ⟨a1, a2, a3, a4⟩ := m4b_v (M := M) (p := 146) (q := 145) (i := 1) (s := s) (a := a) (by omega)
  obtain ⟨b1, b2, b3, b4⟩ := m4b_v (M := N) (p := 421) (q := 418) (i := 3) (s := s) (a := a) (by omega)
  refine ⟨a1, b1, fun j j0 j1 => ?_, fun j j0 j1 => ?_⟩
  · rw [a3 j, b3 j]
    by_cases c : s ≤ j ∧ j < s + 4
    · rw [if_pos c, if_pos c]
    · rw [if_neg c, if_neg c]; exact h3 j j0 (by omega)
  · rw [b3 j]
    by_cases c : s ≤ j ∧ j < s + 4
    · rw [if_pos c]; exact byv_bd _ _
    · rw [if_neg c]; exact h4 j j0 (by omega)
theorem K_feed {M : fMem} {n a b c d e : Int} (h : St M n) (hn : n < 600) : ∃ v M1 M2, f_X10_feed a b c d e M = some (v, M1) ∧ f_X11_feed a b c d e M1 = some (v, M2) ∧ St M2 (n + 1) := by
  unfold f_X10_feed f_X11_feed
  have hh := h
  obtain ⟨hc, hs, h16, hn0⟩ := h
  obtain ⟨x1, x2, x3, x4, x5, x6, x7, x8⟩ := hs
  obtain ⟨c1, c2, c3, c4, c7, c8⟩ := hc
  have hN := TTs n
  have t0 : M 145 1 = M 418 3 := c3.1
  rw [t0]
  generalize hS : M 418 3 = s at *
  by_cases hk : s + 20 ≤ 200
  · generalize hA1 : m4b M 146 145 1 s a = A1
    generalize hA2 : m4b A1 146 145 1 (s + 4) b = A2
    generalize hA3 : m4b A2 146 145 1 (s + 8) c = A3
    generalize hA4 : m4b A3 146 145 1 (s + 12) d = A4
    generalize hA5 : m4b A4 146 145 1 (s + 16) e = A5
    generalize hB0 : mset A5 418 4 0 = B0
    generalize hB1 : m4b B0 421 418 3 s a = B1
    generalize hB2 : m4b B1 421 418 3 (s + 4) b = B2
    generalize hB3 : m4b B2 421 418 3 (s + 8) c = B3
    generalize hB4 : m4b B3 421 418 3 (s + 12) d = B4
    generalize hB5 : m4b B4 421 418 3 (s + 16) e = B5
    have va : ∀ {X Y : fMem} {s a : Int}, m4b X 146 145 1 s a = Y → ∀ x, x ≠ 146 → x ≠ 145 → Y x = X x := fun hy => hy ▸ (m4b_v (by omega)).2.2.2
    have vb : ∀ {X Y : fMem} {s a : Int}, m4b X 421 418 3 s a = Y → (∀ x, x ≠ 421 → x ≠ 418 → Y x = X x) ∧ ∀ i, i ≠ 3 → Y 418 i = X 418 i := fun hy => ⟨hy ▸ (m4b_v (by omega)).2.2.2, hy ▸ (m4b_v (by omega)).2.1⟩
    have ax : ∀ x, x ≠ 146 → x ≠ 145 → A5 x = M x := fun x h1 h2 => by rw [va hA5 x h1 h2, va hA4 x h1 h2, va hA3 x h1 h2, va hA2 x h1 h2, va hA1 x h1 h2]
    have bx : ∀ x, x ≠ 421 → x ≠ 418 → B5 x = A5 x := fun x h1 h2 => by rw [(vb hB5).1 x h1 h2, (vb hB4).1 x h1 h2, (vb hB3).1 x h1 h2, (vb hB2).1 x h1 h2, (vb hB1).1 x h1 h2, ← hB0, mset_ne h2]
    have b0x : ∀ x, x ≠ 418 → B0 x = A5 x := fun x h1 => by rw [← hB0, mset_ne h1]
    have bi : ∀ i, i ≠ 3 → i ≠ 4 → B5 418 i = M 418 i := fun i h1 h2 => by rw [(vb hB5).2 i h1, (vb hB4).2 i h1, (vb hB3).2 i h1, (vb hB2).2 i h1, (vb hB1).2 i h1, ← hB0, mset_slot h2, ax 418 (by omega) (by omega)]
    have t1 : tp2 M B0 (M 421) s := ⟨t0, by rw [← hB0, mset_slot (by omega), ax 418 (by omega) (by omega), hS], fun j j0 j1 => by rw [b0x 421 (by omega), ax 421 (by omega) (by omega)]; exact c3.2 j j0 j1, fun j j0 j1 => by rw [b0x 421 (by omega), ax 421 (by omega) (by omega)]; exact x6 j j0 j1⟩
    have t2 := tp2_step (a := a) t1 x5.1
    rw [hA1, hB1] at t2
    have t3 := tp2_step (a := b) t2 (by omega)
    rw [hA2, hB2, show s + 4 + 4 = s + 8 by omega] at t3
    have t4 := tp2_step (a := c) t3 (by omega)
    rw [hA3, hB3, show s + 8 + 4 = s + 12 by omega] at t4
    have t5 := tp2_step (a := d) t4 (by omega)
    rw [hA4, hB4, show s + 12 + 4 = s + 16 by omega] at t5
    have t6 := tp2_step (a := e) t5 (by omega)
    rw [hA5, hB5, show s + 16 + 4 = s + 20 by omega] at t6
    have w1 := c_addN (a := a) t1.1 (by omega)
    have w2 := c_addN (a := b) t2.1 (by omega)
    have w3 := c_addN (a := c) t3.1 (by omega)
    have w4 := c_addN (a := d) t4.1 (by omega)
    have w5 := c_addN (a := e) t5.1 (by omega)
    have y1 := r_lays (a := a) t1.2.1 (by omega)
    have y2 := r_lays (a := b) t2.2.1 (by omega)
    have y3 := r_lays (a := c) t3.2.1 (by omega)
    have y4 := r_lays (a := d) t4.2.1 (by omega)
    have y5 := r_lays (a := e) t5.2.1 (by omega)
    rw [hA1] at w1; rw [hA2] at w2; rw [hA3] at w3; rw [hA4] at w4; rw [hA5] at w5
    rw [hB1] at y1; rw [hB2] at y2; rw [hB3] at y3; rw [hB4] at y4; rw [hB5] at y5
    refine ⟨s + 20, A5, B5, ?_, ?_, ?_⟩
    · refine si (by omega) (it hk (bc w1 (bc w2 (bc w3 (bc w4 (bc w5 ?_))))))
      rw [t6.1]
    · refine bs fun x q => ?_
      rw [hB0] at q
      subst q
      rw [t1.2.1]
      refine si (by omega) (it hk (bc y1 (bc y2 (bc y3 (bc y4 (bc y5 ?_))))))
      rw [t6.2.1]
    · have cr : CR A5 (M 419) (M 435) (M 436) (B5 421) (s + 20) := by
        refine ⟨⟨fun r r0 r1 => rowE_cg ⟨r0, r1⟩ (c1.1 r r0 r1) ⟨ax _ (by omega) (by omega), ax _ (by omega) (by omega), ax _ (by omega) (by omega)⟩ (fun _ _ => rfl), fun l l0 l1 => mrgE_cg ⟨l0, l1⟩ (c1.2.1 l l0 l1) (ax _ (by omega) (by omega)) (fun _ _ => rfl), ctrE_cg c1.2.2 (ax _ (by omega) (by omega)) (fun _ _ _ => rfl)⟩, by rw [ax 0 (by omega) (by omega)]; exact c2, ⟨t6.1, t6.2.2.1⟩, ⟨by rw [ax 147 (by omega) (by omega)]; exact c4.1, by rw [ax 147 (by omega) (by omega)]; exact c4.2.1, fun i i0 i1 => by rw [ax 148 (by omega) (by omega)]; exact c4.2.2 i i0 i1⟩, fun w w0 w1 => ?_, fun z => ?_⟩
        · obtain ⟨e1, e2⟩ := c7 w w0 w1
          exact ⟨by rw [ax 144 (by omega) (by omega)]; exact e1, RelV_cg e2 (fun x h1 h2 => ax x (by omega) (by omega))⟩
        · rw [ax 0 (by omega) (by omega)] at z
          obtain ⟨i1, i2⟩ := c8 z
          exact ⟨ixR_cg i1 (fun x h1 h2 => ax x (by omega) (by omega)), by rw [ax 2 (by omega) (by omega)]; exact i2.1, fun j x hx => by rw [ax (2 + 2) (by omega) (by omega)]; exact i2.2 j x hx⟩
      refine St_mk cr (SI_up ⟨x1, x2, x3, x4, by omega, t6.2.2.2, x7, x8⟩ (by omega) (by unfold TT; omega)) (fun x hx => by rw [bx x (by omega) (by omega)]) (by rw [bx 419 (by omega) (by omega), ax 419 (by omega) (by omega)]) (by rw [bx 435 (by omega) (by omega), ax 435 (by omega) (by omega)]) (by rw [bx 436 (by omega) (by omega), ax 436 (by omega) (by omega)]) rfl t6.2.1 (by rw [bi 16 (by omega) (by omega)]; omega) (by omega)
  · refine ⟨-1, M, _, si (by omega) (ie hk rfl), ?_, K_ref (c := 0) hh hn⟩
    refine bs fun x q => ?_
    have : x 418 3 = s := by rw [q, mset_slot (by omega), hS]
    rw [this, q]
    exact si (by omega) (ie hk rfl)
end CAL2
