/-! ahead -/
section AHD
theorem sStep_42 {g : Int → Int} {l T : Int} (h : Run g T) (hm : lowM g l) : sStep g l 7742 = g 7742 + 1 := by
  have hl : 0 ≤ l ∧ l ≤ 8 := ⟨hm.1, hm.2.1⟩
  have d1 := Run_rg h (x := 7729 + l) (by unfold isC; omega)
  have d2 := Run_rg h (x := 7746) (by unfold isC; omega)
  have d3 := Run_rg h (x := 7745) (by unfold isC; omega)
  have d4 := Run_rg h (x := 7742) (by unfold isC; omega)
  have c1 := Run_rg h (x := 7720 + l) (by unfold isC; omega)
  have c2 := Run_rg h (x := 7738) (by unfold isC; omega)
  have ok := okS_of hl h.1.1 hm.2.2.1 d1 d2 d3 d4
  have hW := sMv_inv hl h.1.1 hm.2.2.1 d1 d2 d3 d4
  have far : ∀ x, 7619 ≤ x → x < 7702 → sMv g l x = g x := fun x x0 x1 => sMv_far ok (by omega) (by omega) (by omega) (by omega) (by omega) (by omega) (by omega)
  have ag : agK g (sMv g l) := fun x x0 x1 => far x x0 (by omega)
  have hq : ∀ k, 0 ≤ k → k ≤ 8 → quiet (sMv g l) k := by
    intro k k0 k1 h2
    rw [shM_ag ag ⟨k0, k1⟩] at h2
    rcases h.1.2 k k0 k1 h2 with z | ⟨z1, z2⟩
    · left; rw [far _ (by omega) (by omega)]; exact z
    · right; refine ⟨z1, ?_⟩
      rw [fFr_ag ag ⟨by omega, by omega⟩]; exact z2
  have e1 : sMv g l (7720 + l) = g (7720 + l) := sMv_far ok (by omega) (by omega) (by omega) (by omega) (by omega) (by omega) (by omega)
  have e2 : sMv g l 7738 = g 7738 := sMv_far ok (by omega) (by omega) (by omega) (by omega) (by omega) (by omega) (by omega)
  have hx1 : sMv g l 7742 = g 7742 + 1 := by unfold sMv; rw [us_eq]
  unfold sStep
  split
  · obtain ⟨-, ha⟩ := sThr_inv hl hW hq (by rw [e1]; exact c1) (by rw [e2]; exact c2)
    rw [ha.1 7742 (by omega)]
    obtain ⟨hy, he, ht, n1, n2⟩ := mrg_rows hl h.1.1 hm.2.2.1
    have f1 := far (7684 + l) (by omega) (by omega)
    have f2 := far (7693 + l) (by omega) (by omega)
    have f3 := far (7675 + l) (by omega) (by omega)
    obtain ⟨v1, v2, ⟨v3, v4⟩, ⟨v5, v6⟩, v7, v8⟩ := sThr2_v (g := sMv g l) hl (by omega) (by omega) (by omega) (by omega) (by omega)
    rw [v8 7742 (by omega) (by omega) (by omega) (by omega) (by omega) (by omega) (by omega) (by omega) (by omega)]
    exact hx1
  · exact hx1
theorem sTake_42 {T : Int} : ∀ (d : Nat) (g : Int → Int), Run g T → (sTake d g).2 7742 = g 7742 + (sTake d g).1 := by
  intro d
  induction d with
  | zero => intro g h; show g 7742 = g 7742 + 0; omega
  | succ d ih =>
    intro g h
    rcases lowM_or g with hno | ⟨l, hl⟩
    · simp only [sTake, low_no hno]; omega
    · obtain ⟨a, b, c⟩ := Run_step (M := fun _ _ => 0) h hl
      simp only [sTake, low_of hl]
      rw [ih _ a, sStep_42 h hl]; omega
theorem sFor_42 {T : Int} : ∀ (d : Nat) (g : Int → Int), Run g T → (sFor d g).2 7742 = g 7742 + (sFor d g).1 := by
  intro d
  induction d with
  | zero => intro g h; show g 7742 = g 7742 + 0; omega
  | succ d ih =>
    intro g h
    by_cases hf : fFr g 0 = -1
    · rcases lowM_or g with hno | ⟨l, hl⟩
      · simp only [sFor, if_pos hf, low_no hno]; omega
      · obtain ⟨a, b, c⟩ := Run_step (M := fun _ _ => 0) h hl
        simp only [sFor, if_pos hf, low_of hl]
        rw [ih _ a, sStep_42 h hl]; omega
    · simp only [sFor, if_neg hf]; omega
theorem sAct_42 {g : Int → Int} {T k v : Int} (h : Run g T) (hk : 0 ≤ k ∧ k < 200) (hv : -1 ≤ v ∧ v ≤ 999) (hT : T + 1000 < 2000000000) : sAct g k v 7742 = g 7742 + sAll3 g k v := by
  obtain ⟨v1, v2, v3, v4, v5⟩ := sAct_v h hk hv hT
  rw [v5 7742 (by omega) (by omega) (by omega) (by omega)]
  obtain ⟨b1, b2, b3, b4, b5⟩ := sA1_run h
  obtain ⟨c1, c2, c3⟩ := sA2_run h hk hv hT
  have d2 := Run_rg b1 (x := 7738) (by unfold isC; omega)
  obtain ⟨i1, i2, i3, i4, i5⟩ := sLay_inv (k := k) (v := v) b1.1 rfl b2 hk hv d2
  obtain ⟨w1, w2, w3, w4, w5, w6, w7⟩ := sLay_v (g := (sA1 g).2) (k := k) (v := v) i4
  have m1 : (sA1 g).2 7742 = g 7742 + (sA1 g).1 := sFor_42 _ g h
  have m2 : sA2 g k v 7742 = (sA1 g).2 7742 := by
    unfold sA2
    rw [sAll_x i1 (fun z => Or.inl (i3 z)) (by omega)]
    rw [w7 7742 (by omega) (by omega) (by omega) (by omega) (by omega) (by omega)]
  have m3 : (sA3 g k v).2 7742 = sA2 g k v 7742 + (sA3 g k v).1 := sTake_42 _ _ c1
  rw [m3, m2, m1]
  unfold sAll3; omega
/-- the dearest of the acts that lie ahead -/
noncomputable def ahM (g : Int → Int) : Nat → Nat → Int → Int
  | 0, _, c => c
  | m + 1, i, c => ahM g m (i + 1) (max c (sAll3 (sAh g i) (aK i) 0))
theorem ahM_bd {g : Int → Int} {T : Int} (h : Run g T) (hb : 0 ≤ g 7739 ∧ g 7739 ≤ 40) (hT0 : 500000 ≤ T) (hT : T + 70000 < 2000000000) : ∀ (m i : Nat) (c : Int), i + m ≤ 64 → 0 ≤ c → c ≤ 205812 → 0 ≤ ahM g m i c ∧ ahM g m i c ≤ 205812 := by
  intro m
  induction m with
  | zero => intro i c _ h0 h1; exact ⟨h0, h1⟩
  | succ m ih =>
    intro i c hi h0 h1
    obtain ⟨a, b⟩ := sAh_run h hb hT0 i (by omega)
    obtain ⟨s0, s1, s2, -⟩ := sAct_run (k := aK i) (v := 0) a (aK_bd i) (by omega) (by omega) (by omega)
    exact ih (i + 1) _ (by omega) (by omega) (by omega)
theorem c_ahL {M0 : fMem} {g : Int → Int} {T w : Int} {k : Int → Int → fMem → Option (Int × Int × fMem)} (h : Run g T) (hb : 0 ≤ g 7739 ∧ g 7739 ≤ 40) (hT0 : 500000 ≤ T) (hT : T + 70000 < 2000000000) {a : Nat} (ha : a ≤ 64) : ∀ (m fu i : Nat) (c : Int) (M : fMem), i + m = a → m < fu → RF 72 M0 M (sAh g i) →
    ∃ M1, L_X10_ahead_25 k fu a w c i M = k w (ahM g m i c) M1 ∧ RF 72 M0 M1 (sAh g a) := by
  intro m
  induction m with
  | zero =>
    intro fu i c M hi hf hr
    obtain ⟨f, rfl⟩ : ∃ f, fu = f + 1 := ⟨fu - 1, by omega⟩
    have e : i = a := by omega
    exact ⟨M, it (by omega) rfl, by rw [← e]; exact hr⟩
  | succ m ih =>
    intro fu i c M hi hf hr
    obtain ⟨f, rfl⟩ : ∃ f, fu = f + 1 := ⟨fu - 1, by omega⟩
    obtain ⟨a1, b⟩ := sAh_run h hb hT0 i (by omega)
    obtain ⟨N, n1, n2⟩ := c_actAhead (i := i) hr a1 (by rw [b]; exact hb) (by omega) (by omega)
    obtain ⟨M1, k1, k2⟩ := ih f (i + 1) (max c (sAll3 (sAh g i) (aK i) 0)) N (by omega) (by omega) n2
    refine ⟨M1, ie (by omega) (bc (c_keyAhead (by omega) (by omega)) (bc n1 ?_)), k2⟩
    have d : ahM g (m + 1) i c = ahM g m (i + 1) (max c (sAll3 (sAh g i) (aK i) 0)) := rfl
    rw [d, ← k1]
    rfl
theorem r_ahL {N : fMem} {g : Int → Int} {T w : Int} {k : Int → Int → Int → fMem → Option (Int × fMem)} (h : Run g T) (hb : 0 ≤ g 7739 ∧ g 7739 ≤ 40) (hT0 : 500000 ≤ T) (hT : T + 70000 < 2000000000) {a : Nat} (ha : a ≤ 64) : ∀ (m fu i : Nat) (s c : Int), i + m = a → m < fu → s = sAh g i 7742 - g 7742 →
    L_X11_ahead_48 k fu a w s c i (oset N 419 (sAh g i)) = k w (sAh g a 7742 - g 7742) (ahM g m i c) (oset N 419 (sAh g a)) := by
  intro m
  induction m with
  | zero =>
    intro fu i s c hi hf hs
    obtain ⟨f, rfl⟩ : ∃ f, fu = f + 1 := ⟨fu - 1, by omega⟩
    have e : i = a := by omega
    refine it (by omega) ?_
    rw [hs, e]
    rfl
  | succ m ih =>
    intro fu i s c hi hf hs
    obtain ⟨f, rfl⟩ : ∃ f, fu = f + 1 := ⟨fu - 1, by omega⟩
    obtain ⟨a1, b⟩ := sAh_run h hb hT0 i (by omega)
    have ac := e_actsAhead (M := N) (i := i) (by omega) (by omega) a1 (by rw [b]; exact hb) (by omega) (by omega)
    obtain ⟨s0, s1, s2, -⟩ := sAct_run (k := aK i) (v := 0) a1 (aK_bd i) (by omega) (by omega) (by omega)
    have e42 : sAh g (i + 1) 7742 = sAh g i 7742 + sAll3 (sAh g i) (aK i) 0 := sAct_42 a1 (aK_bd i) (by omega) (by omega)
    have q1 := a1.2.1 7742 (by unfold isC; omega)
    have q2 := h.2.1 7742 (by unfold isC; omega)
    have q3 := phi_bd h.1.1
    have q4 := phi_bd a1.1.1
    have hT2 := h.2.2
    have d : ahM g (m + 1) i c = ahM g m (i + 1) (max c (sAll3 (sAh g i) (aK i) 0)) := rfl
    have nx := ih f (i + 1) (s + sAll3 (sAh g i) (aK i) 0) (max c (sAll3 (sAh g i) (aK i) 0)) (by omega) (by omega) (by omega)
    refine ie (by omega) (bc ac ?_)
    rw [d, ← nx]
    by_cases z : sAll3 (sAh g i) (aK i) 0 ≤ c
    · refine it z (it (by show -2147483648 ≤ s + sAll3 (sAh g i) (aK i) 0 ∧ s + sAll3 (sAh g i) (aK i) 0 < 2147483648; omega) ?_)
      rw [show max c (sAll3 (sAh g i) (aK i) 0) = c by omega]
      rfl
    · refine ie z (it (by show -2147483648 ≤ s + sAll3 (sAh g i) (aK i) 0 ∧ s + sAll3 (sAh g i) (aK i) 0 < 2147483648; omega) ?_)
      rw [show max c (sAll3 (sAh g i) (aK i) 0) = sAll3 (sAh g i) (aK i) 0 by omega]
      rfl
theorem St_tr2 {M M1 : fMem} {n : Int} (h : St M n) (f : ∀ x, x < 72 ∨ (143 ≤ x ∧ x < 232) ∨ 235 ≤ x → M1 x = M x) : St M1 n := by
  refine St_q h ⟨fun x hx => f x (by unfold keep at hx; omega), by rw [f 0 (by omega)], fun x hx => f x (by omega)⟩ (fun z => ?_)
  rw [f 0 (by omega)] at z
  obtain ⟨i1, i2⟩ := h.1.2.2.2.2.2 z
  exact ⟨ixR_cg i1 (fun x x0 x1 => f x (by omega)), by rw [f 2 (by omega)]; exact i2.1, fun j x hx => by rw [f (2 + 2) (by omega)]; exact i2.2 j x hx⟩
end AHD
