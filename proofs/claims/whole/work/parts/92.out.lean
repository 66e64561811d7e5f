/-! what no act reaches -/
section OUT
theorem sStep_neg {g : Int → Int} {l x T : Int} (h : Run g T) (hm : lowM g l) (hx : x < 0) : sStep g l x = g x := by
  have hl : 0 ≤ l ∧ l ≤ 8 := ⟨hm.1, hm.2.1⟩
  have d1 := Run_rg h (x := 7729 + l) (by unfold isC; omega)
  have d2 := Run_rg h (x := 7746) (by unfold isC; omega)
  have d3 := Run_rg h (x := 7745) (by unfold isC; omega)
  have d4 := Run_rg h (x := 7742) (by unfold isC; omega)
  have c1 := Run_rg h (x := 7720 + l) (by unfold isC; omega)
  have c2 := Run_rg h (x := 7738) (by unfold isC; omega)
  have ok := okS_of hl h.1.1 hm.2.2.1 d1 d2 d3 d4
  have hW := sMv_inv hl h.1.1 hm.2.2.1 d1 d2 d3 d4
  have far : ∀ x, 7619 ≤ x → x < 7702 → sMv g l x = g x := fun x x0 x1 => sMv_far ok (by omega) (by omega) (by omega) (by omega) (by omega) (by omega) (by omega)
  have ag : agK g (sMv g l) := fun x x0 x1 => far x x0 (by omega)
  have hq : ∀ k, 0 ≤ k → k ≤ 8 → quiet (sMv g l) k := by
    intro k k0 k1 h2
    rw [shM_ag ag ⟨k0, k1⟩] at h2
    rcases h.1.2 k k0 k1 h2 with z | ⟨z1, z2⟩
    · left; rw [far _ (by omega) (by omega)]; exact z
    · right; refine ⟨z1, ?_⟩
      rw [fFr_ag ag ⟨by omega, by omega⟩]; exact z2
  have e1 : sMv g l (7720 + l) = g (7720 + l) := sMv_far ok (by omega) (by omega) (by omega) (by omega) (by omega) (by omega) (by omega)
  have e2 : sMv g l 7738 = g 7738 := sMv_far ok (by omega) (by omega) (by omega) (by omega) (by omega) (by omega) (by omega)
  have hx1 : sMv g l x = g x := by
    have t1 := ok.2.2.2.1
    have t2 := ok.2.2.2.2.2.2.2.1
    rcases sMv_mvd ok with ⟨-, z⟩ | ⟨-, z⟩ | ⟨-, z⟩ <;> exact z.1 x (by omega) (by omega) (by omega)
  unfold sStep
  split
  · obtain ⟨-, ha⟩ := sThr_inv hl hW hq (by rw [e1]; exact c1) (by rw [e2]; exact c2)
    rw [ha.1 x (by omega)]
    obtain ⟨hy, he, ht, n1, n2⟩ := mrg_rows hl h.1.1 hm.2.2.1
    have f1 := far (7684 + l) (by omega) (by omega)
    have f2 := far (7693 + l) (by omega) (by omega)
    have f3 := far (7675 + l) (by omega) (by omega)
    obtain ⟨v1, v2, ⟨v3, v4⟩, ⟨v5, v6⟩, v7, v8⟩ := sThr2_v (g := sMv g l) hl (by omega) (by omega) (by omega) (by omega) (by omega)
    rw [v8 x (by omega) (by omega) (by omega) (by omega) (by omega) (by omega) (by omega) (by omega) (by omega)]
    exact hx1
  · exact hx1
theorem sTake_neg {T x : Int} (hx : x < 0) : ∀ (d : Nat) (g : Int → Int), Run g T → (sTake d g).2 x = g x := by
  intro d
  induction d with
  | zero => intro g h; rfl
  | succ d ih =>
    intro g h
    rcases lowM_or g with hno | ⟨l, hl⟩
    · simp only [sTake, low_no hno]
    · obtain ⟨a, b, c⟩ := Run_step (M := fun _ _ => 0) h hl
      simp only [sTake, low_of hl]
      rw [ih _ a, sStep_neg h hl hx]
theorem sFor_neg {T x : Int} (hx : x < 0) : ∀ (d : Nat) (g : Int → Int), Run g T → (sFor d g).2 x = g x := by
  intro d
  induction d with
  | zero => intro g h; rfl
  | succ d ih =>
    intro g h
    by_cases hf : fFr g 0 = -1
    · rcases lowM_or g with hno | ⟨l, hl⟩
      · simp only [sFor, if_pos hf, low_no hno]
      · obtain ⟨a, b, c⟩ := Run_step (M := fun _ _ => 0) h hl
        simp only [sFor, if_pos hf, low_of hl]
        rw [ih _ a, sStep_neg h hl hx]
    · simp only [sFor, if_neg hf]
theorem sAct_out {g : Int → Int} {T k v x : Int} (h : Run g T) (hk : 0 ≤ k ∧ k < 200) (hv : -1 ≤ v ∧ v ≤ 999) (hT : T + 1000 < 2000000000) (hx : x < 0 ∨ 7787 ≤ x) : sAct g k v x = g x := by
  obtain ⟨v1, v2, v3, v4, v5⟩ := sAct_v h hk hv hT
  rw [v5 x (by omega) (by omega) (by omega) (by omega)]
  by_cases q : 7787 ≤ x
  · obtain ⟨-, -, -, u⟩ := sA3_run h hk hv hT
    exact u x (by unfold isU; omega)
  have hx : x < 0 := by omega
  obtain ⟨b1, b2, b3, b4, b5⟩ := sA1_run h
  obtain ⟨c1, c2, c3⟩ := sA2_run h hk hv hT
  have d2 := Run_rg b1 (x := 7738) (by unfold isC; omega)
  obtain ⟨i1, i2, i3, i4, i5⟩ := sLay_inv (k := k) (v := v) b1.1 rfl b2 hk hv d2
  obtain ⟨w1, w2, w3, w4, w5, w6, w7⟩ := sLay_v (g := (sA1 g).2) (k := k) (v := v) i4
  have m1 : (sA1 g).2 x = g x := sFor_neg hx _ g h
  have m2 : sA2 g k v x = (sA1 g).2 x := by
    unfold sA2
    rw [sAll_x i1 (fun z => Or.inl (i3 z)) (by omega)]
    rw [w7 x (by omega) (by omega) (by omega) (by omega) (by omega) (by omega)]
  have m3 : (sA3 g k v).2 x = sA2 g k v x := sTake_neg hx _ _ c1
  rw [m3, m2, m1]
end OUT
