/-! the whole state; acts -/
section ST1
theorem sStep_mono {g : Int → Int} {l x T : Int} (h : Run g T) (hm : lowM g l) (hx : isC x) : g x ≤ sStep g l x := by
  have hl : 0 ≤ l ∧ l ≤ 8 := ⟨hm.1, hm.2.1⟩
  have d1 := Run_rg h (x := 7729 + l) (by unfold isC; omega)
  have d2 := Run_rg h (x := 7746) (by unfold isC; omega)
  have d3 := Run_rg h (x := 7745) (by unfold isC; omega)
  have d4 := Run_rg h (x := 7742) (by unfold isC; omega)
  have c1 := Run_rg h (x := 7720 + l) (by unfold isC; omega)
  have c2 := Run_rg h (x := 7738) (by unfold isC; omega)
  exact (sStep_x hl h.1 hm.2.2.1 d1 d2 d3 d4 c1 c2 hx).1
theorem sTake_mono {T x : Int} (hx : isC x) : ∀ (d : Nat) (g : Int → Int), Run g T → g x ≤ (sTake d g).2 x := by
  intro d
  induction d with
  | zero => intro g h; exact Int.le_refl _
  | succ d ih =>
    intro g h
    rcases lowM_or g with hno | ⟨l, hl⟩
    · simp only [sTake, low_no hno]; exact Int.le_refl _
    · obtain ⟨a, b, c⟩ := Run_step (M := fun _ _ => 0) h hl
      simp only [sTake, low_of hl]
      exact Int.le_trans (sStep_mono h hl hx) (ih _ a)
theorem sFor_mono {T x : Int} (hx : isC x) : ∀ (d : Nat) (g : Int → Int), Run g T → g x ≤ (sFor d g).2 x := by
  intro d
  induction d with
  | zero => intro g h; exact Int.le_refl _
  | succ d ih =>
    intro g h
    by_cases hf : fFr g 0 = -1
    · rcases lowM_or g with hno | ⟨l, hl⟩
      · simp only [sFor, if_pos hf, low_no hno]; exact Int.le_refl _
      · obtain ⟨a, b, c⟩ := Run_step (M := fun _ _ => 0) h hl
        simp only [sFor, if_pos hf, low_of hl]
        exact Int.le_trans (sStep_mono h hl hx) (ih _ a)
    · simp only [sFor, if_neg hf]; exact Int.le_refl _
theorem sAct_mono {g : Int → Int} {T k v x : Int} (h : Run g T) (hk : 0 ≤ k ∧ k < 200) (hv : -1 ≤ v ∧ v ≤ 999) (hT : T + 1000 < 2000000000) (hx : 7720 ≤ x ∧ x ≤ 7738) : g x ≤ sAct g k v x := by
  obtain ⟨b1, b2, b3, b4, b5⟩ := sA1_run h
  obtain ⟨c1, c2, c3⟩ := sA2_run h hk hv hT
  obtain ⟨v1, v2, v3, v4, v5⟩ := sAct_v h hk hv hT
  have d2 := Run_rg b1 (x := 7738) (by unfold isC; omega)
  obtain ⟨i1, i2, i3, i4, i5⟩ := sLay_inv (k := k) (v := v) b1.1 rfl b2 hk hv d2
  obtain ⟨w1, w2, w3, w4, w5, w6, w7⟩ := sLay_v (g := (sA1 g).2) (k := k) (v := v) i4
  have hc : isC x := by unfold isC; omega
  have m1 : g x ≤ (sA1 g).2 x := sFor_mono hc _ g h
  have m2 : (sA1 g).2 x ≤ sA2 g k v x := by
    unfold sA2
    rw [sAll_x i1 (fun z => Or.inl (i3 z)) (by omega)]
    by_cases q : x = 7738
    · subst q; rw [w6]; omega
    · rw [w7 x (by omega) (by omega) (by omega) (by omega) (by omega) q]; exact Int.le_refl _
  have m3 : sA2 g k v x ≤ (sA3 g k v).2 x := sTake_mono hc _ _ c1
  rw [v5 x (by omega) (by omega) (by omega) (by omega)]
  omega
def kv (K : Int → Int) (v : Int) : Int → Int := fun x => K (7657 * v + x)
def tollR (M : fMem) (g : Int → Int) : Prop := M 147 1 = g 7741 % 40 ∧ M 147 2 = min (g 7741) 40 ∧ ∀ i, 0 ≤ i → i < 40 → M 148 ((i + 1) % 40) = g (7747 + i)
def viewR (M : fMem) (K tk : Int → Int) : Prop := ∀ v, 0 ≤ v → v < 3 → M 144 v = tk v ∧ RelV (60 * v.toNat + 238) M (kv K v)
/-- the class's memory and the reference's numbers -/
def CR (M : fMem) (g K tk tp : Int → Int) (tn : Int) : Prop :=
  RelE 1 M g ∧ M 0 10 = g 7740 ∧ (M 145 1 = tn ∧ ∀ j, 0 ≤ j → j < tn → M 146 j = tp j) ∧ tollR M g ∧ viewR M K tk ∧ (M 0 11 = 0 → idxR M g)
def SI (g K tk tp : Int → Int) (tn T : Int) : Prop :=
  Run g T ∧ 500000 ≤ T ∧ (0 ≤ g 7739 ∧ g 7739 ≤ 40) ∧ (2 ≤ g 7740 ∧ g 7740 ≤ 8) ∧ (0 ≤ tn ∧ tn ≤ 200) ∧ (∀ j, 0 ≤ j → j < tn → 0 ≤ tp j ∧ tp j ≤ 255) ∧
  (∀ v, 0 ≤ v → v < 3 → (tk v = 0 ∨ tk v = 1) ∧ okV (kv K v) ∧ ∀ r, 0 ≤ r → r < 19 → kv K v (7619 + r) = 2 → kv K v (7638 + r) ≤ g 7738) ∧ (∀ x, rg (K x))
def TT (n : Int) : Int := 500000 + 210000 * n
def St (M : fMem) (n : Int) : Prop := CR M (M 419) (M 435) (M 436) (M 421) (M 418 3) ∧ SI (M 419) (M 435) (M 436) (M 421) (M 418 3) (TT n) ∧ (0 ≤ M 418 16 ∧ M 418 16 ≤ 1000 * n) ∧ 0 ≤ n
theorem SI_up {g K tk tp : Int → Int} {tn T U : Int} (h : SI g K tk tp tn T) (h1 : T ≤ U) (h2 : U < 2000000000) : SI g K tk tp tn U := by
  obtain ⟨a, b, c⟩ := h
  exact ⟨Run_up a h1 h2, by omega, c⟩
/-- what a question leaves as it was -/
def keep (x : Nat) : Prop := (1 ≤ x ∧ x ≤ 71 ∧ x ≠ 2 ∧ x ≠ 4) ∨ (143 ≤ x ∧ x ≤ 148) ∨ (238 ≤ x ∧ x < 418 ∧ x ≠ 238 ∧ x ≠ 240 ∧ x ≠ 298 ∧ x ≠ 300 ∧ x ≠ 358 ∧ x ≠ 360)
theorem RelE_cg {M M1 : fMem} {g : Int → Int} (h : RelE 1 M g) (f : ∀ x, keep x → M1 x = M x) : RelE 1 M1 g := by
  unfold keep at f
  refine ⟨fun r r0 r1 => ?_, fun l l0 l1 => ?_, ?_⟩
  · exact rowE_cg ⟨r0, r1⟩ (h.1 r r0 r1) ⟨f _ (by omega), f _ (by omega), f _ (by omega)⟩ (fun _ _ => rfl)
  · exact mrgE_cg ⟨l0, l1⟩ (h.2.1 l l0 l1) (f _ (by omega)) (fun _ _ => rfl)
  · exact ctrE_cg h.2.2 (f _ (by omega)) (fun _ _ _ => rfl)
theorem CR_q {M M1 : fMem} {g K tk tp : Int → Int} {tn : Int} (h : CR M g K tk tp tn) (f : ∀ x, keep x → M1 x = M x) (h10 : M1 0 10 = M 0 10) (hi : M1 0 11 = 0 → idxR M1 g) : CR M1 g K tk tp tn := by
  obtain ⟨a, b, c, d, e, -⟩ := h
  refine ⟨RelE_cg a f, by rw [h10, b], ⟨?_, fun j j0 j1 => ?_⟩, ⟨?_, ?_, fun i i0 i1 => ?_⟩, fun v v0 v1 => ?_, hi⟩
  · rw [f 145 (by unfold keep; omega)]; exact c.1
  · rw [f 146 (by unfold keep; omega)]; exact c.2 j j0 j1
  · rw [f 147 (by unfold keep; omega)]; exact d.1
  · rw [f 147 (by unfold keep; omega)]; exact d.2.1
  · rw [f 148 (by unfold keep; omega)]; exact d.2.2 i i0 i1
  · obtain ⟨e1, e2⟩ := e v v0 v1
    refine ⟨by rw [f 144 (by unfold keep; omega)]; exact e1, RelV_cg e2 (fun x h1 h2 => f x ?_)⟩
    have : v = 0 ∨ v = 1 ∨ v = 2 := by omega
    unfold keep
    rcases this with rfl | rfl | rfl <;> omega
def qF (M M1 : fMem) : Prop := (∀ x, keep x → M1 x = M x) ∧ M1 0 10 = M 0 10 ∧ ∀ x, 418 ≤ x → M1 x = M x
theorem St_q {M M1 : fMem} {n : Int} (h : St M n) (f : qF M M1) (hi : M1 0 11 = 0 → idxR M1 (M 419)) : St M1 n := by
  obtain ⟨a, b, c, d⟩ := h
  unfold St
  rw [f.2.2 419 (by omega), f.2.2 435 (by omega), f.2.2 436 (by omega), f.2.2 421 (by omega), f.2.2 418 (by omega)]
  exact ⟨CR_q a f.1 f.2.1 hi, b, c, d⟩
/-- what the reference's question leaves as it was -/
theorem St_r {M M1 : fMem} {n : Int} (h : St M n) (f : ∀ x, x < 418 → M1 x = M x) (h1 : M1 419 = M 419) (h2 : M1 435 = M 435) (h3 : M1 436 = M 436) (h4 : M1 421 = M 421) (h5 : M1 418 3 = M 418 3) (h6 : 0 ≤ M1 418 16 ∧ M1 418 16 ≤ 1000 * (n + 1)) (hn : n < 600) : St M1 (n + 1) := by
  obtain ⟨a, b, c, d⟩ := h
  unfold St
  rw [h1, h2, h3, h4, h5]
  refine ⟨CR_q a (fun x hx => f x (by unfold keep at hx; omega)) (by rw [f 0 (by omega)]) (fun z => ?_), SI_up b (by unfold TT; omega) (by unfold TT; omega), h6, by omega⟩
  rw [f 0 (by omega)] at z
  obtain ⟨i1, i2⟩ := a.2.2.2.2.2 z
  exact ⟨ixR_cg i1 (fun x x0 x1 => f x (by omega)), by rw [f 2 (by omega)]; exact i2.1, fun j x hx => by rw [f (2 + 2) (by omega)]; exact i2.2 j x hx⟩
/-- an act of both -/
theorem A_act {M : fMem} {g K tk tp : Int → Int} {tn T k v : Int} (h : CR M g K tk tp tn) (hR : Run g T) (hT0 : 500000 ≤ T) (hb : 0 ≤ g 7739 ∧ g 7739 ≤ 40) (hk : 0 ≤ k ∧ k < 200) (hv : -1 ≤ v ∧ v ≤ 999) (hT : T + 1000 < 2000000000) : ∃ M1, f_X10_takeAct k v M = some (sAll3 g k v, M1) ∧ CR M1 (sAct g k v) K tk tp tn ∧ ∀ x, 418 ≤ x → M1 x = M x := by
  obtain ⟨c1, c2, c3, ⟨c4, c5, c6⟩, c7, c8⟩ := h
  obtain ⟨N, a1, a2⟩ := c_act (M0 := M) ⟨c1, frm_rf 1 71 M⟩ (Or.inl rfl) hR hb hk hv hT0 hT
  obtain ⟨s0, s1, s2, s3, s4⟩ := sAct_run hR hk hv hT0 hT
  obtain ⟨v1, v2, v3, v4, v5⟩ := sAct_v hR hk hv hT
  obtain ⟨-, -, -, u⟩ := sA3_run hR hk hv hT
  have fx : ∀ x, x < 1 ∨ 72 ≤ x → N x = M x := fun x hx => a2.2 x (by omega)
  have p := phi_bd hR.1.1
  have cn := hR.2.1 7741 (by unfold isC; omega)
  have n1 : N 147 1 = g 7741 % 40 := by rw [fx 147 (by omega), c4]
  have n2 : N 147 2 = min (g 7741) 40 := by rw [fx 147 (by omega), c5]
  generalize hL : (g 7741 % 40 + 1) % 40 = L
  have hLb : 0 ≤ L ∧ L < 40 := by omega
  generalize hK : mset (mset (mset (mset N 147 1 L) 148 L (sAll3 g k v)) 147 2 (min (min (g 7741) 40 + 1) 40)) 0 11 1 = K1
  have kx : ∀ x, x ≠ 0 → x ≠ 147 → x ≠ 148 → K1 x = N x := fun x h1 h2 h3 => by rw [← hK, mset_ne h1, mset_ne h2, mset_ne h3, mset_ne h2]
  have k0 : ∀ i, i ≠ 11 → K1 0 i = M 0 i := fun i hi => by rw [← hK, mset_slot hi, mset_ne (by omega), mset_ne (by omega), mset_ne (by omega), fx 0 (by omega)]
  refine ⟨K1, ?_, ⟨?_, ?_, ⟨?_, fun j j0 j1 => ?_⟩, ⟨?_, ?_, fun i i0 i1 => ?_⟩, fun w w0 w1 => ?_, fun z => ?_⟩, fun x hx => by rw [kx x (by omega) (by omega) (by omega), fx x (by omega)]⟩
  · unfold f_X10_takeAct
    refine bc a1 ?_
    have ad : f_X9_add (sAll3 g k v) N = some (mset (mset (mset N 147 1 L) 148 L (sAll3 g k v)) 147 2 (min (min (g 7741) 40 + 1) 40)) := by
      unfold f_X9_add
      rw [n1, hL]
      refine si (by omega) (si (by omega) (bs fun x1 q1 => ?_))
      have z1 : x1 147 1 = L := by rw [q1, mset_self]
      rw [z1]
      refine si hLb (bs fun x2 q2 => ?_)
      have z2 : x2 147 2 = min (g 7741) 40 := by rw [q2, mset_ne (by omega), q1, mset_slot (by omega), n2]
      rw [z2]
      refine si (by omega) ?_
      rw [q2, q1]; rfl
    refine bc ad (bs fun x q => ?_)
    rw [hK] at q
    rw [q]
  · have : ∀ x, keep x → x < 72 → K1 x = N x := fun x hx _ => by unfold keep at hx; exact kx x (by omega) (by omega) (by omega)
    refine ⟨fun r r0 r1 => ?_, fun l l0 l1 => ?_, ?_⟩
    · exact rowE_cg ⟨r0, r1⟩ (a2.1.1 r r0 r1) ⟨kx _ (by omega) (by omega) (by omega), kx _ (by omega) (by omega) (by omega), kx _ (by omega) (by omega) (by omega)⟩ (fun _ _ => rfl)
    · exact mrgE_cg ⟨l0, l1⟩ (a2.1.2.1 l l0 l1) (kx _ (by omega) (by omega) (by omega)) (fun _ _ => rfl)
    · exact ctrE_cg a2.1.2.2 (kx _ (by omega) (by omega) (by omega)) (fun _ _ _ => rfl)
  · rw [k0 10 (by omega), c2, v5 7740 (by omega) (by omega) (by omega) (by omega), u 7740 (by unfold isU; omega)]
  · rw [kx 145 (by omega) (by omega) (by omega), fx 145 (by omega)]; exact c3.1
  · rw [kx 146 (by omega) (by omega) (by omega), fx 146 (by omega)]; exact c3.2 j j0 j1
  · rw [v2, ← hK, mset_ne (by omega), mset_slot (by omega), mset_ne (by omega), mset_self]; omega
  · rw [v2, ← hK, mset_ne (by omega), mset_self]; omega
  · have e8 : K1 148 = us (N 148) L (sAll3 g k v) := by
      rw [← hK, mset_ne (k := 0) (by omega), mset_ne (k := 147) (by omega), mset_at, mset_ne (k := 147) (by omega)]
    rw [e8]
    by_cases q : i = g 7741 % 40
    · rw [show (i + 1) % 40 = L by omega, us_eq, q, v1]
    · rw [us_ne (by omega), fx 148 (by omega), c6 i i0 i1, v5 (7747 + i) (by omega) (by omega) (by omega) (by omega), u (7747 + i) (by unfold isU; omega)]
  · obtain ⟨e1, e2⟩ := c7 w w0 w1
    have ff : ∀ x, 72 ≤ x → x ≠ 147 → x ≠ 148 → K1 x = M x := fun x h1 h2 h3 => by rw [kx x (by omega) h2 h3, fx x (by omega)]
    exact ⟨by rw [ff 144 (by omega) (by omega) (by omega)]; exact e1, RelV_cg e2 (fun x h1 h2 => ff x (by omega) (by omega) (by omega))⟩
  · rw [← hK, mset_self] at z; omega
theorem SI_act {g K tk tp : Int → Int} {tn T k v : Int} (h : SI g K tk tp tn T) (hk : 0 ≤ k ∧ k < 200) (hv : -1 ≤ v ∧ v ≤ 999) (hT : T + 1000 < 2000000000) : SI (sAct g k v) K tk tp tn (T + 1000) := by
  obtain ⟨a, b, c, d, e, f, i, j⟩ := h
  obtain ⟨v1, v2, v3, v4, v5⟩ := sAct_v a hk hv hT
  obtain ⟨-, -, -, u⟩ := sA3_run a hk hv hT
  have m := sAct_mono (x := 7738) a hk hv hT (by omega)
  refine ⟨(sAct_run a hk hv b hT).1, by omega, ?_, ?_, e, f, fun w w0 w1 => ?_, j⟩
  · rw [v5 7739 (by omega) (by omega) (by omega) (by omega), u 7739 (by unfold isU; omega)]; exact c
  · rw [v5 7740 (by omega) (by omega) (by omega) (by omega), u 7740 (by unfold isU; omega)]; exact d
  · obtain ⟨i1, i2, i3⟩ := i w w0 w1
    exact ⟨i1, i2, fun r r0 r1 hr => Int.le_trans (i3 r r0 r1 hr) m⟩
end ST1
