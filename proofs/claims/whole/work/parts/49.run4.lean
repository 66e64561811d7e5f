/-! an act of the reference, all of it -/
section RUN4
def isU (x : Int) : Prop := x = 7739 ∨ x = 7740 ∨ x = 7741 ∨ x = 7743 ∨ x = 7744 ∨ 7747 ≤ x
theorem sStep_con {g : Int → Int} {l x T : Int} (h : Run g T) (hm : lowM g l) (hx : isU x) : sStep g l x = g x := by
  have hl : 0 ≤ l ∧ l ≤ 8 := ⟨hm.1, hm.2.1⟩
  have d1 := Run_rg h (x := 7729 + l) (by unfold isC; omega)
  have d2 := Run_rg h (x := 7746) (by unfold isC; omega)
  have d3 := Run_rg h (x := 7745) (by unfold isC; omega)
  have d4 := Run_rg h (x := 7742) (by unfold isC; omega)
  have c1 := Run_rg h (x := 7720 + l) (by unfold isC; omega)
  have c2 := Run_rg h (x := 7738) (by unfold isC; omega)
  have ok := okS_of hl h.1.1 hm.2.2.1 d1 d2 d3 d4
  have hW := sMv_inv hl h.1.1 hm.2.2.1 d1 d2 d3 d4
  unfold isU at hx
  have far : ∀ x, 7619 ≤ x → x < 7702 → sMv g l x = g x := fun x x0 x1 => sMv_far ok (by omega) (by omega) (by omega) (by omega) (by omega) (by omega) (by omega)
  have ag : agK g (sMv g l) := fun x x0 x1 => far x x0 (by omega)
  have hq : ∀ k, 0 ≤ k → k ≤ 8 → quiet (sMv g l) k := by
    intro k k0 k1 h2
    rw [shM_ag ag ⟨k0, k1⟩] at h2
    rcases h.1.2 k k0 k1 h2 with z | ⟨z1, z2⟩
    · left; rw [far _ (by omega) (by omega)]; exact z
    · right; refine ⟨z1, ?_⟩
      rw [fFr_ag ag ⟨by omega, by omega⟩]; exact z2
  have e1 : sMv g l (7720 + l) = g (7720 + l) := sMv_far ok (by omega) (by omega) (by omega) (by omega) (by omega) (by omega) (by omega)
  have e2 : sMv g l 7738 = g 7738 := sMv_far ok (by omega) (by omega) (by omega) (by omega) (by omega) (by omega) (by omega)
  have hx1 : sMv g l x = g x := sMv_far ok (by omega) (by omega) (by omega) (by omega) (by omega) (by omega) (by omega)
  unfold sStep
  split
  · obtain ⟨-, ha⟩ := sThr_inv hl hW hq (by rw [e1]; exact c1) (by rw [e2]; exact c2)
    rw [ha.1 x (by omega)]
    obtain ⟨hy, he, ht, n1, n2⟩ := mrg_rows hl h.1.1 hm.2.2.1
    have f1 := far (7684 + l) (by omega) (by omega)
    have f2 := far (7693 + l) (by omega) (by omega)
    have f3 := far (7675 + l) (by omega) (by omega)
    obtain ⟨v1, v2, ⟨v3, v4⟩, ⟨v5, v6⟩, v7, v8⟩ := sThr2_v (g := sMv g l) hl (by omega) (by omega) (by omega) (by omega) (by omega)
    rw [v8 x (by omega) (by omega) (by omega) (by omega) (by omega) (by omega) (by omega) (by omega) (by omega)]
    exact hx1
  · exact hx1
theorem sTake_con {T x : Int} (hx : isU x) : ∀ (d : Nat) (g : Int → Int), Run g T → (sTake d g).2 x = g x := by
  intro d
  induction d with
  | zero => intro g h; rfl
  | succ d ih =>
    intro g h
    rcases lowM_or g with hno | ⟨l, hl⟩
    · simp only [sTake, low_no hno]
    · obtain ⟨a, b, c⟩ := Run_step (M := fun _ _ => 0) h hl
      simp only [sTake, low_of hl]
      rw [ih _ a, sStep_con h hl hx]
theorem sFor_con {T x : Int} (hx : isU x) : ∀ (d : Nat) (g : Int → Int), Run g T → (sFor d g).2 x = g x := by
  intro d
  induction d with
  | zero => intro g h; rfl
  | succ d ih =>
    intro g h
    by_cases hf : fFr g 0 = -1
    · rcases lowM_or g with hno | ⟨l, hl⟩
      · simp only [sFor, if_pos hf, low_no hno]
      · obtain ⟨a, b, c⟩ := Run_step (M := fun _ _ => 0) h hl
        simp only [sFor, if_pos hf, low_of hl]
        rw [ih _ a, sStep_con h hl hx]
    · simp only [sFor, if_neg hf]
/-- the thing is all of a row of level 0 -/
def sLay (g : Int → Int) (r k v : Int) : Int → Int := sShut (us (us (us g (200 * r) k) (3800 + 200 * r) v) (7600 + r) 1) r
theorem sLay_v {g : Int → Int} {r k v : Int} (hr : 0 ≤ r ∧ r < 2) : sLay g r k v (200 * r) = k ∧ sLay g r k v (3800 + 200 * r) = v ∧ sLay g r k v (7600 + r) = 1 ∧ sLay g r k v (7619 + r) = 2 ∧ sLay g r k v (7638 + r) = g 7738 + 1 ∧ sLay g r k v 7738 = g 7738 + 1 ∧
    ∀ x, x ≠ 200 * r → x ≠ 3800 + 200 * r → x ≠ 7600 + r → x ≠ 7619 + r → x ≠ 7638 + r → x ≠ 7738 → sLay g r k v x = g x := by
  have e : us (us (us g (200 * r) k) (3800 + 200 * r) v) (7600 + r) 1 7738 = g 7738 := by rw [us_ne (by omega), us_ne (by omega), us_ne (by omega)]
  unfold sLay sShut
  rw [e]
  refine ⟨?_, ?_, ?_, ?_, ?_, ?_, fun x a b c d e f => ?_⟩
  · rw [us_ne (by omega), us_ne (by omega), us_ne (by omega), us_ne (by omega), us_ne (by omega), us_eq]
  · rw [us_ne (by omega), us_ne (by omega), us_ne (by omega), us_ne (by omega), us_eq]
  · rw [us_ne (by omega), us_ne (by omega), us_ne (by omega), us_eq]
  · rw [us_ne (by omega), us_ne (by omega), us_eq]
  · rw [us_eq]
  · rw [us_ne (by omega), us_eq]
  · rw [us_ne e, us_ne f, us_ne d, us_ne c, us_ne b, us_ne a]
/-- a free row is filled and shut -/
theorem InvS_new {g g1 : Int → Int} {r : Int} (h : InvS g) (hr : 0 ≤ r ∧ r < 19) (hf : g (7619 + r) = 0) (h8 : shM g1 8 ≤ 2) (hn : 1 ≤ g1 (7600 + r) ∧ g1 (7600 + r) ≤ rmR r)
    (hc : ∀ j, 0 ≤ j → j < g1 (7600 + r) → 0 ≤ g1 (200 * r + j) ∧ g1 (200 * r + j) < 200 ∧ -1 ≤ g1 (3800 + 200 * r + j) ∧ g1 (3800 + 200 * r + j) ≤ 999) (hs : ∀ i j, 0 ≤ i → i < j → j < g1 (7600 + r) → g1 (200 * r + i) < g1 (200 * r + j))
    (k1 : g1 (7619 + r) = 2) (k2 : g1 (7638 + r) = g 7738 + 1) (k3 : g1 7738 = g 7738 + 1)
    (fr : ∀ x, ¬ (200 * r ≤ x ∧ x < 200 * r + 200) → ¬ (3800 + 200 * r ≤ x ∧ x < 4000 + 200 * r) → x ≠ 7600 + r → x ≠ 7619 + r → x ≠ 7638 + r → x ≠ 7738 → g1 x = g x) (hrg : ∀ x, rg (g1 x)) : InvS g1 := by
  obtain ⟨hR, hM, hO, hI, h8', hrg'⟩ := h
  have nM : ∀ k, 0 ≤ k → k ≤ 8 → g (7657 + k) = 1 → ∀ q, q = g (7684 + k) ∨ q = g (7693 + k) ∨ q = g (7675 + k) → 0 ≤ q ∧ q < 19 ∧ q ≠ r := by
    intro k k0 k1 hm q hq
    obtain ⟨c1, c2, c3, c4, c5, c6, c7, -⟩ := (hM k k0 k1).2.2 hm
    have hlk := lst_bd k
    have hlk2 := lst_bd (nxt k)
    have hnk := nxt_cs k
    rcases hq with rfl | rfl | rfl
    · exact ⟨by omega, by omega, fun q => by rw [q, hf] at c4; omega⟩
    · exact ⟨by omega, by omega, fun q => by rw [q, hf] at c5; omega⟩
    · exact ⟨by omega, by omega, fun q => by rw [q, hf] at c7; omega⟩
  refine ⟨?_, ?_, ⟨?_, ?_⟩, ⟨?_, ?_⟩, h8, hrg⟩
  · intro q q0 q1
    by_cases hq : q = r
    · subst hq
      exact ⟨Or.inr (Or.inr k1), ⟨by omega, hn.2⟩, fun z => by omega, fun _ => hn.1, hc, hs⟩
    · have hrm := rmR_bd q
      have hmn := (hR q q0 q1).2.1
      exact okR_cg (fr _ (by omega) (by omega) (by omega) (by omega) (by omega) (by omega)) (fr _ (by omega) (by omega) (by omega) (by omega) (by omega) (by omega)) (fun j j0 j1 => ⟨fr _ (by omega) (by omega) (by omega) (by omega) (by omega) (by omega), fr _ (by omega) (by omega) (by omega) (by omega) (by omega) (by omega)⟩) (hR q q0 q1)
  · intro k k0 k1
    refine okM_cg (fr _ (by omega) (by omega) (by omega) (by omega) (by omega) (by omega)) (fr _ (by omega) (by omega) (by omega) (by omega) (by omega) (by omega)) (fr _ (by omega) (by omega) (by omega) (by omega) (by omega) (by omega)) (fr _ (by omega) (by omega) (by omega) (by omega) (by omega) (by omega)) (fr _ (by omega) (by omega) (by omega) (by omega) (by omega) (by omega)) (fr _ (by omega) (by omega) (by omega) (by omega) (by omega) (by omega)) (fr _ (by omega) (by omega) (by omega) (by omega) (by omega) (by omega)) (fun hm q hq => ?_) (hM k k0 k1)
    obtain ⟨a, b, c⟩ := nM k k0 k1 hm q hq
    have hrm := rmR_bd q
    have hmn := (hR q a b).2.1
    exact ⟨fr _ (by omega) (by omega) (by omega) (by omega) (by omega) (by omega), fr _ (by omega) (by omega) (by omega) (by omega) (by omega) (by omega), fun j j0 j1 => fr _ (by omega) (by omega) (by omega) (by omega) (by omega) (by omega)⟩
  · intro q q0 q1 hq
    by_cases e : q = r
    · subst e; omega
    · rw [fr (7619 + q) (by omega) (by omega) (by omega) (by omega) (by omega) (by omega)] at hq
      rw [fr (7638 + q) (by omega) (by omega) (by omega) (by omega) (by omega) (by omega), k3]
      have := hO.1 q q0 q1 hq; omega
  · intro q t q0 q1 t0 t1 hqt hq ht
    have key : ∀ t, 0 ≤ t → t < 19 → t ≠ r → g1 (7619 + t) = 2 → g1 (7638 + t) = g (7638 + t) ∧ g (7619 + t) = 2 ∧ g (7638 + t) ≤ g 7738 := by
      intro t t0 t1 e ht
      rw [fr (7619 + t) (by omega) (by omega) (by omega) (by omega) (by omega) (by omega)] at ht
      exact ⟨fr (7638 + t) (by omega) (by omega) (by omega) (by omega) (by omega) (by omega), ht, hO.1 t t0 t1 ht⟩
    by_cases e : q = r
    · subst e
      obtain ⟨a, b, c⟩ := key t t0 t1 (by omega) ht
      omega
    · by_cases e2 : t = r
      · subst e2
        obtain ⟨a, b, c⟩ := key q q0 q1 (by omega) hq
        omega
      · obtain ⟨a, b, c⟩ := key t t0 t1 e2 ht
        obtain ⟨a', b', c'⟩ := key q q0 q1 e hq
        rw [a, a']
        exact hO.2 q t q0 q1 t0 t1 hqt b' b
  · intro a k a0 a1 k0 k1 hak ha hk
    rw [fr (7657 + a) (by omega) (by omega) (by omega) (by omega) (by omega) (by omega)] at ha
    rw [fr (7657 + k) (by omega) (by omega) (by omega) (by omega) (by omega) (by omega)] at hk
    rw [fr (7675 + a) (by omega) (by omega) (by omega) (by omega) (by omega) (by omega), fr (7675 + k) (by omega) (by omega) (by omega) (by omega) (by omega) (by omega)]
    exact hI.1 a k a0 a1 k0 k1 hak ha hk
  · intro q q0 q1 hq
    have e : q ≠ r := fun e => by subst e; omega
    rw [fr (7619 + q) (by omega) (by omega) (by omega) (by omega) (by omega) (by omega)] at hq
    obtain ⟨k, k0, k1, a, b⟩ := hI.2 q q0 q1 hq
    refine ⟨k, k0, k1, ?_, ?_⟩
    · rw [fr (7657 + k) (by omega) (by omega) (by omega) (by omega) (by omega) (by omega)]; exact a
    · rw [fr (7675 + k) (by omega) (by omega) (by omega) (by omega) (by omega) (by omega)]; exact b
theorem sLay_rg {g : Int → Int} {r k v : Int} (hg : ∀ x, rg (g x)) (hk : 0 ≤ k ∧ k < 200) (hv : -1 ≤ v ∧ v ≤ 999) (hr : 0 ≤ r ∧ r < 2) (hc : rg (g 7738 + 1)) : ∀ x, rg (sLay g r k v x) := by
  have e : us (us (us g (200 * r) k) (3800 + 200 * r) v) (7600 + r) 1 7738 = g 7738 := by rw [us_ne (by omega), us_ne (by omega), us_ne (by omega)]
  unfold sLay sShut
  rw [e]
  exact us_rg (us_rg (us_rg (us_rg (us_rg (us_rg hg ⟨by omega, by omega⟩) ⟨by omega, by omega⟩) ⟨by omega, by omega⟩) ⟨by omega, by omega⟩) hc) hc
theorem sLay_inv {g : Int → Int} {r k v : Int} (h : Inv g) (hr : fFr g 0 = r) (hr1 : r ≠ -1) (hk : 0 ≤ k ∧ k < 200) (hv : -1 ≤ v ∧ v ≤ 999) (hc : rg (g 7738 + 1)) : InvS (sLay g r k v) ∧ phi (sLay g r k v) = phi g + 408 ∧ (shM (sLay g r k v) 8 = 2 → sLay g r k v 7665 = 1) ∧ (0 ≤ r ∧ r < 2) ∧ g (7619 + r) = 0 := by
  have hb := (fFr_bd (g := g) (l := 0) (by omega)).resolve_left (by rw [hr]; exact hr1)
  rw [hr] at hb
  have hr2 : 0 ≤ r ∧ r < 2 := by have := hb.2.2.2.2; rw [if_neg (by omega)] at this; omega
  obtain ⟨v1, v2, v3, v4, v5, v6, v7⟩ := sLay_v (g := g) (k := k) (v := v) hr2
  have s8 : shM (sLay g r k v) 8 = shM g 8 := shM_cg (by omega) (fun q q0 q1 => by have := lst_bd 8; rw [v7 (7619 + q) (by omega) (by omega) (by omega) (by omega) (by omega) (by omega)])
  have e65 : sLay g r k v 7665 = g 7665 := v7 7665 (by omega) (by omega) (by omega) (by omega) (by omega) (by omega)
  have hz : g (7600 + r) = 0 := (h.1.1 r (by omega) (by omega)).2.2.1 hb.2.2.1
  have hm0 : g 7657 ≠ 1 := by
    intro hm
    obtain ⟨c1, c2, c3, c4, c5, -⟩ := (h.1.2.1 0 (by omega) (by omega)).2.2 hm
    have := lst_bd 0
    have : g (7684 + 0) = r ∨ g (7693 + 0) = r := by omega
    rcases this with e | e
    · rw [e, hb.2.2.1] at c4; omega
    · rw [e, hb.2.2.1] at c5; omega
  refine ⟨InvS_new h.1 (r := r) (by omega) hb.2.2.1 (by rw [s8]; exact h.1.2.2.2.2.1) ?_ ?_ ?_ v4 v5 v6 ?_ (sLay_rg h.1.2.2.2.2.2 hk hv hr2 hc), ?_, ?_, hr2, hb.2.2.1⟩
  · have := rmR_bd r; omega
  · intro j j0 j1
    have : j = 0 := by omega
    subst this
    rw [show 200 * r + 0 = 200 * r by omega, show 3800 + 200 * r + 0 = 3800 + 200 * r by omega, v1, v2]
    omega
  · intro i j i0 ij j1; omega
  · intro x x1 x2 x3 x4 x5 x6
    exact v7 x (by omega) (by omega) x3 x4 x5 x6
  · have c0 : cL (sLay g r k v) 0 = cL g 0 + 1 := by
      unfold cL
      rw [show (7657 + 0 : Int) = 7657 from rfl, v7 7657 (by omega) (by omega) (by omega) (by omega) (by omega) (by omega), if_neg hm0, if_neg hm0]
      have : r = 0 ∨ r = 1 := by omega
      rcases this with e | e
      · subst e
        have z1 := v7 7601 (by omega) (by omega) (by omega) (by omega) (by omega) (by omega)
        have z3 : sLay g 0 k v 7600 = 1 := v3
        have z4 : g 7600 = 0 := hz
        show sLay g 0 k v 7600 + sLay g 0 k v 7601 - 0 = g 7600 + g 7601 - 0 + 1
        omega
      · subst e
        have z1 := v7 7600 (by omega) (by omega) (by omega) (by omega) (by omega) (by omega)
        have z3 : sLay g 1 k v 7601 = 1 := v3
        have z4 : g 7601 = 0 := hz
        show sLay g 1 k v 7600 + sLay g 1 k v 7601 - 0 = g 7600 + g 7601 - 0 + 1
        omega
    have ck : ∀ k', 1 ≤ k' → k' ≤ 7 → cL (sLay g r k v) k' = cL g k' := fun k' k0 k1 => cL_cg (v7 _ (by omega) (by omega) (by omega) (by omega) (by omega) (by omega)) (v7 _ (by omega) (by omega) (by omega) (by omega) (by omega) (by omega)) (v7 _ (by omega) (by omega) (by omega) (by omega) (by omega) (by omega)) (v7 _ (by omega) (by omega) (by omega) (by omega) (by omega) (by omega)) (v7 _ (by omega) (by omega) (by omega) (by omega) (by omega) (by omega))
    have c8 : phi8 (sLay g r k v) = phi8 g := by
      unfold phi8
      rw [e65]
      split
      · rename_i hm
        obtain ⟨hy, he, -⟩ := mrg_rows (l := 8) (by omega) h.1 hm
        obtain ⟨c1, c2, -⟩ := (h.1.2.1 8 (by omega) (by omega)).2.2 hm
        have a1 : sLay g r k v (7684 + 8) = g (7684 + 8) := v7 _ (by omega) (by omega) (by omega) (by omega) (by omega) (by omega)
        have a2 : sLay g r k v (7693 + 8) = g (7693 + 8) := v7 _ (by omega) (by omega) (by omega) (by omega) (by omega) (by omega)
        have a3 : sLay g r k v (7702 + 8) = g (7702 + 8) := v7 _ (by omega) (by omega) (by omega) (by omega) (by omega) (by omega)
        have a4 : sLay g r k v (7711 + 8) = g (7711 + 8) := v7 _ (by omega) (by omega) (by omega) (by omega) (by omega) (by omega)
        unfold left
        rw [a1, a2, a3, a4, v7 (7600 + g (7684 + 8)) (by omega) (by omega) (by omega) (by omega) (by omega) (by omega), v7 (7600 + g (7693 + 8)) (by omega) (by omega) (by omega) (by omega) (by omega) (by omega)]
      · rfl
    unfold phi
    rw [c0, ck 1 (by omega) (by omega), ck 2 (by omega) (by omega), ck 3 (by omega) (by omega), ck 4 (by omega) (by omega), ck 5 (by omega) (by omega), ck 6 (by omega) (by omega), ck 7 (by omega) (by omega), c8]
    omega
  · rw [s8, e65]
    intro h2
    rcases h.2 8 (by omega) (by omega) h2 with z | z
    · exact z
    · omega
theorem sAll_x {g : Int → Int} {x : Int} (h : InvS g) (h2 : shM g 8 = 2 → g 7665 = 1 ∨ fFr g 8 ≠ -1) (hx : x < 7619 ∨ (7638 ≤ x ∧ x < 7657) ∨ 7720 ≤ x) : sAll g 9 x = g x := (sAll_inv 9 g (by omega) h (fun k k0 k1 => by omega) (fun _ => h2)).2.1 x hx
/-- an act: forced steps, the row, its share of steps, the counts -/
noncomputable def sA1 (g : Int → Int) : Int × (Int → Int) := sFor 300000 g
noncomputable def sA2 (g : Int → Int) (k v : Int) : Int → Int := sAll (sLay (sA1 g).2 (fFr (sA1 g).2 0) k v) 9
noncomputable def sA3 (g : Int → Int) (k v : Int) : Int × (Int → Int) := sTake (sA2 g k v 7739).toNat (sA2 g k v)
noncomputable def sAll3 (g : Int → Int) (k v : Int) : Int := (sA1 g).1 + (sA3 g k v).1
noncomputable def sAct (g : Int → Int) (k v : Int) : Int → Int := us (us (us (us (sA3 g k v).2 (7747 + (sA3 g k v).2 7741 % 40) (sAll3 g k v)) 7741 ((sA3 g k v).2 7741 + 1)) 7743 ((sA3 g k v).2 7743 + (sA1 g).1)) 7744 (max ((sA3 g k v).2 7744) (sAll3 g k v))
end RUN4
