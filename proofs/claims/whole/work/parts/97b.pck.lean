/-! pack -/
section PCK
theorem p2b : ∀ v : Nat, v ≤ 8 → 1 ≤ (1 : Int) * 2 ^ v ∧ (1 : Int) * 2 ^ v ≤ 256 := by
  intro v hv
  have : v = 0 ∨ v = 1 ∨ v = 2 ∨ v = 3 ∨ v = 4 ∨ v = 5 ∨ v = 6 ∨ v = 7 ∨ v = 8 := by omega
  rcases this with rfl | rfl | rfl | rfl | rfl | rfl | rfl | rfl | rfl <;> decide
theorem p2r : ∀ v : Nat, v ≤ 7 → (1 : Int) * 2 ^ v = rmR (2 * (v : Int)) := by
  intro v hv
  have : v = 0 ∨ v = 1 ∨ v = 2 ∨ v = 3 ∨ v = 4 ∨ v = 5 ∨ v = 6 ∨ v = 7 := by omega
  rcases this with rfl | rfl | rfl | rfl | rfl | rfl | rfl | rfl <;> decide
theorem lvl_for {c : Int} (hc : c ≤ 200) : ∀ (d v : Nat), v + d = 8 → ∃ l : Nat, l ≤ 8 ∧ c ≤ rmR (2 * (l : Int)) ∧ (∀ (M : fMem) (fu : Nat), d < fu → L_X10_leastLevelFor_2 M (fun v1_5 => some v1_5) fu c v = some (l : Int)) ∧ ∀ (M : fMem) (k : Int → Int → fMem → Option (Int × fMem)) (fu : Nat), d < fu → L_X11_pack_22 k fu c v M = k c l M := by
  intro d
  induction d with
  | zero =>
    intro v hv
    have e : v = 8 := by omega
    subst e
    refine ⟨8, by omega, ?_, fun M fu hf => ?_, fun M k fu hf => ?_⟩
    · rw [show rmR (2 * ((8 : Nat) : Int)) = 200 from rfl]; exact hc
    · obtain ⟨f, rfl⟩ : ∃ f, fu = f + 1 := ⟨fu - 1, by omega⟩
      exact it (by omega) rfl
    · obtain ⟨f, rfl⟩ : ∃ f, fu = f + 1 := ⟨fu - 1, by omega⟩
      have e8 : (1 : Int) * 2 ^ (((8 : Nat) : Int)).toNat = 256 := rfl
      refine it (by omega) (it (by rw [e8]; omega) (it (by rw [e8]; omega) rfl))
  | succ d ih =>
    intro v hv
    have pb := p2b v (by omega)
    have pr := p2r v (by omega)
    by_cases q : c ≤ (1 : Int) * 2 ^ v
    · refine ⟨v, by omega, by omega, fun M fu hf => ?_, fun M k fu hf => ?_⟩
      · obtain ⟨f, rfl⟩ : ∃ f, fu = f + 1 := ⟨fu - 1, by omega⟩
        refine ie (by omega) (it (by omega) ?_)
        rw [Int.toNat_natCast]
        exact it (by omega) (it q rfl)
      · obtain ⟨f, rfl⟩ : ∃ f, fu = f + 1 := ⟨fu - 1, by omega⟩
        refine it (by omega) ?_
        rw [Int.toNat_natCast]
        exact it (by omega) (it q rfl)
    · obtain ⟨l, l1, l2, l3, l4⟩ := ih (v + 1) (by omega)
      refine ⟨l, l1, l2, fun M fu hf => ?_, fun M k fu hf => ?_⟩
      · obtain ⟨f, rfl⟩ : ∃ f, fu = f + 1 := ⟨fu - 1, by omega⟩
        refine ie (by omega) (it (by omega) ?_)
        rw [Int.toNat_natCast]
        exact it (by omega) (ie q (l3 M f (by omega)))
      · obtain ⟨f, rfl⟩ : ∃ f, fu = f + 1 := ⟨fu - 1, by omega⟩
        refine it (by omega) ?_
        rw [Int.toNat_natCast]
        exact it (by omega) (ie q (it (by omega) (l4 M k f (by omega))))
def pkS (F : Int → Int) (r : Int) (g : Int → Int) (v : Int) : Int → Int := if F v = -1 then g else us (us (us g (200 * r + g (7600 + r)) v) (3800 + 200 * r + g (7600 + r)) (F v)) (7600 + r) (g (7600 + r) + 1)
def pkL (F : Int → Int) (r : Int) : Nat → Int → (Int → Int) → Int → Int
  | 0, _, g => g
  | d + 1, v, g => pkL F r d (v + 1) (pkS F r g v)
theorem pkS_n {F g : Int → Int} {r v : Int} : pkS F r g v (7600 + r) = g (7600 + r) + tH F v := by
  unfold pkS tH
  by_cases q : F v = -1
  · rw [if_pos q, if_pos q]; omega
  · rw [if_neg q, if_neg q, us_eq]
theorem pkS_y {F g : Int → Int} {r v : Int} (q : F v ≠ -1) : pkS F r g v = us (us (us g (200 * r + g (7600 + r)) v) (3800 + 200 * r + g (7600 + r)) (F v)) (7600 + r) (g (7600 + r) + 1) := by
  unfold pkS; rw [if_neg q]
theorem pkS_no {F g : Int → Int} {r v : Int} (q : F v = -1) : pkS F r g v = g := by
  unfold pkS; rw [if_pos q]
theorem kS_s (f : Int → Int) (v : Int) (d : Nat) : kS f v (d + 1) = f v + kS f (v + 1) d := rfl
theorem c_pkL {M0 : fMem} {F : Int → Int} {r c : Int} {k : Int → Nat → fMem → Option (Int × fMem)} (hr : 0 ≤ r ∧ r < 19) (hF : ∀ κ, 0 ≤ κ → κ < 200 → M0 233 κ = F κ) : ∀ (d fu : Nat) (v : Int) (M : fMem) (g : Int → Int), 0 ≤ v → v + d = 200 → d < fu → RF 1 M0 M g → 0 ≤ g (7600 + r) → g (7600 + r) + kS (tH F) v d ≤ rmR r →
    ∃ M1, L_X10_pack_66 k fu c (3 * r.toNat + 5) v M = k c (3 * r.toNat + 5) M1 ∧ RF 1 M0 M1 (pkL F r d v g) := by
  intro d
  induction d with
  | zero =>
    intro fu v M g v0 hv hf h h0 hs
    obtain ⟨f, rfl⟩ : ∃ f, fu = f + 1 := ⟨fu - 1, by omega⟩
    exact ⟨M, it (by omega) rfl, h⟩
  | succ d ih =>
    intro fu v M g v0 hv hf h h0 hs
    obtain ⟨f, rfl⟩ : ∃ f, fu = f + 1 := ⟨fu - 1, by omega⟩
    have bd := kS_bd (f := tH F) d (v + 1) (fun j _ _ => tH_bd _ _)
    have sz := pkS_n (F := F) (g := g) (r := r) (v := v)
    have tb := tH_bd F v
    rw [kS_s] at hs
    have e3 : M 233 v = F v := by rw [h.2 233 (by omega)]; exact hF v v0 (by omega)
    by_cases q : F v = -1
    · have t0 : tH F v = 0 := by unfold tH; rw [if_pos q]
      obtain ⟨M1, k1, k2⟩ := ih f (v + 1) M g (by omega) (by omega) (by omega) h h0 (by omega)
      refine ⟨M1, ie (by omega) (bc (c_has ⟨v0, by omega⟩) ?_), ?_⟩
      · rw [if_pos (c := M (232 + 1) v = -1) (by rw [show (232 + 1 : Nat) = 233 from rfl, e3]; exact q)]
        exact it rfl k1
      · show RF 1 M0 M1 (pkL F r d (v + 1) (pkS F r g v))
        rw [pkS_no q]; exact k2
    · have t1 : tH F v = 1 := by unfold tH; rw [if_neg q]
      obtain ⟨N, n1, n2, -⟩ := c_append (k := v) (v := F v) h (Or.inl rfl) hr (by omega)
      rw [← pkS_y q] at n2
      rw [show 1 + 3 * r.toNat + 4 = 3 * r.toNat + 5 by omega] at n1
      obtain ⟨M1, k1, k2⟩ := ih f (v + 1) N (pkS F r g v) (by omega) (by omega) (by omega) n2 (by omega) (by omega)
      refine ⟨M1, ie (by omega) (bc (c_has ⟨v0, by omega⟩) ?_), k2⟩
      rw [if_neg (c := M (232 + 1) v = -1) (by rw [show (232 + 1 : Nat) = 233 from rfl, e3]; exact q)]
      refine ie (by omega) (it (by omega) ?_)
      rw [e3]
      exact bc n1 k1
theorem r_pkL {N : fMem} {F : Int → Int} {r c : Int} {k : Int → Int → fMem → Option (Int × fMem)} (hr : 0 ≤ r ∧ r < 19) (hF : ∀ κ, 0 ≤ κ → κ < 200 → N 422 κ = F κ) : ∀ (d fu : Nat) (v : Int) (g : Int → Int), 0 ≤ v → v + d = 200 → d < fu → 0 ≤ g (7600 + r) → g (7600 + r) + kS (tH F) v d ≤ rmR r →
    L_X11_pack_44 k fu c r v (oset N 419 g) = k c r (oset N 419 (pkL F r d v g)) := by
  intro d
  induction d with
  | zero =>
    intro fu v g v0 hv hf h0 hs
    obtain ⟨f, rfl⟩ : ∃ f, fu = f + 1 := ⟨fu - 1, by omega⟩
    exact it (by omega) rfl
  | succ d ih =>
    intro fu v g v0 hv hf h0 hs
    obtain ⟨f, rfl⟩ : ∃ f, fu = f + 1 := ⟨fu - 1, by omega⟩
    have bd := kS_bd (f := tH F) d (v + 1) (fun j _ _ => tH_bd _ _)
    have sz := pkS_n (F := F) (g := g) (r := r) (v := v)
    have tb := tH_bd F v
    have rb := rmR_bd r
    rw [kS_s] at hs
    have e3 : ∀ g', oset N 419 g' 422 v = F v := fun g' => by rw [os_ne (by omega)]; exact hF v v0 (by omega)
    refine ie (by omega) (it (by omega) ?_)
    by_cases q : F v = -1
    · have t0 : tH F v = 0 := by unfold tH; rw [if_pos q]
      refine it (by rw [e3]; exact q) ?_
      rw [ih f (v + 1) g (by omega) (by omega) (by omega) h0 (by omega)]
      show _ = k c r (oset N 419 (pkL F r d (v + 1) (pkS F r g v)))
      rw [pkS_no q]
    · have t1 : tH F v = 1 := by unfold tH; rw [if_neg q]
      refine ie (by rw [e3]; exact q) (it (by omega) ?_)
      rw [os]
      refine it (by omega) (bm fun g1 e1 => ?_)
      have z1 : g1 (7600 + r) = g (7600 + r) := by rw [e1, us_ne (by omega)]
      rw [os, z1, e3]
      refine it (by omega) (bm fun g2 e2 => ?_)
      have z2 : g2 (7600 + r) = g (7600 + r) := by rw [e2, us_ne (by omega), z1]
      rw [os, z2]
      refine it (by omega) (bm fun g3 e4 => ?_)
      have z3 : g3 = pkS F r g v := by rw [e4, e2, e1, pkS_y q]
      rw [z3]
      exact ih f (v + 1) (pkS F r g v) (by omega) (by omega) (by omega) (by omega) (by omega)
/-- what is laid so far: keys below v, rising -/
def pkI (r : Int) (g0 : Int → Int) (v : Int) (g : Int → Int) : Prop := 0 ≤ g (7600 + r) ∧ (∀ j, 0 ≤ j → j < g (7600 + r) → 0 ≤ g (200 * r + j) ∧ g (200 * r + j) < v ∧ -1 ≤ g (3800 + 200 * r + j) ∧ g (3800 + 200 * r + j) ≤ 999) ∧ (∀ i j, 0 ≤ i → i < j → j < g (7600 + r) → g (200 * r + i) < g (200 * r + j)) ∧
  (∀ x, ¬ (200 * r ≤ x ∧ x < 200 * r + 200) → ¬ (3800 + 200 * r ≤ x ∧ x < 4000 + 200 * r) → x ≠ 7600 + r → g x = g0 x) ∧ ∀ x, rg (g x)
theorem pkI_s {F g g0 : Int → Int} {r v : Int} (hr : 0 ≤ r ∧ r < 19) (hv : 0 ≤ v ∧ v < 200) (hF : -1 ≤ F v ∧ F v ≤ 999) (h : pkI r g0 v g) (hs : g (7600 + r) < 200 ∨ F v = -1) : pkI r g0 (v + 1) (pkS F r g v) := by
  obtain ⟨h1, h2, h3, h4, h5⟩ := h
  by_cases q : F v = -1
  · rw [pkS_no q]
    exact ⟨h1, fun j j0 j1 => by have := h2 j j0 j1; omega, h3, h4, h5⟩
  · have hs : g (7600 + r) < 200 := hs.resolve_right q
    have sz := pkS_n (F := F) (g := g) (r := r) (v := v)
    have t1 : tH F v = 1 := by unfold tH; rw [if_neg q]
    have kOld : ∀ j, 0 ≤ j → j < g (7600 + r) → pkS F r g v (200 * r + j) = g (200 * r + j) ∧ pkS F r g v (3800 + 200 * r + j) = g (3800 + 200 * r + j) := fun j j0 j1 => by
      rw [pkS_y q]
      exact ⟨by rw [us_ne (by omega), us_ne (by omega), us_ne (by omega)], by rw [us_ne (by omega), us_ne (by omega), us_ne (by omega)]⟩
    have kNew : pkS F r g v (200 * r + g (7600 + r)) = v ∧ pkS F r g v (3800 + 200 * r + g (7600 + r)) = F v := by
      rw [pkS_y q]
      exact ⟨by rw [us_ne (by omega), us_ne (by omega), us_eq], by rw [us_ne (by omega), us_eq]⟩
    refine ⟨by omega, fun j j0 j1 => ?_, fun i j i0 ij j1 => ?_, fun x x1 x2 x3 => ?_, ?_⟩
    · by_cases c : j = g (7600 + r)
      · rw [c, kNew.1, kNew.2]; omega
      · obtain ⟨a, b⟩ := kOld j j0 (by omega)
        rw [a, b]
        have := h2 j j0 (by omega); omega
    · obtain ⟨a, -⟩ := kOld i i0 (by omega)
      by_cases c : j = g (7600 + r)
      · rw [c, kNew.1, a]
        have := h2 i i0 (by omega); omega
      · rw [a, (kOld j (by omega) (by omega)).1]
        exact h3 i j i0 ij (by omega)
    · rw [pkS_y q, us_ne x3, us_ne (by omega), us_ne (by omega)]
      exact h4 x x1 x2 x3
    · rw [pkS_y q]
      exact us_rg (us_rg (us_rg h5 (by unfold rg; omega)) (by unfold rg; omega)) (by unfold rg; omega)
theorem pkL_I {F g0 : Int → Int} {r : Int} (hr : 0 ≤ r ∧ r < 19) (hF : ∀ κ, 0 ≤ κ → κ < 200 → -1 ≤ F κ ∧ F κ ≤ 999) : ∀ (d : Nat) (v : Int) (g : Int → Int), 0 ≤ v → v + d = 200 → pkI r g0 v g → g (7600 + r) + kS (tH F) v d ≤ rmR r → pkI r g0 200 (pkL F r d v g) ∧ pkL F r d v g (7600 + r) = g (7600 + r) + kS (tH F) v d := by
  intro d
  induction d with
  | zero =>
    intro v g v0 hv h hs
    have e : v = 200 := by omega
    subst e
    refine ⟨h, ?_⟩
    show g (7600 + r) = g (7600 + r) + 0
    omega
  | succ d ih =>
    intro v g v0 hv h hs
    have bd := kS_bd (f := tH F) d (v + 1) (fun j _ _ => tH_bd _ _)
    have sz := pkS_n (F := F) (g := g) (r := r) (v := v)
    have rb := rmR_bd r
    rw [kS_s] at hs
    have hq : g (7600 + r) < 200 ∨ F v = -1 := by
      by_cases q : F v = -1
      · exact Or.inr q
      · have t1 : tH F v = 1 := by unfold tH; rw [if_neg q]
        left; omega
    obtain ⟨a, b⟩ := ih (v + 1) (pkS F r g v) (by omega) (by omega) (pkI_s hr ⟨v0, by omega⟩ (hF v v0 (by omega)) h hq) (by omega)
    refine ⟨a, ?_⟩
    show pkL F r d (v + 1) (pkS F r g v) (7600 + r) = _
    rw [b, sz, kS_s]; omega
end PCK
