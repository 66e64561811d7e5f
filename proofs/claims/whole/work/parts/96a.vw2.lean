/-! views: keys seen, copies of shut rows -/
section VW2
theorem l_seen {k : fMem → Option fMem} (m : Nat) : ∀ (fu : Nat) (v : Int) (M : fMem), 0 ≤ v → 200 - v = m → m < fu → L_X11_laysSeen_15 k fu v M = k (oset M 437 (fun x => if v ≤ x ∧ x < 200 then M 422 x else M 437 x)) := by
  induction m with
  | zero =>
    intro fu v M v0 hm hf
    obtain ⟨f, rfl⟩ : ∃ f, fu = f + 1 := ⟨fu - 1, by omega⟩
    refine it (by omega) ?_
    have : oset M 437 (fun x => if v ≤ x ∧ x < 200 then M 422 x else M 437 x) = M := by
      funext a i
      by_cases ha : a = 437
      · subst ha
        rw [os]
        show (if v ≤ i ∧ i < 200 then _ else _) = _
        rw [if_neg (c := v ≤ i ∧ i < 200) (by omega)]
      · rw [os_ne ha]
    rw [this]
  | succ m ih =>
    intro fu v M v0 hm hf
    obtain ⟨f, rfl⟩ : ∃ f, fu = f + 1 := ⟨fu - 1, by omega⟩
    refine ie (by omega) (it (by omega) (bs fun x e => ?_))
    rw [ih f (v + 1) x (by omega) (by omega) (by omega), e]
    have : oset (mset M 437 v (M 422 v)) 437 (fun x => if v + 1 ≤ x ∧ x < 200 then mset M 437 v (M 422 v) 422 x else mset M 437 v (M 422 v) 437 x) = oset M 437 (fun x => if v ≤ x ∧ x < 200 then M 422 x else M 437 x) := by
      funext a i
      by_cases ha : a = 437
      · subst ha
        rw [os, os, mset_ne (by omega), mset_at]
        by_cases c : i = v
        · subst c
          rw [if_neg (c := i + 1 ≤ i ∧ i < 200) (by omega), if_pos (c := i ≤ i ∧ i < 200) (by omega), us_eq]
        · by_cases d : v ≤ i ∧ i < 200
          · rw [if_pos (c := v + 1 ≤ i ∧ i < 200) (by omega), if_pos d]
          · rw [if_neg (c := v + 1 ≤ i ∧ i < 200) (by omega), if_neg d, us_ne c]
      · rw [os_ne ha, os_ne ha, mset_ne ha]
    rw [this]
noncomputable def vK (K : Int → Int) (w κ : Int) : Int := hV (kv K w) κ (ordL (kv K w))
theorem r_laysSeen {M : fMem} {w : Int} (hw : 0 ≤ w ∧ w < 3) (ho : okV (kv (M 435) w)) : ∃ M1, f_X11_laysSeen w M = some M1 ∧ (∀ κ, 0 ≤ κ → κ < 200 → M1 437 κ = vK (M 435) w κ) ∧ ∀ x, x ≠ 420 → x ≠ 422 → x ≠ 423 → x ≠ 424 → x ≠ 437 → M1 x = M x := by
  obtain ⟨A, hA⟩ : ∃ A, A = oset M 420 (fun x => if 0 ≤ x ∧ x < 7787 then M 419 x else M 420 x) := ⟨_, rfl⟩
  have a9 : A 419 = M 419 := by rw [hA, os_ne (by omega)]
  have a5 : A 435 = M 435 := by rw [hA, os_ne (by omega)]
  have bb := r_becomes (M := A) hw
  rw [a5, a9] at bb
  obtain ⟨v1, v2, v3⟩ := bec_v (h := kv (M 435) w) (g := M 419) ho
  obtain ⟨s, hs⟩ : ∃ s, s = bec (kv (M 435) w) (M 419) := ⟨_, rfl⟩
  rw [← hs] at bb v1 v3
  have os2 : okV s := okV_v v1 ho
  obtain ⟨B, t1, t2, t3⟩ := r_laysKeys (M := oset A 419 s) (by rw [os]; exact os2)
  rw [os] at t2
  have q := l_seen (k := fun (M_10 : fMem) => ((f_X11_comesBack M_10).bind fun (r11 : fMem) => some r11)) 200 20000 0 B (by omega) (by omega) (by omega)
  obtain ⟨C, hC⟩ : ∃ C, C = oset B 437 (fun x => if 0 ≤ x ∧ x < 200 then B 422 x else B 437 x) := ⟨_, rfl⟩
  rw [← hC] at q
  have c9 : C 419 = s := by rw [hC, os_ne (by omega), t3 419 (by omega) (by omega) (by omega), os]
  have c0 : C 420 = A 420 := by rw [hC, os_ne (by omega), t3 420 (by omega) (by omega) (by omega), os_ne (by omega)]
  have bk : f_X11_comesBack C = some (oset C 419 (M 419)) := e_backTo (fun x x0 x1 => by rw [c0, hA, os]; show (if 0 ≤ x ∧ x < 7787 then _ else _) = _; rw [if_pos ⟨x0, x1⟩]) (fun x hx => by rw [c9]; exact v3 x (by omega))
  refine ⟨oset C 419 (M 419), ?_, fun κ k0 k1 => ?_, fun x x0 x2 x3 x4 x7 => ?_⟩
  · unfold f_X11_laysSeen
    refine bc (e_goesA _) ?_
    rw [← hA]
    exact bc bb (bc t1 (q.trans (bc bk rfl)))
  · rw [os_ne (by omega), hC, os]
    show (if 0 ≤ κ ∧ κ < 200 then _ else _) = _
    rw [if_pos ⟨k0, k1⟩, (t2 κ k0 k1).2.1]
    exact hV_o v1 ho κ
  · by_cases c : x = 419
    · subst c; rw [os]
    · rw [os_ne c, hC, os_ne x7, t3 x x2 x3 x4, os_ne c, hA, os_ne x0]
theorem rowE_V {p : Nat} {M : fMem} {g : Int → Int} {r : Int} (h : RelV p M g) (r0 : 0 ≤ r) (r1 : r < 19) (z : g (7619 + r) = 2) : rowE (p + 3 * r.toNat + 3) M g r := by
  obtain ⟨a, b⟩ := h.1 r r0 r1
  obtain ⟨⟨k1, k2, k3, k4⟩, k5⟩ := h.2 r r0 r1 z
  exact ⟨by rw [z]; exact a.mpr z, k1, k5, fun _ => b z, k2, k4⟩
/-- what a copy of shut rows leaves in a shelf -/
def cpd (o : Nat) (M : fMem) (g : Int → Int) (r : Int) : Prop := (g (7619 + r) = 2 → rowE (o + 3 * r.toNat + 3) M g r) ∧ (g (7619 + r) ≠ 2 → M (o + 3 * r.toNat + 3) 2 = 0 ∧ M (o + 3 * r.toNat + 3) 3 = 0 ∧ M (o + 3 * r.toNat + 3) 4 = 0)
theorem cpd_cg {o : Nat} {M M1 : fMem} {g : Int → Int} {r : Int} (hr : 0 ≤ r ∧ r < 19) (h : cpd o M g r) (f : ∀ a, a = o + 3 * r.toNat + 3 ∨ a = o + 3 * r.toNat + 3 + 1 ∨ a = o + 3 * r.toNat + 3 + 2 → M1 a = M a) : cpd o M1 g r := by
  refine ⟨fun z => rowE_cg hr (h.1 z) ⟨f _ (by omega), f _ (by omega), f _ (by omega)⟩ (fun _ _ => rfl), fun z => ?_⟩
  rw [f _ (Or.inl rfl)]
  exact h.2 z
theorem l_copyShut {M0 : fMem} {g : Int → Int} {o p : Nat} {k : fMem → Option fMem} (ho : o = 2 ∨ o = 238 ∨ o = 298 ∨ o = 358) (hp : p = 2 ∨ p = 238 ∨ p = 298 ∨ p = 358) (hop : o ≠ p) (m : Nat) : ∀ (fu : Nat) (v : Int) (M : fMem), 0 ≤ v → 19 - v = m → m < fu → (∀ a, a < o + 3 ∨ o + 60 ≤ a → M a = M0 a) → (∀ r, 0 ≤ r → r < v → cpd o M g r) → RelV p M g →
    ∃ M1, L_X7_copyShut_2 o k fu p v M = k M1 ∧ (∀ a, a < o + 3 ∨ o + 60 ≤ a → M1 a = M0 a) ∧ ∀ r, 0 ≤ r → r < 19 → cpd o M1 g r := by
  induction m with
  | zero =>
    intro fu v M v0 hm hf h1 h2 h3
    obtain ⟨f, rfl⟩ : ∃ f, fu = f + 1 := ⟨fu - 1, by omega⟩
    exact ⟨M, it (by omega) rfl, h1, fun r r0 r1 => h2 r r0 (by omega)⟩
  | succ m ih =>
    intro fu v M v0 hm hf h1 h2 h3
    obtain ⟨f, rfl⟩ : ∃ f, fu = f + 1 := ⟨fu - 1, by omega⟩
    have s2 := (h3.1 v v0 (by omega)).1
    by_cases q : g (7619 + v) = 2
    · obtain ⟨N, n1, n2, n3⟩ := c_copyRow (o := o + 3 * v.toNat + 3) (rowE_V h3 v0 (by omega) q) (by omega) (Ln_S (by omega) ⟨v0, by omega⟩) (Ln_S (by omega) ⟨v0, by omega⟩)
      obtain ⟨M1, k1, k2, k3⟩ := ih f (v + 1) N (by omega) (by omega) (by omega) (fun a ha => by rw [n2 a (by omega) (by omega) (by omega), h1 a ha]) (fun r r0 r1 => by
        by_cases c : r = v
        · subst c; exact ⟨fun _ => n3, fun z => absurd q z⟩
        · exact cpd_cg ⟨r0, by omega⟩ (h2 r r0 (by omega)) (fun a ha => n2 a (by omega) (by omega) (by omega))) (RelV_cg h3 (fun x x0 x1 => n2 x (by omega) (by omega) (by omega)))
      refine ⟨M1, ie (by omega) (it (by omega) (bc (r := 1) ?_ (ie (by omega) (bc n1 k1)))), k2, k3⟩
      unfold f_X6_isShut
      exact it (s2.mpr q) rfl
    · obtain ⟨N, hN⟩ : ∃ N, N = mset (mset (mset M (o + 3 * v.toNat + 3) 2 0) (o + 3 * v.toNat + 3) 3 0) (o + 3 * v.toNat + 3) 4 0 := ⟨_, rfl⟩
      have n2 : ∀ a, a ≠ o + 3 * v.toNat + 3 → N a = M a := fun a ha => by rw [hN, mset_ne ha, mset_ne ha, mset_ne ha]
      obtain ⟨M1, k1, k2, k3⟩ := ih f (v + 1) N (by omega) (by omega) (by omega) (fun a ha => by rw [n2 a (by omega), h1 a ha]) (fun r r0 r1 => by
        by_cases c : r = v
        · subst c
          refine ⟨fun z => absurd z q, fun _ => ?_⟩
          rw [hN]
          exact ⟨by rw [mset_slot (by omega), mset_slot (by omega), mset_self], by rw [mset_slot (by omega), mset_self], mset_self _ _ _ _⟩
        · exact cpd_cg ⟨r0, by omega⟩ (h2 r r0 (by omega)) (fun a ha => n2 a (by omega))) (RelV_cg h3 (fun x x0 x1 => n2 x (by omega)))
      refine ⟨M1, ie (by omega) (it (by omega) (bc (r := 0) ?_ (it rfl (bc (r := N) ?_ k1)))), k2, k3⟩
      · unfold f_X6_isShut
        exact ie (fun z => q (s2.mp z)) rfl
      · unfold f_X6_clear
        rw [hN]; rfl
theorem c_copyShut {M : fMem} {g : Int → Int} {o p : Nat} (ho : o = 2 ∨ o = 238 ∨ o = 298 ∨ o = 358) (hp : p = 2 ∨ p = 238 ∨ p = 298 ∨ p = 358) (hop : o ≠ p) (h : RelV p M g) : ∃ M1, f_X7_copyShut o p M = some M1 ∧ (∀ a, a < o + 3 ∨ o + 60 ≤ a → M1 a = M a) ∧ ∀ r, 0 ≤ r → r < 19 → cpd o M1 g r :=
  l_copyShut (k := fun M_13 => some M_13) ho hp hop 19 20000 0 M (by omega) (by omega) (by omega) (fun _ _ => rfl) (fun r r0 r1 => by omega) h
theorem RelV_cpd {o : Nat} {M : fMem} {g : Int → Int} (ho : o = 2 ∨ o = 238 ∨ o = 298 ∨ o = 358) (h : ∀ r, 0 ≤ r → r < 19 → cpd o M g r) : RelV o M g := by
  refine ⟨fun r r0 r1 => ?_, fun r r0 r1 z => ?_⟩
  · obtain ⟨a, b⟩ := h r r0 r1
    by_cases q : g (7619 + r) = 2
    · obtain ⟨x1, x2, x3, x4, -⟩ := a q
      exact ⟨⟨fun _ => q, fun _ => by rw [x1, q]⟩, x4⟩
    · have := (b q).1
      exact ⟨⟨fun z => by omega, fun z => absurd z q⟩, fun z => absurd z q⟩
  · obtain ⟨x1, x2, x3, x4, x5, x6⟩ := (h r r0 r1).1 z
    exact ⟨⟨x2, x5, Ln_S (by omega) ⟨r0, r1⟩, x6⟩, x3⟩
end VW2
