/-! an engine's copy -/
section CPZ
theorem l_copyRows {M0 : fMem} {g : Int → Int} {k : fMem → Option fMem} (m : Nat) : ∀ (fu : Nat) (v : Int) (M : fMem), 0 ≤ v → 19 - v = m → m < fu → frm 72 71 M0 M → (∀ r, 0 ≤ r → r < v → rowE (72 + 3 * r.toNat + 4) M g r) → (∀ r, 0 ≤ r → r < 19 → rowE (1 + 3 * r.toNat + 4) M g r) →
    ∃ M1, L_X7_copyFrom_2 73 k fu 2 v M = k M1 ∧ frm 72 71 M0 M1 ∧ ∀ r, 0 ≤ r → r < 19 → rowE (72 + 3 * r.toNat + 4) M1 g r := by
  induction m with
  | zero =>
    intro fu v M v0 hm hf h1 h2 h3
    obtain ⟨f, rfl⟩ : ∃ f, fu = f + 1 := ⟨fu - 1, by omega⟩
    exact ⟨M, it (by omega) rfl, h1, fun r r0 r1 => h2 r r0 (by omega)⟩
  | succ m ih =>
    intro fu v M v0 hm hf h1 h2 h3
    obtain ⟨f, rfl⟩ : ∃ f, fu = f + 1 := ⟨fu - 1, by omega⟩
    have l1 := Ln_E (e := 72) (r := v) (by omega) (by omega)
    have l2 := Ln_E (e := 1) (r := v) (by omega) (by omega)
    obtain ⟨N, n1, n2, n3⟩ := c_copyRow (o := 72 + 3 * v.toNat + 4) (h3 v v0 (by omega)) (by omega) l1 l2
    rw [show 72 + 3 * v.toNat + 4 = 73 + 3 * v.toNat + 3 by omega, show 1 + 3 * v.toNat + 4 = 2 + 3 * v.toNat + 3 by omega] at n1
    obtain ⟨M1, k1, k2, k3⟩ := ih f (v + 1) N (by omega) (by omega) (by omega) (fun a ha => by rw [n2 a (by omega) (by omega) (by omega), h1 a ha]) (fun r r0 r1 => by
      by_cases c : r = v
      · rw [c]; exact n3
      · exact rowE_cg ⟨r0, by omega⟩ (h2 r r0 (by omega)) ⟨n2 _ (by omega) (by omega) (by omega), n2 _ (by omega) (by omega) (by omega), n2 _ (by omega) (by omega) (by omega)⟩ (fun _ _ => rfl)) (fun r r0 r1 => rowE_cg ⟨r0, r1⟩ (h3 r r0 r1) ⟨n2 _ (by omega) (by omega) (by omega), n2 _ (by omega) (by omega) (by omega), n2 _ (by omega) (by omega) (by omega)⟩ (fun _ _ => rfl))
    exact ⟨M1, ie (by omega) (it (by omega) (bc n1 k1)), k2, k3⟩
theorem l_copyMrgs {M0 : fMem} {g : Int → Int} {k : Nat → fMem → Option fMem} (hb : ∀ l, 0 ≤ l → l ≤ 8 → (0 ≤ g (7657 + l) ∧ g (7657 + l) ≤ 1) ∧ 0 ≤ g (7666 + l) ∧ g (7666 + l) ≤ 1) (m : Nat) : ∀ (fu : Nat) (v : Int) (M : fMem), 0 ≤ v → 9 - v = m → m < fu → frm 134 9 M0 M → (∀ l, 0 ≤ l → l < v → mrgE (72 + l.toNat + 62) M g l) → (∀ l, 0 ≤ l → l ≤ 8 → mrgE (1 + l.toNat + 62) M g l) →
    ∃ M1, L_X0_copyFrom_13 72 k fu 1 v M = k 1 M1 ∧ frm 134 9 M0 M1 ∧ ∀ l, 0 ≤ l → l ≤ 8 → mrgE (72 + l.toNat + 62) M1 g l := by
  induction m with
  | zero =>
    intro fu v M v0 hm hf h1 h2 h3
    obtain ⟨f, rfl⟩ : ∃ f, fu = f + 1 := ⟨fu - 1, by omega⟩
    exact ⟨M, it (by omega) rfl, h1, fun r r0 r1 => h2 r r0 (by omega)⟩
  | succ m ih =>
    intro fu v M v0 hm hf h1 h2 h3
    obtain ⟨f, rfl⟩ : ∃ f, fu = f + 1 := ⟨fu - 1, by omega⟩
    have hv := h3 v v0 (by omega)
    have hw := hb v v0 (by omega)
    obtain ⟨N, n1, n2, n3⟩ := c_copyMrg (o := 72 + v.toNat + 62) hv (by omega) (by rw [hv.1]; exact hw.1) (by rw [hv.2.1]; exact hw.2)
    obtain ⟨M1, k1, k2, k3⟩ := ih f (v + 1) N (by omega) (by omega) (by omega) (fun a ha => by rw [n2 a (by omega), h1 a ha]) (fun r r0 r1 => by
      by_cases c : r = v
      · rw [c]; exact n3
      · exact mrgE_cg ⟨r0, by omega⟩ (h2 r r0 (by omega)) (n2 _ (by omega)) (fun _ _ => rfl)) (fun r r0 r1 => mrgE_cg ⟨r0, r1⟩ (h3 r r0 r1) (n2 _ (by omega)) (fun _ _ => rfl))
    exact ⟨M1, ie (by omega) (it (by omega) (bc n1 k1)), k2, k3⟩
theorem c_copyFrom {M : fMem} {g : Int → Int} (h : RelE 1 M g) (hb : ∀ l, 0 ≤ l → l ≤ 8 → (0 ≤ g (7657 + l) ∧ g (7657 + l) ≤ 1) ∧ 0 ≤ g (7666 + l) ∧ g (7666 + l) ≤ 1) : ∃ M1, f_X0_copyFrom 72 1 M = some M1 ∧ RF 72 M M1 g := by
  obtain ⟨A, a1, a2, a3⟩ := l_copyRows (M0 := M) (g := g) (k := fun M => some M) 19 20000 0 M (by omega) (by omega) (by omega) (frm_rf _ _ _) (fun r r0 r1 => by omega) h.1
  have hA : ∀ l, 0 ≤ l → l ≤ 8 → mrgE (1 + l.toNat + 62) A g l := fun l l0 l1 => mrgE_cg ⟨l0, l1⟩ (h.2.1 l l0 l1) (a2 _ (by omega)) (fun _ _ => rfl)
  obtain ⟨B, b1', b2, b3⟩ := l_copyMrgs (M0 := A) (g := g) (k := fun (w1_9 : Nat) (M_9 : fMem) => ((some (mset M_9 72 2 (M_9 w1_9 2))).bind fun (N10 : fMem) => ((some (mset N10 72 3 (N10 w1_9 3))).bind fun (N11 : fMem) => ((some (mset N11 72 4 (N11 w1_9 4))).bind fun (N12 : fMem) => ((some (mset N12 72 5 (N12 w1_9 5))).bind fun (N13 : fMem) => ((some (mset N13 72 6 (N13 w1_9 6))).bind fun (N14 : fMem) => ((some (mset N14 72 7 (N14 w1_9 7))).bind fun (N15 : fMem) => ((some (mset N15 72 8 (N15 w1_9 8))).bind fun (N16 : fMem) => ((some (mset N16 72 9 (N16 w1_9 9))).bind fun (N17 : fMem) => some N17))))))))) hb 9 20000 0 A (by omega) (by omega) (by omega) (frm_rf _ _ _) (fun r r0 r1 => by omega) hA
  have u : B 1 = M 1 := by rw [b2 1 (by omega), a2 1 (by omega)]
  obtain ⟨C, hC⟩ : ∃ C, C = mset (mset (mset (mset (mset (mset (mset (mset B 72 2 (M 1 2)) 72 3 (M 1 3)) 72 4 (M 1 4)) 72 5 (M 1 5)) 72 6 (M 1 6)) 72 7 (M 1 7)) 72 8 (M 1 8)) 72 9 (M 1 9) := ⟨_, rfl⟩
  have cn : ∀ a, a ≠ 72 → C a = B a := fun a ha => by rw [hC, mset_ne ha, mset_ne ha, mset_ne ha, mset_ne ha, mset_ne ha, mset_ne ha, mset_ne ha, mset_ne ha]
  refine ⟨C, ?_, ⟨fun r r0 r1 => ?_, fun l l0 l1 => ?_, ?_⟩, fun a ha => ?_⟩
  · unfold f_X0_copyFrom
    refine bc (r := A) a1 (b1'.trans ?_)
    refine bs fun x1 e1 => bs fun x2 e2 => bs fun x3 e3 => bs fun x4 e4 => bs fun x5 e5 => bs fun x6 e6 => bs fun x7 e7 => bs fun x8 e8 => ?_
    have q1 : x1 1 = M 1 := by rw [e1, mset_ne (by omega), u]
    have q2 : x2 1 = M 1 := by rw [e2, mset_ne (by omega), q1]
    have q3 : x3 1 = M 1 := by rw [e3, mset_ne (by omega), q2]
    have q4 : x4 1 = M 1 := by rw [e4, mset_ne (by omega), q3]
    have q5 : x5 1 = M 1 := by rw [e5, mset_ne (by omega), q4]
    have q6 : x6 1 = M 1 := by rw [e6, mset_ne (by omega), q5]
    have q7 : x7 1 = M 1 := by rw [e7, mset_ne (by omega), q6]
    rw [e8, q7, e7, q6, e6, q5, e5, q4, e4, q3, e3, q2, e2, q1, e1, u, hC]
  · exact rowE_cg ⟨r0, r1⟩ (a3 r r0 r1) ⟨(cn _ (by omega)).trans (b2 _ (by omega)), (cn _ (by omega)).trans (b2 _ (by omega)), (cn _ (by omega)).trans (b2 _ (by omega))⟩ (fun _ _ => rfl)
  · exact mrgE_cg ⟨l0, l1⟩ (b3 l l0 l1) (cn _ (by omega)) (fun _ _ => rfl)
  · obtain ⟨c2, c3, c4, c5, c6, c7, c8, c9⟩ := h.2.2
    unfold ctrE
    rw [hC]
    refine ⟨?_, ?_, ?_, ?_, ?_, ?_, ?_, ?_⟩
    · rw [mset_slot (by omega), mset_slot (by omega), mset_slot (by omega), mset_slot (by omega), mset_slot (by omega), mset_slot (by omega), mset_slot (by omega), mset_self, c2]
    · rw [mset_slot (by omega), mset_slot (by omega), mset_slot (by omega), mset_slot (by omega), mset_slot (by omega), mset_slot (by omega), mset_self, c3]
    · rw [mset_slot (by omega), mset_slot (by omega), mset_slot (by omega), mset_slot (by omega), mset_slot (by omega), mset_self, c4]
    · rw [mset_slot (by omega), mset_slot (by omega), mset_slot (by omega), mset_slot (by omega), mset_self, c5]
    · rw [mset_slot (by omega), mset_slot (by omega), mset_slot (by omega), mset_self, c6]
    · rw [mset_slot (by omega), mset_slot (by omega), mset_self, c7]
    · rw [mset_slot (by omega), mset_self, c8]
    · rw [mset_self, c9]
  · rw [cn a (by omega), b2 a (by omega), a2 a ha]
end CPZ
