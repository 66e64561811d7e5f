/-! calm, the call -/
section CALM4
noncomputable def cmV (g : Int → Int) (a : Nat) : Nat → Int → Int
  | 0, _ => -1
  | m + 1, b => if caN (us g 7739 b) (g 7743) a 0 = 0 then cmV g a m (b + 1) else b
theorem cmV_bd (g : Int → Int) (a : Nat) : ∀ (m : Nat) (b : Int), 0 ≤ b → b + m ≤ 41 → -1 ≤ cmV g a m b ∧ cmV g a m b ≤ 40 := by
  intro m
  induction m with
  | zero => intro b _ _; exact ⟨Int.le_refl _, by unfold cmV; omega⟩
  | succ m ih =>
    intro b b0 hb
    unfold cmV
    split
    · exact ih (b + 1) (by omega) (by omega)
    · omega
theorem C_calmL {n : Int} {g : Int → Int} {a : Nat} (hn : n < 600) (ha : a ≤ 64) : ∀ (m fu : Nat) (b : Int) (M : fMem), 0 ≤ b → b + m = 41 → m < fu → St M n → M 419 = g → ∃ M1, L_X10_calm_6 (fun (M_7 : fMem) => some (0, (-1), M_7)) fu a b M = some (0, cmV g a m b, M1) ∧ St M1 n ∧ ∀ x, 418 ≤ x → M1 x = M x := by
  intro m
  induction m with
  | zero =>
    intro fu b M b0 hb hf h h9
    obtain ⟨f, rfl⟩ : ∃ f, fu = f + 1 := ⟨fu - 1, by omega⟩
    exact ⟨M, it (by omega) rfl, h, fun _ _ => rfl⟩
  | succ m ih =>
    intro fu b M b0 hb hf h h9
    obtain ⟨f, rfl⟩ : ∃ f, fu = f + 1 := ⟨fu - 1, by omega⟩
    obtain ⟨N, n1, n2, n3⟩ := C_isCalm (b := b) h hn (by omega) ha
    rw [h9] at n1
    by_cases q : caN (us g 7739 b) (g 7743) a 0 = 0
    · obtain ⟨M1, k1, k2, k3⟩ := ih f (b + 1) N (by omega) (by omega) (by omega) n2 (by rw [n3 419 (by omega), h9])
      refine ⟨M1, ie (by omega) (bc n1 (it q (it (by omega) ?_))), k2, fun x hx => by rw [k3 x hx, n3 x hx]⟩
      have d : cmV g a (m + 1) b = cmV g a m (b + 1) := by
        rw [cmV, if_pos q]
      rw [d, ← k1]
    · have d : cmV g a (m + 1) b = b := by
        rw [cmV, if_neg q]
      exact ⟨N, ie (by omega) (bc n1 (ie q (by rw [d]))), n2, n3⟩
end CALM4
