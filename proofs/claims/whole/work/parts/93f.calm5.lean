/-! calm, the reference -/
section CALM5
theorem R_calmL {Q : fMem} {g : Int → Int} {T : Int} {a : Nat} (hR : Run g T) (hT0 : 500000 ≤ T) (hT : T + 70000 < 2000000000) (ha : a ≤ 64) (h9 : Q 419 = g) (h0 : ∀ x, 0 ≤ x → x < 7787 → Q 420 x = g x) : ∀ (m fu : Nat) (b : Int), 0 ≤ b → b + m = 41 → m < fu → L_X11_calm_28 (fun (M_13 : fMem) => some ((-1), M_13)) fu a b Q = some (cmV g a m b, Q) := by
  intro m
  induction m with
  | zero =>
    intro fu b b0 hb hf
    obtain ⟨f, rfl⟩ : ∃ f, fu = f + 1 := ⟨fu - 1, by omega⟩
    exact it (by omega) rfl
  | succ m ih =>
    intro fu b b0 hb hf
    obtain ⟨f, rfl⟩ : ∃ f, fu = f + 1 := ⟨fu - 1, by omega⟩
    have n1 := R_isCalm (b := b) hR hT0 hT (by omega) ha h9 h0
    by_cases q : caN (us g 7739 b) (g 7743) a 0 = 0
    · have d : cmV g a (m + 1) b = cmV g a m (b + 1) := by
        rw [cmV, if_pos q]
      rw [d]
      exact ie (by omega) (bc n1 (it q (it (by omega) (ih f (b + 1) (by omega) (by omega) (by omega)))))
    · have d : cmV g a (m + 1) b = b := by
        rw [cmV, if_neg q]
      rw [d]
      exact ie (by omega) (bc n1 (ie q rfl))
end CALM5
