/-! how far at most; something merges where there is no room -/
section PHI4
theorem cL_bd {g : Int → Int} {k : Int} (hk : 0 ≤ k ∧ k ≤ 7) (h : InvS g) : 0 ≤ cL g k ∧ cL g k ≤ rmR (2 * k) + rmR (2 * k + 1) := by
  have a := (h.1 (2 * k) (by omega) (by omega)).2.1
  have b := (h.1 (2 * k + 1) (by omega) (by omega)).2.1
  unfold cL
  split
  · rename_i hm
    obtain ⟨c1, c2, c3, c4, c5, c6, c7, c8, c9, -⟩ := (h.2.1 k hk.1 (by omega)).2.2 hm
    have h1 := lst_bd k
    have : (g (7684 + k) = 2 * k ∧ g (7693 + k) = 2 * k + 1) ∨ (g (7684 + k) = 2 * k + 1 ∧ g (7693 + k) = 2 * k) := by omega
    rcases this with ⟨x, y⟩ | ⟨x, y⟩ <;> rw [x] at c8 <;> rw [y] at c9 <;> omega
  · omega
theorem phi_bd {g : Int → Int} (h : InvS g) : 0 ≤ phi g ∧ phi g ≤ 205404 := by
  have a0 := cL_bd (k := 0) (by omega) h
  have a1 := cL_bd (k := 1) (by omega) h
  have a2 := cL_bd (k := 2) (by omega) h
  have a3 := cL_bd (k := 3) (by omega) h
  have a4 := cL_bd (k := 4) (by omega) h
  have a5 := cL_bd (k := 5) (by omega) h
  have a6 := cL_bd (k := 6) (by omega) h
  have a7 := cL_bd (k := 7) (by omega) h
  have a8 := phi8_bd h
  rw [show rmR (2 * 0) + rmR (2 * 0 + 1) = 2 from rfl] at a0
  rw [show rmR (2 * 1) + rmR (2 * 1 + 1) = 4 from rfl] at a1
  rw [show rmR (2 * 2) + rmR (2 * 2 + 1) = 8 from rfl] at a2
  rw [show rmR (2 * 3) + rmR (2 * 3 + 1) = 16 from rfl] at a3
  rw [show rmR (2 * 4) + rmR (2 * 4 + 1) = 32 from rfl] at a4
  rw [show rmR (2 * 5) + rmR (2 * 5 + 1) = 64 from rfl] at a5
  rw [show rmR (2 * 6) + rmR (2 * 6 + 1) = 128 from rfl] at a6
  rw [show rmR (2 * 7) + rmR (2 * 7 + 1) = 256 from rfl] at a7
  unfold phi
  omega
end PHI4
