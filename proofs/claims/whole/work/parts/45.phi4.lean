/-! how far at most; something merges where there is no room -/
section PHI4
theorem cL_bd {g : Int → Int} {k : Int} (hk : 0 ≤ k ∧ k ≤ 7) (h : InvS g) : 0 ≤ cL g k ∧ cL g k ≤ rmR (2 * k) + rmR (2 * k + 1) := by
  have a := (h.1 (2 * k) (by omega) (by omega)).2.1
  have b := (h.1 (2 * k + 1) (by omega) (by omega)).2.1
  unfold cL
  split
  · rename_i hm
    obtain ⟨c1, c2, c3, c4, c5, c6, c7, c8, c9, -⟩ := (h.2.1 k hk.1 (by omega)).2.2 hm
    have h1 := lst_bd k
    have : (g (7684 + k) = 2 * k ∧ g (7693 + k) = 2 * k + 1) ∨ (g (7684 + k) = 2 * k + 1 ∧ g (7693 + k) = 2 * k) := by omega
    rcases this with ⟨x, y⟩ | ⟨x, y⟩ <;> rw [x] at c8 <;> rw [y] at c9 <;> omega
  · omega
theorem phi_bd {g : Int → Int} (h : InvS g) : 0 ≤ phi g ∧ phi g ≤ 205404 := by
  have a0 := cL_bd (k := 0) (by omega) h
  have a1 := cL_bd (k := 1) (by omega) h
  have a2 := cL_bd (k := 2) (by omega) h
  have a3 := cL_bd (k := 3) (by omega) h
  have a4 := cL_bd (k := 4) (by omega) h
  have a5 := cL_bd (k := 5) (by omega) h
  have a6 := cL_bd (k := 6) (by omega) h
  have a7 := cL_bd (k := 7) (by omega) h
  have a8 := phi8_bd h
  rw [show rmR (2 * 0) + rmR (2 * 0 + 1) = 2 from rfl] at a0
  rw [show rmR (2 * 1) + rmR (2 * 1 + 1) = 4 from rfl] at a1
  rw [show rmR (2 * 2) + rmR (2 * 2 + 1) = 8 from rfl] at a2
  rw [show rmR (2 * 3) + rmR (2 * 3 + 1) = 16 from rfl] at a3
  rw [show rmR (2 * 4) + rmR (2 * 4 + 1) = 32 from rfl] at a4
  rw [show rmR (2 * 5) + rmR (2 * 5 + 1) = 64 from rfl] at a5
  rw [show rmR (2 * 6) + rmR (2 * 6 + 1) = 128 from rfl] at a6
  rw [show rmR (2 * 7) + rmR (2 * 7 + 1) = 256 from rfl] at a7
  unfold phi
  omega
end PHI4
section PHI5
theorem full_up {g : Int → Int} {l : Int} (hl : 0 ≤ l ∧ l ≤ 8) (h : Inv g) (hn : ∀ k, 0 ≤ k → k ≤ 8 → g (7657 + k) ≠ 1) (hf : fFr g l = -1) : l < 8 ∧ fFr g (l + 1) = -1 := by
  have st : ∀ r, 2 * l ≤ r → r ≤ 2 * l + lst l → g (7619 + r) = 2 := by
    intro r r0 r1
    have := lst_bd l
    rcases (h.1.1 r (by omega) (by omega)).1 with z | z | z
    · exact absurd hf (fFr_of ⟨r0, r1⟩ hl.1 z)
    · obtain ⟨k, k0, k1, k2, -⟩ := h.1.2.2.2.1.2 r (by omega) (by omega) z
      exact absurd k2 (hn k k0 k1)
    · exact z
  have hls := lst_bd l
  have s0 := st (2 * l) (by omega) (by omega)
  have s1 := st (2 * l + 1) (by omega) (by omega)
  by_cases h8 : l = 8
  · exfalso
    have s2 := st (2 * l + 2) (by omega) (by omega)
    have := h.1.2.2.2.2.1
    rw [← h8, sh0, if_pos h8] at this
    simp [b1, s0, s1, s2] at this
  · have : shM g l = 2 := by rw [sh0, if_neg h8]; simp [b1, s0, s1]
    rcases h.2 l hl.1 hl.2 this with z | z
    · exact absurd z (hn l hl.1 hl.2)
    · exact z
theorem no_dead {g : Int → Int} (h : Inv g) (hf : fFr g 0 = -1) : ¬ ∀ k, 0 ≤ k → k ≤ 8 → g (7657 + k) ≠ 1 := by
  intro hn
  have f1 := full_up (l := 0) (by omega) h hn hf
  have f2 := full_up (l := 0 + 1) (by omega) h hn f1.2
  have f3 := full_up (l := 0 + 1 + 1) (by omega) h hn f2.2
  have f4 := full_up (l := 0 + 1 + 1 + 1) (by omega) h hn f3.2
  have f5 := full_up (l := 0 + 1 + 1 + 1 + 1) (by omega) h hn f4.2
  have f6 := full_up (l := 0 + 1 + 1 + 1 + 1 + 1) (by omega) h hn f5.2
  have f7 := full_up (l := 0 + 1 + 1 + 1 + 1 + 1 + 1) (by omega) h hn f6.2
  have f8 := full_up (l := 0 + 1 + 1 + 1 + 1 + 1 + 1 + 1) (by omega) h hn f7.2
  have f9 := full_up (l := 0 + 1 + 1 + 1 + 1 + 1 + 1 + 1 + 1) (by omega) h hn f8.2
  omega
end PHI5
