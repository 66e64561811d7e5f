/-! an act: steps until there is room, then the row, then its share of steps -/
section RUN3
noncomputable def sFor : Nat → (Int → Int) → Int × (Int → Int)
  | 0, g => (0, g)
  | n + 1, g => if fFr g 0 = -1 then match low g with
    | none => (0, g)
    | some l => ((sFor n (sStep g l)).1 + 1, (sFor n (sStep g l)).2)
    else (0, g)
theorem acts_loop {M : fMem} {T : Int} {k : Int → Int → Int → fMem → Option (Int × fMem)} : ∀ (d n : Nat) (g : Int → Int) (v1 v2 v3 : Int), Run g T → phi g < d → d ≤ n → 0 ≤ v3 → v3 + d < 2000000 → L_X11_acts_2 k n v1 v2 v3 (oset M 419 g) = k v1 v2 (v3 + (sFor d g).1) (oset M 419 (sFor d g).2) ∧ Run (sFor d g).2 T ∧ fFr (sFor d g).2 0 ≠ -1 ∧ 0 ≤ (sFor d g).1 ∧ phi (sFor d g).2 + (sFor d g).1 ≤ phi g := by
  intro d
  induction d with
  | zero =>
    intro n g v1 v2 v3 h h1
    have := phi_bd h.1.1
    omega
  | succ d ih =>
    intro n g v1 v2 v3 h h1 hn h0 h3
    obtain ⟨n, rfl⟩ : ∃ n', n = n' + 1 := ⟨n - 1, by omega⟩
    rw [L_X11_acts_2]
    by_cases hf : fFr g 0 = -1
    · rcases lowM_or g with hno | ⟨l, hl⟩
      · exact absurd hno (no_dead h.1 hf)
      · obtain ⟨a, b, c⟩ := Run_step (M := M) h hl
        obtain ⟨i1, i2, i3, i4, i5⟩ := ih n _ v1 v2 (v3 + 1) a (by omega) (by omega) (by omega) (by omega)
        simp only [sFor, if_pos hf, low_of hl]
        refine ⟨?_, i2, i3, by omega, by omega⟩
        refine bc (e_firstFree (by omega)) (it hf (bc c (ie (by simp) (si (by omega) ?_))))
        rw [i1, show v3 + 1 + (sFor d (sStep g l)).1 = v3 + ((sFor d (sStep g l)).1 + 1) by omega]
    · simp only [sFor, if_neg hf]
      refine ⟨?_, h, hf, by omega, by omega⟩
      refine bc (e_firstFree (by omega)) (ie hf ?_)
      rw [Int.add_zero]
end RUN3
