/-! so many steps; an act -/
section RUN2
/-- the step, if there is one -/
noncomputable def low (g : Int → Int) : Option Int := by
  classical exact if h : ∃ l, lowM g l then some h.choose else none
theorem lowM_one {g : Int → Int} {l k : Int} (a : lowM g l) (b : lowM g k) : l = k := by
  rcases Int.lt_trichotomy l k with h | h | h
  · exact absurd a.2.2.1 (b.2.2.2 l a.1 h)
  · exact h
  · exact absurd b.2.2.1 (a.2.2.2 k b.1 h)
theorem low_of {g : Int → Int} {l : Int} (h : lowM g l) : low g = some l := by
  unfold low
  have e : ∃ l, lowM g l := ⟨l, h⟩
  rw [dif_pos e, lowM_one e.choose_spec h]
theorem low_no {g : Int → Int} (h : noM g) : low g = none := by
  unfold low
  rw [dif_neg]
  rintro ⟨l, hl⟩
  exact h l hl.1 hl.2.1 hl.2.2.1
/-- so many steps at most: how many there were, and what they leave -/
noncomputable def sTake : Nat → (Int → Int) → Int × (Int → Int)
  | 0, g => (0, g)
  | n + 1, g => match low g with
    | none => (0, g)
    | some l => ((sTake n (sStep g l)).1 + 1, (sTake n (sStep g l)).2)
theorem takes_loop {M : fMem} {T : Int} {k : Int → fMem → Option (Int × fMem)} : ∀ (d n : Nat) (g : Int → Int) (v1 v2 : Int), Run g T → v2 + d = v1 → d < n → L_X11_takes_2 k n v1 v2 (oset M 419 g) = k (v2 + (sTake d g).1) (oset M 419 (sTake d g).2) := by
  intro d
  induction d with
  | zero =>
    intro n g v1 v2 h h1 hn
    obtain ⟨n, rfl⟩ : ∃ n', n = n' + 1 := ⟨n - 1, by omega⟩
    rw [L_X11_takes_2]
    rw [if_pos (by omega)]
    simp [sTake]
  | succ d ih =>
    intro n g v1 v2 h h1 hn
    obtain ⟨n, rfl⟩ : ∃ n', n = n' + 1 := ⟨n - 1, by omega⟩
    rw [L_X11_takes_2]
    rw [if_neg (by omega)]
    rcases lowM_or g with hno | ⟨l, hl⟩
    · rw [e_stepN hno]
      simp [sTake, low_no hno]
    · obtain ⟨a, b, c⟩ := Run_step (M := M) h hl
      rw [c]
      refine bs fun x hx => ?_
      subst hx
      rw [if_neg (by simp)]
      rw [ih n _ v1 (v2 + 1) a (by omega) (by omega)]
      simp only [sTake, low_of hl]
      rw [show v2 + 1 + (sTake d (sStep g l)).1 = v2 + ((sTake d (sStep g l)).1 + 1) by omega]
theorem sTake_run {T : Int} : ∀ (d : Nat) (g : Int → Int), Run g T → Run (sTake d g).2 T ∧ 0 ≤ (sTake d g).1 ∧ (sTake d g).1 ≤ d ∧ phi (sTake d g).2 + (sTake d g).1 ≤ phi g := by
  intro d
  induction d with
  | zero => intro g h; simp [sTake]; exact h
  | succ d ih =>
    intro g h
    rcases lowM_or g with hno | ⟨l, hl⟩
    · simp only [sTake, low_no hno]; exact ⟨h, by omega, by omega, by omega⟩
    · obtain ⟨a, b, c⟩ := Run_step (M := fun _ _ => 0) h hl
      obtain ⟨i1, i2, i3, i4⟩ := ih _ a
      simp only [sTake, low_of hl]
      exact ⟨i1, by omega, by push_cast; omega, by omega⟩
theorem e_takes {M : fMem} {g : Int → Int} {T a : Int} (h : Run g T) (ha : 0 ≤ a ∧ a < 20000) : f_X11_takes a (oset M 419 g) = some ((sTake a.toNat g).1, oset M 419 (sTake a.toNat g).2) := by
  unfold f_X11_takes
  rw [takes_loop a.toNat 20000 g a 0 h (by omega) (by omega)]
  simp
end RUN2
