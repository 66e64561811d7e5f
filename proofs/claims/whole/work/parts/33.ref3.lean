/-! the reference: a step -/
section REF3
/-- the lowest level that merges -/
def lowM (g : Int → Int) (l : Int) : Prop := 0 ≤ l ∧ l ≤ 8 ∧ g (7657 + l) = 1 ∧ ∀ j, 0 ≤ j → j < l → g (7657 + j) ≠ 1
def noM (g : Int → Int) : Prop := ∀ j, 0 ≤ j → j ≤ 8 → g (7657 + j) ≠ 1
theorem lowM_or (g : Int → Int) : noM g ∨ ∃ l, lowM g l := by
  have key : ∀ n : Nat, (∀ j : Int, 0 ≤ j → j < n → j ≤ 8 → g (7657 + j) ≠ 1) ∨ ∃ l, lowM g l := by
    intro n
    induction n with
    | zero => left; intro j h1 h2; omega
    | succ n ih =>
      rcases ih with h | h
      · by_cases hn : (n : Int) ≤ 8 ∧ g (7657 + n) = 1
        · right; exact ⟨n, by omega, hn.1, hn.2, fun j h1 h2 => h j h1 h2 (by omega)⟩
        · left; intro j h1 h2 h3 h4
          by_cases hj : j = n
          · subst hj; exact hn ⟨h3, h4⟩
          · exact h j h1 (by omega) h3 h4
      · right; exact h
  rcases key 9 with h | h
  · left; intro j h1 h2; exact h j h1 (by omega) h2
  · right; exact h
theorem lowest_loop {M : fMem} {g : Int → Int} {l : Int} (hl : lowM g l) : ∀ (d n : Nat) (v : Int), 0 ≤ v → v + d = l → d < n → L_X11_lowestMerging_2 (oset M 419 g) (some (-1)) n v = some l := by
  intro d
  induction d with
  | zero =>
    intro n v h0 h1 hn
    obtain ⟨n, rfl⟩ : ∃ n', n = n' + 1 := ⟨n - 1, by omega⟩
    have hv : v = l := by omega
    subst hv
    rw [L_X11_lowestMerging_2, os]
    exact ie (by have := hl.2.1; omega) (si (by have := hl.2.1; omega) (it hl.2.2.1 rfl))
  | succ d ih =>
    intro n v h0 h1 hn
    obtain ⟨n, rfl⟩ : ∃ n', n = n' + 1 := ⟨n - 1, by omega⟩
    have := hl.2.1
    rw [L_X11_lowestMerging_2, os]
    refine ie (by omega) (si (by omega) (ie (hl.2.2.2 v h0 (by omega)) ?_))
    exact ih n (v + 1) (by omega) (by omega) (by omega)
theorem lowest_none {M : fMem} {g : Int → Int} (hl : noM g) : ∀ (d n : Nat) (v : Int), 0 ≤ v → v + d = 9 → d < n → L_X11_lowestMerging_2 (oset M 419 g) (some (-1)) n v = some (-1) := by
  intro d
  induction d with
  | zero =>
    intro n v h0 h1 hn
    obtain ⟨n, rfl⟩ : ∃ n', n = n' + 1 := ⟨n - 1, by omega⟩
    rw [L_X11_lowestMerging_2]
    exact it (by omega) rfl
  | succ d ih =>
    intro n v h0 h1 hn
    obtain ⟨n, rfl⟩ : ∃ n', n = n' + 1 := ⟨n - 1, by omega⟩
    rw [L_X11_lowestMerging_2, os]
    refine ie (by omega) (si (by omega) (ie (hl v h0 (by omega)) ?_))
    exact ih n (v + 1) (by omega) (by omega) (by omega)
theorem e_lowest {M : fMem} {g : Int → Int} {l : Int} (hl : lowM g l) : f_X11_lowestMerging (oset M 419 g) = some l := by
  unfold f_X11_lowestMerging
  have := hl.1; have := hl.2.1
  exact lowest_loop hl l.toNat 20000 0 (by omega) (by omega) (by omega)
theorem e_lowestN {M : fMem} {g : Int → Int} (hl : noM g) : f_X11_lowestMerging (oset M 419 g) = some (-1) := by
  unfold f_X11_lowestMerging
  exact lowest_none hl 9 20000 0 (by omega) (by omega) (by omega)
theorem e_keyAt {r j : Int} {M : fMem} {g : Int → Int} (hr : 0 ≤ r ∧ r < 19) (hj : 0 ≤ j ∧ j < 200) : f_X11_keyAt r j (oset M 419 g) = some (g (200 * r + j)) := by
  unfold f_X11_keyAt; rw [os]; exact si (by omega) rfl
theorem e_valueAt {r j : Int} {M : fMem} {g : Int → Int} (hr : 0 ≤ r ∧ r < 19) (hj : 0 ≤ j ∧ j < 200) : f_X11_valueAt r j (oset M 419 g) = some (g (3800 + 200 * r + j)) := by
  unfold f_X11_valueAt; rw [os]; exact si (by omega) rfl
/-- things that are left of a level that merges -/
def left (g : Int → Int) (l : Int) : Int := g (7600 + g (7684 + l)) - g (7702 + l) + g (7600 + g (7693 + l)) - g (7711 + l)
theorem e_leftOf {l : Int} {M : fMem} {g : Int → Int} (h : 0 ≤ l ∧ l ≤ 8) (hy : 0 ≤ g (7684 + l) ∧ g (7684 + l) < 19) (he : 0 ≤ g (7693 + l) ∧ g (7693 + l) < 19) (hm : g (7657 + l) ≠ 0) (hr : rg (left g l)) : f_X11_leftOf l (oset M 419 g) = some (left g l) := by
  unfold f_X11_leftOf left
  rw [os]
  unfold left at hr
  refine si (by omega) (ie hm (si (by omega) (si (by omega) (si (by omega) (si (by omega) (si (by omega) (si (by omega) (si hr rfl))))))))
/-- a thing comes into the open row -/
def sCome (g : Int → Int) (l r i : Int) : Int → Int :=
  if g (7666 + l) = 1 ∧ g (3800 + 200 * r + i) = -1 then us g 7746 (g 7746 + 1)
  else us (us (us (us g (200 * g (7675 + l) + g (7600 + g (7675 + l))) (g (200 * r + i))) (3800 + 200 * g (7675 + l) + g (7600 + g (7675 + l))) (g (3800 + 200 * r + i))) (7600 + g (7675 + l)) (g (7600 + g (7675 + l)) + 1)) (7729 + l) (g (7729 + l) + 1)
theorem e_comes37 {l r i : Int} {M : fMem} {g : Int → Int} (h : 0 ≤ l ∧ l ≤ 8) (hr : 0 ≤ r ∧ r < 19) (hi : 0 ≤ i ∧ i < 200) (ht : 0 ≤ g (7675 + l) ∧ g (7675 + l) < 19) (hn : 0 ≤ g (7600 + g (7675 + l)) ∧ g (7600 + g (7675 + l)) < 200) (hc : rg (g (7729 + l) + 1)) (hv : rg (g (200 * r + i))) (hw : rg (g (3800 + 200 * r + i))) : j_X11_comes_37 l r i (oset M 419 g) = some (oset M 419 (us (us (us (us g (200 * g (7675 + l) + g (7600 + g (7675 + l))) (g (200 * r + i))) (3800 + 200 * g (7675 + l) + g (7600 + g (7675 + l))) (g (3800 + 200 * r + i))) (7600 + g (7675 + l)) (g (7600 + g (7675 + l)) + 1)) (7729 + l) (g (7729 + l) + 1))) := by
  unfold j_X11_comes_37
  simp only [os]
  refine si (by omega) (si (by omega) (bc (e_keyAt hr hi) (si (by omega) (bm fun g1 e1 => ?_))))
  have v1 : g1 (3800 + 200 * r + i) = g (3800 + 200 * r + i) := by rw [e1, us_ne (by omega)]
  refine bc (e_valueAt hr hi) ?_
  rw [v1]
  refine si (by omega) (bm fun g2 e2 => ?_)
  have v2 : g2 (7600 + g (7675 + l)) = g (7600 + g (7675 + l)) := by rw [e2, us_ne (by omega), e1, us_ne (by omega)]
  simp only [os]
  rw [v2]
  refine si (by omega) (bm fun g3 e3 => ?_)
  have v3 : g3 (7729 + l) = g (7729 + l) := by rw [e3, us_ne (by omega), e2, us_ne (by omega), e1, us_ne (by omega)]
  simp only [os]
  rw [v3]
  refine si (by omega) (si hc (bm fun g4 e4 => ?_))
  rw [e4, e3, e2, e1]
theorem e_comes {l r i : Int} {M : fMem} {g : Int → Int} (h : 0 ≤ l ∧ l ≤ 8) (hr : 0 ≤ r ∧ r < 19) (hi : 0 ≤ i ∧ i < 200) (ht : 0 ≤ g (7675 + l) ∧ g (7675 + l) < 19) (hn : 0 ≤ g (7600 + g (7675 + l)) ∧ g (7600 + g (7675 + l)) < 200) (hc : rg (g (7729 + l) + 1)) (hs : rg (g 7746 + 1)) (hv : rg (g (200 * r + i))) (hw : rg (g (3800 + 200 * r + i))) : f_X11_comes l r i (oset M 419 g) = some (oset M 419 (sCome g l r i)) := by
  unfold f_X11_comes sCome
  simp only [os]
  have k := e_comes37 (M := M) h hr hi ht hn hc hv hw
  refine si (by omega) ?_
  by_cases h1 : g (7666 + l) = 1
  · refine it h1 (bc (e_valueAt hr hi) ?_)
    by_cases h2 : g (3800 + 200 * r + i) = -1
    · rw [if_pos (c := g (7666 + l) = 1 ∧ _) ⟨h1, h2⟩]
      exact it h2 (si hs (bm fun g1 e1 => by rw [e1]))
    · rw [if_neg (c := g (7666 + l) = 1 ∧ _) (fun h3 => h2 h3.2)]
      exact ie h2 k
  · rw [if_neg (c := g (7666 + l) = 1 ∧ _) (fun h3 => h1 h3.1)]
    exact ie h1 k
end REF3
