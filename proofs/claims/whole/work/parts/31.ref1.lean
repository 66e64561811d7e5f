/-! the reference: levels and rows -/
section REF1
/-- 1 if it is so -/
def b1 (p : Prop) [Decidable p] : Int := if p then 1 else 0
def shM (g : Int → Int) (l : Int) : Int := b1 (g (7619 + (2 * l + 0)) = 2) + b1 (g (7619 + (2 * l + 1)) = 2) + (if l = 8 then b1 (g (7619 + (2 * l + 2)) = 2) else 0)
theorem b1_01 (p : Prop) [Decidable p] : b1 p = 0 ∨ b1 p = 1 := by unfold b1; split <;> simp
theorem e_rowsOf (l : Int) (M : fMem) : f_X11_rowsOf l M = some (if l = 8 then 3 else 2) := by
  unfold f_X11_rowsOf; split <;> rfl
theorem e_rowAt {l r : Int} (M : fMem) (h : 0 ≤ l ∧ l ≤ 8) (hr : 0 ≤ r ∧ r ≤ 2) : f_X11_rowAt l r M = some (2 * l + r) := by
  unfold f_X11_rowAt; exact si (by omega) rfl
theorem e_isShut {r : Int} {M : fMem} {g : Int → Int} (h : 0 ≤ r ∧ r < 19) : f_X11_isShut r (oset M 419 g) = some (b1 (g (7619 + r) = 2)) := by
  unfold f_X11_isShut b1
  rw [os]
  refine si (by omega) ?_
  split <;> rfl
theorem e_shutMany {l : Int} {M : fMem} {g : Int → Int} (h : 0 ≤ l ∧ l ≤ 8) : f_X11_shutMany l (oset M 419 g) = some (shM g l) := by
  unfold f_X11_shutMany shM
  by_cases hl : l = 8
  · subst hl
    simp (disch := omega) [L_X11_shutMany_4, e_rowsOf, e_rowAt, e_isShut]
    rcases b1_01 (g 7635 = 2) with h0 | h0 <;> rcases b1_01 (g 7636 = 2) with h1 | h1 <;> rcases b1_01 (g 7637 = 2) with h2 | h2 <;> simp [h0, h1, h2]
  · simp (disch := omega) [L_X11_shutMany_4, e_rowsOf, e_rowAt, e_isShut, hl]
    rcases b1_01 (g (7619 + 2 * l) = 2) with h0 | h0 <;> rcases b1_01 (g (7619 + (2 * l + 1)) = 2) with h1 | h1 <;> simp [h0, h1]
/-- the first row of a level that is free -/
def fFr (g : Int → Int) (l : Int) : Int := if g (7619 + (2 * l + 0)) = 0 then 2 * l + 0 else if g (7619 + (2 * l + 1)) = 0 then 2 * l + 1 else if l = 8 ∧ g (7619 + (2 * l + 2)) = 0 then 2 * l + 2 else -1
theorem e_firstFree {l : Int} {M : fMem} {g : Int → Int} (h : 0 ≤ l ∧ l ≤ 8) : f_X11_firstFree l (oset M 419 g) = some (fFr g l) := by
  unfold f_X11_firstFree fFr
  by_cases hl : l = 8
  · subst hl
    simp (disch := omega) [L_X11_firstFree_2, e_rowsOf, e_rowAt, os]
    repeat' split
    all_goals simp_all
  · have e0 : (0 ≤ 7619 + 2 * l ∧ 7619 + 2 * l < 7787) := by omega
    have e1 : (0 ≤ 7619 + (2 * l + 1) ∧ 7619 + (2 * l + 1) < 7787) := by omega
    simp (disch := omega) [L_X11_firstFree_2, e_rowsOf, e_rowAt, os, hl, e0, e1]
    repeat' split
    all_goals simp_all
/-- how many of a level's rows that are shut are younger than a row -/
def yMn (g : Int → Int) (l r : Int) : Int := b1 (g (7619 + (2 * l + 0)) = 2 ∧ g (7638 + r) < g (7638 + (2 * l + 0))) + b1 (g (7619 + (2 * l + 1)) = 2 ∧ g (7638 + r) < g (7638 + (2 * l + 1))) + (if l = 8 then b1 (g (7619 + (2 * l + 2)) = 2 ∧ g (7638 + r) < g (7638 + (2 * l + 2))) else 0)
theorem yM_step {k : Int → Option Int} {n : Nat} {l r c v : Int} {M : fMem} {g : Int → Int} (h : 0 ≤ l ∧ l ≤ 8) (hr : 0 ≤ r ∧ r < 19) (hc : 0 ≤ c ∧ c < 100) (hv : 0 ≤ v ∧ v < if l = 8 then 3 else 2) : L_X11_youngerMany_5 (oset M 419 g) k (n + 1) l r c v = L_X11_youngerMany_5 (oset M 419 g) k n l r (c + b1 (g (7619 + (2 * l + v)) = 2 ∧ g (7638 + r) < g (7638 + (2 * l + v)))) (v + 1) := by
  have hv2 : 0 ≤ v ∧ v ≤ 2 := by split at hv <;> omega
  have hrow : 0 ≤ 2 * l + v ∧ 2 * l + v < 19 := by split at hv <;> omega
  rw [L_X11_youngerMany_5]
  refine bc (e_rowsOf l _) ?_
  refine ie (by omega) ?_
  refine bc (e_rowAt _ h hv2) ?_
  refine bc (e_isShut hrow) ?_
  rw [os]
  by_cases k0 : g (7619 + (2 * l + v)) = 2
  · rw [show b1 (g (7619 + (2 * l + v)) = 2) = 1 by simp [b1, k0]]
    refine ie (by omega) (si (by omega) (si (by omega) ?_))
    by_cases m0 : g (7638 + (2 * l + v)) ≤ g (7638 + r)
    · refine it m0 (si (by omega) ?_)
      rw [show b1 (g (7619 + (2 * l + v)) = 2 ∧ g (7638 + r) < g (7638 + (2 * l + v))) = 0 by simp [b1, k0]; omega]
    · refine ie m0 (si (by omega) ?_)
      rw [show b1 (g (7619 + (2 * l + v)) = 2 ∧ g (7638 + r) < g (7638 + (2 * l + v))) = 1 by simp [b1, k0]; omega]
  · rw [show b1 (g (7619 + (2 * l + v)) = 2) = 0 by simp [b1, k0]]
    refine it rfl (si (by omega) ?_)
    rw [show b1 (g (7619 + (2 * l + v)) = 2 ∧ g (7638 + r) < g (7638 + (2 * l + v))) = 0 by simp [b1, k0]]
theorem yM_end {k : Int → Option Int} {n : Nat} {l r c v : Int} {M : fMem} (hv : (if l = 8 then 3 else 2) ≤ v) : L_X11_youngerMany_5 M k (n + 1) l r c v = k c := by
  rw [L_X11_youngerMany_5]
  refine bc (e_rowsOf l _) ?_
  exact it hv rfl
theorem e_youngerMany {l r : Int} {M : fMem} {g : Int → Int} (h : 0 ≤ l ∧ l ≤ 8) (hr : 0 ≤ r ∧ r < 19) : f_X11_youngerMany l r (oset M 419 g) = some (yMn g l r) := by
  unfold f_X11_youngerMany yMn
  have h0 := b1_01 (g (7619 + (2 * l + 0)) = 2 ∧ g (7638 + r) < g (7638 + (2 * l + 0)))
  have h1 := b1_01 (g (7619 + (2 * l + 1)) = 2 ∧ g (7638 + r) < g (7638 + (2 * l + 1)))
  rw [yM_step (n := 3) h hr (by omega) (by split <;> omega), yM_step (n := 2) h hr (by omega) (by split <;> omega)]
  simp only [Int.zero_add, show (1 : Int) + 1 = 2 from rfl]
  by_cases hl : l = 8
  · rw [yM_step (n := 1) h hr (by omega) (by rw [if_pos hl]; omega), yM_end (n := 0) (by rw [if_pos hl]; omega), if_pos hl]
  · rw [yM_end (n := 1) (by rw [if_neg hl]; omega), if_neg hl]
    simp only [Int.add_zero]
/-- the row of a level that is the youngest but so many -/
def bA (g : Int → Int) (l a : Int) : Int := if g (7619 + (2 * l + 0)) = 2 ∧ yMn g l (2 * l + 0) = a then 2 * l + 0 else if g (7619 + (2 * l + 1)) = 2 ∧ yMn g l (2 * l + 1) = a then 2 * l + 1 else if l = 8 ∧ g (7619 + (2 * l + 2)) = 2 ∧ yMn g l (2 * l + 2) = a then 2 * l + 2 else -1
theorem bA_step {k : Option Int} {n : Nat} {l a v : Int} {M : fMem} {g : Int → Int} (h : 0 ≤ l ∧ l ≤ 8) (hv : 0 ≤ v ∧ v < if l = 8 then 3 else 2) : L_X11_byAge_2 (oset M 419 g) k (n + 1) l a v = if g (7619 + (2 * l + v)) = 2 ∧ yMn g l (2 * l + v) = a then some (2 * l + v) else L_X11_byAge_2 (oset M 419 g) k n l a (v + 1) := by
  have hv2 : 0 ≤ v ∧ v ≤ 2 := by split at hv <;> omega
  have hrow : 0 ≤ 2 * l + v ∧ 2 * l + v < 19 := by split at hv <;> omega
  rw [L_X11_byAge_2]
  refine bc (e_rowsOf l _) ?_
  refine ie (by omega) ?_
  refine bc (e_rowAt _ h hv2) ?_
  refine bc (e_isShut hrow) ?_
  by_cases k0 : g (7619 + (2 * l + v)) = 2
  · rw [show b1 (g (7619 + (2 * l + v)) = 2) = 1 by simp [b1, k0]]
    refine ie (by omega) ?_
    refine bc (e_youngerMany h hrow) ?_
    simp [k0]
  · rw [show b1 (g (7619 + (2 * l + v)) = 2) = 0 by simp [b1, k0]]
    refine it rfl ?_
    simp [k0]
theorem bA_end {k : Option Int} {n : Nat} {l a v : Int} {M : fMem} (hv : (if l = 8 then 3 else 2) ≤ v) : L_X11_byAge_2 M k (n + 1) l a v = k := by
  rw [L_X11_byAge_2]
  refine bc (e_rowsOf l _) ?_
  exact it hv rfl
theorem e_byAge {l a : Int} {M : fMem} {g : Int → Int} (h : 0 ≤ l ∧ l ≤ 8) : f_X11_byAge l a (oset M 419 g) = some (bA g l a) := by
  unfold f_X11_byAge bA
  rw [bA_step (n := 3) h (by split <;> omega)]
  split
  · rfl
  rw [show (0 : Int) + 1 = 1 from rfl, bA_step (n := 2) h (by split <;> omega)]
  split
  · rfl
  rw [show (1 : Int) + 1 = 2 from rfl]
  by_cases hl : l = 8
  · rw [bA_step (n := 1) h (by rw [if_pos hl]; omega), bA_end (n := 0) (by rw [if_pos hl]; omega)]
    simp only [hl, true_and]
    split <;> rfl
  · rw [bA_end (n := 1) (by rw [if_neg hl]; omega)]
    simp [hl]
/-- no row of a level behind is shut -/
def bare (g : Int → Int) (l : Int) : Prop := ∀ j, l < j → j ≤ 8 → shM g j = 0
theorem shM_bd (g : Int → Int) (l : Int) : 0 ≤ shM g l ∧ shM g l ≤ 3 := by
  unfold shM
  have h0 := b1_01 (g (7619 + (2 * l + 0)) = 2)
  have h1 := b1_01 (g (7619 + (2 * l + 1)) = 2)
  have h2 := b1_01 (g (7619 + (2 * l + 2)) = 2)
  split <;> omega
theorem isBare_loop {M : fMem} {g : Int → Int} : ∀ (d n : Nat) (v : Int), 0 ≤ v → v + d = 9 → d < n → ∃ x, L_X11_isBare_4 (oset M 419 g) (some 1) n v = some x ∧ ((x = 1 ∧ ∀ j, v ≤ j → j ≤ 8 → shM g j = 0) ∨ (x = 0 ∧ ¬ ∀ j, v ≤ j → j ≤ 8 → shM g j = 0)) := by
  intro d
  induction d with
  | zero =>
    intro n v h0 h1 hn
    obtain ⟨n, rfl⟩ : ∃ n', n = n' + 1 := ⟨n - 1, by omega⟩
    refine ⟨1, ?_, Or.inl ⟨rfl, fun j h2 h3 => by omega⟩⟩
    rw [L_X11_isBare_4]
    exact it (by omega) rfl
  | succ d ih =>
    intro n v h0 h1 hn
    obtain ⟨n, rfl⟩ : ∃ n', n = n' + 1 := ⟨n - 1, by omega⟩
    have hb := shM_bd g v
    by_cases hs : shM g v ≤ 0
    · obtain ⟨x, h2, h3⟩ := ih n (v + 1) (by omega) (by omega) (by omega)
      refine ⟨x, ?_, ?_⟩
      · rw [L_X11_isBare_4]
        refine ie (by omega) (bc (e_shutMany ⟨h0, by omega⟩) (it hs h2))
      · rcases h3 with ⟨rfl, h4⟩ | ⟨rfl, h4⟩
        · refine Or.inl ⟨rfl, fun j h5 h6 => ?_⟩
          by_cases hj : j = v
          · subst hj; omega
          · exact h4 j (by omega) h6
        · exact Or.inr ⟨rfl, fun h5 => h4 (fun j h6 h7 => h5 j (by omega) h7)⟩
    · refine ⟨0, ?_, Or.inr ⟨rfl, fun h4 => hs (by rw [h4 v (by omega) (by omega)]; omega)⟩⟩
      rw [L_X11_isBare_4]
      exact ie (by omega) (bc (e_shutMany ⟨h0, by omega⟩) (ie hs rfl))
noncomputable def bareV (g : Int → Int) (l : Int) : Int := @ite _ (bare g l) (Classical.propDecidable _) 1 0
theorem e_isBare {l : Int} {M : fMem} {g : Int → Int} (h : 0 ≤ l ∧ l ≤ 8) : f_X11_isBare l (oset M 419 g) = some (bareV g l) := by
  unfold f_X11_isBare
  refine si (by omega) ?_
  obtain ⟨x, h1, h2⟩ := isBare_loop (M := M) (g := g) (9 - (l + 1)).toNat 20000 (l + 1) (by omega) (by omega) (by omega)
  rw [h1]
  unfold bareV
  rcases h2 with ⟨rfl, h3⟩ | ⟨rfl, h3⟩
  · have hb : bare g l := fun j h4 h5 => h3 j (by omega) h5
    rw [if_pos hb]
  · have hb : ¬ bare g l := fun h4 => h3 (fun j h5 h6 => h4 j (by omega) h6)
    rw [if_neg hb]
end REF1
