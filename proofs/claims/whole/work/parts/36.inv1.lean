/-! what holds of the numbers at all times -/
section INV1
/-- how many things a row may have -/
def rmR (r : Int) : Int := if r < 2 then 1 else if r < 4 then 2 else if r < 6 then 4 else if r < 8 then 8 else if r < 10 then 16 else if r < 12 then 32 else if r < 14 then 64 else if r < 16 then 128 else 200
def lst (l : Int) : Int := if l = 8 then 2 else 1
def okR (g : Int → Int) (r : Int) : Prop :=
  (g (7619 + r) = 0 ∨ g (7619 + r) = 1 ∨ g (7619 + r) = 2) ∧ (0 ≤ g (7600 + r) ∧ g (7600 + r) ≤ rmR r) ∧ (g (7619 + r) = 0 → g (7600 + r) = 0) ∧ (g (7619 + r) = 2 → 1 ≤ g (7600 + r)) ∧
  (∀ j, 0 ≤ j → j < g (7600 + r) → 0 ≤ g (200 * r + j) ∧ g (200 * r + j) < 200 ∧ -1 ≤ g (3800 + 200 * r + j) ∧ g (3800 + 200 * r + j) ≤ 999) ∧ (∀ i j, 0 ≤ i → i < j → j < g (7600 + r) → g (200 * r + i) < g (200 * r + j))
def okM (g : Int → Int) (l : Int) : Prop :=
  (g (7657 + l) = 0 ∨ g (7657 + l) = 1) ∧ (g (7666 + l) = 0 ∨ g (7666 + l) = 1) ∧ (g (7657 + l) = 1 →
    (2 * l ≤ g (7684 + l) ∧ g (7684 + l) ≤ 2 * l + lst l) ∧ (2 * l ≤ g (7693 + l) ∧ g (7693 + l) ≤ 2 * l + lst l) ∧ g (7684 + l) ≠ g (7693 + l) ∧ g (7619 + g (7684 + l)) = 2 ∧ g (7619 + g (7693 + l)) = 2 ∧
    (2 * nxt l ≤ g (7675 + l) ∧ g (7675 + l) ≤ 2 * nxt l + lst (nxt l)) ∧ g (7619 + g (7675 + l)) = 1 ∧ (0 ≤ g (7702 + l) ∧ g (7702 + l) ≤ g (7600 + g (7684 + l))) ∧ (0 ≤ g (7711 + l) ∧ g (7711 + l) ≤ g (7600 + g (7693 + l))) ∧ 0 < left g l ∧
    g (7600 + g (7675 + l)) ≤ g (7702 + l) + g (7711 + l) ∧ (∀ j, 0 ≤ j → j < g (7600 + g (7675 + l)) → g (200 * g (7675 + l) + j) < yK g l ∧ g (200 * g (7675 + l) + j) < eK g l))
def okO (g : Int → Int) : Prop := (∀ r, 0 ≤ r → r < 19 → g (7619 + r) = 2 → g (7638 + r) ≤ g 7738) ∧ ∀ r q, 0 ≤ r → r < 19 → 0 ≤ q → q < 19 → r ≠ q → g (7619 + r) = 2 → g (7619 + q) = 2 → g (7638 + r) ≠ g (7638 + q)
def okI (g : Int → Int) : Prop := (∀ l k, 0 ≤ l → l ≤ 8 → 0 ≤ k → k ≤ 8 → l ≠ k → g (7657 + l) = 1 → g (7657 + k) = 1 → g (7675 + l) ≠ g (7675 + k)) ∧ ∀ r, 0 ≤ r → r < 19 → g (7619 + r) = 1 → ∃ l, 0 ≤ l ∧ l ≤ 8 ∧ g (7657 + l) = 1 ∧ g (7675 + l) = r
def InvS (g : Int → Int) : Prop := (∀ r, 0 ≤ r → r < 19 → okR g r) ∧ (∀ l, 0 ≤ l → l ≤ 8 → okM g l) ∧ okO g ∧ okI g ∧ shM g 8 ≤ 2 ∧ ∀ i, rg (g i)
/-- a level with two rows that are shut merges, or there is no room for it -/
def quiet (g : Int → Int) (l : Int) : Prop := shM g l = 2 → g (7657 + l) = 1 ∨ (l < 8 ∧ fFr g (l + 1) = -1)
def Inv (g : Int → Int) : Prop := InvS g ∧ ∀ l, 0 ≤ l → l ≤ 8 → quiet g l
theorem lst_bd (l : Int) : 1 ≤ lst l ∧ lst l ≤ 2 ∧ (l ≠ 8 → lst l = 1) ∧ (l = 8 → lst l = 2) := by unfold lst; split <;> omega
theorem nxt_cs (l : Int) : (l = 8 ∧ nxt l = 8) ∨ (l ≠ 8 ∧ nxt l = l + 1) := by
  unfold nxt
  by_cases h : l = 8
  · left; rw [if_pos h]; exact ⟨h, rfl⟩
  · right; rw [if_neg h]; exact ⟨h, rfl⟩
theorem bA0 (g : Int → Int) (l a : Int) : bA g l a = if g (7619 + 2 * l) = 2 ∧ yMn g l (2 * l) = a then 2 * l else if g (7619 + (2 * l + 1)) = 2 ∧ yMn g l (2 * l + 1) = a then 2 * l + 1 else if l = 8 ∧ g (7619 + (2 * l + 2)) = 2 ∧ yMn g l (2 * l + 2) = a then 2 * l + 2 else -1 := by
  unfold bA; simp only [Int.add_zero]
theorem yM0 (g : Int → Int) (l r : Int) : yMn g l r = b1 (g (7619 + 2 * l) = 2 ∧ g (7638 + r) < g (7638 + 2 * l)) + b1 (g (7619 + (2 * l + 1)) = 2 ∧ g (7638 + r) < g (7638 + (2 * l + 1))) + (if l = 8 then b1 (g (7619 + (2 * l + 2)) = 2 ∧ g (7638 + r) < g (7638 + (2 * l + 2))) else 0) := by
  unfold yMn; simp only [Int.add_zero]
theorem sh0 (g : Int → Int) (l : Int) : shM g l = b1 (g (7619 + 2 * l) = 2) + b1 (g (7619 + (2 * l + 1)) = 2) + (if l = 8 then b1 (g (7619 + (2 * l + 2)) = 2) else 0) := by
  unfold shM; simp only [Int.add_zero]
theorem fF0 (g : Int → Int) (l : Int) : fFr g l = if g (7619 + 2 * l) = 0 then 2 * l else if g (7619 + (2 * l + 1)) = 0 then 2 * l + 1 else if l = 8 ∧ g (7619 + (2 * l + 2)) = 0 then 2 * l + 2 else -1 := by
  unfold fFr; simp only [Int.add_zero]
/-- the rows that are the two shut ones of a level -/
theorem two_shut {g : Int → Int} {l : Int} (hl : 0 ≤ l ∧ l ≤ 8) (h2 : shM g l = 2) (ho : okO g) : (2 * l ≤ bA g l 0 ∧ bA g l 0 ≤ 2 * l + lst l) ∧ (2 * l ≤ bA g l 1 ∧ bA g l 1 ≤ 2 * l + lst l) ∧ bA g l 0 ≠ bA g l 1 ∧ g (7619 + bA g l 0) = 2 ∧ g (7619 + bA g l 1) = 2 ∧ g (7638 + bA g l 1) < g (7638 + bA g l 0) := by
  have hd := ho.2
  have hls := lst_bd l
  have e01 := hd (2 * l) (2 * l + 1) (by omega) (by omega) (by omega) (by omega) (by omega)
  rw [sh0] at h2
  by_cases h8 : l = 8
  · have t8 : (l = 8) = True := eq_true h8
    have hl2 := hls.2.2.2 h8
    have e02 := hd (2 * l) (2 * l + 2) (by omega) (by omega) (by omega) (by omega) (by omega)
    have e12 := hd (2 * l + 1) (2 * l + 2) (by omega) (by omega) (by omega) (by omega) (by omega)
    simp only [t8, if_true] at h2
    by_cases k0 : g (7619 + 2 * l) = 2 <;> by_cases k1 : g (7619 + (2 * l + 1)) = 2 <;> by_cases k2 : g (7619 + (2 * l + 2)) = 2 <;> simp [b1, k0, k1, k2] at h2
    · have e := e01 k0 k1
      rcases Int.lt_or_gt_of_ne e with q | q
      · have q2 : ¬ g (7638 + (2 * l + 1)) < g (7638 + 2 * l) := by omega
        have b0 : bA g l 0 = 2 * l + 1 := by simp [bA0, yM0, b1, t8, k0, k1, k2, q, q2]
        have b1' : bA g l 1 = 2 * l := by simp [bA0, yM0, b1, t8, k0, k1, k2, q, q2]
        rw [b0, b1']; exact ⟨by omega, by omega, by omega, k1, k0, q⟩
      · have q2 : ¬ g (7638 + 2 * l) < g (7638 + (2 * l + 1)) := by omega
        have b0 : bA g l 0 = 2 * l := by simp [bA0, yM0, b1, t8, k0, k1, k2, q, q2]
        have b1' : bA g l 1 = 2 * l + 1 := by simp [bA0, yM0, b1, t8, k0, k1, k2, q, q2]
        rw [b0, b1']; exact ⟨by omega, by omega, by omega, k0, k1, q⟩
    · have e := e02 k0 k2
      rcases Int.lt_or_gt_of_ne e with q | q
      · have q2 : ¬ g (7638 + (2 * l + 2)) < g (7638 + 2 * l) := by omega
        have b0 : bA g l 0 = 2 * l + 2 := by simp [bA0, yM0, b1, t8, k0, k1, k2, q, q2]
        have b1' : bA g l 1 = 2 * l := by simp [bA0, yM0, b1, t8, k0, k1, k2, q, q2]
        rw [b0, b1']; exact ⟨by omega, by omega, by omega, k2, k0, q⟩
      · have q2 : ¬ g (7638 + 2 * l) < g (7638 + (2 * l + 2)) := by omega
        have b0 : bA g l 0 = 2 * l := by simp [bA0, yM0, b1, t8, k0, k1, k2, q, q2]
        have b1' : bA g l 1 = 2 * l + 2 := by simp [bA0, yM0, b1, t8, k0, k1, k2, q, q2]
        rw [b0, b1']; exact ⟨by omega, by omega, by omega, k0, k2, q⟩
    · have e := e12 k1 k2
      rcases Int.lt_or_gt_of_ne e with q | q
      · have q2 : ¬ g (7638 + (2 * l + 2)) < g (7638 + (2 * l + 1)) := by omega
        have b0 : bA g l 0 = 2 * l + 2 := by simp [bA0, yM0, b1, t8, k0, k1, k2, q, q2]
        have b1' : bA g l 1 = 2 * l + 1 := by simp [bA0, yM0, b1, t8, k0, k1, k2, q, q2]
        rw [b0, b1']; exact ⟨by omega, by omega, by omega, k2, k1, q⟩
      · have q2 : ¬ g (7638 + (2 * l + 1)) < g (7638 + (2 * l + 2)) := by omega
        have b0 : bA g l 0 = 2 * l + 1 := by simp [bA0, yM0, b1, t8, k0, k1, k2, q, q2]
        have b1' : bA g l 1 = 2 * l + 2 := by simp [bA0, yM0, b1, t8, k0, k1, k2, q, q2]
        rw [b0, b1']; exact ⟨by omega, by omega, by omega, k1, k2, q⟩
  · have t8 : (l = 8) = False := eq_false h8
    have hl2 := hls.2.2.1 h8
    simp only [t8, if_false] at h2
    by_cases k0 : g (7619 + 2 * l) = 2 <;> by_cases k1 : g (7619 + (2 * l + 1)) = 2 <;> simp [b1, k0, k1] at h2
    have e := e01 k0 k1
    rcases Int.lt_or_gt_of_ne e with q | q
    · have q2 : ¬ g (7638 + (2 * l + 1)) < g (7638 + 2 * l) := by omega
      have b0 : bA g l 0 = 2 * l + 1 := by simp [bA0, yM0, b1, t8, k0, k1, q, q2]
      have b1' : bA g l 1 = 2 * l := by simp [bA0, yM0, b1, t8, k0, k1, q, q2]
      rw [b0, b1']; exact ⟨by omega, by omega, by omega, k1, k0, q⟩
    · have q2 : ¬ g (7638 + 2 * l) < g (7638 + (2 * l + 1)) := by omega
      have b0 : bA g l 0 = 2 * l := by simp [bA0, yM0, b1, t8, k0, k1, q, q2]
      have b1' : bA g l 1 = 2 * l + 1 := by simp [bA0, yM0, b1, t8, k0, k1, q, q2]
      rw [b0, b1']; exact ⟨by omega, by omega, by omega, k0, k1, q⟩
/-- rows, numbers and ends of merges, where what they speak of stays -/
theorem okR_cg {g g1 : Int → Int} {r : Int} (h1 : g1 (7619 + r) = g (7619 + r)) (h2 : g1 (7600 + r) = g (7600 + r)) (h3 : ∀ j, 0 ≤ j → j < g (7600 + r) → g1 (200 * r + j) = g (200 * r + j) ∧ g1 (3800 + 200 * r + j) = g (3800 + 200 * r + j)) (h : okR g r) : okR g1 r := by
  obtain ⟨a, b, c, d, e, f⟩ := h
  unfold okR
  rw [h1, h2]
  refine ⟨a, b, c, d, fun j j0 j1 => ?_, fun i j i0 ij j1 => ?_⟩
  · rw [(h3 j j0 j1).1, (h3 j j0 j1).2]; exact e j j0 j1
  · rw [(h3 i i0 (by omega)).1, (h3 j (by omega) j1).1]; exact f i j i0 ij j1
end INV1
