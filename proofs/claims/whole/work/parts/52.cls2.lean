/-! the class's shelf is read: first free row, shut rows, the youngest -/
section CLS2
/-- a shelf's shut rows and when they were shut -/
def shK (h : Nat) (M : fMem) (g : Int → Int) : Prop := ∀ r, 0 ≤ r → r < 19 → (M (h + 3 * r.toNat + 3) 2 = 2 ↔ g (7619 + r) = 2) ∧ (g (7619 + r) = 2 → M (h + 3 * r.toNat + 3) 5 = g (7638 + r))
theorem shK_of {e : Nat} {M : fMem} {g : Int → Int} (h : RelE e M g) : shK (e + 1) M g := by
  intro r r0 r1
  obtain ⟨a, b, c, d, -⟩ := h.1 r r0 r1
  rw [show e + 1 + 3 * r.toNat + 3 = e + 3 * r.toNat + 4 by omega, a]
  exact ⟨Iff.rfl, d⟩
theorem ER_8 : ER 8 = 19 := rfl
theorem ER_n {l : Int} (h : l ≠ 8) : ER l = 2 * l + 2 := by unfold ER; rw [if_neg h]
theorem fF_step {e : Nat} {M : fMem} {g : Int → Int} {k : Option Int} {n : Nat} {l v : Int} (h : RelE e M g) (hl : 0 ≤ l ∧ l ≤ 8) (hv : 0 ≤ v ∧ v < ER l) : L_X7_firstFree_6 (e + 1) M k (n + 1) l v = if g (7619 + v) = 0 then some v else L_X7_firstFree_6 (e + 1) M k n l (v + 1) := by
  have hv2 : v < 19 := by unfold ER at hv; split at hv <;> omega
  rw [L_X7_firstFree_6]
  refine si (by omega) (ie (by omega) (si (by omega) ?_))
  rw [show e + 1 + 3 * v.toNat + 3 = e + 3 * v.toNat + 4 by omega, (h.1 v hv.1 hv2).1]
theorem fF_end {e : Nat} {M : fMem} {k : Option Int} {n : Nat} {l v : Int} (hl : 0 ≤ l ∧ l ≤ 8) (hv : ER l ≤ v) : L_X7_firstFree_6 e M k (n + 1) l v = k := by
  rw [L_X7_firstFree_6]
  exact si (by omega) (it hv rfl)
theorem c_firstFree {e : Nat} {M : fMem} {g : Int → Int} {l : Int} (h : RelE e M g) (hl : 0 ≤ l ∧ l ≤ 8) : f_X7_firstFree (e + 1) l M = some (fFr g l) := by
  unfold f_X7_firstFree
  refine si (by omega) ?_
  rw [fF0]
  unfold FR
  by_cases h8 : l = 8
  · have t8 : (l = 8) = True := eq_true h8
    have er : ER l = 2 * l + 3 := by rw [h8]; rfl
    rw [fF_step h hl (by omega), fF_step h hl (by omega), show 2 * l + 1 + 1 = 2 * l + 2 by omega, fF_step h hl (by omega), fF_end hl (by omega)]
    simp only [t8, true_and]
    repeat' split
    all_goals rfl
  · have t8 : (l = 8) = False := eq_false h8
    have er : ER l = 2 * l + 2 := ER_n h8
    rw [fF_step h hl (by omega), fF_step h hl (by omega), fF_end hl (by omega)]
    simp only [t8, false_and, if_false]
    repeat' split
    all_goals rfl
theorem sO_step {h : Nat} {M : fMem} {g : Int → Int} {k : Int → Option Int} {n : Nat} {l c v : Int} (hs : shK h M g) (hl : 0 ≤ l ∧ l ≤ 8) (hc : 0 ≤ c ∧ c < 100) (hv : 0 ≤ v ∧ v < ER l) : L_X7_shutOf_8 h M k (n + 1) l c v = L_X7_shutOf_8 h M k n l (c + b1 (g (7619 + v) = 2)) (v + 1) := by
  have hv2 : v < 19 := by unfold ER at hv; split at hv <;> omega
  rw [L_X7_shutOf_8]
  refine si (by omega) (ie (by omega) (si (by omega) ?_))
  have hq := (hs v hv.1 hv2).1
  by_cases q : g (7619 + v) = 2
  · rw [show b1 (g (7619 + v) = 2) = 1 by simp [b1, q]]
    exact it (hq.mpr q) (si (by omega) rfl)
  · rw [show b1 (g (7619 + v) = 2) = 0 by simp [b1, q]]
    exact ie (fun z => q (hq.mp z)) (si (by omega) rfl)
theorem sO_end {h : Nat} {M : fMem} {k : Int → Option Int} {n : Nat} {l c v : Int} (hl : 0 ≤ l ∧ l ≤ 8) (hv : ER l ≤ v) : L_X7_shutOf_8 h M k (n + 1) l c v = k c := by
  rw [L_X7_shutOf_8]
  exact si (by omega) (it hv rfl)
theorem c_shutOf {h : Nat} {M : fMem} {g : Int → Int} {l : Int} (hs : shK h M g) (hl : 0 ≤ l ∧ l ≤ 8) : f_X7_shutOf h l M = some (shM g l) := by
  unfold f_X7_shutOf
  refine si (by omega) ?_
  rw [sh0]
  unfold FR
  have a0 := b1_01 (g (7619 + 2 * l) = 2)
  have a1 := b1_01 (g (7619 + (2 * l + 1)) = 2)
  have a2 := b1_01 (g (7619 + (2 * l + 2)) = 2)
  by_cases h8 : l = 8
  · have er : ER l = 2 * l + 3 := by rw [h8]; rfl
    rw [sO_step hs hl (by omega) (by omega), sO_step hs hl (by omega) (by omega), show 2 * l + 1 + 1 = 2 * l + 2 by omega, sO_step hs hl (by omega) (by omega), sO_end hl (by omega), if_pos h8, Int.zero_add]
  · have er : ER l = 2 * l + 2 := ER_n h8
    rw [sO_step hs hl (by omega) (by omega), sO_step hs hl (by omega) (by omega), sO_end hl (by omega), if_neg h8, Int.zero_add, Int.add_zero]
theorem nB_loop {h : Nat} {M : fMem} {g : Int → Int} (hs : shK h M g) : ∀ (d n : Nat) (v : Int), 0 ≤ v → v + d = 19 → d < n → ∃ x, L_X7_nothingBehind_6 h M (some 1) n v = some x ∧ ((x = 1 ∧ ∀ r, v ≤ r → r < 19 → g (7619 + r) ≠ 2) ∨ (x = 0 ∧ ∃ r, v ≤ r ∧ r < 19 ∧ g (7619 + r) = 2)) := by
  intro d
  induction d with
  | zero =>
    intro n v h0 h1 hn
    obtain ⟨n, rfl⟩ : ∃ n', n = n' + 1 := ⟨n - 1, by omega⟩
    refine ⟨1, ?_, Or.inl ⟨rfl, fun r a b => by omega⟩⟩
    rw [L_X7_nothingBehind_6]
    exact it (by omega) rfl
  | succ d ih =>
    intro n v h0 h1 hn
    obtain ⟨n, rfl⟩ : ∃ n', n = n' + 1 := ⟨n - 1, by omega⟩
    have hq := (hs v h0 (by omega)).1
    by_cases q : g (7619 + v) = 2
    · refine ⟨0, ?_, Or.inr ⟨rfl, v, by omega, by omega, q⟩⟩
      rw [L_X7_nothingBehind_6]
      exact ie (by omega) (si (by omega) (it (hq.mpr q) rfl))
    · obtain ⟨x, h2, h3⟩ := ih n (v + 1) (by omega) (by omega) (by omega)
      refine ⟨x, ?_, ?_⟩
      · rw [L_X7_nothingBehind_6]
        exact ie (by omega) (si (by omega) (ie (fun z => q (hq.mp z)) h2))
      · rcases h3 with ⟨rfl, h4⟩ | ⟨rfl, r, r0, r1, r2⟩
        · refine Or.inl ⟨rfl, fun r a b => ?_⟩
          by_cases c : r = v
          · subst c; exact q
          · exact h4 r (by omega) b
        · exact Or.inr ⟨rfl, r, by omega, r1, r2⟩
theorem shM_0 {g : Int → Int} {l : Int} (hl : 0 ≤ l ∧ l ≤ 8) : shM g l = 0 ↔ ∀ r, 2 * l ≤ r → r < ER l → g (7619 + r) ≠ 2 := by
  rw [sh0]
  constructor
  · intro h r r0 r1
    have er : ER l = if l = 8 then 19 else 2 * l + 2 := rfl
    rcases b1_cs (g (7619 + 2 * l) = 2) with ⟨a, a'⟩ | ⟨a, a'⟩ <;> rcases b1_cs (g (7619 + (2 * l + 1)) = 2) with ⟨b, b'⟩ | ⟨b, b'⟩ <;> rcases b1_cs (g (7619 + (2 * l + 2)) = 2) with ⟨c, c'⟩ | ⟨c, c'⟩ <;> rw [a', b', c'] at h <;> split at h <;> rename_i h8 <;> (try omega)
    · rw [er, if_neg h8] at r1
      have : r = 2 * l ∨ r = 2 * l + 1 := by omega
      rcases this with rfl | rfl <;> assumption
    · rw [er, if_pos h8] at r1
      have : r = 2 * l ∨ r = 2 * l + 1 ∨ r = 2 * l + 2 := by omega
      rcases this with rfl | rfl | rfl <;> assumption
    · rw [er, if_neg h8] at r1
      have : r = 2 * l ∨ r = 2 * l + 1 := by omega
      rcases this with rfl | rfl <;> assumption
  · intro h
    have a := h (2 * l) (by omega) (by unfold ER; split <;> omega)
    have b := h (2 * l + 1) (by omega) (by unfold ER; split <;> omega)
    split
    · rename_i h8
      have c := h (2 * l + 2) (by omega) (by rw [h8]; decide)
      simp [b1, a, b, c]
    · simp [b1, a, b]
theorem bare_iff {g : Int → Int} {l : Int} (hl : 0 ≤ l ∧ l ≤ 8) : bare g l ↔ ∀ r, ER l ≤ r → r < 19 → g (7619 + r) ≠ 2 := by
  constructor
  · intro h r r0 r1
    have hr : ∃ j, l < j ∧ j ≤ 8 ∧ 2 * j ≤ r ∧ r < ER j := by
      by_cases h16 : 16 ≤ r
      · refine ⟨8, ?_, by omega, by omega, by rw [ER_8]; omega⟩
        unfold ER at r0; split at r0 <;> omega
      · refine ⟨r / 2, ?_, by omega, by omega, by rw [ER_n (by omega)]; omega⟩
        unfold ER at r0; split at r0 <;> omega
    obtain ⟨j, j0, j1, j2, j3⟩ := hr
    exact (shM_0 ⟨by omega, j1⟩).mp (h j j0 j1) r j2 j3
  · intro h j j0 j1
    refine (shM_0 ⟨by omega, j1⟩).mpr (fun r r0 r1 => h r ?_ ?_)
    · rw [ER_n (by omega)]; omega
    · unfold ER at r1; split at r1 <;> omega
theorem c_nothing {h : Nat} {M : fMem} {g : Int → Int} {l : Int} (hs : shK h M g) (hl : 0 ≤ l ∧ l ≤ 8) : f_X7_nothingBehind h l M = some (bareV g l) := by
  unfold f_X7_nothingBehind
  refine si (by omega) ?_
  have hE : 2 ≤ ER l ∧ ER l ≤ 19 := by unfold ER; split <;> omega
  obtain ⟨x, h1, h2⟩ := nB_loop hs (19 - ER l).toNat 20000 (ER l) (by omega) (by omega) (by omega)
  rw [h1]
  unfold bareV
  rcases h2 with ⟨rfl, h3⟩ | ⟨rfl, r, r0, r1, r2⟩
  · rw [if_pos ((bare_iff hl).mpr h3)]
  · rw [if_neg (fun q => (bare_iff hl).mp q r r0 r1 r2)]
/-- the youngest row of a level but one -/
def yB1 (g : Int → Int) (but y v : Int) : Int := if g (7619 + v) = 2 ∧ v ≠ but ∧ (y = -1 ∨ g (7638 + y) < g (7638 + v)) then v else y
def yB (g : Int → Int) (l but : Int) : Int := if l = 8 then yB1 g but (yB1 g but (yB1 g but (-1) (2 * l)) (2 * l + 1)) (2 * l + 2) else yB1 g but (yB1 g but (-1) (2 * l)) (2 * l + 1)
def yBo (g : Int → Int) (y : Int) : Prop := y = -1 ∨ (0 ≤ y ∧ y < 19 ∧ g (7619 + y) = 2)
theorem yB1_ok {g : Int → Int} {but y v : Int} (h : yBo g y) (hv : 0 ≤ v ∧ v < 19) : yBo g (yB1 g but y v) := by
  unfold yB1
  split
  · rename_i q; exact Or.inr ⟨hv.1, hv.2, q.1⟩
  · exact h
theorem yB_step {h : Nat} {M : fMem} {g : Int → Int} {k : Int → Option Int} {n : Nat} {l b y v : Int} (hs : shK h M g) (hl : 0 ≤ l ∧ l ≤ 8) (hy : yBo g y) (hv : 0 ≤ v ∧ v < ER l) : L_X7_youngestBut_9 h M k (n + 1) l b y v = L_X7_youngestBut_9 h M k n l b (yB1 g b y v) (v + 1) := by
  have hv2 : v < 19 := by unfold ER at hv; split at hv <;> omega
  rw [L_X7_youngestBut_9]
  refine si (by omega) (ie (by omega) (si (by omega) ?_))
  obtain ⟨hq, ho⟩ := hs v hv.1 hv2
  unfold yB1
  by_cases q : g (7619 + v) = 2
  · refine it (hq.mpr q) ?_
    by_cases c : v = b
    · refine it c ?_
      rw [if_neg (fun z => z.2.1 c)]
    · refine ie c ?_
      rcases hy with rfl | ⟨y0, y1, y2⟩
      · refine it rfl ?_
        rw [if_pos ⟨q, c, Or.inl rfl⟩]
      · refine ie (by omega) (si (by omega) ?_)
        rw [ho q, (hs y y0 y1).2 y2]
        by_cases d : g (7638 + v) ≤ g (7638 + y)
        · refine it d ?_
          rw [if_neg (fun z => by rcases z.2.2 with w | w <;> omega)]
        · refine ie d ?_
          rw [if_pos ⟨q, c, Or.inr (by omega)⟩]
  · refine ie (fun z => q (hq.mp z)) ?_
    rw [if_neg (fun z => q z.1)]
theorem yB_end {h : Nat} {M : fMem} {k : Int → Option Int} {n : Nat} {l b y v : Int} (hl : 0 ≤ l ∧ l ≤ 8) (hv : ER l ≤ v) : L_X7_youngestBut_9 h M k (n + 1) l b y v = k y := by
  rw [L_X7_youngestBut_9]
  exact si (by omega) (it hv rfl)
theorem c_youngestBut {h : Nat} {M : fMem} {g : Int → Int} {l b : Int} (hs : shK h M g) (hl : 0 ≤ l ∧ l ≤ 8) : f_X7_youngestBut h l b M = some (yB g l b) := by
  unfold f_X7_youngestBut
  refine si (by omega) ?_
  unfold yB FR
  have o0 : yBo g (-1) := Or.inl rfl
  have o1 := yB1_ok (but := b) o0 (v := 2 * l) (by omega)
  have o2 := yB1_ok (but := b) o1 (v := 2 * l + 1) (by omega)
  by_cases h8 : l = 8
  · have er : ER l = 2 * l + 3 := by rw [h8]; rfl
    rw [yB_step hs hl o0 (by omega), yB_step hs hl o1 (by omega), show 2 * l + 1 + 1 = 2 * l + 2 by omega, yB_step hs hl o2 (by omega), yB_end hl (by omega), if_pos h8]
  · have er : ER l = 2 * l + 2 := ER_n h8
    rw [yB_step hs hl o0 (by omega), yB_step hs hl o1 (by omega), yB_end hl (by omega), if_neg h8]
/-- by age -/
theorem yB_bA {g : Int → Int} {l : Int} (hl : 0 ≤ l ∧ l ≤ 8) (hd : ∀ r q, 0 ≤ r → r < 19 → 0 ≤ q → q < 19 → r ≠ q → g (7619 + r) = 2 → g (7619 + q) = 2 → g (7638 + r) ≠ g (7638 + q)) (h8' : shM g 8 ≤ 2) : yB g l (-1) = bA g l 0 ∧ yB g l (bA g l 0) = bA g l 1 := by
  have e01 := hd (2 * l) (2 * l + 1) (by omega) (by omega) (by omega) (by omega) (by omega)
  have n0 : ¬ 2 * l = -1 := by omega
  have n1 : ¬ 2 * l + 1 = -1 := by omega
  have n2 : ¬ 2 * l + 2 = -1 := by omega
  have m1 : ¬ 2 * l + 1 = 2 * l := by omega
  have m2 : ¬ 2 * l + 2 = 2 * l := by omega
  have m3 : ¬ 2 * l + 2 = 2 * l + 1 := by omega
  have m4 : ¬ 2 * l = 2 * l + 1 := by omega
  have m5 : ¬ 2 * l = 2 * l + 2 := by omega
  have m6 : ¬ 2 * l + 1 = 2 * l + 2 := by omega
  by_cases h8 : l = 8
  · have t8 : (l = 8) = True := eq_true h8
    have e02 := hd (2 * l) (2 * l + 2) (by omega) (by omega) (by omega) (by omega) (by omega)
    have e12 := hd (2 * l + 1) (2 * l + 2) (by omega) (by omega) (by omega) (by omega) (by omega)
    rw [← h8, sh0] at h8'
    simp only [t8, if_true] at h8'
    by_cases k0 : g (7619 + 2 * l) = 2 <;> by_cases k1 : g (7619 + (2 * l + 1)) = 2 <;> by_cases k2 : g (7619 + (2 * l + 2)) = 2
    · exfalso; simp [b1, k0, k1, k2] at h8'
    · rcases Int.lt_or_gt_of_ne (e01 k0 k1) with q | q
      · have q2 : ¬ g (7638 + (2 * l + 1)) < g (7638 + 2 * l) := by omega
        simp [yB, yB1, bA0, yM0, b1, t8, k0, k1, k2, q, q2, n0, n1, n2, m1, m2, m3, m4, m5, m6]
      · have q2 : ¬ g (7638 + 2 * l) < g (7638 + (2 * l + 1)) := by omega
        simp [yB, yB1, bA0, yM0, b1, t8, k0, k1, k2, q, q2, n0, n1, n2, m1, m2, m3, m4, m5, m6]
    · rcases Int.lt_or_gt_of_ne (e02 k0 k2) with q | q
      · have q2 : ¬ g (7638 + (2 * l + 2)) < g (7638 + 2 * l) := by omega
        simp [yB, yB1, bA0, yM0, b1, t8, k0, k1, k2, q, q2, n0, n1, n2, m1, m2, m3, m4, m5, m6]
      · have q2 : ¬ g (7638 + 2 * l) < g (7638 + (2 * l + 2)) := by omega
        simp [yB, yB1, bA0, yM0, b1, t8, k0, k1, k2, q, q2, n0, n1, n2, m1, m2, m3, m4, m5, m6]
    · simp [yB, yB1, bA0, yM0, b1, t8, k0, k1, k2, n0, n1, n2, m1, m2, m3, m4, m5, m6]
    · rcases Int.lt_or_gt_of_ne (e12 k1 k2) with q | q
      · have q2 : ¬ g (7638 + (2 * l + 2)) < g (7638 + (2 * l + 1)) := by omega
        simp [yB, yB1, bA0, yM0, b1, t8, k0, k1, k2, q, q2, n0, n1, n2, m1, m2, m3, m4, m5, m6]
      · have q2 : ¬ g (7638 + (2 * l + 1)) < g (7638 + (2 * l + 2)) := by omega
        simp [yB, yB1, bA0, yM0, b1, t8, k0, k1, k2, q, q2, n0, n1, n2, m1, m2, m3, m4, m5, m6]
    · simp [yB, yB1, bA0, yM0, b1, t8, k0, k1, k2, n0, n1, n2, m1, m2, m3, m4, m5, m6]
    · simp [yB, yB1, bA0, yM0, b1, t8, k0, k1, k2, n0, n1, n2, m1, m2, m3, m4, m5, m6]
    · simp [yB, yB1, bA0, yM0, b1, t8, k0, k1, k2, n0, n1, n2, m1, m2, m3, m4, m5, m6]
  · have t8 : (l = 8) = False := eq_false h8
    by_cases k0 : g (7619 + 2 * l) = 2 <;> by_cases k1 : g (7619 + (2 * l + 1)) = 2
    · rcases Int.lt_or_gt_of_ne (e01 k0 k1) with q | q
      · have q2 : ¬ g (7638 + (2 * l + 1)) < g (7638 + 2 * l) := by omega
        simp [yB, yB1, bA0, yM0, b1, t8, k0, k1, q, q2, n0, n1, n2, m1, m2, m3, m4, m5, m6]
      · have q2 : ¬ g (7638 + 2 * l) < g (7638 + (2 * l + 1)) := by omega
        simp [yB, yB1, bA0, yM0, b1, t8, k0, k1, q, q2, n0, n1, n2, m1, m2, m3, m4, m5, m6]
    · simp [yB, yB1, bA0, yM0, b1, t8, k0, k1, n0, n1, n2, m1, m2, m3, m4, m5, m6]
    · simp [yB, yB1, bA0, yM0, b1, t8, k0, k1, n0, n1, n2, m1, m2, m3, m4, m5, m6]
    · simp [yB, yB1, bA0, yM0, b1, t8, k0, k1, n0, n1, n2, m1, m2, m3, m4, m5, m6]
end CLS2
