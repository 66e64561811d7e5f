/-! shut rows in the order in which one goes to find a key -/
section ORD1
/-- what holds of shut rows, now or in a view -/
def okV (g : Int → Int) : Prop := (∀ r, 0 ≤ r → r < 19 → g (7619 + r) = 2 → okR g r) ∧ (∀ r q, 0 ≤ r → r < 19 → 0 ≤ q → q < 19 → r ≠ q → g (7619 + r) = 2 → g (7619 + q) = 2 → g (7638 + r) ≠ g (7638 + q)) ∧ shM g 8 ≤ 2
theorem okV_of {g : Int → Int} (h : InvS g) : okV g := ⟨fun r r0 r1 _ => h.1 r r0 r1, h.2.2.1.2, h.2.2.2.2.1⟩
/-- a level's shut rows by age: which they are -/
theorem lv_cs {g : Int → Int} {l : Int} (hl : 0 ≤ l ∧ l ≤ 8) (h : okV g) :
    (shM g l = 0 ∧ bA g l 0 = -1 ∧ bA g l 1 = -1 ∧ ∀ r, 2 * l ≤ r → r < ER l → g (7619 + r) ≠ 2) ∨
    (shM g l = 1 ∧ bA g l 1 = -1 ∧ (2 * l ≤ bA g l 0 ∧ bA g l 0 < ER l) ∧ g (7619 + bA g l 0) = 2 ∧ ∀ r, 2 * l ≤ r → r < ER l → r ≠ bA g l 0 → g (7619 + r) ≠ 2) ∨
    (shM g l = 2 ∧ (2 * l ≤ bA g l 0 ∧ bA g l 0 < ER l) ∧ (2 * l ≤ bA g l 1 ∧ bA g l 1 < ER l) ∧ bA g l 0 ≠ bA g l 1 ∧ g (7619 + bA g l 0) = 2 ∧ g (7619 + bA g l 1) = 2 ∧ g (7638 + bA g l 1) < g (7638 + bA g l 0) ∧ ∀ r, 2 * l ≤ r → r < ER l → r ≠ bA g l 0 → r ≠ bA g l 1 → g (7619 + r) ≠ 2) := by
  obtain ⟨-, hd, h8'⟩ := h
  have e01 := hd (2 * l) (2 * l + 1) (by omega) (by omega) (by omega) (by omega) (by omega)
  by_cases h8 : l = 8
  · have t8 : (l = 8) = True := eq_true h8
    have er : ER l = 2 * l + 3 := by rw [h8]; rfl
    have e02 := hd (2 * l) (2 * l + 2) (by omega) (by omega) (by omega) (by omega) (by omega)
    have e12 := hd (2 * l + 1) (2 * l + 2) (by omega) (by omega) (by omega) (by omega) (by omega)
    have three : ∀ {P : Int → Prop}, P (2 * l) → P (2 * l + 1) → P (2 * l + 2) → ∀ r, 2 * l ≤ r → r < ER l → P r := by
      intro P a b c r r0 r1
      have : r = 2 * l ∨ r = 2 * l + 1 ∨ r = 2 * l + 2 := by omega
      rcases this with rfl | rfl | rfl <;> assumption
    rw [← h8, sh0] at h8'
    simp only [t8, if_true] at h8'
    by_cases k0 : g (7619 + 2 * l) = 2 <;> by_cases k1 : g (7619 + (2 * l + 1)) = 2 <;> by_cases k2 : g (7619 + (2 * l + 2)) = 2
    · exfalso; simp [b1, k0, k1, k2] at h8'
    · right; right
      have hs : shM g l = 2 := by rw [sh0]; simp [b1, t8, k0, k1, k2]
      rcases Int.lt_or_gt_of_ne (e01 k0 k1) with q | q
      · have q2 : ¬ g (7638 + (2 * l + 1)) < g (7638 + 2 * l) := by omega
        have b0 : bA g l 0 = 2 * l + 1 := by simp [bA0, yM0, b1, t8, k0, k1, k2, q, q2]
        have b1' : bA g l 1 = 2 * l := by simp [bA0, yM0, b1, t8, k0, k1, k2, q, q2]
        rw [b0, b1']; exact ⟨hs, by omega, by omega, by omega, k1, k0, q, three (fun _ z => absurd rfl z) (fun z => absurd rfl z) (fun _ _ => k2)⟩
      · have q2 : ¬ g (7638 + 2 * l) < g (7638 + (2 * l + 1)) := by omega
        have b0 : bA g l 0 = 2 * l := by simp [bA0, yM0, b1, t8, k0, k1, k2, q, q2]
        have b1' : bA g l 1 = 2 * l + 1 := by simp [bA0, yM0, b1, t8, k0, k1, k2, q, q2]
        rw [b0, b1']; exact ⟨hs, by omega, by omega, by omega, k0, k1, q, three (fun z => absurd rfl z) (fun _ z => absurd rfl z) (fun _ _ => k2)⟩
    · right; right
      have hs : shM g l = 2 := by rw [sh0]; simp [b1, t8, k0, k1, k2]
      rcases Int.lt_or_gt_of_ne (e02 k0 k2) with q | q
      · have q2 : ¬ g (7638 + (2 * l + 2)) < g (7638 + 2 * l) := by omega
        have b0 : bA g l 0 = 2 * l + 2 := by simp [bA0, yM0, b1, t8, k0, k1, k2, q, q2]
        have b1' : bA g l 1 = 2 * l := by simp [bA0, yM0, b1, t8, k0, k1, k2, q, q2]
        rw [b0, b1']; exact ⟨hs, by omega, by omega, by omega, k2, k0, q, three (fun _ z => absurd rfl z) (fun _ _ => k1) (fun z => absurd rfl z)⟩
      · have q2 : ¬ g (7638 + 2 * l) < g (7638 + (2 * l + 2)) := by omega
        have b0 : bA g l 0 = 2 * l := by simp [bA0, yM0, b1, t8, k0, k1, k2, q, q2]
        have b1' : bA g l 1 = 2 * l + 2 := by simp [bA0, yM0, b1, t8, k0, k1, k2, q, q2]
        rw [b0, b1']; exact ⟨hs, by omega, by omega, by omega, k0, k2, q, three (fun z => absurd rfl z) (fun _ _ => k1) (fun _ z => absurd rfl z)⟩
    · right; left
      have hs : shM g l = 1 := by rw [sh0]; simp [b1, t8, k0, k1, k2]
      have b0 : bA g l 0 = 2 * l := by simp [bA0, yM0, b1, t8, k0, k1, k2]
      have b1' : bA g l 1 = -1 := by simp [bA0, yM0, b1, t8, k0, k1, k2]
      rw [b0, b1']; exact ⟨hs, rfl, by omega, k0, three (fun z => absurd rfl z) (fun _ => k1) (fun _ => k2)⟩
    · right; right
      have hs : shM g l = 2 := by rw [sh0]; simp [b1, t8, k0, k1, k2]
      rcases Int.lt_or_gt_of_ne (e12 k1 k2) with q | q
      · have q2 : ¬ g (7638 + (2 * l + 2)) < g (7638 + (2 * l + 1)) := by omega
        have b0 : bA g l 0 = 2 * l + 2 := by simp [bA0, yM0, b1, t8, k0, k1, k2, q, q2]
        have b1' : bA g l 1 = 2 * l + 1 := by simp [bA0, yM0, b1, t8, k0, k1, k2, q, q2]
        rw [b0, b1']; exact ⟨hs, by omega, by omega, by omega, k2, k1, q, three (fun _ _ => k0) (fun _ z => absurd rfl z) (fun z => absurd rfl z)⟩
      · have q2 : ¬ g (7638 + (2 * l + 1)) < g (7638 + (2 * l + 2)) := by omega
        have b0 : bA g l 0 = 2 * l + 1 := by simp [bA0, yM0, b1, t8, k0, k1, k2, q, q2]
        have b1' : bA g l 1 = 2 * l + 2 := by simp [bA0, yM0, b1, t8, k0, k1, k2, q, q2]
        rw [b0, b1']; exact ⟨hs, by omega, by omega, by omega, k1, k2, q, three (fun _ _ => k0) (fun z => absurd rfl z) (fun _ z => absurd rfl z)⟩
    · right; left
      have hs : shM g l = 1 := by rw [sh0]; simp [b1, t8, k0, k1, k2]
      have b0 : bA g l 0 = 2 * l + 1 := by simp [bA0, yM0, b1, t8, k0, k1, k2]
      have b1' : bA g l 1 = -1 := by simp [bA0, yM0, b1, t8, k0, k1, k2]
      rw [b0, b1']; exact ⟨hs, rfl, by omega, k1, three (fun _ => k0) (fun z => absurd rfl z) (fun _ => k2)⟩
    · right; left
      have hs : shM g l = 1 := by rw [sh0]; simp [b1, t8, k0, k1, k2]
      have b0 : bA g l 0 = 2 * l + 2 := by simp [bA0, yM0, b1, t8, k0, k1, k2]
      have b1' : bA g l 1 = -1 := by simp [bA0, yM0, b1, t8, k0, k1, k2]
      rw [b0, b1']; exact ⟨hs, rfl, by omega, k2, three (fun _ => k0) (fun _ => k1) (fun z => absurd rfl z)⟩
    · left
      have hs : shM g l = 0 := by rw [sh0]; simp [b1, t8, k0, k1, k2]
      have b0 : bA g l 0 = -1 := by simp [bA0, yM0, b1, t8, k0, k1, k2]
      have b1' : bA g l 1 = -1 := by simp [bA0, yM0, b1, t8, k0, k1, k2]
      rw [b0, b1']; exact ⟨hs, rfl, rfl, three k0 k1 k2⟩
  · have t8 : (l = 8) = False := eq_false h8
    have er : ER l = 2 * l + 2 := ER_n h8
    have two : ∀ {P : Int → Prop}, P (2 * l) → P (2 * l + 1) → ∀ r, 2 * l ≤ r → r < ER l → P r := by
      intro P a b r r0 r1
      have : r = 2 * l ∨ r = 2 * l + 1 := by omega
      rcases this with rfl | rfl <;> assumption
    by_cases k0 : g (7619 + 2 * l) = 2 <;> by_cases k1 : g (7619 + (2 * l + 1)) = 2
    · right; right
      have hs : shM g l = 2 := by rw [sh0]; simp [b1, t8, k0, k1]
      rcases Int.lt_or_gt_of_ne (e01 k0 k1) with q | q
      · have q2 : ¬ g (7638 + (2 * l + 1)) < g (7638 + 2 * l) := by omega
        have b0 : bA g l 0 = 2 * l + 1 := by simp [bA0, yM0, b1, t8, k0, k1, q, q2]
        have b1' : bA g l 1 = 2 * l := by simp [bA0, yM0, b1, t8, k0, k1, q, q2]
        rw [b0, b1']; exact ⟨hs, by omega, by omega, by omega, k1, k0, q, two (fun _ z => absurd rfl z) (fun z => absurd rfl z)⟩
      · have q2 : ¬ g (7638 + 2 * l) < g (7638 + (2 * l + 1)) := by omega
        have b0 : bA g l 0 = 2 * l := by simp [bA0, yM0, b1, t8, k0, k1, q, q2]
        have b1' : bA g l 1 = 2 * l + 1 := by simp [bA0, yM0, b1, t8, k0, k1, q, q2]
        rw [b0, b1']; exact ⟨hs, by omega, by omega, by omega, k0, k1, q, two (fun z => absurd rfl z) (fun _ z => absurd rfl z)⟩
    · right; left
      have hs : shM g l = 1 := by rw [sh0]; simp [b1, t8, k0, k1]
      have b0 : bA g l 0 = 2 * l := by simp [bA0, yM0, b1, t8, k0, k1]
      have b1' : bA g l 1 = -1 := by simp [bA0, yM0, b1, t8, k0, k1]
      rw [b0, b1']; exact ⟨hs, rfl, by omega, k0, two (fun z => absurd rfl z) (fun _ => k1)⟩
    · right; left
      have hs : shM g l = 1 := by rw [sh0]; simp [b1, t8, k0, k1]
      have b0 : bA g l 0 = 2 * l + 1 := by simp [bA0, yM0, b1, t8, k0, k1]
      have b1' : bA g l 1 = -1 := by simp [bA0, yM0, b1, t8, k0, k1]
      rw [b0, b1']; exact ⟨hs, rfl, by omega, k1, two (fun _ => k0) (fun z => absurd rfl z)⟩
    · left
      have hs : shM g l = 0 := by rw [sh0]; simp [b1, t8, k0, k1]
      have b0 : bA g l 0 = -1 := by simp [bA0, yM0, b1, t8, k0, k1]
      have b1' : bA g l 1 = -1 := by simp [bA0, yM0, b1, t8, k0, k1]
      rw [b0, b1']; exact ⟨hs, rfl, rfl, two k0 k1⟩
/-- the shut rows of a level, of all levels from one on -/
def lvL (g : Int → Int) (l : Int) : List Int := if shM g l = 0 then [] else if shM g l = 1 then [bA g l 0] else [bA g l 0, bA g l 1]
def ordF (g : Int → Int) : Nat → List Int
  | 0 => []
  | d + 1 => lvL g (8 - d) ++ ordF g d
def ordL (g : Int → Int) : List Int := ordF g 9
/-- a shelf's order from a place on -/
def ordAt (h : Nat) (M : fMem) (i : Int) (xs : List Int) : Prop := M h 2 = i + xs.length ∧ ∀ j : Nat, ∀ x, xs[j]? = some x → M (h + 2) (i + j) = x
theorem ordAt_hd {h : Nat} {M : fMem} {i x : Int} {xs : List Int} (a : ordAt h M i (x :: xs)) : M (h + 2) i = x ∧ ordAt h M (i + 1) xs ∧ i < M h 2 := by
  refine ⟨?_, ⟨?_, fun j y hy => ?_⟩, ?_⟩
  · have := a.2 0 x rfl
    rwa [show i + ((0 : Nat) : Int) = i by omega] at this
  · rw [a.1]; simp; omega
  · have := a.2 (j + 1) y (by simpa using hy)
    rwa [show i + ((j + 1 : Nat) : Int) = i + 1 + j by omega] at this
  · rw [a.1]; simp; omega
/-- a row comes into the order of its level -/
def arP (h : Nat) (n : Int) (M M1 : fMem) (c a b : Int) : Prop := M1 h 2 = n + c ∧ (1 ≤ c → M1 (h + 2) n = a) ∧ (c = 2 → M1 (h + 2) (n + 1) = b) ∧ (∀ i, i < n → M1 (h + 2) i = M (h + 2) i) ∧ (∀ i, i ≠ 2 → M1 h i = M h i) ∧ ∀ x, x ≠ h → x ≠ h + 2 → M1 x = M x
theorem ins0 {h : Nat} {n : Int} {M M1 : fMem} {a b v : Int} (p : arP h n M M1 0 a b) (hn : 0 ≤ n ∧ n < 19) : ∃ M2, f_X7_insert h v n M1 = some M2 ∧ arP h n M M2 1 v b := by
  obtain ⟨p1, -, -, p4, p5, p6⟩ := p
  rw [Int.add_zero] at p1
  refine ⟨mset (mset M1 (h + 2) n v) h 2 (n + 1), ?_, ?_, ?_, ?_, ?_, ?_, ?_⟩
  · unfold f_X7_insert
    rw [p1, L_X7_insert_5]
    refine it (by omega) ?_
    unfold j_X7_insert_58
    refine si hn (bs fun N q => ?_)
    have z : N h 2 = n := by rw [q, mset_ne (by omega), p1]
    rw [z]
    refine si (by omega) ?_
    rw [q]; rfl
  · rw [mset_self]
  · intro _; rw [mset_ne (by omega), mset_self]
  · intro z; omega
  · intro i hi; rw [mset_ne (by omega), mset_slot (by omega), p4 i hi]
  · intro i hi; rw [mset_slot hi, mset_ne (by omega), p5 i hi]
  · intro x x1 x2; rw [mset_ne x1, mset_ne x2, p6 x x1 x2]
theorem ins1 {h : Nat} {n : Int} {M M1 : fMem} {g : Int → Int} {a b v : Int} (p : arP h n M M1 1 a b) (hn : 0 ≤ n ∧ n < 18) (hs : shK h M g) (ha : 0 ≤ a ∧ a < 19 ∧ g (7619 + a) = 2) (hv : 0 ≤ v ∧ v < 19 ∧ g (7619 + v) = 2) : ∃ M2, f_X7_insert h v n M1 = some M2 ∧ (g (7638 + a) < g (7638 + v) → arP h n M M2 2 v a) ∧ (g (7638 + v) ≤ g (7638 + a) → arP h n M M2 2 a v) := by
  obtain ⟨p1, p2, -, p4, p5, p6⟩ := p
  have p2 := p2 (by omega)
  have sa : M1 (h + 3 * a.toNat + 3) 5 = g (7638 + a) := by rw [p6 _ (by omega) (by omega)]; exact (hs a ha.1 ha.2.1).2 ha.2.2
  have sv : M1 (h + 3 * v.toNat + 3) 5 = g (7638 + v) := by rw [p6 _ (by omega) (by omega)]; exact (hs v hv.1 hv.2.1).2 hv.2.2
  by_cases q : g (7638 + v) ≤ g (7638 + a)
  · refine ⟨mset (mset M1 (h + 2) (n + 1) v) h 2 (n + 1 + 1), ?_, fun z => by omega, fun _ => ⟨?_, ?_, ?_, ?_, ?_, ?_⟩⟩
    · unfold f_X7_insert
      rw [p1, L_X7_insert_5, show n + 1 - 1 = n by omega, p2, sa, sv]
      refine ie (by omega) (si (by omega) (si ⟨ha.1, ha.2.1⟩ (si ⟨hv.1, hv.2.1⟩ (it q ?_))))
      unfold j_X7_insert_58
      refine si (by omega) (bs fun N e => ?_)
      have z : N h 2 = n + 1 := by rw [e, mset_ne (by omega), p1]
      rw [z]
      refine si (by omega) ?_
      rw [e]; rfl
    · rw [mset_self]; omega
    · intro _; rw [mset_ne (by omega), mset_slot (by omega), p2]
    · intro _; rw [mset_ne (by omega), mset_self]
    · intro i hi; rw [mset_ne (by omega), mset_slot (by omega), p4 i hi]
    · intro i hi; rw [mset_slot hi, mset_ne (by omega), p5 i hi]
    · intro x x1 x2; rw [mset_ne x1, mset_ne x2, p6 x x1 x2]
  · refine ⟨mset (mset (mset M1 (h + 2) (n + 1) a) (h + 2) n v) h 2 (n + 1 + 1), ?_, fun _ => ⟨?_, ?_, ?_, ?_, ?_, ?_⟩, fun z => by omega⟩
    · unfold f_X7_insert
      rw [p1, L_X7_insert_5, show n + 1 - 1 = n by omega, p2, sa, sv]
      refine ie (by omega) (si (by omega) (si ⟨ha.1, ha.2.1⟩ (si ⟨hv.1, hv.2.1⟩ (ie q (si (by omega) (bs fun N e => ?_))))))
      rw [show n + 1 + -1 = n by omega, L_X7_insert_5]
      refine it (by omega) ?_
      unfold j_X7_insert_58
      refine si (by omega) (bs fun N2 e2 => ?_)
      have z : N2 h 2 = n + 1 := by rw [e2, mset_ne (by omega), e, mset_ne (by omega), p1]
      rw [z]
      refine si (by omega) ?_
      rw [e2, e]; rfl
    · rw [mset_self]; omega
    · intro _; rw [mset_ne (by omega), mset_self]
    · intro _; rw [mset_ne (by omega), mset_slot (by omega), mset_self]
    · intro i hi; rw [mset_ne (by omega), mset_slot (by omega), mset_slot (by omega), p4 i hi]
    · intro i hi; rw [mset_slot hi, mset_ne (by omega), mset_ne (by omega), p5 i hi]
    · intro x x1 x2; rw [mset_ne x1, mset_ne x2, mset_ne x2, p6 x x1 x2]
end ORD1
