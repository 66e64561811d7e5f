/-! where a key lies in a row; by what it is found -/
section HOL1
def plc (g : Int → Int) (r κ : Int) : Nat → Int
  | 0 => -1
  | n + 1 => if g (200 * r + n) = κ then n else plc g r κ n
theorem plc_cs (g : Int → Int) (r κ : Int) : ∀ n : Nat, (plc g r κ n = -1 ∧ ∀ j : Int, 0 ≤ j → j < n → g (200 * r + j) ≠ κ) ∨ (0 ≤ plc g r κ n ∧ plc g r κ n < n ∧ g (200 * r + plc g r κ n) = κ) := by
  intro n
  induction n with
  | zero => left; exact ⟨rfl, fun j a b => by omega⟩
  | succ n ih =>
    unfold plc
    by_cases q : g (200 * r + n) = κ
    · right; rw [if_pos q]; exact ⟨by omega, by omega, q⟩
    · rw [if_neg q]
      rcases ih with ⟨a, b⟩ | ⟨a, b, c⟩
      · left; refine ⟨a, fun j j0 j1 => ?_⟩
        by_cases z : j = n
        · rw [z]; exact q
        · exact b j j0 (by omega)
      · right; exact ⟨a, by omega, c⟩
def pl (g : Int → Int) (r κ : Int) : Int := plc g r κ (g (7600 + r)).toNat
theorem pl_cs (g : Int → Int) {r κ : Int} (h : 0 ≤ g (7600 + r)) : (pl g r κ = -1 ∧ ∀ j, 0 ≤ j → j < g (7600 + r) → g (200 * r + j) ≠ κ) ∨ (0 ≤ pl g r κ ∧ pl g r κ < g (7600 + r) ∧ g (200 * r + pl g r κ) = κ) := by
  have := plc_cs g r κ (g (7600 + r)).toNat
  rw [show (((g (7600 + r)).toNat : Nat) : Int) = g (7600 + r) by omega] at this
  exact this
theorem pl_eq {g : Int → Int} {r κ j : Int} (ho : okR g r) (h0 : 0 ≤ j) (h1 : j < g (7600 + r)) (h : g (200 * r + j) = κ) : pl g r κ = j := by
  rcases pl_cs g (r := r) (κ := κ) (by omega) with ⟨a, b⟩ | ⟨a, b, c⟩
  · exact absurd h (b j h0 h1)
  · have up := ho.2.2.2.2.2
    rcases Int.lt_trichotomy (pl g r κ) j with q | q | q
    · have := up _ _ a q h1; omega
    · exact q
    · have := up _ _ h0 q b; omega
/-- a row's things as the class has them -/
def rowK (p : Nat) (M : fMem) (g : Int → Int) (r : Int) : Prop := M p 3 = g (7600 + r) ∧ (0 ≤ g (7600 + r) ∧ g (7600 + r) ≤ rmR r) ∧ (Ln (p + 1) = rmR r ∧ Ln (p + 2) = rmR r) ∧ ∀ j, 0 ≤ j → j < g (7600 + r) → M (p + 1) j = g (200 * r + j) ∧ M (p + 2) j = g (3800 + 200 * r + j)
theorem k_keyAt {p : Nat} {M : fMem} {g : Int → Int} {r i : Int} (h : rowK p M g r) (hi : 0 ≤ i) : f_X6_keyAt p i M = some (if g (7600 + r) ≤ i then 200 else g (200 * r + i)) := by
  obtain ⟨a, b, c, d⟩ := h
  unfold f_X6_keyAt
  rw [a, c.1]
  refine ie (by omega) ?_
  by_cases q : g (7600 + r) ≤ i
  · rw [if_pos q, if_pos q]
  · rw [if_neg q, if_neg q]
    refine si (by omega) ?_
    rw [(d i hi (by omega)).1]
theorem k_valueAt {p : Nat} {M : fMem} {g : Int → Int} {r i : Int} (h : rowK p M g r) (hi : 0 ≤ i ∧ i < g (7600 + r)) : f_X6_valueAt p i M = some (g (3800 + 200 * r + i)) := by
  obtain ⟨a, b, c, d⟩ := h
  unfold f_X6_valueAt
  rw [a, c.2]
  refine ie (by omega) (ie (by omega) (si (by omega) ?_))
  rw [(d i hi.1 hi.2).2]
theorem po_loop {p : Nat} {M : fMem} {g : Int → Int} {r κ : Int} {k : Int → Int → Option Int} (h : rowK p M g r) (ho : okR g r) : ∀ (d n : Nat) (lo hi lf : Int), 0 ≤ lo → lo ≤ hi → hi ≤ g (7600 + r) → hi - lo < 2 ^ d → (d : Int) ≤ lf → d < n → (∀ j, 0 ≤ j → j < lo → g (200 * r + j) < κ) → (∀ j, hi ≤ j → j < g (7600 + r) → κ ≤ g (200 * r + j)) →
    ∃ L, L_X6_placeOf_11 p M k n κ lo hi lf = k κ L ∧ 0 ≤ L ∧ L ≤ g (7600 + r) ∧ (∀ j, 0 ≤ j → j < L → g (200 * r + j) < κ) ∧ (∀ j, L ≤ j → j < g (7600 + r) → κ ≤ g (200 * r + j)) := by
  have hrm := rmR_bd r
  have hsz := h.2.1
  have up := ho.2.2.2.2.2
  intro d
  induction d with
  | zero =>
    intro n lo hi lf a1 a2 a3 a4 a5 a6 a7 a8
    obtain ⟨n, rfl⟩ : ∃ n', n = n' + 1 := ⟨n - 1, by omega⟩
    have : hi = lo := by simp at a4; omega
    subst this
    refine ⟨hi, ?_, a1, a3, a7, a8⟩
    rw [L_X6_placeOf_11]
    by_cases q : lf ≤ 0
    · exact it q rfl
    · exact ie q (it (by omega) rfl)
  | succ d ih =>
    intro n lo hi lf a1 a2 a3 a4 a5 a6 a7 a8
    obtain ⟨n, rfl⟩ : ∃ n', n = n' + 1 := ⟨n - 1, by omega⟩
    by_cases q : hi ≤ lo
    · have : hi = lo := by omega
      subst this
      refine ⟨hi, ?_, a1, a3, a7, a8⟩
      rw [L_X6_placeOf_11]
      exact ie (by omega) (it q rfl)
    · have hp : (2 : Int) ^ (d + 1) = 2 * 2 ^ d := by rw [Int.pow_succ]; omega
      have ky := k_keyAt (i := (lo + hi) / 2) h (by omega)
      rw [if_neg (by omega)] at ky
      by_cases c : κ ≤ g (200 * r + (lo + hi) / 2)
      · obtain ⟨L, e1, e2⟩ := ih n lo ((lo + hi) / 2) (lf + -1) a1 (by omega) (by omega) (by omega) (by omega) (by omega) a7 (fun j j0 j1 => by
          by_cases z : j = (lo + hi) / 2
          · rw [z]; exact c
          · have := up ((lo + hi) / 2) j (by omega) (by omega) j1; omega)
        refine ⟨L, ?_, e2⟩
        rw [L_X6_placeOf_11]
        exact ie (by omega) (ie q (si (by omega) (si (by omega) (bc ky (it c e1)))))
      · obtain ⟨L, e1, e2⟩ := ih n ((lo + hi) / 2 + 1) hi (lf + -1) (by omega) (by omega) a3 (by omega) (by omega) (by omega) (fun j j0 j1 => by
          by_cases z : j = (lo + hi) / 2
          · rw [z]; omega
          · have := up j ((lo + hi) / 2) j0 (by omega) (by omega); omega) a8
        refine ⟨L, ?_, e2⟩
        rw [L_X6_placeOf_11]
        exact ie (by omega) (ie q (si (by omega) (si (by omega) (bc ky (ie c (si (by omega) e1))))))
theorem c_placeOf {p : Nat} {M : fMem} {g : Int → Int} {r κ : Int} (h : rowK p M g r) (ho : okR g r) (hκ : 0 ≤ κ ∧ κ < 200) : f_X6_placeOf p κ M = some (pl g r κ) := by
  have hrm := rmR_bd r
  have hsz := h.2.1
  unfold f_X6_placeOf
  rw [h.1]
  obtain ⟨L, e1, e2, e3, e4, e5⟩ := po_loop (κ := κ) (k := fun v1_8 v2_8 => j_X6_placeOf_55 p v1_8 v2_8 M) h ho 8 20000 0 (g (7600 + r)) 40 (by omega) (by omega) (by omega) (by omega) (by omega) (by omega) (fun j a b => by omega) (fun j a b => by omega)
  rw [e1]
  unfold j_X6_placeOf_55
  refine bc (k_keyAt h e2) ?_
  by_cases q : g (7600 + r) ≤ L
  · rw [if_pos q, if_neg (by omega)]
    rcases pl_cs g (r := r) (κ := κ) (by omega) with ⟨a, b⟩ | ⟨a, b, c⟩
    · rw [a]
    · have := e4 (pl g r κ) a (by omega); omega
  · rw [if_neg q]
    by_cases c : g (200 * r + L) = κ
    · rw [if_pos c, pl_eq ho e2 (by omega) c]
    · rw [if_neg c]
      rcases pl_cs g (r := r) (κ := κ) (by omega) with ⟨a, b⟩ | ⟨a, b, c2⟩
      · rw [a]
      · exfalso
        rcases Int.lt_trichotomy (pl g r κ) L with z | z | z
        · have := e4 _ a z; omega
        · rw [z] at c2; exact c c2
        · have := e5 L (by omega) (by omega)
          have := ho.2.2.2.2.2 L (pl g r κ) e2 z b
          omega
/-- by what a key is found, in how many rows it is -/
def hF (g : Int → Int) (κ : Int) : List Int → Int
  | [] => -1
  | r :: xs => if pl g r κ = -1 then hF g κ xs else r
def hV (g : Int → Int) (κ : Int) : List Int → Int
  | [] => -1
  | r :: xs => if pl g r κ = -1 then hV g κ xs else g (3800 + 200 * r + pl g r κ)
def hC (g : Int → Int) (κ : Int) : List Int → Int
  | [] => 0
  | r :: xs => (if pl g r κ = -1 then 0 else 1) + hC g κ xs
def hT (g : Int → Int) : List Int → Int
  | [] => 0
  | r :: xs => g (7600 + r) + hT g xs
theorem hC_bd (g : Int → Int) (κ : Int) : ∀ xs : List Int, 0 ≤ hC g κ xs ∧ hC g κ xs ≤ xs.length := by
  intro xs
  induction xs with
  | nil => simp [hC]
  | cons r xs ih => rw [hC]; simp only [List.length_cons]; split <;> omega
/-- a shelf whose shut rows are as the numbers say -/
def RelV (h : Nat) (M : fMem) (g : Int → Int) : Prop := shK h M g ∧ ∀ r, 0 ≤ r → r < 19 → g (7619 + r) = 2 → rowK (h + 3 * r.toNat + 3) M g r ∧ M (h + 3 * r.toNat + 3) 4 = sgN g r (g (7600 + r)).toNat
theorem RelV_of {e : Nat} {M : fMem} {g : Int → Int} (h : RelE e M g) (he : e = 1 ∨ e = 72) : RelV (e + 1) M g := by
  refine ⟨shK_of h, fun r r0 r1 hr => ?_⟩
  obtain ⟨a, b, c, d, f, k⟩ := h.1 r r0 r1
  rw [show e + 1 + 3 * r.toNat + 3 = e + 3 * r.toNat + 4 by omega]
  exact ⟨⟨b, f, Ln_E he ⟨r0, r1⟩, k⟩, c⟩
theorem RelV_cg {h : Nat} {M M1 : fMem} {g : Int → Int} (a : RelV h M g) (b : ∀ x, h + 3 ≤ x → x < h + 60 → M1 x = M x) : RelV h M1 g := by
  refine ⟨fun r r0 r1 => ?_, fun r r0 r1 hr => ?_⟩
  · rw [b _ (by omega) (by omega)]; exact a.1 r r0 r1
  · obtain ⟨⟨c1, c2, c3, c4⟩, c5⟩ := a.2 r r0 r1 hr
    refine ⟨⟨?_, c2, c3, fun j j0 j1 => ?_⟩, ?_⟩
    · rw [b _ (by omega) (by omega)]; exact c1
    · rw [b _ (by omega) (by omega), b _ (by omega) (by omega)]; exact c4 j j0 j1
    · rw [b _ (by omega) (by omega)]; exact c5
theorem c_firstWith {h : Nat} {M : fMem} {g : Int → Int} {κ : Int} (hv : RelV h M g) (ho : okV g) (hκ : 0 ≤ κ ∧ κ < 200) : ∀ (xs : List Int) (n : Nat) (i : Int), (∀ r ∈ xs, (0 ≤ r ∧ r < 19) ∧ g (7619 + r) = 2) → ordAt h M i xs → 0 ≤ i → i + xs.length ≤ 19 → xs.length < n → L_X7_firstWith_2 h M (some (-1)) n κ i = some (hF g κ xs) := by
  intro xs
  induction xs with
  | nil =>
    intro n i hm ha i0 i1 hn
    obtain ⟨n, rfl⟩ : ∃ n', n = n' + 1 := ⟨n - 1, by omega⟩
    rw [L_X7_firstWith_2]
    exact it (by rw [ha.1]; simp) rfl
  | cons r xs ih =>
    intro n i hm ha i0 i1 hn
    simp only [List.length_cons] at i1 hn
    obtain ⟨n, rfl⟩ : ∃ n', n = n' + 1 := ⟨n - 1, by omega⟩
    obtain ⟨b1, b2, b3⟩ := ordAt_hd ha
    obtain ⟨c1, c2⟩ := hm r (List.mem_cons_self)
    have po := c_placeOf (κ := κ) (hv.2 r c1.1 c1.2 c2).1 (ho.1 r c1.1 c1.2 c2) hκ
    rw [L_X7_firstWith_2, b1]
    refine ie (by omega) (si (by omega) (si c1 (bc po ?_)))
    rw [hF]
    by_cases q : pl g r κ = -1
    · rw [if_pos q, if_pos q]
      exact ih n (i + 1) (fun x hx => hm x (List.mem_cons_of_mem _ hx)) b2 (by omega) (by omega) (by omega)
    · rw [if_neg q, if_neg q]
theorem c_rowsWith {h : Nat} {M : fMem} {g : Int → Int} {κ : Int} {k : Int → Option Int} (hv : RelV h M g) (ho : okV g) (hκ : 0 ≤ κ ∧ κ < 200) : ∀ (xs : List Int) (n : Nat) (i c : Int), (∀ r ∈ xs, (0 ≤ r ∧ r < 19) ∧ g (7619 + r) = 2) → ordAt h M i xs → 0 ≤ i → i + xs.length ≤ 19 → xs.length < n → 0 ≤ c → c ≤ i → L_X7_rowsWith_4 h M k n κ c i = k (c + hC g κ xs) := by
  intro xs
  induction xs with
  | nil =>
    intro n i c hm ha i0 i1 hn c0 c1
    obtain ⟨n, rfl⟩ : ∃ n', n = n' + 1 := ⟨n - 1, by omega⟩
    rw [L_X7_rowsWith_4, if_pos (by rw [ha.1]; simp), hC, Int.add_zero]
  | cons r xs ih =>
    intro n i c hm ha i0 i1 hn c0 c1
    simp only [List.length_cons] at i1 hn
    obtain ⟨n, rfl⟩ : ∃ n', n = n' + 1 := ⟨n - 1, by omega⟩
    obtain ⟨b1, b2, b3⟩ := ordAt_hd ha
    obtain ⟨d1, d2⟩ := hm r (List.mem_cons_self)
    have po := c_placeOf (κ := κ) (hv.2 r d1.1 d1.2 d2).1 (ho.1 r d1.1 d1.2 d2) hκ
    have hm' : ∀ x ∈ xs, (0 ≤ x ∧ x < 19) ∧ g (7619 + x) = 2 := fun x hx => hm x (List.mem_cons_of_mem _ hx)
    rw [L_X7_rowsWith_4, b1]
    rw [if_neg (by omega), if_pos (by omega), if_pos d1, po]
    rw [hC]
    show (if pl g r κ = -1 then _ else _) = _
    by_cases q : pl g r κ = -1
    · rw [if_pos q, if_pos q, if_pos (by omega), ih n (i + 1) (c + 0) hm' b2 (by omega) (by omega) (by omega) (by omega) (by omega)]
      rw [show c + 0 + hC g κ xs = c + (0 + hC g κ xs) by omega]
    · rw [if_neg q, if_neg q, if_pos (by omega), ih n (i + 1) (c + 1) hm' b2 (by omega) (by omega) (by omega) (by omega) (by omega)]
      rw [show c + 1 + hC g κ xs = c + (1 + hC g κ xs) by omega]
theorem hF_cs {g : Int → Int} {κ : Int} : ∀ (xs : List Int), (hF g κ xs = -1 ∧ hV g κ xs = -1) ∨ (hF g κ xs ∈ xs ∧ pl g (hF g κ xs) κ ≠ -1 ∧ hV g κ xs = g (3800 + 200 * hF g κ xs + pl g (hF g κ xs) κ)) := by
  intro xs
  induction xs with
  | nil => left; exact ⟨rfl, rfl⟩
  | cons r xs ih =>
    rw [hF, hV]
    by_cases q : pl g r κ = -1
    · rw [if_pos q, if_pos q]
      rcases ih with z | ⟨z1, z2⟩
      · exact Or.inl z
      · exact Or.inr ⟨List.mem_cons_of_mem _ z1, z2⟩
    · rw [if_neg q, if_neg q]
      exact Or.inr ⟨List.mem_cons_self, q, rfl⟩
end HOL1
