/-! two states with the same shut rows -/
section AGV
def agV (g g1 : Int → Int) : Prop := ∀ r, 0 ≤ r → r < 19 → (g1 (7619 + r) = 2 ↔ g (7619 + r) = 2) ∧ (g (7619 + r) = 2 → g1 (7600 + r) = g (7600 + r) ∧ g1 (7638 + r) = g (7638 + r) ∧ ∀ j, 0 ≤ j → j < g (7600 + r) → g1 (200 * r + j) = g (200 * r + j) ∧ g1 (3800 + 200 * r + j) = g (3800 + 200 * r + j))
theorem agV_sy {g g1 : Int → Int} (h : agV g g1) : agV g1 g := by
  intro r r0 r1
  obtain ⟨a, b⟩ := h r r0 r1
  refine ⟨a.symm, fun z => ?_⟩
  obtain ⟨c, d, e⟩ := b (a.mp z)
  exact ⟨c.symm, d.symm, fun j j0 j1 => ⟨(e j j0 (by omega)).1.symm, (e j j0 (by omega)).2.symm⟩⟩
theorem agV_tr {g g1 g2 : Int → Int} (h : agV g g1) (k : agV g1 g2) : agV g g2 := by
  intro r r0 r1
  obtain ⟨a, b⟩ := h r r0 r1
  obtain ⟨c, d⟩ := k r r0 r1
  refine ⟨c.trans a, fun z => ?_⟩
  obtain ⟨e, f, i⟩ := b z
  obtain ⟨e2, f2, i2⟩ := d (a.mpr z)
  exact ⟨by omega, by omega, fun j j0 j1 => ⟨by rw [(i2 j j0 (by omega)).1, (i j j0 j1).1], by rw [(i2 j j0 (by omega)).2, (i j j0 j1).2]⟩⟩
theorem b1_if {p q : Prop} [Decidable p] [Decidable q] (h : p ↔ q) : b1 p = b1 q := by
  unfold b1
  by_cases c : p
  · rw [if_pos c, if_pos (h.mp c)]
  · rw [if_neg c, if_neg (fun z => c (h.mpr z))]
theorem shM_v {g g1 : Int → Int} (h : agV g g1) {l : Int} (hl : 0 ≤ l ∧ l ≤ 8) : shM g1 l = shM g l := by
  unfold shM
  rw [b1_if (h (2 * l + 0) (by omega) (by omega)).1, b1_if (h (2 * l + 1) (by omega) (by omega)).1]
  by_cases h8 : l = 8
  · rw [b1_if (h (2 * l + 2) (by omega) (by omega)).1]
  · rw [if_neg h8, if_neg h8]
theorem yMn_v {g g1 : Int → Int} (h : agV g g1) {l r : Int} (hl : 0 ≤ l ∧ l ≤ 8) (hr : 0 ≤ r ∧ r < 19) (h2 : g (7619 + r) = 2) : yMn g1 l r = yMn g l r := by
  have key : ∀ q, 0 ≤ q → q < 19 → ((g1 (7619 + q) = 2 ∧ g1 (7638 + r) < g1 (7638 + q)) ↔ (g (7619 + q) = 2 ∧ g (7638 + r) < g (7638 + q))) := by
    intro q q0 q1
    obtain ⟨a, b⟩ := h q q0 q1
    have e := ((h r hr.1 hr.2).2 h2).2.1
    constructor
    · intro z
      have := a.mp z.1
      have := (b this).2.1
      omega
    · intro z
      have := a.mpr z.1
      have := (b z.1).2.1
      omega
  unfold yMn
  rw [b1_if (key (2 * l + 0) (by omega) (by omega)), b1_if (key (2 * l + 1) (by omega) (by omega))]
  by_cases h8 : l = 8
  · rw [b1_if (key (2 * l + 2) (by omega) (by omega))]
  · rw [if_neg h8, if_neg h8]
theorem bA_v {g g1 : Int → Int} (h : agV g g1) {l a : Int} (hl : 0 ≤ l ∧ l ≤ 8) : bA g1 l a = bA g l a := by
  have key : ∀ r, 0 ≤ r → r < 19 → ((g1 (7619 + r) = 2 ∧ yMn g1 l r = a) ↔ (g (7619 + r) = 2 ∧ yMn g l r = a)) := by
    intro r r0 r1
    have i := (h r r0 r1).1
    constructor
    · intro z
      have z1 := i.mp z.1
      exact ⟨z1, by rw [← yMn_v h hl ⟨r0, r1⟩ z1]; exact z.2⟩
    · intro z
      exact ⟨i.mpr z.1, by rw [yMn_v h hl ⟨r0, r1⟩ z.1]; exact z.2⟩
  have k0 := key (2 * l + 0) (by omega) (by omega)
  have k1 := key (2 * l + 1) (by omega) (by omega)
  unfold bA
  by_cases c0 : g (7619 + (2 * l + 0)) = 2 ∧ yMn g l (2 * l + 0) = a
  · rw [if_pos c0, if_pos (k0.mpr c0)]
  rw [if_neg c0, if_neg (fun z => c0 (k0.mp z))]
  by_cases c1 : g (7619 + (2 * l + 1)) = 2 ∧ yMn g l (2 * l + 1) = a
  · rw [if_pos c1, if_pos (k1.mpr c1)]
  rw [if_neg c1, if_neg (fun z => c1 (k1.mp z))]
  by_cases h8 : l = 8
  · have k2 := key (2 * l + 2) (by omega) (by omega)
    by_cases c2 : g (7619 + (2 * l + 2)) = 2 ∧ yMn g l (2 * l + 2) = a
    · have d2 : l = 8 ∧ g (7619 + (2 * l + 2)) = 2 ∧ yMn g l (2 * l + 2) = a := ⟨h8, c2⟩
      have d3 : l = 8 ∧ g1 (7619 + (2 * l + 2)) = 2 ∧ yMn g1 l (2 * l + 2) = a := ⟨h8, k2.mpr c2⟩
      rw [if_pos d2, if_pos d3]
    · have d2 : ¬ (l = 8 ∧ g (7619 + (2 * l + 2)) = 2 ∧ yMn g l (2 * l + 2) = a) := fun z => c2 z.2
      have d3 : ¬ (l = 8 ∧ g1 (7619 + (2 * l + 2)) = 2 ∧ yMn g1 l (2 * l + 2) = a) := fun z => c2 (k2.mp z.2)
      rw [if_neg d2, if_neg d3]
  · rw [if_neg (fun z => h8 z.1), if_neg (fun z => h8 z.1)]
theorem ordL_v {g g1 : Int → Int} (h : agV g g1) : ordL g1 = ordL g := by
  have key : ∀ d : Nat, d ≤ 9 → ordF g1 d = ordF g d := by
    intro d
    induction d with
    | zero => intro _; rfl
    | succ d ih =>
      intro hd
      rw [ordF, ordF, ih (by omega)]
      unfold lvL
      rw [shM_v h (by omega), bA_v h (by omega), bA_v h (by omega)]
  exact key 9 (by omega)
theorem okV_v {g g1 : Int → Int} (h : agV g g1) (hv : okV g) : okV g1 := by
  refine ⟨fun r r0 r1 z => ?_, fun r q r0 r1 q0 q1 n z1 z2 => ?_, by rw [shM_v h (by omega)]; exact hv.2.2⟩
  · obtain ⟨a, b⟩ := h r r0 r1
    have z0 := a.mp z
    obtain ⟨c, d, e⟩ := b z0
    obtain ⟨o1, o2, o3, o4, o5, o6⟩ := hv.1 r r0 r1 z0
    refine ⟨Or.inr (Or.inr z), by rw [c]; exact o2, fun y => by omega, fun _ => by rw [c]; exact o4 z0, fun j j0 j1 => ?_, fun i j i0 ij j1 => ?_⟩
    · rw [(e j j0 (by omega)).1, (e j j0 (by omega)).2]
      exact o5 j j0 (by omega)
    · rw [(e i i0 (by omega)).1, (e j (by omega) (by omega)).1]
      exact o6 i j i0 ij (by omega)
  · obtain ⟨a, b⟩ := h r r0 r1
    obtain ⟨a2, b2⟩ := h q q0 q1
    have y1 := a.mp z1
    have y2 := a2.mp z2
    rw [(b y1).2.1, (b2 y2).2.1]
    exact hv.2.1 r q r0 r1 q0 q1 n y1 y2
theorem plc_v {g g1 : Int → Int} {r κ : Int} : ∀ n : Nat, (∀ j : Int, 0 ≤ j → j < n → g1 (200 * r + j) = g (200 * r + j)) → plc g1 r κ n = plc g r κ n := by
  intro n
  induction n with
  | zero => intro _; rfl
  | succ n ih =>
    intro h
    unfold plc
    rw [h n (by omega) (by omega), ih (fun j j0 j1 => h j j0 (by omega))]
theorem pl_v {g g1 : Int → Int} (h : agV g g1) (hv : okV g) {r κ : Int} (hr : 0 ≤ r ∧ r < 19) (h2 : g (7619 + r) = 2) : pl g1 r κ = pl g r κ := by
  obtain ⟨c, d, e⟩ := (h r hr.1 hr.2).2 h2
  have o2 := (hv.1 r hr.1 hr.2 h2).2.1
  unfold pl
  rw [c]
  exact plc_v _ (fun j j0 j1 => (e j j0 (by omega)).1)
theorem hV_v {g g1 : Int → Int} (h : agV g g1) (hv : okV g) {κ : Int} : ∀ xs : List Int, (∀ r ∈ xs, (0 ≤ r ∧ r < 19) ∧ g (7619 + r) = 2) → hV g1 κ xs = hV g κ xs := by
  intro xs
  induction xs with
  | nil => intro _; rfl
  | cons r xs ih =>
    intro hm
    obtain ⟨r1, r2⟩ := hm r List.mem_cons_self
    have i := ih (fun x hx => hm x (List.mem_cons_of_mem _ hx))
    rw [hV, hV, pl_v h hv r1 r2, i]
    rcases pl_cs g (r := r) (κ := κ) (hv.1 r r1.1 r1.2 r2).2.1.1 with ⟨z, -⟩ | ⟨z1, z2, -⟩
    · rw [if_pos z, if_pos z]
    · rw [(((h r r1.1 r1.2).2 r2).2.2 _ z1 z2).2]
theorem hV_o {g g1 : Int → Int} (h : agV g g1) (hv : okV g) (κ : Int) : hV g1 κ (ordL g1) = hV g κ (ordL g) := by
  rw [ordL_v h]
  exact hV_v h hv _ (ordL_mem hv)
theorem RelV_v {g g1 : Int → Int} {p : Nat} {M : fMem} (h : agV g g1) (hv : okV g) (hR : RelV p M g) : RelV p M g1 := by
  refine ⟨fun r r0 r1 => ?_, fun r r0 r1 z => ?_⟩
  · obtain ⟨a, b⟩ := h r r0 r1
    obtain ⟨x, y⟩ := hR.1 r r0 r1
    exact ⟨x.trans a.symm, fun z => by rw [(b (a.mp z)).2.1]; exact y (a.mp z)⟩
  · obtain ⟨a, b⟩ := h r r0 r1
    have z0 := a.mp z
    obtain ⟨c, d, e⟩ := b z0
    obtain ⟨⟨k1, k2, k3, k4⟩, k5⟩ := hR.2 r r0 r1 z0
    refine ⟨⟨by rw [c]; exact k1, by rw [c]; exact k2, k3, fun j j0 j1 => ?_⟩, ?_⟩
    · rw [(e j j0 (by omega)).1, (e j j0 (by omega)).2]; exact k4 j j0 (by omega)
    · rw [k5, c]
      exact (sgN_cg _ (fun j j0 j1 => (e j j0 (by omega)).2)).symm
theorem agV_of {g g1 : Int → Int} (hv : okV g) (h : ∀ x, 0 ≤ x → x < 7657 → g1 x = g x) : agV g g1 := by
  intro r r0 r1
  rw [h (7619 + r) (by omega) (by omega)]
  refine ⟨Iff.rfl, fun z => ?_⟩
  have o2 := (hv.1 r r0 r1 z).2.1
  have rb := rmR_bd r
  refine ⟨h _ (by omega) (by omega), h _ (by omega) (by omega), fun j j0 j1 => ⟨h _ (by omega) (by omega), h _ (by omega) (by omega)⟩⟩
end AGV
