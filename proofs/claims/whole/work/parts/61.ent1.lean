/-! entries: things and marks, by keys -/
section ENT1
abbrev En : Type := Int × Int × Int × Int
/-- key, kind (0 a thing, 1 a mark of the younger row, 2 of the other), of, place -/
def eLt (a b : En) : Prop := a.1 < b.1 ∨ (a.1 = b.1 ∧ (a.2.1 < b.2.1 ∨ (a.2.1 = b.2.1 ∧ a.2.2.2 < b.2.2.2)))
theorem eLt_tr {a b c : En} (h : eLt a b) (k : eLt b c) : eLt a c := by unfold eLt at *; omega
theorem eLt_ir (a : En) : ¬ eLt a a := by unfold eLt; omega
theorem eLt_as {a b : En} (h : eLt a b) : ¬ eLt b a := by unfold eLt at *; omega
theorem eSo_uniq : ∀ L K : List En, L.Pairwise eLt → K.Pairwise eLt → (∀ e, e ∈ L ↔ e ∈ K) → L = K := by
  intro L
  induction L with
  | nil =>
    intro K _ _ h
    cases K with
    | nil => rfl
    | cons b K => exact absurd ((h b).mpr List.mem_cons_self) (by simp)
  | cons a L ih =>
    intro K hL hK h
    cases K with
    | nil => exact absurd ((h a).mp List.mem_cons_self) (by simp)
    | cons b K =>
      rw [List.pairwise_cons] at hL hK
      have ab : a = b := by
        have h1 := (h a).mp List.mem_cons_self
        have h2 := (h b).mpr List.mem_cons_self
        rw [List.mem_cons] at h1 h2
        rcases h1 with h1 | h1
        · exact h1
        · rcases h2 with h2 | h2
          · exact h2.symm
          · exact absurd (hK.1 a h1) (eLt_as (hL.1 b h2))
      subst ab
      rw [ih K hL.2 hK.2 (fun e => ?_)]
      constructor
      · intro he
        have := (h e).mp (List.mem_cons_of_mem _ he)
        rw [List.mem_cons] at this
        rcases this with z | z
        · subst z; exact absurd (hL.1 e he) (eLt_ir e)
        · exact z
      · intro he
        have := (h e).mpr (List.mem_cons_of_mem _ he)
        rw [List.mem_cons] at this
        rcases this with z | z
        · subst z; exact absurd (hK.1 e he) (eLt_ir e)
        · exact z
def hk : List En → Int
  | [] => 200
  | e :: _ => e.1
theorem hk_c (e : En) (L : List En) : hk (e :: L) = e.1 := rfl
theorem hk_n : hk [] = 200 := rfl
def m3 : Nat → List En → List En → List En → List En
  | 0, _, _, _ => []
  | n + 1, T, Y, Z => if hk T ≤ hk Y ∧ hk T ≤ hk Z then (match T with | [] => [] | t :: T' => t :: m3 n T' Y Z) else if hk Y ≤ hk Z then (match Y with | [] => [] | y :: Y' => y :: m3 n T Y' Z) else (match Z with | [] => [] | z :: Z' => z :: m3 n T Y Z')
def okE (k : Int) (L : List En) : Prop := L.Pairwise eLt ∧ ∀ e ∈ L, 0 ≤ e.1 ∧ e.1 < 200 ∧ e.2.1 = k
theorem okE_tl {k : Int} {e : En} {L : List En} (h : okE k (e :: L)) : okE k L := ⟨(List.pairwise_cons.mp h.1).2, fun x hx => h.2 x (List.mem_cons_of_mem _ hx)⟩
theorem hk_le {k : Int} {L : List En} (h : okE k L) : ∀ e ∈ L, hk L ≤ e.1 := by
  cases L with
  | nil => intro e he; simp at he
  | cons a L =>
    intro e he
    rw [List.mem_cons] at he
    rcases he with he | he
    · rw [he]; exact Int.le_refl _
    · have := (List.pairwise_cons.mp h.1).1 e he
      unfold eLt at this
      show a.1 ≤ e.1
      omega
theorem hk_lt {k : Int} {e : En} {L : List En} (h : okE k (e :: L)) : hk (e :: L) < 200 := (h.2 e List.mem_cons_self).2.1
theorem hk_200 {k : Int} {L : List En} (h : okE k L) (h2 : 200 ≤ hk L) : L = [] := by
  cases L with
  | nil => rfl
  | cons a L => have := hk_lt h; omega
theorem m3_spec : ∀ (n : Nat) (T Y Z : List En), T.length + Y.length + Z.length = n → okE 0 T → okE 1 Y → okE 2 Z → (m3 n T Y Z).Pairwise eLt ∧ (∀ e, e ∈ m3 n T Y Z ↔ e ∈ T ∨ e ∈ Y ∨ e ∈ Z) ∧ (m3 n T Y Z).length = n := by
  intro n
  induction n with
  | zero =>
    intro T Y Z h hT hY hZ
    have a : T = [] := List.eq_nil_of_length_eq_zero (by omega)
    have b : Y = [] := List.eq_nil_of_length_eq_zero (by omega)
    have c : Z = [] := List.eq_nil_of_length_eq_zero (by omega)
    subst a; subst b; subst c
    simp [m3]
  | succ n ih =>
    intro T Y Z h hT hY hZ
    unfold m3
    by_cases q : hk T ≤ hk Y ∧ hk T ≤ hk Z
    · rw [if_pos q]
      cases T with
      | nil =>
        have b := hk_200 hY (by have := q.1; rw [hk_n] at this; exact this)
        have c := hk_200 hZ (by have := q.2; rw [hk_n] at this; exact this)
        subst b; subst c
        simp at h
      | cons t T =>
        obtain ⟨i1, i2, i3⟩ := ih T Y Z (by simp only [List.length_cons] at h; omega) (okE_tl hT) hY hZ
        refine ⟨List.pairwise_cons.mpr ⟨fun e he => ?_, i1⟩, fun e => ?_, by simp [i3]⟩
        · have ht := (hT.2 t List.mem_cons_self).2.2
          rcases (i2 e).mp he with he | he | he
          · exact (List.pairwise_cons.mp hT.1).1 e he
          · have := hk_le hY e he
            have := (hY.2 e he).2.2
            have := q.1
            have := hk_c t T
            unfold eLt; omega
          · have := hk_le hZ e he
            have := (hZ.2 e he).2.2
            have := q.2
            have := hk_c t T
            unfold eLt; omega
        · simp only [List.mem_cons, i2]
          constructor
          · rintro (z | z | z | z)
            · exact Or.inl (Or.inl z)
            · exact Or.inl (Or.inr z)
            · exact Or.inr (Or.inl z)
            · exact Or.inr (Or.inr z)
          · rintro ((z | z) | z | z)
            · exact Or.inl z
            · exact Or.inr (Or.inl z)
            · exact Or.inr (Or.inr (Or.inl z))
            · exact Or.inr (Or.inr (Or.inr z))
    · rw [if_neg q]
      by_cases q2 : hk Y ≤ hk Z
      · rw [if_pos q2]
        cases Y with
        | nil =>
          exfalso
          have c := hk_200 hZ (by rw [hk_n] at q2; exact q2)
          subst c
          apply q
          rw [hk_n]
          cases T with
          | nil => rw [hk_n]; omega
          | cons t T => have := hk_lt hT; omega
        | cons y Y =>
          obtain ⟨i1, i2, i3⟩ := ih T Y Z (by simp only [List.length_cons] at h; omega) hT (okE_tl hY) hZ
          refine ⟨List.pairwise_cons.mpr ⟨fun e he => ?_, i1⟩, fun e => ?_, by simp [i3]⟩
          · have ht := (hY.2 y List.mem_cons_self).2.2
            rcases (i2 e).mp he with he | he | he
            · have := hk_le hT e he
              have := hk_c y Y
              unfold eLt; omega
            · exact (List.pairwise_cons.mp hY.1).1 e he
            · have := hk_le hZ e he
              have := (hZ.2 e he).2.2
              have := hk_c y Y
              unfold eLt; omega
          · simp only [List.mem_cons, i2]
            constructor
            · rintro (z | z | z | z)
              · exact Or.inr (Or.inl (Or.inl z))
              · exact Or.inl z
              · exact Or.inr (Or.inl (Or.inr z))
              · exact Or.inr (Or.inr z)
            · rintro (z | (z | z) | z)
              · exact Or.inr (Or.inl z)
              · exact Or.inl z
              · exact Or.inr (Or.inr (Or.inl z))
              · exact Or.inr (Or.inr (Or.inr z))
      · rw [if_neg q2]
        cases Z with
        | nil =>
          exfalso
          apply q2
          rw [hk_n]
          cases Y with
          | nil => rw [hk_n]; omega
          | cons y Y => have := hk_lt hY; omega
        | cons z Z =>
          obtain ⟨i1, i2, i3⟩ := ih T Y Z (by simp only [List.length_cons] at h; omega) hT hY (okE_tl hZ)
          refine ⟨List.pairwise_cons.mpr ⟨fun e he => ?_, i1⟩, fun e => ?_, by simp [i3]⟩
          · have ht := (hZ.2 z List.mem_cons_self).2.2
            rcases (i2 e).mp he with he | he | he
            · have := hk_le hT e he
              have := hk_c z Z
              unfold eLt; omega
            · have := hk_le hY e he
              have := (hY.2 e he).2.2
              have := hk_c z Z
              unfold eLt; omega
            · exact (List.pairwise_cons.mp hZ.1).1 e he
          · simp only [List.mem_cons, i2]
            constructor
            · rintro (w | w | w | w)
              · exact Or.inr (Or.inr (Or.inl w))
              · exact Or.inl w
              · exact Or.inr (Or.inl w)
              · exact Or.inr (Or.inr (Or.inr w))
            · rintro (w | w | w | w)
              · exact Or.inr (Or.inl w)
              · exact Or.inr (Or.inr (Or.inl w))
              · exact Or.inl w
              · exact Or.inr (Or.inr (Or.inr w))
/-- the things of a row -/
def thg (g : Int → Int) (r : Int) : Int → Nat → List En
  | _, 0 => []
  | j, n + 1 => (g (200 * r + j), 0, j, -1) :: thg g r (j + 1) n
theorem thg_len (g : Int → Int) (r : Int) : ∀ (n : Nat) (j : Int), (thg g r j n).length = n := by
  intro n
  induction n with
  | zero => intro j; rfl
  | succ n ih => intro j; rw [thg, List.length_cons, ih]
theorem thg_mem {g : Int → Int} {r : Int} : ∀ (n : Nat) (j : Int) (e : En), e ∈ thg g r j n ↔ ∃ i, j ≤ i ∧ i < j + n ∧ e = (g (200 * r + i), 0, i, -1) := by
  intro n
  induction n with
  | zero => intro j e; simp [thg]; intro i a b; omega
  | succ n ih =>
    intro j e
    rw [thg, List.mem_cons, ih]
    constructor
    · rintro (h | ⟨i, a, b, c⟩)
      · exact ⟨j, by omega, by omega, h⟩
      · exact ⟨i, by omega, by omega, c⟩
    · rintro ⟨i, a, b, c⟩
      by_cases q : i = j
      · subst q; exact Or.inl c
      · exact Or.inr ⟨i, by omega, by omega, c⟩
theorem thg_ok {g : Int → Int} {r : Int} (ho : okR g r) : ∀ (n : Nat) (j : Int), 0 ≤ j → j + n ≤ g (7600 + r) → okE 0 (thg g r j n) := by
  intro n
  induction n with
  | zero => intro j _ _; exact ⟨List.Pairwise.nil, fun e he => by simp [thg] at he⟩
  | succ n ih =>
    intro j h0 h1
    have i := ih (j + 1) (by omega) (by omega)
    rw [thg]
    refine ⟨List.pairwise_cons.mpr ⟨fun e he => ?_, i.1⟩, fun e he => ?_⟩
    · obtain ⟨i, a, b, c⟩ := (thg_mem n (j + 1) e).mp he
      have := ho.2.2.2.2.2 j i h0 (by omega) (by omega)
      subst c
      exact Or.inl this
    · rw [List.mem_cons] at he
      rcases he with he | he
      · have := ho.2.2.2.2.1 j h0 (by omega)
        subst he
        exact ⟨this.1, this.2.1, rfl⟩
      · exact i.2 e he
def eT (g : Int → Int) (r : Int) : List En := thg g r 0 (g (7600 + r)).toNat
/-- an entry of a list; behind the last one a key above all -/
def gE (L : List En) (p : Int) : En := (L[p.toNat]?).getD (200, 0, 0, 0)
theorem gE_mem {L : List En} {p : Int} (h : 0 ≤ p ∧ p < L.length) : gE L p ∈ L := by
  unfold gE
  have hp : p.toNat < L.length := by omega
  rw [List.getElem?_eq_getElem hp]
  exact List.getElem_mem hp
theorem gE_out {L : List En} {p : Int} (h : (L.length : Int) ≤ p) : gE L p = (200, 0, 0, 0) := by
  unfold gE
  rw [List.getElem?_eq_none (by omega)]; rfl
theorem gE_le {L : List En} (h : L.Pairwise eLt) {p q : Int} (h0 : 0 ≤ p) (h1 : p < q) (h2 : q < L.length) : (gE L p).1 ≤ (gE L q).1 := by
  unfold gE
  have hp : p.toNat < L.length := by omega
  have hq : q.toNat < L.length := by omega
  rw [List.getElem?_eq_getElem hp, List.getElem?_eq_getElem hq]
  have := (List.pairwise_iff_getElem.mp h) p.toNat q.toNat hp hq (by omega)
  simp only [Option.getD_some]
  unfold eLt at this
  omega
/-- marks of a row: each STRIDE-th of its entries -/
def mks (st k r : Int) (L : List En) : Int → Nat → List En
  | _, 0 => []
  | p, n + 1 => ((gE L p).1, 1 + k, r, p) :: mks st k r L (p + st) n
theorem mks_len (st k r : Int) (L : List En) : ∀ (n : Nat) (p : Int), (mks st k r L p n).length = n := by
  intro n
  induction n with
  | zero => intro j; rfl
  | succ n ih => intro j; rw [mks, List.length_cons, ih]
theorem mul_s (st : Int) (n : Nat) : st * ((n + 1 : Nat) : Int) = st * n + st := by
  rw [Int.natCast_succ, Int.mul_add, Int.mul_one]
theorem mks_mem {st k r : Int} {L : List En} (hst : 2 ≤ st) : ∀ (n : Nat) (p : Int) (e : En), e ∈ mks st k r L p n → ∃ q, p ≤ q ∧ q + st ≤ p + st * n ∧ e = ((gE L q).1, 1 + k, r, q) := by
  intro n
  induction n with
  | zero => intro p e h; simp [mks] at h
  | succ n ih =>
    intro p e h
    have hm := mul_s st n
    rw [mks, List.mem_cons] at h
    rcases h with h | h
    · have : 0 ≤ st * (n : Int) := Int.mul_nonneg (by omega) (by omega)
      exact ⟨p, by omega, by omega, h⟩
    · obtain ⟨q, a, b, c⟩ := ih (p + st) e h
      exact ⟨q, by omega, by omega, c⟩
theorem mks_ok {st k r : Int} {L : List En} (hst : 2 ≤ st) (hL : L.Pairwise eLt) (hk : ∀ e ∈ L, 0 ≤ e.1 ∧ e.1 < 200) : ∀ (n : Nat) (p : Int), 0 ≤ p → p + st * n ≤ L.length + st - 1 → okE (1 + k) (mks st k r L p n) := by
  intro n
  induction n with
  | zero => intro p _ _; exact ⟨List.Pairwise.nil, fun e he => by simp [mks] at he⟩
  | succ n ih =>
    intro p h0 h1
    have hm := mul_s st n
    have hn : 0 ≤ st * (n : Int) := Int.mul_nonneg (by omega) (by omega)
    have i := ih (p + st) (by omega) (by omega)
    rw [mks]
    refine ⟨List.pairwise_cons.mpr ⟨fun e he => ?_, i.1⟩, fun e he => ?_⟩
    · obtain ⟨q, a, b, c⟩ := mks_mem hst n (p + st) e he
      have := gE_le hL h0 (show p < q by omega) (by omega)
      subst c
      show (gE L p).1 < (gE L q).1 ∨ _
      by_cases z : (gE L p).1 < (gE L q).1
      · exact Or.inl z
      · exact Or.inr ⟨by show (gE L p).1 = (gE L q).1; omega, Or.inr ⟨rfl, by show p < q; omega⟩⟩
    · rw [List.mem_cons] at he
      rcases he with he | he
      · have := hk _ (gE_mem (L := L) (p := p) ⟨h0, by omega⟩)
        subst he
        exact ⟨this.1, this.2, rfl⟩
      · exact i.2 e he
def mkL (st k r : Int) (L : List En) : List En := if r = -1 then [] else mks st k r L (st - 1) (L.length / st.toNat)
theorem mkL_ok {st k r : Int} {L : List En} (hst : 2 ≤ st) (hL : L.Pairwise eLt) (hk : ∀ e ∈ L, 0 ≤ e.1 ∧ e.1 < 200) : okE (1 + k) (mkL st k r L) := by
  unfold mkL
  split
  · exact ⟨List.Pairwise.nil, fun e he => by simp at he⟩
  · refine mks_ok hst hL hk _ _ (by omega) ?_
    have h1 : st.toNat * (L.length / st.toNat) ≤ L.length := Nat.mul_div_le _ _
    have h2 : ((st.toNat * (L.length / st.toNat) : Nat) : Int) = st * ((L.length / st.toNat : Nat) : Int) := by
      rw [Int.natCast_mul, Int.toNat_of_nonneg (by omega)]
    omega
/-- the entries of a row, level by level from the last one back -/
def eW (g : Int → Int) (r : Int) (Y Z : List En) : List En := m3 ((eT g r).length + Y.length + Z.length) (eT g r) Y Z
def eN (g : Int → Int) : Nat → Int → List En
  | 0, r => if g (7619 + r) = 2 then eT g r else []
  | d + 1, r => if g (7619 + r) = 2 then (if r = bA g (7 - d) 0 then eW g r (mkL (g 7740) 0 (bA g (8 - d) 0) (eN g d (bA g (8 - d) 0))) (mkL (g 7740) 1 (bA g (8 - d) 1) (eN g d (bA g (8 - d) 1))) else eT g r) else []
def lvR (r : Int) : Int := if 16 ≤ r then 8 else r / 2
def E (g : Int → Int) (r : Int) : List En := eN g (8 - lvR r).toNat r
def okL (L : List En) : Prop := L.Pairwise eLt ∧ ∀ e ∈ L, 0 ≤ e.1 ∧ e.1 < 200
theorem okL_of {k : Int} {L : List En} (h : okE k L) : okL L := ⟨h.1, fun e he => ⟨(h.2 e he).1, (h.2 e he).2.1⟩⟩
theorem eT_ok {g : Int → Int} {r : Int} (ho : okR g r) : okE 0 (eT g r) := thg_ok ho _ _ (by omega) (by have := ho.2.1; omega)
theorem eW_spec {g : Int → Int} {r : Int} {Y Z : List En} (ho : okR g r) (hY : okE 1 Y) (hZ : okE 2 Z) : okL (eW g r Y Z) ∧ (∀ e, e ∈ eW g r Y Z ↔ e ∈ eT g r ∨ e ∈ Y ∨ e ∈ Z) ∧ (eW g r Y Z).length = (eT g r).length + Y.length + Z.length := by
  obtain ⟨a, b, c⟩ := m3_spec _ (eT g r) Y Z rfl (eT_ok ho) hY hZ
  refine ⟨⟨a, fun e he => ?_⟩, b, c⟩
  rcases (b e).mp he with h | h | h
  · exact ⟨((eT_ok ho).2 e h).1, ((eT_ok ho).2 e h).2.1⟩
  · exact ⟨(hY.2 e h).1, (hY.2 e h).2.1⟩
  · exact ⟨(hZ.2 e h).1, (hZ.2 e h).2.1⟩
theorem eN_ok {g : Int → Int} (hv : okV g) (hst : 2 ≤ g 7740) : ∀ (d : Nat) (r : Int), d ≤ 8 → (r = -1 ∨ (0 ≤ r ∧ r < 19)) → (r = -1 → g (7619 + r) ≠ 2) → okL (eN g d r) := by
  intro d
  induction d with
  | zero =>
    intro r _ hr h1
    unfold eN
    split
    · rename_i h
      rcases hr with hr | hr
      · exact absurd h (h1 hr)
      · exact okL_of (eT_ok (hv.1 r hr.1 hr.2 h))
    · exact ⟨List.Pairwise.nil, fun e he => by simp at he⟩
  | succ d ih =>
    intro r hd hr h1
    unfold eN
    split
    · rename_i h
      rcases hr with hr | hr
      · exact absurd h (h1 hr)
      · have ho := hv.1 r hr.1 hr.2 h
        split
        · have hE : ER (8 - d) ≤ 19 := by unfold ER; split <;> omega
          have hb : ∀ a, a = 0 ∨ a = 1 → bA g (8 - d) a = -1 ∨ (0 ≤ bA g (8 - d) a ∧ bA g (8 - d) a < 19) := by
            intro a ha
            rcases lv_cs (g := g) (l := 8 - d) (by omega) hv with ⟨a1, a2, a3, -⟩ | ⟨a1, a2, a3, -⟩ | ⟨a1, a2, a3, -⟩ <;> rcases ha with rfl | rfl <;> omega
          have mk : ∀ k a, a = 0 ∨ a = 1 → okE (1 + k) (mkL (g 7740) k (bA g (8 - d) a) (eN g d (bA g (8 - d) a))) := by
            intro k a ha
            by_cases z : bA g (8 - d) a = -1
            · rw [z]; unfold mkL; rw [if_pos rfl]; exact ⟨List.Pairwise.nil, fun e he => by simp at he⟩
            · have i := ih (bA g (8 - d) a) (by omega) (hb a ha) (fun w => absurd w z)
              exact mkL_ok hst i.1 i.2
          exact (eW_spec ho (mk 0 0 (Or.inl rfl)) (mk 1 1 (Or.inr rfl))).1
        · exact okL_of (eT_ok ho)
    · exact ⟨List.Pairwise.nil, fun e he => by simp at he⟩
end ENT1
