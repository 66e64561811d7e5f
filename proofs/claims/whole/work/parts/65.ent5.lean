/-! the reference lays entries -/
section ENT5
def enP (M : fMem) (p : Int) (e : En) : Prop := M 425 p = e.1 ∧ M 426 p = e.2.1 ∧ M 427 p = e.2.2.1 ∧ M 428 p = e.2.2.2
def enR (M : fMem) (r : Int) (L : List En) : Prop := M 429 r = L.length ∧ ∀ (j : Nat) (e : En), L[j]? = some e → enP M (700 * r + j) e
/-- what a put into a row leaves -/
def pF (r : Int) (M M1 : fMem) : Prop := (∀ y, y < 425 ∨ 429 < y → M1 y = M y) ∧ (∀ y i, 425 ≤ y → y ≤ 428 → (i < 700 * r ∨ 700 * r + 700 ≤ i) → M1 y i = M y i) ∧ ∀ q, q ≠ r → M1 429 q = M 429 q
theorem pF_rf (r : Int) (M : fMem) : pF r M M := ⟨fun _ _ => rfl, fun _ _ _ _ _ => rfl, fun _ _ => rfl⟩
theorem pF_tr {r : Int} {M M1 M2 : fMem} (a : pF r M M1) (b : pF r M1 M2) : pF r M M2 := ⟨fun y hy => by rw [b.1 y hy, a.1 y hy], fun y i y0 y1 hi => by rw [b.2.1 y i y0 y1 hi, a.2.1 y i y0 y1 hi], fun q hq => by rw [b.2.2 q hq, a.2.2 q hq]⟩
theorem enR_cg {M M1 : fMem} {r q : Int} {L : List En} (hl : L.length ≤ 700) (h : q ≠ r) (a : enR M q L) (b : pF r M M1) : enR M1 q L := by
  refine ⟨by rw [b.2.2 q h]; exact a.1, fun j e he => ?_⟩
  have hj := (List.getElem?_eq_some_iff.mp he).1
  obtain ⟨a1, a2, a3, a4⟩ := a.2 j e he
  have o : 700 * q + (j : Int) < 700 * r ∨ 700 * r + 700 ≤ 700 * q + (j : Int) := by omega
  exact ⟨by rw [b.2.1 425 _ (by omega) (by omega) o]; exact a1, by rw [b.2.1 426 _ (by omega) (by omega) o]; exact a2, by rw [b.2.1 427 _ (by omega) (by omega) o]; exact a3, by rw [b.2.1 428 _ (by omega) (by omega) o]; exact a4⟩
/-- four numbers at one place -/
def m4 (M : fMem) (p : Int) (e : En) : fMem := mset (mset (mset (mset M 425 p e.1) 426 p e.2.1) 427 p e.2.2.1) 428 p e.2.2.2
theorem m4_v (M : fMem) (p : Int) (e : En) : enP (m4 M p e) p e := by
  unfold enP m4
  refine ⟨?_, ?_, ?_, ?_⟩
  · rw [mset_ne (by omega), mset_ne (by omega), mset_ne (by omega), mset_self]
  · rw [mset_ne (by omega), mset_ne (by omega), mset_self]
  · rw [mset_ne (by omega), mset_self]
  · rw [mset_self]
theorem m4_s {M : fMem} {p q : Int} {e : En} (h : q ≠ p) (y : Nat) : m4 M p e y q = M y q := by
  unfold m4; simp only [mset]; simp [h]
theorem m4_n {M : fMem} {p : Int} {e : En} {y : Nat} (h : y < 425 ∨ 428 < y) : m4 M p e y = M y := by
  unfold m4; rw [mset_ne (by omega), mset_ne (by omega), mset_ne (by omega), mset_ne (by omega)]
theorem enP_cg {M M1 : fMem} {p q : Int} {e : En} (a : enP M p e) (h : ∀ y, 425 ≤ y → y ≤ 428 → M1 y q = M y p) : enP M1 q e := by
  obtain ⟨a1, a2, a3, a4⟩ := a
  exact ⟨by rw [h _ (by omega) (by omega)]; exact a1, by rw [h _ (by omega) (by omega)]; exact a2, by rw [h _ (by omega) (by omega)]; exact a3, by rw [h _ (by omega) (by omega)]; exact a4⟩
theorem r_isAhead {M : fMem} {p : Int} {e x : En} (h : enP M p e) (hp : 0 ≤ p ∧ p < 13300) : (eLt e x → f_X11_isAhead p x.1 x.2.1 x.2.2.2 M = some 1) ∧ (¬ eLt e x → f_X11_isAhead p x.1 x.2.1 x.2.2.2 M = some 0) := by
  obtain ⟨a1, a2, a3, a4⟩ := h
  unfold f_X11_isAhead eLt
  rw [a1, a2, a4, if_pos hp]
  refine ⟨fun h => ?_, fun h => ?_⟩
  · by_cases q : e.1 = x.1
    · rw [if_pos q]
      by_cases q2 : e.2.1 = x.2.1
      · rw [if_pos q2, if_neg (by omega)]
      · rw [if_neg q2, if_neg (by omega)]
    · rw [if_neg q, if_neg (by omega)]
  · by_cases q : e.1 = x.1
    · rw [if_pos q]
      by_cases q2 : e.2.1 = x.2.1
      · rw [if_pos q2, if_pos (by omega)]
      · rw [if_neg q2, if_pos (by omega)]
    · rw [if_neg q, if_pos (by omega)]
theorem r_putsL {r : Int} {L : List En} {x : En} {M0 : fMem} (hr : 0 ≤ r ∧ r < 19) (hl : L.length < 690) {k : Int → Int → Int → Int → Int → Int → Int → fMem → Option fMem} : ∀ (i n : Nat) (M : fMem), i ≤ L.length → i < n → pF r M0 M → M 429 r = L.length → (∀ (j : Nat) (e : En), L[j]? = some e → enP M (if j < i then 700 * r + j else 700 * r + j + 1) e) → (∀ (j : Nat) (e : En), L[j]? = some e → i ≤ j → ¬ eLt e x) →
    ∃ (i1 : Nat) (M1 : fMem), L_X11_puts_15 k n r x.1 x.2.1 x.2.2.1 x.2.2.2 (700 * r) i M = k r x.1 x.2.1 x.2.2.1 x.2.2.2 (700 * r) i1 M1 ∧ i1 ≤ L.length ∧ pF r M0 M1 ∧ M1 429 r = L.length ∧ (∀ (j : Nat) (e : En), L[j]? = some e → enP M1 (if j < i1 then 700 * r + j else 700 * r + j + 1) e) ∧ (∀ (j : Nat) (e : En), L[j]? = some e → i1 ≤ j → ¬ eLt e x) ∧ (∀ (e : En), 0 < i1 → L[i1 - 1]? = some e → eLt e x) := by
  intro i
  induction i with
  | zero =>
    intro n M hi hn hp h9 ha hb
    obtain ⟨n, rfl⟩ : ∃ n', n = n' + 1 := ⟨n - 1, by omega⟩
    refine ⟨0, M, ?_, hi, hp, h9, ha, hb, fun e h => by omega⟩
    rw [L_X11_puts_15]
    exact it (by omega) rfl
  | succ i ih =>
    intro n M hi hn hp h9 ha hb
    obtain ⟨n, rfl⟩ : ∃ n', n = n' + 1 := ⟨n - 1, by omega⟩
    have hz : i < L.length := by omega
    have hzs : L[i]? = some L[i] := List.getElem?_eq_getElem hz
    have en := ha i L[i] hzs
    rw [if_pos (by omega)] at en
    have hpos : 700 * r + ((i + 1 : Nat) : Int) - 1 = 700 * r + i := by push_cast; omega
    have ah := r_isAhead (x := x) en (by omega)
    by_cases q : eLt L[i] x
    · refine ⟨i + 1, M, ?_, hi, hp, h9, ha, hb, fun e _ he => ?_⟩
      · rw [L_X11_puts_15, hpos]
        exact ie (by push_cast; omega) (si (by omega) (bc (ah.1 q) (ie (by omega) rfl)))
      · simp only [Nat.add_sub_cancel] at he
        rw [hzs] at he
        simp only [Option.some.injEq] at he
        rw [← he]; exact q
    · have hp1 : 700 * r + ((i + 1 : Nat) : Int) = 700 * r + i + 1 := by push_cast; omega
      obtain ⟨i1, M1, b1, b2⟩ := ih n (m4 M (700 * r + i + 1) (M 425 (700 * r + i), M 426 (700 * r + i), M 427 (700 * r + i), M 428 (700 * r + i))) (by omega) (by omega) (pF_tr hp ⟨fun y hy => m4_n (by omega), fun y j y0 y1 hj => m4_s (by omega) y, fun q hq => by rw [m4_n (by omega)]⟩) (by rw [m4_n (by omega)]; exact h9) (fun j e he => by
          have hj := (List.getElem?_eq_some_iff.mp he).1
          by_cases c : j = i
          · subst c
            rw [hzs] at he
            simp only [Option.some.injEq] at he
            rw [if_neg (by omega), ← he]
            obtain ⟨e1, e2, e3, e4⟩ := en
            have := m4_v M (700 * r + (j : Int) + 1) (M 425 (700 * r + j), M 426 (700 * r + j), M 427 (700 * r + j), M 428 (700 * r + j))
            obtain ⟨f1, f2, f3, f4⟩ := this
            exact ⟨by rw [f1]; exact e1, by rw [f2]; exact e2, by rw [f3]; exact e3, by rw [f4]; exact e4⟩
          · have := ha j e he
            by_cases c2 : j < i
            · rw [if_pos (by omega)] at this
              rw [if_pos c2]
              exact enP_cg this (fun y _ _ => m4_s (by omega) y)
            · rw [if_neg (by omega)] at this
              rw [if_neg c2]
              exact enP_cg this (fun y _ _ => m4_s (by omega) y)) (fun j e he hj => by
          by_cases c : j = i
          · subst c
            rw [hzs] at he
            simp only [Option.some.injEq] at he
            rw [← he]; exact q
          · exact hb j e he (by omega))
      refine ⟨i1, M1, ?_, b2⟩
      rw [L_X11_puts_15, hpos, hp1]
      refine ie (by push_cast; omega) (si (by omega) (bc (ah.2 q) (it rfl (si (by omega) (si (by omega) (bs fun N1 q1 => bs fun N2 q2 => bs fun N3 q3 => bs fun N4 q4 => ?_))))))
      have d2 : N1 426 (700 * r + i) = M 426 (700 * r + i) := by rw [q1, mset_ne (by omega)]
      have d3 : N2 427 (700 * r + i) = M 427 (700 * r + i) := by rw [q2, mset_ne (by omega), q1, mset_ne (by omega)]
      have d4 : N3 428 (700 * r + i) = M 428 (700 * r + i) := by rw [q3, mset_ne (by omega), q2, mset_ne (by omega), q1, mset_ne (by omega)]
      rw [q4, d4, q3, d3, q2, d2, q1, show ((i + 1 : Nat) : Int) + -1 = (i : Int) by push_cast; omega]
      exact b1
theorem r_puts {r : Int} {L : List En} {x : En} {M : fMem} (hr : 0 ≤ r ∧ r < 19) (hl : L.length < 690) (h : enR M r L) (hs : L.Pairwise eLt) (ht : ∀ e ∈ L, eLt e x ∨ eLt x e) : ∃ M1 L1, f_X11_puts r x.1 x.2.1 x.2.2.1 x.2.2.2 M = some M1 ∧ enR M1 r L1 ∧ L1.Pairwise eLt ∧ (∀ e, e ∈ L1 ↔ e = x ∨ e ∈ L) ∧ L1.length = L.length + 1 ∧ pF r M M1 := by
  obtain ⟨i, N, b1, b2, b3, b4, b5, b6, b7⟩ := r_putsL (x := x) (k := fun v1_13 v2_13 v3_13 v4_13 v5_13 v6_13 v7_13 M_13 => j_X11_puts_132 v1_13 v2_13 v3_13 v4_13 v5_13 v6_13 v7_13 M_13) hr hl L.length 20000 M (Nat.le_refl _) (by omega) (pF_rf r M) h.1 (fun j e he => by
    have hj := (List.getElem?_eq_some_iff.mp he).1
    rw [if_pos hj]; exact h.2 j e he) (fun j e he hj => by
    have := (List.getElem?_eq_some_iff.mp he).1; omega)
  have sp : L = L.take i ++ L.drop i := (List.take_append_drop i L).symm
  have hcut := List.pairwise_append.mp (sp ▸ hs)
  have lt_all : ∀ e ∈ L.take i, eLt e x := by
    intro e he
    obtain ⟨j, hj, hje⟩ := List.getElem_of_mem he
    have hj2 : j < i := by have := hj; rw [List.length_take] at this; omega
    have hjl : j < L.length := by omega
    have ej : L[j] = e := by rw [← hje, List.getElem_take]
    have hlast := b7 L[i - 1] (by omega) (List.getElem?_eq_getElem (by omega))
    by_cases c : j = i - 1
    · subst c; rw [← ej]; exact hlast
    · have := (List.pairwise_iff_getElem.mp hs) j (i - 1) hjl (by omega) (by omega)
      rw [ej] at this
      exact eLt_tr this hlast
  have gt_all : ∀ e ∈ L.drop i, eLt x e := by
    intro e he
    obtain ⟨j, hj, hje⟩ := List.getElem_of_mem he
    have hjl : i + j < L.length := by have := hj; rw [List.length_drop] at this; omega
    have ej : L[i + j] = e := by rw [← hje, List.getElem_drop]
    have nl := b6 (i + j) e (by rw [List.getElem?_eq_getElem hjl, ej]) (by omega)
    rcases ht e (by rw [← ej]; exact List.getElem_mem hjl) with z | z
    · exact absurd z nl
    · exact z
  refine ⟨mset (m4 N (700 * r + i) x) 429 r (L.length + 1), L.take i ++ x :: L.drop i, ?_, ⟨?_, fun j e he => ?_⟩, ?_, fun e => ?_, ?_, pF_tr b3 ⟨fun y hy => ?_, fun y j y0 y1 hj => ?_, fun q hq => ?_⟩⟩
  · unfold f_X11_puts
    rw [h.1]
    refine si hr (si (by omega) ?_)
    rw [b1]
    unfold j_X11_puts_132
    refine si (by omega) (bs fun N1 q1 => bs fun N2 q2 => bs fun N3 q3 => bs fun N4 q4 => si hr ?_)
    have e9 : N4 429 r = L.length := by rw [q4, mset_ne (by omega), q3, mset_ne (by omega), q2, mset_ne (by omega), q1, mset_ne (by omega), b4]
    rw [e9]
    refine si (by omega) ?_
    rw [q4, q3, q2, q1]; rfl
  · rw [mset_self]
    rw [List.length_append, List.length_cons, List.length_take, List.length_drop]; push_cast; omega
  · have go : ∀ p, enP (m4 N (700 * r + i) x) p e → enP (mset (m4 N (700 * r + i) x) 429 r (L.length + 1)) p e := fun p hp => enP_cg hp (fun y y0 y1 => by rw [mset_ne (by omega)])
    apply go
    by_cases c : j < i
    · rw [List.getElem?_append_left (by rw [List.length_take]; omega), List.getElem?_take_of_lt c] at he
      have := b5 j e he
      rw [if_pos c] at this
      exact enP_cg this (fun y _ _ => m4_s (by omega) y)
    · rw [List.getElem?_append_right (by rw [List.length_take]; omega), List.length_take, Nat.min_eq_left b2] at he
      by_cases c2 : j = i
      · subst c2
        rw [Nat.sub_self] at he
        simp at he
        rw [← he]; exact m4_v _ _ _
      · obtain ⟨m, hm⟩ : ∃ m, j - i = m + 1 := ⟨j - i - 1, by omega⟩
        rw [hm, List.getElem?_cons_succ, List.getElem?_drop] at he
        have := b5 (i + m) e he
        rw [if_neg (by omega)] at this
        refine enP_cg this (fun y _ _ => ?_)
        rw [m4_s (by omega), show 700 * r + (j : Int) = 700 * r + ((i + m : Nat) : Int) + 1 by omega]
  · refine List.pairwise_append.mpr ⟨hcut.1, List.pairwise_cons.mpr ⟨gt_all, hcut.2.1⟩, fun a ha b hb => ?_⟩
    rw [List.mem_cons] at hb
    rcases hb with hb | hb
    · rw [hb]; exact lt_all a ha
    · exact hcut.2.2 a ha b hb
  · rw [List.mem_append, List.mem_cons]
    have : e ∈ L ↔ e ∈ L.take i ∨ e ∈ L.drop i := by
      constructor
      · intro z; rw [sp, List.mem_append] at z; exact z
      · intro z; rw [sp, List.mem_append]; exact z
    rw [this]
    constructor
    · rintro (z | z | z)
      · exact Or.inr (Or.inl z)
      · exact Or.inl z
      · exact Or.inr (Or.inr z)
    · rintro (z | z | z)
      · exact Or.inr (Or.inl z)
      · exact Or.inl z
      · exact Or.inr (Or.inr z)
  · rw [List.length_append, List.length_cons, List.length_take, List.length_drop]; omega
  · rw [mset_ne (by omega), m4_n (by omega)]
  · rw [mset_ne (by omega), m4_s (by omega)]
  · rw [mset_slot hq, m4_n (by omega)]
end ENT5
