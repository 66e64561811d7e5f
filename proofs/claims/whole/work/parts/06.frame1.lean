/-! The layer of this claim over the kit: ids at b, b+1, ..; cells out of a memory of ints; a judgement a method and a judgement a pc. -/
section FRM1
def fWs (b N : Nat) (f : Nat → va_E) : va_W := (List.range N).map (fun k => (b + k, f k))
def fA (b N z : Nat) : Nat → Prop := fun q => (b ≤ q ∧ q < b + N) ∨ z ≤ q
theorem fWs_get {b N k : Nat} {f : Nat → va_E} (h : k < N) : (fWs b N f)[k]? = some (b + k, f k) := by
  simp [fWs, h]
theorem fWs_inv {b N k : Nat} {f : Nat → va_E} {q : Nat × va_E} (h : (fWs b N f)[k]? = some q) : k < N ∧ q = (b + k, f k) := by
  by_cases hk : k < N
  · rw [fWs_get hk] at h
    exact ⟨hk, (Option.some.inj h).symm⟩
  · exfalso
    have : (fWs b N f)[k]? = none := by
      apply List.getElem?_eq_none
      simp [fWs]
      omega
    rw [this] at h
    cases h
theorem fWs_set {b N k : Nat} {f : Nat → va_E} {e : va_E} (h : k < N) : (fWs b N f).set k (b + k, e) = fWs b N (va_up f k e) := by
  apply List.ext_getElem?
  intro j
  rw [List.getElem?_set]
  by_cases hj : j < N
  · rw [fWs_get hj, fWs_get hj]
    by_cases hkj : k = j
    · subst hkj
      simp [va_up, fWs, h]
    · rw [if_neg hkj]
      have : ¬ j = k := fun q => hkj q.symm
      simp [va_up, this]
  · have h1 : ∀ g : Nat → va_E, (fWs b N g)[j]? = none := fun g => by
      apply List.getElem?_eq_none
      simp [fWs]
      omega
    rw [h1, h1]
    have hkj : ¬ k = j := fun q => hj (q ▸ h)
    rw [if_neg hkj]
theorem fD {b N : Nat} {f : Nat → va_E} {A : Nat → Prop} (h : ∀ k, k < N → A (b + k)) : va_D A (fWs b N f) := by
  refine ⟨fun i j p q hi hj hpq => ?_, fun k q hk => ?_⟩
  · obtain ⟨h1, e1⟩ := fWs_inv hi
    obtain ⟨h2, e2⟩ := fWs_inv hj
    rw [e1, e2] at hpq
    simp only at hpq
    omega
  · obtain ⟨h1, e1⟩ := fWs_inv hk
    rw [e1]
    exact h k h1
/-- locals that are known, by their places -/
def fEn (ls : List (Option Value)) : List (Nat × Value) := ls.zipIdx.filterMap (fun p => p.1.map (fun v => (p.2, v)))
theorem fEn_mem {ls : List (Option Value)} {i : Nat} {v : Value} : (i, v) ∈ fEn ls ↔ ls[i]? = some (some v) := by
  simp only [fEn, List.mem_filterMap]
  constructor
  · rintro ⟨⟨o, j⟩, hm, he⟩
    rw [List.mem_zipIdx_iff_getElem?] at hm
    cases o with
    | none => simp at he
    | some w =>
      simp only [Option.map_some, Option.some.injEq, Prod.mk.injEq] at he
      obtain ⟨rfl, rfl⟩ := he
      simpa using hm
  · intro h
    exact ⟨(some v, i), by rw [List.mem_zipIdx_iff_getElem?]; simpa using h, rfl⟩
def fLs (lsA : Array Slot) (nL : Nat) (ls : List (Option Value)) : Prop := lv_has lsA nL (fEn ls) ∧ ls.length = nL ∧ ∀ v, some v ∈ ls → v.category = 1
theorem fLs.at {lsA : Array Slot} {nL i : Nat} {ls : List (Option Value)} {v : Value} (h : fLs lsA nL ls) (hi : ls[i]? = some (some v)) : lsA[i]? = some (.val v) := h.1.2.2 (i, v) (fEn_mem.mpr hi)
theorem fLs.size {lsA : Array Slot} {nL : Nat} {ls : List (Option Value)} (h : fLs lsA nL ls) : lsA.size = nL := h.1.1
theorem fLs.set {lsA lsB : Array Slot} {nL i : Nat} {ls : List (Option Value)} {v : Value} (h : fLs lsA nL ls) (hc : v.category = 1)
    (h2 : lv_has lsB nL ((i, v) :: (fEn ls).filter (fun q => !(q.1 == i) && !(q.1 + 1 == i && q.2.category == 2)))) : fLs lsB nL (ls.set i (some v)) := by
  refine ⟨⟨h2.1, h2.2.1, fun q hq => h2.2.2 q ?_⟩, by rw [List.length_set]; exact h.2.1, fun w hw => ?_⟩
  · obtain ⟨j, w⟩ := q
    have h3 := fEn_mem.mp hq
    rw [List.getElem?_set] at h3
    by_cases hij : i = j
    · subst hij
      rw [if_pos rfl] at h3
      by_cases hl : i < ls.length
      · rw [if_pos hl] at h3
        simp only [Option.some.injEq] at h3
        rw [h3]
        exact List.mem_cons_self
      · rw [if_neg hl] at h3
        cases h3
    · rw [if_neg hij] at h3
      refine List.mem_cons_of_mem _ (List.mem_filter.mpr ⟨fEn_mem.mpr h3, ?_⟩)
      have hcw : w.category = 1 := h.2.2 w (List.mem_of_getElem? h3)
      have hne : ¬ j = i := fun q => hij q.symm
      simp [hne, hcw]
  · rcases List.mem_or_eq_of_mem_set hw with h5 | h5
    · exact h.2.2 w h5
    · cases h5; exact hc
/-- fewer locals are known -/
def fSub : List (Option Value) → List (Option Value) → Prop
  | [], [] => True
  | none :: a, _ :: b => fSub a b
  | some v :: a, some w :: b => v = w ∧ fSub a b
  | _, _ => False
theorem fSub_len : ∀ {a b : List (Option Value)}, fSub a b → a.length = b.length
  | [], [], _ => rfl
  | none :: a, _ :: b, h => by simp only [fSub] at h; simp [fSub_len h]
  | some v :: a, some w :: b, h => by simp only [fSub] at h; simp [fSub_len h.2]
  | [], _ :: _, h => by simp [fSub] at h
  | none :: _, [], h => by simp [fSub] at h
  | some _ :: _, [], h => by simp [fSub] at h
  | some _ :: _, none :: _, h => by simp [fSub] at h
theorem fSub_get : ∀ {a b : List (Option Value)}, fSub a b → ∀ {i : Nat} {v : Value}, a[i]? = some (some v) → b[i]? = some (some v)
  | [], [], _, _, _, hi => by simp at hi
  | none :: a, _ :: b, h, 0, _, hi => by simp at hi
  | none :: a, _ :: b, h, i + 1, v, hi => by simp only [fSub] at h; simpa using fSub_get h (by simpa using hi)
  | some v :: a, some w :: b, h, 0, x, hi => by simp only [fSub] at h; rw [← h.1]; simpa using hi
  | some v :: a, some w :: b, h, i + 1, x, hi => by simp only [fSub] at h; simpa using fSub_get h.2 (by simpa using hi)
  | [], _ :: _, h, _, _, _ => by simp [fSub] at h
  | none :: _, [], h, _, _, _ => by simp [fSub] at h
  | some _ :: _, [], h, _, _, _ => by simp [fSub] at h
  | some _ :: _, none :: _, h, _, _, _ => by simp [fSub] at h
theorem fLs.sub {lsA : Array Slot} {nL : Nat} {ls ls' : List (Option Value)} (h : fLs lsA nL ls) (hs : fSub ls' ls) : fLs lsA nL ls' := by
  refine ⟨⟨h.1.1, h.1.2.1, fun q hq => ?_⟩, (fSub_len hs).trans h.2.1, fun v hv => ?_⟩
  · obtain ⟨j, w⟩ := q
    exact h.at (fSub_get hs (fEn_mem.mp hq))
  · obtain ⟨i, hi⟩ := List.getElem?_of_mem hv
    exact h.2.2 v (List.mem_of_getElem? (fSub_get hs hi))
def fIn (vs : List Value) (nL : Nat) : List (Option Value) := vs.map some ++ List.replicate (nL - vs.length) none
end FRM1
