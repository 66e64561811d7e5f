section MTH
theorem fW_sb {G : fG} {mt : fMt} {E : fE} {c0 s0 pc : Nat} {ls ls' : List (Option Value)} {st : List Value} {M : fMem} (k : fW G mt E c0 s0 pc ls' st M) (h : fSub ls' ls) : fW G mt E c0 s0 pc ls st M := fW_sub h k
theorem rg_ln (k : Nat) : rg (Ln k) := by
  have := Ln_small k
  have : 0 ≤ Ln k := by unfold Ln; omega
  exact ⟨by omega, by omega⟩
theorem rg_FR {i : Int} (h : 0 ≤ i ∧ i < 9) : rg (FR i) := by unfold FR; exact ⟨by omega, by omega⟩
theorem rg_ER {i : Int} (h : 0 ≤ i ∧ i < 9) : rg (ER i) := by unfold ER; split <;> exact ⟨by omega, by omega⟩
theorem rg_LO {i : Int} (h : 0 ≤ i ∧ i < 19) : rg (LO i) := by unfold LO; split <;> exact ⟨by omega, by omega⟩
theorem rg_max {x y : Int} (hx : rg x) (hy : rg y) : rg (max x y) := ⟨by omega, by omega⟩
theorem rg_min {x y : Int} (hx : rg x) (hy : rg y) : rg (min x y) := ⟨by omega, by omega⟩
theorem fStr_157 : (157, "no such row on the route") ∈ fStr := by decide +kernel
theorem fStr_181 : (181, "no such key is there") ∈ fStr := by decide +kernel
theorem fStr_259 : (259, "no such thing") ∈ fStr := by decide +kernel
theorem fStr_274 : (274, "no such entry") ∈ fStr := by decide +kernel
theorem fStr_319 : (319, "no such act") ∈ fStr := by decide +kernel
theorem fStr_403 : (403, "no such view is taken") ∈ fStr := by decide +kernel
theorem fStr_409 : (409, "the row is not shut") ∈ fStr := by decide +kernel
theorem fStr_411 : (411, "no such key") ∈ fStr := by decide +kernel
theorem fStr_413 : (413, "no such level") ∈ fStr := by decide +kernel
theorem fStr_421 : (421, "no such row") ∈ fStr := by decide +kernel
theorem fStr_423 : (423, "no such what") ∈ fStr := by decide +kernel
theorem fStr_427 : (427, "not so many acts ahead") ∈ fStr := by decide +kernel
end MTH
