/-! the reference: levels are asked, rows are shut, freed -/
section REF2
def sShut (g : Int → Int) (r : Int) : Int → Int := us (us (us g (7619 + r) 2) 7738 (g 7738 + 1)) (7638 + r) (g 7738 + 1)
def sFree (g : Int → Int) (r : Int) : Int → Int := us (us g (7619 + r) 0) (7600 + r) 0
theorem e_shuts {r : Int} {M : fMem} {g : Int → Int} (h : 0 ≤ r ∧ r < 19) (hc : rg (g 7738 + 1)) : f_X11_shuts r (oset M 419 g) = some (oset M 419 (sShut g r)) := by
  unfold f_X11_shuts sShut
  refine si (by omega) (bm fun g1 e1 => ?_)
  have h1 : g1 7738 = g 7738 := by rw [e1, us_ne (by omega)]
  rw [os, h1]
  refine si hc (bm fun g2 e2 => ?_)
  have h2 : g2 7738 = g 7738 + 1 := by rw [e2, us_eq]
  rw [os, h2]
  refine si (by omega) (bm fun g3 e3 => ?_)
  rw [e3, e2, e1]
theorem e_frees {r : Int} {M : fMem} {g : Int → Int} (h : 0 ≤ r ∧ r < 19) : f_X11_frees r (oset M 419 g) = some (oset M 419 (sFree g r)) := by
  unfold f_X11_frees sFree
  refine si (by omega) (bm fun g1 e1 => ?_)
  refine si (by omega) (bm fun g2 e2 => ?_)
  rw [e2, e1]
/-- two rows of numbers that say the same of kinds and ages -/
def agK (g g1 : Int → Int) : Prop := ∀ i, 7619 ≤ i → i < 7657 → g1 i = g i
theorem shM_ag {g g1 : Int → Int} (h : agK g g1) {l : Int} (hl : 0 ≤ l ∧ l ≤ 8) : shM g1 l = shM g l := by
  unfold shM
  rw [h _ (by omega) (by omega), h _ (by omega) (by omega)]
  by_cases h8 : l = 8
  · rw [h _ (by omega) (by omega)]
  · rw [if_neg h8, if_neg h8]
theorem fFr_ag {g g1 : Int → Int} (h : agK g g1) {l : Int} (hl : 0 ≤ l ∧ l ≤ 8) : fFr g1 l = fFr g l := by
  unfold fFr
  rw [h _ (by omega) (by omega), h _ (by omega) (by omega)]
  by_cases h8 : l = 8
  · rw [h _ (by omega) (by omega)]
  · simp [h8]
theorem yMn_ag {g g1 : Int → Int} (h : agK g g1) {l r : Int} (hl : 0 ≤ l ∧ l ≤ 8) (hr : 0 ≤ r ∧ r < 19) : yMn g1 l r = yMn g l r := by
  unfold yMn
  rw [h (7619 + (2 * l + 0)) (by omega) (by omega), h (7619 + (2 * l + 1)) (by omega) (by omega), h (7638 + r) (by omega) (by omega), h (7638 + (2 * l + 0)) (by omega) (by omega), h (7638 + (2 * l + 1)) (by omega) (by omega)]
  by_cases h8 : l = 8
  · rw [h (7619 + (2 * l + 2)) (by omega) (by omega), h (7638 + (2 * l + 2)) (by omega) (by omega)]
  · rw [if_neg h8, if_neg h8]
theorem bA_ag {g g1 : Int → Int} (h : agK g g1) {l a : Int} (hl : 0 ≤ l ∧ l ≤ 8) : bA g1 l a = bA g l a := by
  unfold bA
  rw [h (7619 + (2 * l + 0)) (by omega) (by omega), h (7619 + (2 * l + 1)) (by omega) (by omega), yMn_ag h hl (by omega), yMn_ag h hl (by omega)]
  by_cases h8 : l = 8
  · rw [h (7619 + (2 * l + 2)) (by omega) (by omega), yMn_ag h hl (by omega)]
  · simp [h8]
/-- the level that a level merges into -/
def nxt (l : Int) : Int := if l = 8 then 8 else l + 1
theorem fFr_bd {g : Int → Int} {l : Int} (h : 0 ≤ l ∧ l ≤ 8) : fFr g l = -1 ∨ (0 ≤ fFr g l ∧ fFr g l < 19 ∧ g (7619 + fFr g l) = 0 ∧ 2 * l ≤ fFr g l ∧ fFr g l ≤ 2 * l + (if l = 8 then 2 else 1)) := by
  by_cases h0 : g (7619 + (2 * l + 0)) = 0
  · right; unfold fFr; rw [if_pos h0]; refine ⟨by omega, by omega, h0, by omega, by split <;> omega⟩
  · by_cases h1 : g (7619 + (2 * l + 1)) = 0
    · right; unfold fFr; rw [if_neg h0, if_pos h1]; refine ⟨by omega, by omega, h1, by omega, by split <;> omega⟩
    · by_cases h2 : l = 8 ∧ g (7619 + (2 * l + 2)) = 0
      · right; unfold fFr; rw [if_neg h0, if_neg h1, if_pos h2]; refine ⟨by omega, by omega, h2.2, by omega, by rw [if_pos h2.1]; omega⟩
      · left; unfold fFr; rw [if_neg h0, if_neg h1, if_neg h2]
theorem nxt_bd {l : Int} (h : 0 ≤ l ∧ l ≤ 8) : 0 ≤ nxt l ∧ nxt l ≤ 8 := by unfold nxt; split <;> omega
/-- a level begins to merge into a row -/
noncomputable def sBeg (g : Int → Int) (l into : Int) : Int → Int :=
  us (us (us (us (us (us (us (us (us g (7666 + l) (bareV g l)) (7657 + l) 1) (7675 + l) into) (7684 + l) (bA g l 0)) (7693 + l) (bA g l 1)) (7702 + l) 0) (7711 + l) 0) (7619 + into) 1) (7600 + into) 0
noncomputable def sAsk (g : Int → Int) (l : Int) : Int → Int := if g (7657 + l) = 1 then g else if shM g l = 2 then (if fFr g (nxt l) = -1 then g else sBeg g l (fFr g (nxt l))) else g
theorem e_asks71 {l into x : Int} {M : fMem} {g : Int → Int} (h : 0 ≤ l ∧ l ≤ 8) (hi : 0 ≤ into ∧ into < 19) (hx : x = bareV g l) : j_X11_asks_71 l into (7666 + l) x (oset M 419 g) = some (oset M 419 (sBeg g l into)) := by
  unfold j_X11_asks_71 sBeg
  subst hx
  refine si (by omega) (bm fun g1 e1 => ?_)
  refine si (by omega) (bm fun g2 e2 => ?_)
  refine si (by omega) (bm fun g3 e3 => ?_)
  have a3 : agK g g3 := fun i h1 h2 => by rw [e3, us_ne (by omega), e2, us_ne (by omega), e1, us_ne (by omega)]
  refine bc (e_byAge h) ?_
  rw [bA_ag a3 h]
  refine si (by omega) (bm fun g4 e4 => ?_)
  have a4 : agK g g4 := fun i h1 h2 => by rw [e4, us_ne (by omega), a3 i h1 h2]
  refine bc (e_byAge h) ?_
  rw [bA_ag a4 h]
  refine si (by omega) (bm fun g5 e5 => ?_)
  refine si (by omega) (bm fun g6 e6 => ?_)
  refine si (by omega) (bm fun g7 e7 => ?_)
  refine si (by omega) (bm fun g8 e8 => ?_)
  refine si (by omega) (bm fun g9 e9 => ?_)
  rw [e9, e8, e7, e6, e5, e4, e3, e2, e1]
theorem e_asks {l : Int} {M : fMem} {g : Int → Int} (h : 0 ≤ l ∧ l ≤ 8) : f_X11_asks l (oset M 419 g) = some (oset M 419 (sAsk g l)) := by
  unfold f_X11_asks
  rw [os]
  refine si (by omega) ?_
  by_cases h1 : g (7657 + l) = 1
  · refine it h1 ?_
    unfold sAsk; rw [if_pos h1]
  refine ie h1 (bc (e_shutMany h) ?_)
  unfold sAsk
  rw [if_neg h1]
  by_cases h2 : shM g l = 2
  · rw [if_pos (c := shM g l = 2) (t := if fFr g (nxt l) = -1 then g else sBeg g l (fFr g (nxt l))) h2]
    refine it h2 ?_
    have key : j_X11_asks_39 l (nxt l) (oset M 419 g) = some (oset M 419 (if fFr g (nxt l) = -1 then g else sBeg g l (fFr g (nxt l)))) := by
      unfold j_X11_asks_39
      refine bc (e_firstFree (nxt_bd h)) ?_
      by_cases h3 : fFr g (nxt l) = -1
      · refine it h3 ?_
        rw [if_pos h3]
      · rw [if_neg (c := fFr g (nxt l) = -1) (t := g) h3]
        have hb := (fFr_bd (g := g) (nxt_bd h)).resolve_left h3
        refine ie h3 (bc (e_isBare h) ?_)
        by_cases h4 : bareV g l = 0
        · exact it h4 (si (by omega) (e_asks71 h ⟨hb.1, hb.2.1⟩ h4.symm))
        · have h5 : bareV g l = 1 := by
            unfold bareV at h4 ⊢
            split
            · rfl
            · rename_i h6; rw [if_neg h6] at h4; exact absurd rfl h4
          exact ie h4 (si (by omega) (e_asks71 h ⟨hb.1, hb.2.1⟩ h5.symm))
    by_cases h8 : l = 8
    · refine it h8 ?_
      have : nxt l = 8 := by unfold nxt; rw [if_pos h8]
      rw [this] at key
      rw [this]
      exact key
    · refine ie h8 (si (by omega) ?_)
      have : nxt l = l + 1 := by unfold nxt; rw [if_neg h8]
      rw [this] at key
      rw [this]
      exact key
  · refine ie h2 ?_
    rw [if_neg h2]
/-- all levels are asked, from so high a one down -/
noncomputable def sAll (g : Int → Int) : Nat → Int → Int
  | 0 => g
  | n + 1 => sAll (sAsk g n) n
theorem asksAll_loop {M : fMem} {k : fMem → Option fMem} : ∀ (d n : Nat) (g : Int → Int) (v : Int), v + 1 = d → d ≤ 9 → d < n → L_X11_asksAll_3 k n v (oset M 419 g) = k (oset M 419 (sAll g d)) := by
  intro d
  induction d with
  | zero =>
    intro n g v h1 h2 hn
    obtain ⟨n, rfl⟩ : ∃ n', n = n' + 1 := ⟨n - 1, by omega⟩
    rw [L_X11_asksAll_3]
    exact it (by omega) rfl
  | succ d ih =>
    intro n g v h1 h2 hn
    obtain ⟨n, rfl⟩ : ∃ n', n = n' + 1 := ⟨n - 1, by omega⟩
    rw [L_X11_asksAll_3]
    refine ie (by omega) (bc (e_asks ⟨by omega, by omega⟩) ?_)
    rw [ih n _ (v + -1) (by omega) (by omega) (by omega), sAll, show v = (d : Int) by omega]
theorem e_asksAll {M : fMem} {g : Int → Int} : f_X11_asksAll (oset M 419 g) = some (oset M 419 (sAll g 9)) := by
  unfold f_X11_asksAll
  exact asksAll_loop 9 20000 g 8 (by omega) (by omega) (by omega)
end REF2
