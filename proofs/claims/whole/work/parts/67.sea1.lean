/-! by halves; between what; the way -/
section SEA1
/-- by halves: where it falls, how many looks -/
def bsr (f : Int → Int) (κ : Int) : Nat → Int → Int → Int × Int
  | 0, a, _ => (a, 0)
  | n + 1, a, b => if b ≤ a then (a, 0) else if κ ≤ f ((a + b) / 2) then ((bsr f κ n a ((a + b) / 2)).1, (bsr f κ n a ((a + b) / 2)).2 + 1) else ((bsr f κ n ((a + b) / 2 + 1) b).1, (bsr f κ n ((a + b) / 2 + 1) b).2 + 1)
theorem bsr_bd {f : Int → Int} {κ : Int} : ∀ (n : Nat) (a b : Int), 0 ≤ a → (a ≤ (bsr f κ n a b).1 ∧ ((bsr f κ n a b).1 ≤ a ∨ (bsr f κ n a b).1 ≤ b)) ∧ 0 ≤ (bsr f κ n a b).2 ∧ (bsr f κ n a b).2 ≤ n := by
  intro n
  induction n with
  | zero => intro a b _; simp [bsr]
  | succ n ih =>
    intro a b ha
    unfold bsr
    split
    · exact ⟨⟨by omega, by omega⟩, by omega, by omega⟩
    · split
      · have := ih a ((a + b) / 2) ha
        dsimp only; push_cast; omega
      · have := ih ((a + b) / 2 + 1) b (by omega)
        dsimp only; push_cast; omega
theorem bsr_cg {f f1 : Int → Int} {κ : Int} : ∀ (n : Nat) (a b : Int), 0 ≤ a → (∀ i, 0 ≤ i → i < b → f i = f1 i) → bsr f κ n a b = bsr f1 κ n a b := by
  intro n
  induction n with
  | zero => intro a b _ _; rfl
  | succ n ih =>
    intro a b ha h
    unfold bsr
    by_cases q : b ≤ a
    · rw [if_pos q, if_pos q]
    · rw [if_neg q, if_neg q, h _ (by omega) (by omega), ih a ((a + b) / 2) ha (fun i i0 i1 => h i i0 (by omega)), ih ((a + b) / 2 + 1) b (by omega) h]
theorem c_halveL {M : fMem} {w : Nat} {sz κ at' : Int} {k : Int → Int → Int → Int → fMem → Option fMem} : ∀ (n m : Nat) (a b c : Int), 0 ≤ a → b ≤ Ln w → b < 1000 → a < 1000 → n < m → 0 ≤ c → c + n < 1000 → L_X5_halve_32 k m at' w sz κ a b c n M = k at' sz (bsr (M w) κ n a b).1 (c + (bsr (M w) κ n a b).2) M := by
  intro n
  induction n with
  | zero =>
    intro m a b c a0 b0 b1 a1 hm c0 c1
    obtain ⟨m, rfl⟩ : ∃ m', m = m' + 1 := ⟨m - 1, by omega⟩
    rw [L_X5_halve_32, if_pos (by simp)]
    simp [bsr]
  | succ n ih =>
    intro m a b c a0 b0 b1 a1 hm c0 c1
    obtain ⟨m, rfl⟩ : ∃ m', m = m' + 1 := ⟨m - 1, by omega⟩
    rw [L_X5_halve_32, if_neg (by push_cast; omega)]
    unfold bsr
    by_cases q : b ≤ a
    · rw [if_pos q, if_pos q, Int.add_zero]
    · rw [if_neg q, if_neg q, if_pos (by omega), if_pos (by omega), show ((n + 1 : Nat) : Int) + -1 = (n : Int) by push_cast; omega]
      by_cases q2 : κ ≤ M w ((a + b) / 2)
      · rw [if_pos q2, if_pos q2, if_pos (by omega), if_pos (by omega), ih m a ((a + b) / 2) (c + 1) a0 (by omega) (by omega) a1 (by omega) (by omega) (by omega)]
        dsimp only; congr 1; omega
      · rw [if_neg q2, if_neg q2, if_pos (by omega), if_pos (by omega), ih m ((a + b) / 2 + 1) b (c + 1) (by omega) b0 b1 (by omega) (by omega) (by omega) (by omega)]
        dsimp only; congr 1; omega
theorem r_fallsL {r κ : Int} {f : Int → Int} (hr : 0 ≤ r ∧ r < 19) {k : Int → fMem → Option (Int × fMem)} : ∀ (n m : Nat) (a b : Int) (M : fMem), 0 ≤ a → b ≤ 700 → a < 1000 → b - a < 2 ^ n → n < m → 0 ≤ M 418 16 → M 418 16 + n < 1000000 → (∀ i, 0 ≤ i → i < b → M 425 (700 * r + i) = f i) → n < 100 → L_X11_fallsIn_11 k m r κ a b M = k (bsr f κ n a b).1 (mset M 418 16 (M 418 16 + (bsr f κ n a b).2)) := by
  intro n
  induction n with
  | zero =>
    intro m a b M a0 b0 a1 hd hm l0 l1 hf h100
    obtain ⟨m, rfl⟩ : ∃ m', m = m' + 1 := ⟨m - 1, by omega⟩
    rw [L_X11_fallsIn_11, if_pos (by simp at hd; omega)]
    have e : mset M 418 16 (M 418 16 + 0) = M := by
      rw [Int.add_zero]; funext y i; simp only [mset]; split
      · rename_i h; rw [h.1, h.2]
      · rfl
    simp only [bsr]
    rw [e]
  | succ n ih =>
    intro m a b M a0 b0 a1 hd hm l0 l1 hf h100
    obtain ⟨m, rfl⟩ : ∃ m', m = m' + 1 := ⟨m - 1, by omega⟩
    have hp : (2 : Int) ^ (n + 1) = 2 * 2 ^ n := by rw [Int.pow_succ]; omega
    rw [L_X11_fallsIn_11]
    unfold bsr
    by_cases q : b ≤ a
    · have e : mset M 418 16 (M 418 16 + 0) = M := by
        rw [Int.add_zero]; funext y i; simp only [mset]; split
        · rename_i h; rw [h.1, h.2]
        · rfl
      rw [if_pos q, if_pos q, e]
    · rw [if_neg q, if_neg q, if_pos (by omega), if_pos (by omega)]
      have mm : ∀ x y, mset (mset M 418 16 x) 418 16 y = mset M 418 16 y := by
        intro x y; funext a i; simp only [mset]; split <;> rfl
      refine bs fun N e => ?_
      have n16 : N 418 16 = M 418 16 + 1 := by rw [e, mset_self]
      have n425 : N 425 = M 425 := by rw [e, mset_ne (by omega)]
      rw [if_pos (by omega), n425, hf _ (by omega) (by omega)]
      have hf' : ∀ b', b' ≤ b → ∀ i, 0 ≤ i → i < b' → N 425 (700 * r + i) = f i := fun b' hb i i0 i1 => by rw [n425]; exact hf i i0 (by omega)
      by_cases q2 : κ ≤ f ((a + b) / 2)
      · rw [if_pos q2, if_pos q2, if_pos (by omega), ih m a ((a + b) / 2) N a0 (by omega) a1 (by omega) (by omega) (by omega) (by omega) (hf' _ (by omega)) (by omega), n16, e, mm]
        dsimp only
        rw [show M 418 16 + 1 + (bsr f κ n a ((a + b) / 2)).2 = M 418 16 + ((bsr f κ n a ((a + b) / 2)).2 + 1) by omega]
      · rw [if_neg q2, if_neg q2, if_pos (by omega), ih m ((a + b) / 2 + 1) b N (by omega) b0 (by omega) (by omega) (by omega) (by omega) (by omega) (hf' _ (by omega)) (by omega), n16, e, mm]
        dsimp only
        rw [show M 418 16 + 1 + (bsr f κ n ((a + b) / 2 + 1) b).2 = M 418 16 + ((bsr f κ n ((a + b) / 2 + 1) b).2 + 1) by omega]
/-- marks of a row in a lead -/
def isMk (e : En) (r : Int) : Prop := 0 < e.2.1 ∧ e.2.2.1 = r
theorem isMk_or (e : En) (r : Int) : isMk e r ∨ ¬ isMk e r := Classical.em _
noncomputable def lMk (L : List En) (r : Int) : Nat → Int
  | 0 => -1
  | n + 1 => @ite _ (isMk (gE L n) r) (Classical.propDecidable _) (gE L n).2.2.2 (lMk L r n)
noncomputable def fMk (L : List En) (r : Int) : Int → Nat → Int
  | _, 0 => -1
  | i, d + 1 => @ite _ (isMk (gE L i) r) (Classical.propDecidable _) (gE L i).2.2.2 (fMk L r (i + 1) d)
noncomputable def lowB (L : List En) (r fell : Int) : Int := if lMk L r fell.toNat = -1 then 0 else lMk L r fell.toNat + 1
noncomputable def higB (L : List En) (r fell sz : Int) : Int := if fMk L r fell (L.length - fell.toNat) = -1 then sz else fMk L r fell (L.length - fell.toNat)
def kf (L : List En) : Int → Int := fun i => (gE L i).1
/-- where a key falls in the lead of a level -/
noncomputable def fLd (g : Int → Int) (κ : Int) : Nat → Int
  | 0 => (bsr (kf (E g (bA g 0 0))) κ 40 0 (E g (bA g 0 0)).length).1
  | l + 1 => if bA g l 0 = -1 then (bsr (kf (E g (bA g (l + 1) 0))) κ 40 0 (E g (bA g (l + 1) 0)).length).1 else (bsr (kf (E g (bA g (l + 1) 0))) κ 40 (lowB (E g (bA g l 0)) (bA g (l + 1) 0) (fLd g κ l)) (higB (E g (bA g l 0)) (bA g (l + 1) 0) (fLd g κ l) (E g (bA g (l + 1) 0)).length)).1
noncomputable def bdL (g : Int → Int) (κ : Int) (r : Int) : Nat → Int × Int
  | 0 => (0, (E g r).length)
  | l + 1 => if bA g l 0 = -1 then (0, (E g r).length) else (lowB (E g (bA g l 0)) r (fLd g κ l), higB (E g (bA g l 0)) r (fLd g κ l) (E g r).length)
theorem fLd_eq (g : Int → Int) (κ : Int) (l : Nat) : fLd g κ l = (bsr (kf (E g (bA g l 0))) κ 40 (bdL g κ (bA g l 0) l).1 (bdL g κ (bA g l 0) l).2).1 := by
  cases l with
  | zero => rfl
  | succ l =>
    rw [fLd, bdL]
    rw [show (((l + 1 : Nat) : Int)) = (l : Int) + 1 by push_cast; rfl]
    split <;> rfl
/-- what entries of a lead look like -/
def okM2 (g : Int → Int) (l : Int) (L : List En) : Prop := ∀ e ∈ L, (e.2.1 = 0 ∧ e.2.2.2 = -1) ∨ (0 < e.2.1 ∧ 0 ≤ e.2.2.2 ∧ e.2.2.2 < (E g e.2.2.1).length ∧ 2 * (l + 1) ≤ e.2.2.1 ∧ e.2.2.1 < ER (l + 1) ∧ l < 8)
theorem E_mk {g : Int → Int} {l r : Int} (hv : okV g) (hst : 2 ≤ g 7740 ∧ g 7740 ≤ 8) (hl : 0 ≤ l ∧ l ≤ 8) (hr : 2 * l ≤ r ∧ r < ER l) : okM2 g l (E g r) := by
  have hT : ∀ e ∈ eT g r, e.2.1 = 0 ∧ e.2.2.2 = -1 := by
    intro e he
    obtain ⟨i, -, -, rfl⟩ := (thg_mem _ _ e).mp he
    exact ⟨rfl, rfl⟩
  have hE : ER l ≤ 19 := by unfold ER; split <;> omega
  by_cases h : g (7619 + r) = 2
  · by_cases hq : l = 8 ∨ r ≠ bA g l 0
    · rw [E_tn hl hr h hq]
      intro e he; exact Or.inl (hT e he)
    · have h8 : l ≠ 8 := fun z => hq (Or.inl z)
      have hb : r = bA g l 0 := Classical.byContradiction fun z => hq (Or.inr z)
      rw [E_ld hv (by omega) hr h hb]
      have ho := hv.1 r (by omega) (by omega) h
      have hin : ∀ a, a = 0 ∨ a = 1 → bA g (l + 1) a ≠ -1 → 2 * (l + 1) ≤ bA g (l + 1) a ∧ bA g (l + 1) a < ER (l + 1) := by
        intro a ha z
        rcases lv_cs (g := g) (l := l + 1) (by omega) hv with ⟨a1, a2, a3, -⟩ | ⟨a1, a2, a3, -⟩ | ⟨a1, a2, a3, -⟩ <;> rcases ha with rfl | rfl <;> first | (exact absurd ‹_› z) | omega
      have hE1 : ER (l + 1) ≤ 19 := by unfold ER; split <;> omega
      have mk : ∀ k a, a = 0 ∨ a = 1 → okE (1 + k) (mkL (g 7740) k (bA g (l + 1) a) (E g (bA g (l + 1) a))) ∧ (k = 0 ∨ k = 1 → ∀ e ∈ mkL (g 7740) k (bA g (l + 1) a) (E g (bA g (l + 1) a)), (0 < e.2.1 ∧ 0 ≤ e.2.2.2 ∧ e.2.2.2 < (E g e.2.2.1).length ∧ 2 * (l + 1) ≤ e.2.2.1 ∧ e.2.2.1 < ER (l + 1) ∧ l < 8)) := by
        intro k a ha
        by_cases z : bA g (l + 1) a = -1
        · unfold mkL; rw [if_pos z]; exact ⟨⟨List.Pairwise.nil, fun e he => by simp at he⟩, fun _ e he => by simp at he⟩
        · have hb := hin a ha z
          have i := E_ok (r := bA g (l + 1) a) hv hst.1 (Or.inr (by omega)) (fun w => absurd w z)
          refine ⟨mkL_ok hst.1 i.1 i.2, fun hk e he => ?_⟩
          unfold mkL at he
          rw [if_neg z] at he
          obtain ⟨q, q0, q1, q2⟩ := mks_mem hst.1 _ _ e he
          have dd := (div_bd hst (E g (bA g (l + 1) a)).length).2
          rw [q2]; dsimp only; omega
      have w := eW_spec ho (mk 0 0 (Or.inl rfl)).1 (mk 1 1 (Or.inr rfl)).1
      intro e he
      rcases (w.2.1 e).mp he with z | z | z
      · exact Or.inl (hT e z)
      · exact Or.inr ((mk 0 0 (Or.inl rfl)).2 (Or.inl rfl) e z)
      · exact Or.inr ((mk 1 1 (Or.inr rfl)).2 (Or.inr rfl) e z)
  · rw [E_no h]; intro e he; simp at he
theorem lMk_bd {g : Int → Int} {l r : Int} {L : List En} (hm : okM2 g l L) : ∀ n : Nat, n ≤ L.length → lMk L r n = -1 ∨ (0 ≤ lMk L r n ∧ lMk L r n < (E g r).length) := by
  intro n
  induction n with
  | zero => intro _; left; rfl
  | succ n ih =>
    intro hn
    unfold lMk
    split
    · rename_i h
      right
      have hmem := gE_mem (L := L) (p := (n : Int)) (by omega)
      rcases hm _ hmem with z | ⟨z1, z2, z3, -⟩
      · have := h.1; omega
      · rw [h.2] at z3; exact ⟨z2, z3⟩
    · exact ih (by omega)
theorem fMk_bd {g : Int → Int} {l r : Int} {L : List En} (hm : okM2 g l L) : ∀ (d : Nat) (i : Int), 0 ≤ i → i + d ≤ L.length → fMk L r i d = -1 ∨ (0 ≤ fMk L r i d ∧ fMk L r i d < (E g r).length) := by
  intro d
  induction d with
  | zero => intro i _ _; left; rfl
  | succ d ih =>
    intro i h0 h1
    unfold fMk
    split
    · rename_i h
      right
      have hmem := gE_mem (L := L) (p := i) (by push_cast at h1; omega)
      rcases hm _ hmem with z | ⟨z1, z2, z3, -⟩
      · have := h.1; omega
      · rw [h.2] at z3; exact ⟨z2, z3⟩
    · exact ih (i + 1) (by omega) (by push_cast at h1; omega)
theorem bd_bd {g : Int → Int} {κ : Int} (hv : okV g) (hst : 2 ≤ g 7740 ∧ g 7740 ≤ 8) : ∀ (l : Nat), l ≤ 8 → (∀ r, (0 ≤ (bdL g κ r l).1 ∧ (bdL g κ r l).1 ≤ (E g r).length) ∧ 0 ≤ (bdL g κ r l).2 ∧ (bdL g κ r l).2 ≤ (E g r).length) ∧ 0 ≤ fLd g κ l ∧ fLd g κ l ≤ (E g (bA g l 0)).length := by
  intro l
  induction l with
  | zero =>
    intro _
    have hb : ∀ r, (0 ≤ (bdL g κ r 0).1 ∧ (bdL g κ r 0).1 ≤ (E g r).length) ∧ 0 ≤ (bdL g κ r 0).2 ∧ (bdL g κ r 0).2 ≤ (E g r).length := fun r => by unfold bdL; dsimp only; omega
    refine ⟨hb, ?_⟩
    rw [fLd_eq]
    have := (bsr_bd (f := kf (E g (bA g ((0 : Nat) : Int) 0))) (κ := κ) 40 (bdL g κ (bA g ((0 : Nat) : Int) 0) 0).1 (bdL g κ (bA g ((0 : Nat) : Int) 0) 0).2 (hb _).1.1).1
    have h2 := hb (bA g ((0 : Nat) : Int) 0)
    omega
  | succ l ih =>
    intro hl
    obtain ⟨i1, i2, i3⟩ := ih (by omega)
    have hb : ∀ r, (0 ≤ (bdL g κ r (l + 1)).1 ∧ (bdL g κ r (l + 1)).1 ≤ (E g r).length) ∧ 0 ≤ (bdL g κ r (l + 1)).2 ∧ (bdL g κ r (l + 1)).2 ≤ (E g r).length := by
      intro r
      have e : bdL g κ r (l + 1) = if bA g l 0 = -1 then (0, ((E g r).length : Int)) else (lowB (E g (bA g l 0)) r (fLd g κ l), higB (E g (bA g l 0)) r (fLd g κ l) (E g r).length) := rfl
      rw [e]
      by_cases hq : bA g l 0 = -1
      · rw [if_pos hq]; dsimp only; omega
      · rw [if_neg hq]
        have hin : 2 * (l : Int) ≤ bA g l 0 ∧ bA g l 0 < ER l := by
          rcases lv_cs (g := g) (l := (l : Int)) (by omega) hv with ⟨a1, a2, a3, -⟩ | ⟨a1, a2, a3, -⟩ | ⟨a1, a2, a3, -⟩ <;> first | (exact absurd ‹_› hq) | omega
        have hm := E_mk hv hst (l := (l : Int)) (by omega) hin
        have a := lMk_bd (r := r) hm (fLd g κ l).toNat (by omega)
        have b := fMk_bd (r := r) hm ((E g (bA g l 0)).length - (fLd g κ l).toNat) (fLd g κ l) i2 (by omega)
        unfold lowB higB
        dsimp only
        refine ⟨?_, ?_⟩
        · split <;> omega
        · split <;> omega
    refine ⟨hb, ?_⟩
    rw [fLd_eq]
    have := (bsr_bd (f := kf (E g (bA g ((l + 1 : Nat) : Int) 0))) (κ := κ) 40 (bdL g κ (bA g ((l + 1 : Nat) : Int) 0) (l + 1)).1 (bdL g κ (bA g ((l + 1 : Nat) : Int) 0) (l + 1)).2 (hb _).1.1).1
    have h2 := hb (bA g ((l + 1 : Nat) : Int) 0)
    omega
end SEA1
