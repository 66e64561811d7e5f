/-! entries: how many; the class weaves them -/
section ENT2
theorem rmR_lv {r : Int} (hr : 0 ≤ r ∧ r < 19) : rmR r = (rmO (lvR r).toNat : Int) := by
  obtain ⟨n, rfl⟩ : ∃ n : Nat, r = n := ⟨r.toNat, by omega⟩
  have : n = 0 ∨ n = 1 ∨ n = 2 ∨ n = 3 ∨ n = 4 ∨ n = 5 ∨ n = 6 ∨ n = 7 ∨ n = 8 ∨ n = 9 ∨ n = 10 ∨ n = 11 ∨ n = 12 ∨ n = 13 ∨ n = 14 ∨ n = 15 ∨ n = 16 ∨ n = 17 ∨ n = 18 := by omega
  rcases this with rfl | rfl | rfl | rfl | rfl | rfl | rfl | rfl | rfl | rfl | rfl | rfl | rfl | rfl | rfl | rfl | rfl | rfl | rfl <;> rfl
theorem lvR_of {l r : Int} (hl : 0 ≤ l ∧ l ≤ 8) (hr : 2 * l ≤ r ∧ r < ER l) : lvR r = l := by
  unfold lvR
  unfold ER at hr
  split at hr <;> split <;> omega
theorem rm_num : ∀ d : Nat, d < 8 → rmO (7 - d) + rmE (8 - d) / 2 + rmO (8 - d) / 2 ≤ rmE (7 - d) := by decide
theorem mkL_len {st k r : Int} {L : List En} (hst : 2 ≤ st) : (mkL st k r L).length ≤ L.length / 2 := by
  unfold mkL
  split
  · simp
  · rw [mks_len]
    exact Nat.div_le_div_left (by omega) (by omega)
theorem eT_len {g : Int → Int} {r : Int} (h : 0 ≤ g (7600 + r)) : ((eT g r).length : Int) = g (7600 + r) := by
  unfold eT; rw [thg_len]; omega
theorem eN_len {g : Int → Int} (hv : okV g) (hst : 2 ≤ g 7740) : ∀ (d : Nat), d ≤ 8 → ∀ r, 2 * (8 - (d : Int)) ≤ r → r < ER (8 - d) → (eN g d r).length ≤ rmE (8 - d) ∧ (r ≠ bA g (8 - d) 0 → (eN g d r).length ≤ rmO (8 - d)) := by
  have eTb : ∀ (d : Nat), d ≤ 8 → ∀ r, 2 * (8 - (d : Int)) ≤ r → r < ER (8 - d) → g (7619 + r) = 2 → (eT g r).length ≤ rmO (8 - d) := by
    intro d hd r r0 r1 h
    have hE : ER (8 - d) ≤ 19 := by unfold ER; split <;> omega
    have ho := hv.1 r (by omega) (by omega) h
    have a := eT_len (g := g) (r := r) ho.2.1.1
    have b := ho.2.1.2
    have c := lvR_of (l := 8 - d) (by omega) ⟨r0, r1⟩
    rw [rmR_lv ⟨by omega, by omega⟩, c, show (8 - (d : Int)).toNat = 8 - d by omega] at b
    omega
  have rme : ∀ d : Nat, d ≤ 8 → rmO (8 - d) ≤ rmE (8 - d) := by decide
  intro d
  induction d with
  | zero =>
    intro hd r r0 r1
    unfold eN
    split
    · rename_i h
      have a := eTb 0 hd r r0 r1 h
      have b := rme 0 hd
      exact ⟨by omega, fun _ => a⟩
    · simp
  | succ d ih =>
    intro hd r r0 r1
    have hm := rme (d + 1) hd
    have hn := rm_num d (by omega)
    rw [show 8 - (d + 1) = 7 - d by omega] at *
    have e7 : (8 : Int) - ((d + 1 : Nat) : Int) = 7 - (d : Int) := by push_cast; omega
    rw [e7] at r0 r1 ⊢
    unfold eN
    split
    · rename_i h
      have a := eTb (d + 1) hd r (by rw [e7]; exact r0) (by rw [e7]; exact r1) h
      rw [show 8 - (d + 1) = 7 - d by omega] at a
      have hE : ER (7 - d) ≤ 19 := by unfold ER; split <;> omega
      have hE8 : ER (8 - d) ≤ 19 := by unfold ER; split <;> omega
      split
      · rename_i hq
        have mk : (mkL (g 7740) 0 (bA g (8 - d) 0) (eN g d (bA g (8 - d) 0))).length ≤ rmE (8 - d) / 2 ∧ (mkL (g 7740) 1 (bA g (8 - d) 1) (eN g d (bA g (8 - d) 1))).length ≤ rmO (8 - d) / 2 := by
          have l0 := mkL_len (k := 0) (r := bA g (8 - d) 0) (L := eN g d (bA g (8 - d) 0)) hst
          have l1 := mkL_len (k := 1) (r := bA g (8 - d) 1) (L := eN g d (bA g (8 - d) 1)) hst
          have n0 : ∀ k L, mkL (g 7740) k (-1) L = [] := fun k L => by unfold mkL; rw [if_pos rfl]
          rcases lv_cs (g := g) (l := 8 - d) (by omega) hv with ⟨a1, a2, a3, -⟩ | ⟨a1, a2, a3, -⟩ | ⟨a1, a2, a3, a4, -⟩
          · rw [a2, a3, n0, n0]; simp
          · rw [a2, n0]
            have := (ih (by omega) (bA g (8 - d) 0) (by omega) (by omega)).1
            simp; omega
          · have := (ih (by omega) (bA g (8 - d) 0) (by omega) (by omega)).1
            have := (ih (by omega) (bA g (8 - d) 1) (by omega) (by omega)).2 (fun z => a4 z.symm)
            omega
        have okk : okE 1 (mkL (g 7740) 0 (bA g (8 - d) 0) (eN g d (bA g (8 - d) 0))) ∧ okE 2 (mkL (g 7740) 1 (bA g (8 - d) 1) (eN g d (bA g (8 - d) 1))) := by
          have hb : ∀ a, a = 0 ∨ a = 1 → bA g (8 - d) a = -1 ∨ (0 ≤ bA g (8 - d) a ∧ bA g (8 - d) a < 19) := by
            intro a ha
            rcases lv_cs (g := g) (l := 8 - d) (by omega) hv with ⟨a1, a2, a3, -⟩ | ⟨a1, a2, a3, -⟩ | ⟨a1, a2, a3, -⟩ <;> rcases ha with rfl | rfl <;> omega
          have mk : ∀ k a, a = 0 ∨ a = 1 → okE (1 + k) (mkL (g 7740) k (bA g (8 - d) a) (eN g d (bA g (8 - d) a))) := by
            intro k a ha
            by_cases z : bA g (8 - d) a = -1
            · rw [z]; unfold mkL; rw [if_pos rfl]; exact ⟨List.Pairwise.nil, fun e he => by simp at he⟩
            · have i := eN_ok hv hst d (bA g (8 - d) a) (by omega) (hb a ha) (fun w => absurd w z)
              exact mkL_ok hst i.1 i.2
          exact ⟨mk 0 0 (Or.inl rfl), mk 1 1 (Or.inr rfl)⟩
        have w := (eW_spec (hv.1 r (by omega) (by omega) h) okk.1 okk.2).2.2
        refine ⟨by omega, fun z => absurd hq z⟩
      · exact ⟨by omega, fun _ => a⟩
    · simp
/-- a row's entries as the class has them -/
def eO (r : Int) : Nat := 4 * psO r.toNat + 151
def vE (g : Int → Int) (r : Int) (e : En) : Int := if e.2.1 = 0 then g (3800 + 200 * r + e.2.2.1) else e.2.2.1 - FR (LO e.2.2.1)
def nmE : List En → Int
  | [] => 0
  | e :: L => (if e.2.2.2 = -1 then 0 else 1) + nmE L
theorem nmE_app : ∀ L K : List En, nmE (L ++ K) = nmE L + nmE K := by
  intro L K
  induction L with
  | nil => simp [nmE]
  | cons e L ih => simp only [List.cons_append, nmE, ih]; omega
theorem nmE_bd : ∀ L : List En, 0 ≤ nmE L ∧ nmE L ≤ L.length := by
  intro L
  induction L with
  | nil => simp [nmE]
  | cons e L ih => rw [nmE]; simp only [List.length_cons]; push_cast; split <;> omega
def enC (M : fMem) (g : Int → Int) (r : Int) (L : List En) : Prop := M (eO r) 3 = L.length ∧ M (eO r) 4 = nmE L ∧ ∀ (j : Nat) (e : En), L[j]? = some e → M (eO r + 1) j = e.1 ∧ M (eO r + 2) j = vE g r e ∧ M (eO r + 3) j = e.2.2.2
def eFr (r : Int) (M M1 : fMem) : Prop := (∀ x, x ≠ eO r → x ≠ eO r + 1 → x ≠ eO r + 2 → x ≠ eO r + 3 → M1 x = M x) ∧ ∀ i, i ≠ 3 → i ≠ 4 → M1 (eO r) i = M (eO r) i
theorem eFr_rf (r : Int) (M : fMem) : eFr r M M := ⟨fun _ _ _ _ _ => rfl, fun _ _ _ => rfl⟩
theorem eFr_tr {r : Int} {M M1 M2 : fMem} (a : eFr r M M1) (b : eFr r M1 M2) : eFr r M M2 := ⟨fun x x1 x2 x3 x4 => by rw [b.1 x x1 x2 x3 x4, a.1 x x1 x2 x3 x4], fun i i1 i2 => by rw [b.2 i i1 i2, a.2 i i1 i2]⟩
theorem Ln_eO {r : Int} (hr : 0 ≤ r ∧ r < 19) : Ln (eO r + 1) = (rmE (lvR r).toNat : Int) ∧ Ln (eO r + 2) = (rmE (lvR r).toNat : Int) ∧ Ln (eO r + 3) = (rmE (lvR r).toNat : Int) := by
  obtain ⟨n, rfl⟩ : ∃ n : Nat, r = n := ⟨r.toNat, by omega⟩
  have : n = 0 ∨ n = 1 ∨ n = 2 ∨ n = 3 ∨ n = 4 ∨ n = 5 ∨ n = 6 ∨ n = 7 ∨ n = 8 ∨ n = 9 ∨ n = 10 ∨ n = 11 ∨ n = 12 ∨ n = 13 ∨ n = 14 ∨ n = 15 ∨ n = 16 ∨ n = 17 ∨ n = 18 := by omega
  rcases this with rfl | rfl | rfl | rfl | rfl | rfl | rfl | rfl | rfl | rfl | rfl | rfl | rfl | rfl | rfl | rfl | rfl | rfl | rfl <;> exact ⟨rfl, rfl, rfl⟩
theorem eO_bd {r : Int} (hr : 0 ≤ r ∧ r < 19) : 151 ≤ eO r ∧ eO r + 3 < 227 := by
  unfold eO psO; split <;> omega
theorem eO_ne {r q : Int} (hr : 0 ≤ r ∧ r < 19) (hq : 0 ≤ q ∧ q < 19) (h : r ≠ q) : eO r + 3 < eO q ∨ eO q + 3 < eO r := by
  unfold eO psO; split <;> split <;> omega
theorem enC_cg {M M1 : fMem} {g : Int → Int} {r q : Int} {L : List En} (hr : 0 ≤ r ∧ r < 19) (hq : 0 ≤ q ∧ q < 19) (h : r ≠ q) (a : enC M g r L) (b : eFr q M M1) : enC M1 g r L := by
  have hn := eO_ne hr hq h
  refine ⟨?_, ?_, fun j e he => ?_⟩
  · rw [b.1 _ (by omega) (by omega) (by omega) (by omega)]; exact a.1
  · rw [b.1 _ (by omega) (by omega) (by omega) (by omega)]; exact a.2.1
  · rw [b.1 (eO r + 1) (by omega) (by omega) (by omega) (by omega), b.1 (eO r + 2) (by omega) (by omega) (by omega) (by omega), b.1 (eO r + 3) (by omega) (by omega) (by omega) (by omega)]
    exact a.2.2 j e he
theorem c_eclear {M : fMem} {g : Int → Int} {r : Int} : ∃ M1, f_X1_clear (eO r) M = some M1 ∧ enC M1 g r [] ∧ eFr r M M1 := by
  refine ⟨mset (mset M (eO r) 3 0) (eO r) 4 0, rfl, ⟨?_, ?_, fun j e he => by simp at he⟩, fun x x1 _ _ _ => by rw [mset_ne x1, mset_ne x1], fun i i1 i2 => by rw [mset_slot i2, mset_slot i1]⟩
  · rw [mset_slot (by omega), mset_self]; rfl
  · rw [mset_self]; rfl
theorem c_eappend {M : fMem} {g : Int → Int} {r : Int} {L : List En} {e : En} {v : Int} (h : enC M g r L) (hr : 0 ≤ r ∧ r < 19) (hl : L.length < rmE (lvR r).toNat) (hl2 : L.length < 1000) (hv : v = vE g r e) : ∃ M1, f_X1_append (eO r) e.1 v e.2.2.2 M = some M1 ∧ enC M1 g r (L ++ [e]) ∧ eFr r M M1 := by
  obtain ⟨l1, l2, l3⟩ := Ln_eO hr
  obtain ⟨a, b, c⟩ := h
  have nb := nmE_bd L
  generalize hp : eO r = p at *
  have fin : ∀ w, w = nmE L + (if e.2.2.2 = -1 then 0 else 1) → enC (mset (mset (mset (mset (mset M (p + 1) L.length e.1) (p + 2) L.length v) (p + 3) L.length e.2.2.2) p 3 (L.length + 1)) p 4 w) g r (L ++ [e]) ∧ eFr r M (mset (mset (mset (mset (mset M (p + 1) L.length e.1) (p + 2) L.length v) (p + 3) L.length e.2.2.2) p 3 (L.length + 1)) p 4 w) := by
    intro w hw
    refine ⟨⟨?_, ?_, fun j x hx => ?_⟩, fun x x1 x2 x3 x4 => ?_, fun i i1 i2 => ?_⟩
    · rw [hp, mset_slot (by omega), mset_self]; simp
    · rw [hp, mset_self, hw, nmE_app]; simp [nmE]
    · rw [hp]
      have oA : mset (mset (mset (mset (mset M (p + 1) L.length e.1) (p + 2) L.length v) (p + 3) L.length e.2.2.2) p 3 (L.length + 1)) p 4 w (p + 1) = us (M (p + 1)) L.length e.1 := by
        rw [mset_ne (k := p) (by omega), mset_ne (k := p) (by omega), mset_ne (k := p + 3) (by omega), mset_ne (k := p + 2) (by omega), mset_at]
      have oB : mset (mset (mset (mset (mset M (p + 1) L.length e.1) (p + 2) L.length v) (p + 3) L.length e.2.2.2) p 3 (L.length + 1)) p 4 w (p + 2) = us (M (p + 2)) L.length v := by
        rw [mset_ne (k := p) (by omega), mset_ne (k := p) (by omega), mset_ne (k := p + 3) (by omega), mset_at, mset_ne (k := p + 1) (by omega)]
      have oC : mset (mset (mset (mset (mset M (p + 1) L.length e.1) (p + 2) L.length v) (p + 3) L.length e.2.2.2) p 3 (L.length + 1)) p 4 w (p + 3) = us (M (p + 3)) L.length e.2.2.2 := by
        rw [mset_ne (k := p) (by omega), mset_ne (k := p) (by omega), mset_at, mset_ne (k := p + 2) (by omega), mset_ne (k := p + 1) (by omega)]
      rw [oA, oB, oC]
      by_cases q : j = L.length
      · subst q
        rw [List.getElem?_append_right (Nat.le_refl _)] at hx
        simp at hx
        subst hx
        rw [us_eq, us_eq, us_eq]
        exact ⟨rfl, hv, rfl⟩
      · have hj : j < L.length := by
          have := (List.getElem?_eq_some_iff.mp hx).1
          simp at this
          omega
        rw [List.getElem?_append_left hj] at hx
        rw [us_ne (by omega), us_ne (by omega), us_ne (by omega)]
        exact c j x hx
    · rw [hp] at x1 x2 x3 x4
      rw [mset_ne x1, mset_ne x1, mset_ne x4, mset_ne x3, mset_ne x2]
    · rw [hp, mset_slot i2, mset_slot i1, mset_ne (by omega), mset_ne (by omega), mset_ne (by omega)]
  unfold f_X1_append
  rw [a, l1, l2, l3]
  have e1 : mset M (p + 1) L.length e.1 p 3 = L.length := by rw [mset_ne (by omega), a]
  have e2 : mset (mset M (p + 1) L.length e.1) (p + 2) L.length v p 3 = L.length := by rw [mset_ne (by omega), e1]
  have e3 : mset (mset (mset M (p + 1) L.length e.1) (p + 2) L.length v) (p + 3) L.length e.2.2.2 p 3 = L.length := by rw [mset_ne (by omega), e2]
  have e4 : mset (mset (mset (mset M (p + 1) L.length e.1) (p + 2) L.length v) (p + 3) L.length e.2.2.2) p 3 (L.length + 1) p 4 = nmE L := by rw [mset_slot (by omega), mset_ne (by omega), mset_ne (by omega), mset_ne (by omega), b]
  by_cases q : e.2.2.2 = -1
  · obtain ⟨f1, f2⟩ := fin (nmE L + 0) (by rw [if_pos q])
    refine ⟨_, ?_, f1, f2⟩
    refine ie (by omega) (si (by omega) (bs fun N1 q1 => ?_))
    subst q1
    rw [e1]
    refine si (by omega) (bs fun N2 q2 => ?_)
    subst q2
    rw [e2]
    refine si (by omega) (bs fun N3 q3 => ?_)
    subst q3
    rw [e3]
    refine si (by omega) (bs fun N4 q4 => ?_)
    subst q4
    rw [e4]
    exact it q (si (by omega) rfl)
  · obtain ⟨f1, f2⟩ := fin (nmE L + 1) (by rw [if_neg q])
    refine ⟨_, ?_, f1, f2⟩
    refine ie (by omega) (si (by omega) (bs fun N1 q1 => ?_))
    subst q1
    rw [e1]
    refine si (by omega) (bs fun N2 q2 => ?_)
    subst q2
    rw [e2]
    refine si (by omega) (bs fun N3 q3 => ?_)
    subst q3
    rw [e3]
    refine si (by omega) (bs fun N4 q4 => ?_)
    subst q4
    rw [e4]
    exact ie q (si (by omega) rfl)
theorem c_ekeyAt {M : fMem} {g : Int → Int} {r i : Int} {L : List En} (h : enC M g r L) (hr : 0 ≤ r ∧ r < 19) (hl : L.length ≤ rmE (lvR r).toNat) (hi : 0 ≤ i) : f_X1_keyAt (eO r) i M = some (gE L i).1 := by
  unfold f_X1_keyAt
  rw [h.1, (Ln_eO hr).1]
  refine ie (by omega) ?_
  by_cases q : (L.length : Int) ≤ i
  · rw [if_pos q, gE_out q]
  · rw [if_neg q]
    refine si (by omega) ?_
    have hi2 : i.toNat < L.length := by omega
    have := (h.2.2 i.toNat L[i.toNat] (List.getElem?_eq_getElem hi2)).1
    rw [show ((i.toNat : Nat) : Int) = i by omega] at this
    rw [this]
    unfold gE
    rw [List.getElem?_eq_getElem hi2]; rfl
theorem m3_T : ∀ T : List En, okE 0 T → m3 (T.length + 0 + 0) T [] [] = T := by
  intro T hT
  obtain ⟨a, b, -⟩ := m3_spec (T.length + 0 + 0) T [] [] (by simp) hT ⟨List.Pairwise.nil, fun e he => by simp at he⟩ ⟨List.Pairwise.nil, fun e he => by simp at he⟩
  exact eSo_uniq _ _ a hT.1 (fun e => by rw [b e]; simp)
theorem eW_nil {g : Int → Int} {r : Int} (ho : okR g r) : eW g r [] [] = eT g r := m3_T _ (eT_ok ho)
end ENT2
