/-! the reference lays entries: things, marks, all -/
section ENT6
def eP (g : Int → Int) (r : Int) : List En := if g (7619 + r) = 2 then eT g r else []
theorem r_laysThings {M : fMem} {g : Int → Int} {r : Int} (hg : M 419 = g) (hv : okV g) (hr : 0 ≤ r ∧ r < 19) : ∃ M1, f_X11_laysThings r M = some M1 ∧ enR M1 r (eP g r) ∧ pF r M M1 := by
  have p0 : pF r M (mset M 429 r 0) := ⟨fun y hy => by rw [mset_ne (by omega)], fun y i y0 y1 _ => by rw [mset_ne (by omega)], fun q hq => by rw [mset_slot hq]⟩
  have e0 : enR (mset M 429 r 0) r [] := ⟨by rw [mset_self]; rfl, fun j e he => by simp at he⟩
  have hsh : f_X11_isShut r (mset M 429 r 0) = some (b1 (g (7619 + r) = 2)) := by
    rw [r_isShut hr, mset_ne (by omega), hg]
  unfold eP f_X11_laysThings
  by_cases q : g (7619 + r) = 2
  · rw [if_pos q]
    have ho := hv.1 r hr.1 hr.2 q
    have hsz := ho.2.1
    have hrm := rmR_bd r
    have key : ∀ (d n i : Nat) (N : fMem), (i : Int) + d = g (7600 + r) → d < n → pF r M N → enR N r (thg g r 0 i) → ∃ M1, L_X11_laysThings_18 (fun M_10 => some M_10) n r i N = some M1 ∧ enR M1 r (eT g r) ∧ pF r M M1 := by
      intro d
      induction d with
      | zero =>
        intro n i N h1 hn hp he
        obtain ⟨n, rfl⟩ : ∃ n', n = n' + 1 := ⟨n - 1, by omega⟩
        refine ⟨N, ?_, ?_, hp⟩
        · rw [L_X11_laysThings_18, hp.1 419 (by omega), hg]
          exact si (by omega) (it (by omega) rfl)
        · unfold eT; rw [show (g (7600 + r)).toNat = i by omega]; exact he
      | succ d ih =>
        intro n i N h1 hn hp he
        obtain ⟨n, rfl⟩ : ∃ n', n = n' + 1 := ⟨n - 1, by omega⟩
        have gN : N 419 = g := by rw [hp.1 419 (by omega), hg]
        have oi := thg_ok ho i 0 (by omega) (by omega)
        have oi1 := thg_ok ho (i + 1) 0 (by omega) (by push_cast; omega)
        obtain ⟨M1, L1, a1, a2, a3, a4, a5, a6⟩ := r_puts (x := (g (200 * r + i), 0, (i : Int), -1)) hr (by rw [thg_len]; omega) he oi.1 (fun e hm => by
          obtain ⟨j, j0, j1, j2⟩ := (thg_mem i 0 e).mp hm
          left
          rw [j2]
          exact Or.inl (ho.2.2.2.2.2 j i (by omega) (by omega) (by omega)))
        have eL : L1 = thg g r 0 (i + 1) := by
          refine eSo_uniq _ _ a3 oi1.1 (fun e => ?_)
          rw [a4 e, thg_mem, thg_mem]
          constructor
          · rintro (z | ⟨j, j0, j1, j2⟩)
            · exact ⟨i, by omega, by push_cast; omega, z⟩
            · exact ⟨j, j0, by push_cast; omega, j2⟩
          · rintro ⟨j, j0, j1, j2⟩
            by_cases c : j = i
            · subst c; exact Or.inl j2
            · exact Or.inr ⟨j, j0, by push_cast at j1; omega, j2⟩
        rw [eL] at a2
        obtain ⟨M2, b1, b2, b3⟩ := ih n (i + 1) M1 (by push_cast; omega) (by omega) (pF_tr hp a6) a2
        refine ⟨M2, ?_, b2, b3⟩
        rw [L_X11_laysThings_18, gN]
        have ky := r_keyAt (M := N) (r := r) (j := (i : Int)) hr (by omega)
        rw [gN] at ky
        refine si (by omega) (ie (by omega) (bc ky (bc a1 ?_)))
        rw [show (i : Int) + 1 = ((i + 1 : Nat) : Int) by push_cast; rfl]
        exact b1
    obtain ⟨M1, c1, c2, c3⟩ := key (g (7600 + r)).toNat 20000 0 (mset M 429 r 0) (by omega) (by omega) p0 e0
    refine ⟨M1, ?_, c2, c3⟩
    refine si hr (bs fun N e => ?_)
    subst e
    refine bc hsh ?_
    rw [show b1 (g (7619 + r) = 2) = 1 by simp [b1, q]]
    exact ie (by omega) c1
  · rw [if_neg q]
    refine ⟨mset M 429 r 0, ?_, e0, p0⟩
    refine si hr (bs fun N e => ?_)
    subst e
    refine bc hsh ?_
    rw [show b1 (g (7619 + r) = 2) = 0 by simp [b1, q]]
    exact it rfl rfl
theorem r_marksL {g : Int → Int} {r y l kk : Int} {Ly : List En} (hst : 2 ≤ g 7740 ∧ g 7740 ≤ 8) (hr : 0 ≤ r ∧ r < 19) (hy : 0 ≤ y ∧ y < 19) (hne : y ≠ r) (hk : kk = 0 ∨ kk = 1) (hly : Ly.length ≤ 328) {k : Int → Int → Int → fMem → Option fMem} : ∀ (n m : Nat) (p : Int) (L : List En) (M : fMem), M 419 = g → n < m → 0 ≤ p → p < 2000 → ((Ly.length : Int) ≤ p + g 7740 * n ∧ p + g 7740 * n ≤ Ly.length + g 7740 - 1) → enR M y Ly → enR M r L → L.Pairwise eLt → L.length + n < 690 → (∀ e ∈ L, e.2.1 ≠ 1 + kk ∨ e.2.2.2 < p) →
    ∃ M1 L1, L_X11_laysMarks_31 k m r l kk y p M = k r l kk M1 ∧ enR M1 r L1 ∧ L1.Pairwise eLt ∧ (∀ e, e ∈ L1 ↔ e ∈ L ∨ e ∈ mks (g 7740) kk y Ly p n) ∧ L1.length = L.length + n ∧ pF r M M1 := by
  intro n
  induction n with
  | zero =>
    intro m p L M hg hm p0 p1 hb hey her hs hl ht
    obtain ⟨m, rfl⟩ : ∃ m', m = m' + 1 := ⟨m - 1, by omega⟩
    refine ⟨M, L, ?_, her, hs, fun e => by simp [mks], by omega, pF_rf r M⟩
    rw [L_X11_laysMarks_31, hey.1]
    exact si hy (it (by simp at hb; omega) rfl)
  | succ n ih =>
    intro m p L M hg hm p0 p1 hb hey her hs hl ht
    obtain ⟨m, rfl⟩ : ∃ m', m = m' + 1 := ⟨m - 1, by omega⟩
    have hm2 := mul_s (g 7740) n
    have hmn : 0 ≤ g 7740 * (n : Int) := Int.mul_nonneg (by omega) (by omega)
    have hpl : p.toNat < Ly.length := by omega
    have ek : M 425 (700 * y + p) = (gE Ly p).1 := by
      have := (hey.2 p.toNat Ly[p.toNat] (List.getElem?_eq_getElem hpl)).1
      rw [show ((p.toNat : Nat) : Int) = p by omega] at this
      rw [this]; unfold gE; rw [List.getElem?_eq_getElem hpl]; rfl
    obtain ⟨N, L1, a1, a2, a3, a4, a5, a6⟩ := r_puts (x := ((gE Ly p).1, 1 + kk, y, p)) hr (by omega) her hs (fun e he => by
      have := ht e he
      unfold eLt
      dsimp only
      omega)
    have gN : N 419 = g := by rw [a6.1 419 (by omega), hg]
    obtain ⟨M2, L2, b1, b2, b3, b4, b5, b6⟩ := ih m (p + g 7740) L1 N gN (by omega) (by omega) (by omega) (by omega) (enR_cg (by omega) hne hey a6) a2 a3 (by omega) (fun e he => by
      rcases (a4 e).mp he with z | z
      · right; rw [z]; dsimp only; omega
      · have := ht e z; omega)
    refine ⟨M2, L2, ?_, b2, b3, fun e => ?_, by omega, pF_tr a6 b6⟩
    · rw [L_X11_laysMarks_31, hey.1, ek]
      refine si hy (ie (by omega) (si (by omega) (si (by omega) (bc a1 ?_))))
      rw [gN]
      exact si (by omega) b1
    · rw [b4 e, a4 e, mks, List.mem_cons]
      constructor
      · rintro ((z | z) | z)
        · exact Or.inr (Or.inl z)
        · exact Or.inl z
        · exact Or.inr (Or.inr z)
      · rintro (z | z | z)
        · exact Or.inl (Or.inr z)
        · exact Or.inl (Or.inl z)
        · exact Or.inr z
theorem r_laysMarks {M : fMem} {g : Int → Int} {l r : Int} (hg : M 419 = g) (hv : okV g) (hst : 2 ≤ g 7740 ∧ g 7740 ≤ 8) (hl : 0 ≤ l ∧ l ≤ 7) (hr : r = bA g l 0) (hr1 : r ≠ -1) (he : enR M r (eP g r)) (hn : ∀ q, 2 * (l + 1) ≤ q → q < ER (l + 1) → enR M q (E g q)) : ∃ M1, f_X11_laysMarks r (l + 1) M = some M1 ∧ enR M1 r (E g r) ∧ pF r M M1 := by
  have hE : ER l = 2 * (l + 1) := by rw [ER_n (by omega)]; omega
  have hE1 : ER (l + 1) ≤ 19 := by unfold ER; split <;> omega
  have hrr : (2 * l ≤ r ∧ r < ER l) ∧ g (7619 + r) = 2 := by
    rcases lv_cs (g := g) (l := l) (by omega) hv with ⟨z1, z2, -⟩ | ⟨z1, z2, z3, z4, -⟩ | ⟨z1, z2, z3, z4, z5, -⟩
    · omega
    · rw [hr]; exact ⟨z3, z4⟩
    · rw [hr]; exact ⟨z2, z5⟩
  have hr19 : 0 ≤ r ∧ r < 19 := by omega
  have ho := hv.1 r hr19.1 hr19.2 hrr.2
  have eLd := E_ld hv hl hrr.1 hrr.2 hr
  have tl := eT_len (g := g) (r := r) ho.2.1.1
  have hsz := ho.2.1
  have hrm := rmR_bd r
  rw [show eP g r = eT g r by unfold eP; rw [if_pos hrr.2]] at he
  have tk := eT_ok ho
  have ml : ∀ k y L, (y = -1 → mkL (g 7740) k y L = []) ∧ (y ≠ -1 → mkL (g 7740) k y L = mks (g 7740) k y L (g 7740 - 1) (L.length / (g 7740).toNat)) := fun k y L => ⟨fun z => by unfold mkL; rw [if_pos z], fun z => by unfold mkL; rw [if_neg z]⟩
  have lenE : ∀ q, 2 * (l + 1) ≤ q → q < ER (l + 1) → (E g q).length ≤ 328 ∧ okL (E g q) := by
    intro q q0 q1
    have a := E_len (r := q) hv hst.1 (by omega)
    have b : rmE (lvR q).toNat ≤ 328 := by unfold rmE; split <;> omega
    exact ⟨by omega, E_ok hv hst.1 (Or.inr (by omega)) (fun w => by omega)⟩
  have mkok : ∀ k a, a = 0 ∨ a = 1 → okE (1 + k) (mkL (g 7740) k (bA g (l + 1) a) (E g (bA g (l + 1) a))) := by
    intro k a ha
    by_cases z : bA g (l + 1) a = -1
    · rw [(ml k _ _).1 z]; exact ⟨List.Pairwise.nil, fun e he => by simp at he⟩
    · have hb : 2 * (l + 1) ≤ bA g (l + 1) a ∧ bA g (l + 1) a < ER (l + 1) := by
        rcases lv_cs (g := g) (l := l + 1) (by omega) hv with ⟨a1, a2, a3, -⟩ | ⟨a1, a2, a3, -⟩ | ⟨a1, a2, a3, -⟩ <;> rcases ha with rfl | rfl <;> first | (exact absurd ‹_› z) | omega
      have := (lenE _ hb.1 hb.2).2
      exact mkL_ok hst.1 this.1 this.2
  have wsp := eW_spec ho (mkok 0 0 (Or.inl rfl)) (mkok 1 1 (Or.inr rfl))
  have fin : ∀ L1 : List En, L1.Pairwise eLt → (∀ e, e ∈ L1 ↔ (e ∈ eT g r ∨ e ∈ mkL (g 7740) 0 (bA g (l + 1) 0) (E g (bA g (l + 1) 0))) ∨ e ∈ mkL (g 7740) 1 (bA g (l + 1) 1) (E g (bA g (l + 1) 1))) → L1 = E g r := by
    intro L1 h1 h2
    rw [eLd]
    refine eSo_uniq _ _ h1 wsp.1.1 (fun e => ?_)
    rw [h2 e, wsp.2.1 e, or_assoc]
  have dv : ∀ L : List En, L.length / (g 7740).toNat ≤ L.length := fun L => Nat.div_le_self _ _
  unfold f_X11_laysMarks
  rw [L_X11_laysMarks_2, r_shutMany (by omega), hg]
  rcases lv_cs (g := g) (l := l + 1) (by omega) hv with ⟨z1, z2, z3, -⟩ | ⟨z1, z2, z3, z4, -⟩ | ⟨z1, z2, z3, z4, z5, z6, -⟩
  · refine ⟨M, ?_, ?_, pF_rf r M⟩
    · rw [z1]; exact bs fun x e => by subst e; exact it (by omega) rfl
    · rw [← fin (eT g r) tk.1 (fun e => by rw [(ml 0 _ _).1 z2, (ml 1 _ _).1 z3]; simp)]; exact he
  · obtain ⟨M1, L1, a1, a2, a3, a4, a5, a6⟩ := r_marksL (l := l + 1) (kk := 0) (k := fun v1_12 v2_12 v3_12 M_12 => (if -2147483648 ≤ v3_12 + 1 ∧ v3_12 + 1 < 2147483648 then L_X11_laysMarks_2 (fun M_14 => some M_14) 19999 v1_12 v2_12 (v3_12 + 1) M_12 else none)) hst hr19 (y := bA g (l + 1) 0) (by omega) (by omega) (Or.inl rfl) (lenE _ z3.1 z3.2).1 ((E g (bA g (l + 1) 0)).length / (g 7740).toNat) 20000 (g 7740 - 1) (eT g r) M hg (by have := dv (E g (bA g (l + 1) 0)); have := (lenE _ z3.1 z3.2).1; omega) (by omega) (by omega) (div_bd hst _) (hn _ z3.1 z3.2) he tk.1 (by have := dv (E g (bA g (l + 1) 0)); have := (lenE _ z3.1 z3.2).1; omega) (fun e he => by left; rw [(tk.2 e he).2.2]; omega)
    have g1 : M1 419 = g := by rw [a6.1 419 (by omega), hg]
    refine ⟨M1, ?_, ?_, a6⟩
    · rw [z1]
      refine bs fun x e => ?_
      subst e
      refine ie (by omega) (bc (r_byAge (by omega)) ?_)
      rw [hg]
      refine si (by omega) ?_
      rw [a1, if_pos (by omega), L_X11_laysMarks_2, r_shutMany (by omega), g1, z1]
      exact bs fun x e => by subst e; exact it (by omega) rfl
    · rw [← fin L1 a3 (fun e => by rw [a4 e, (ml 0 _ _).2 (by omega), (ml 1 _ _).1 z2]; simp)]; exact a2
  · obtain ⟨M1, L1, a1, a2, a3, a4, a5, a6⟩ := r_marksL (l := l + 1) (kk := 0) (k := fun v1_12 v2_12 v3_12 M_12 => (if -2147483648 ≤ v3_12 + 1 ∧ v3_12 + 1 < 2147483648 then L_X11_laysMarks_2 (fun M_14 => some M_14) 19999 v1_12 v2_12 (v3_12 + 1) M_12 else none)) hst hr19 (y := bA g (l + 1) 0) (by omega) (by omega) (Or.inl rfl) (lenE _ z2.1 z2.2).1 ((E g (bA g (l + 1) 0)).length / (g 7740).toNat) 20000 (g 7740 - 1) (eT g r) M hg (by have := dv (E g (bA g (l + 1) 0)); have := (lenE _ z2.1 z2.2).1; omega) (by omega) (by omega) (div_bd hst _) (hn _ z2.1 z2.2) he tk.1 (by have := dv (E g (bA g (l + 1) 0)); have := (lenE _ z2.1 z2.2).1; omega) (fun e he => by left; rw [(tk.2 e he).2.2]; omega)
    have g1 : M1 419 = g := by rw [a6.1 419 (by omega), hg]
    have hz19 : 0 ≤ bA g (l + 1) 1 ∧ bA g (l + 1) 1 < 19 := by omega
    have hdv0 := dv (E g (bA g (l + 1) 0))
    have hdv1 := dv (E g (bA g (l + 1) 1))
    have hl0 := (lenE _ z2.1 z2.2).1
    have hl1 := (lenE _ z3.1 z3.2).1
    have half0 : (E g (bA g (l + 1) 0)).length / (g 7740).toNat ≤ (E g (bA g (l + 1) 0)).length / 2 := Nat.div_le_div_left (by omega) (by omega)
    have half1 : (E g (bA g (l + 1) 1)).length / (g 7740).toNat ≤ (E g (bA g (l + 1) 1)).length / 2 := Nat.div_le_div_left (by omega) (by omega)
    obtain ⟨M2, L2, b1, b2, b3, b4, b5, b6⟩ := r_marksL (l := l + 1) (kk := 1) (k := fun v1_12 v2_12 v3_12 M_12 => (if -2147483648 ≤ v3_12 + 1 ∧ v3_12 + 1 < 2147483648 then L_X11_laysMarks_2 (fun M_14 => some M_14) 19998 v1_12 v2_12 (v3_12 + 1) M_12 else none)) hst hr19 (y := bA g (l + 1) 1) hz19 (by omega) (Or.inr rfl) hl1 ((E g (bA g (l + 1) 1)).length / (g 7740).toNat) 20000 (g 7740 - 1) L1 M1 g1 (by omega) (by omega) (by omega) (div_bd hst _) (enR_cg (by omega) (by omega) (hn _ z3.1 z3.2) a6) a2 a3 (by omega) (fun e he => by
      left
      rcases (a4 e).mp he with z | z
      · rw [(tk.2 e z).2.2]; omega
      · obtain ⟨q, -, -, hq⟩ := mks_mem hst.1 _ _ e z
        rw [hq]; dsimp only; omega)
    have g2 : M2 419 = g := by rw [b6.1 419 (by omega), g1]
    refine ⟨M2, ?_, ?_, pF_tr a6 b6⟩
    · rw [z1]
      refine bs fun x e => ?_
      subst e
      refine ie (by omega) (bc (r_byAge (by omega)) ?_)
      rw [hg]
      refine si (by omega) ?_
      rw [a1, if_pos (by omega), L_X11_laysMarks_2, r_shutMany (by omega), g1, z1]
      refine bs fun x e => ?_
      subst e
      refine ie (by omega) (bc (r_byAge (by omega)) ?_)
      rw [g1]
      refine si (by omega) ?_
      rw [show (0 : Int) + 1 = 1 from rfl, b1, if_pos (by omega), L_X11_laysMarks_2, r_shutMany (by omega), g2, z1]
      exact bs fun x e => by subst e; exact it (by omega) rfl
    · rw [← fin L2 b3 (fun e => by rw [b4 e, a4 e, (ml 0 _ _).2 (by omega), (ml 1 _ _).2 (by omega)])]; exact b2
/-- all rows' entries, by marks (a = 0) or plain -/
def eA (g : Int → Int) (a r : Int) : List En := if a = 0 then E g r else eP g r
theorem eP_len {g : Int → Int} {r : Int} (hv : okV g) (hr : 0 ≤ r ∧ r < 19) : (eP g r).length ≤ 200 := by
  unfold eP
  split
  · rename_i h
    have ho := hv.1 r hr.1 hr.2 h
    have := eT_len (g := g) (r := r) ho.2.1.1
    have := ho.2.1
    have := rmR_bd r
    omega
  · simp
theorem r_laysEntries {M : fMem} {g : Int → Int} {a : Int} (hg : M 419 = g) (hv : okV g) (hst : 2 ≤ g 7740 ∧ g 7740 ≤ 8) (ha : a = 0 ∨ a = 1) : ∃ M1, f_X11_laysEntries a M = some M1 ∧ (∀ r, 0 ≤ r → r < 19 → enR M1 r (eA g a r)) ∧ M1 418 13 = a ∧ (∀ i, i ≠ 13 → M1 418 i = M 418 i) ∧ ∀ y, y ≠ 418 → (y < 425 ∨ 429 < y) → M1 y = M y := by
  have rows : ∀ (d n : Nat) (v : Int) (N : fMem) (k : Int → fMem → Option fMem), v + d = 19 → 0 ≤ v → d < n → (∀ y, y < 425 ∨ 429 < y → N y = mset M 418 13 a y) → (∀ r, 0 ≤ r → r < v → enR N r (eP g r)) → ∃ M1, L_X11_laysEntries_7 k n a v N = k a M1 ∧ (∀ r, 0 ≤ r → r < 19 → enR M1 r (eP g r)) ∧ (∀ y, y < 425 ∨ 429 < y → M1 y = mset M 418 13 a y) := by
    intro d
    induction d with
    | zero =>
      intro n v N k h1 h2 hn hf hr
      obtain ⟨n, rfl⟩ : ∃ n', n = n' + 1 := ⟨n - 1, by omega⟩
      refine ⟨N, ?_, fun r r0 r1 => hr r r0 (by omega), hf⟩
      rw [L_X11_laysEntries_7]; exact it (by omega) rfl
    | succ d ih =>
      intro n v N k h1 h2 hn hf hr
      obtain ⟨n, rfl⟩ : ∃ n', n = n' + 1 := ⟨n - 1, by omega⟩
      have gN : N 419 = g := by rw [hf 419 (by omega), mset_ne (by omega), hg]
      obtain ⟨M1, a1, a2, a3⟩ := r_laysThings (r := v) gN hv (by omega)
      obtain ⟨M2, b1, b2, b3⟩ := ih n (v + 1) M1 k (by omega) (by omega) (by omega) (fun y hy => by rw [a3.1 y hy, hf y hy]) (fun r r0 r1 => by
        by_cases c : r = v
        · subst c; exact a2
        · exact enR_cg (by have := eP_len (r := r) hv (by omega); omega) c (hr r r0 (by omega)) a3)
      refine ⟨M2, ?_, b2, b3⟩
      rw [L_X11_laysEntries_7]
      exact ie (by omega) (bc a1 b1)
  obtain ⟨N, a1, a2, a3⟩ := rows 19 20000 0 (mset M 418 13 a) (fun v1_5 M_5 => L_X11_laysEntries_27 (fun M_14 => some M_14) 20000 v1_5 7 M_5) (by omega) (by omega) (by omega) (fun _ _ => rfl) (fun r r0 r1 => by omega)
  have fr : ∀ M1 : fMem, (∀ y, y < 425 ∨ 429 < y → M1 y = mset M 418 13 a y) → M1 418 13 = a ∧ (∀ i, i ≠ 13 → M1 418 i = M 418 i) ∧ ∀ y, y ≠ 418 → (y < 425 ∨ 429 < y) → M1 y = M y := by
    intro M1 h
    refine ⟨by rw [h 418 (by omega), mset_self], fun i hi => by rw [h 418 (by omega), mset_slot hi], fun y y1 y2 => by rw [h y y2, mset_ne y1]⟩
  have start : ∀ M1, L_X11_laysEntries_27 (fun M_14 => some M_14) 20000 a 7 N = some M1 → f_X11_laysEntries a M = some M1 := by
    intro M1 h
    unfold f_X11_laysEntries
    refine bs fun x e => ?_
    subst e
    rw [a1]; exact h
  rcases ha with rfl | rfl
  · have lev : ∀ (d n : Nat) (v : Int) (K : fMem), v + 1 = d → d ≤ 8 → d < n → (∀ y, y < 425 ∨ 429 < y → K y = mset M 418 13 0 y) → (∀ r, 0 ≤ r → r < 19 → v < lvR r → enR K r (E g r)) → (∀ r, 0 ≤ r → r < 19 → lvR r ≤ v → enR K r (eP g r)) → ∃ M1, L_X11_laysEntries_27 (fun M_14 => some M_14) n 0 v K = some M1 ∧ (∀ r, 0 ≤ r → r < 19 → enR M1 r (E g r)) ∧ (∀ y, y < 425 ∨ 429 < y → M1 y = mset M 418 13 0 y) := by
      intro d
      induction d with
      | zero =>
        intro n v K h1 h2 hn hf hi hp
        obtain ⟨n, rfl⟩ : ∃ n', n = n' + 1 := ⟨n - 1, by omega⟩
        refine ⟨K, ?_, fun r r0 r1 => hi r r0 r1 (by have := lv_ex (r := r) ⟨r0, r1⟩; omega), hf⟩
        rw [L_X11_laysEntries_27]; exact it (by omega) rfl
      | succ d ih =>
        intro n v K h1 h2 hn hf hi hp
        obtain ⟨n, rfl⟩ : ∃ n', n = n' + 1 := ⟨n - 1, by omega⟩
        have gK : K 419 = g := by rw [hf 419 (by omega), mset_ne (by omega), hg]
        have ld : f_X11_leadOf v K = some (bA g v 0) := by
          unfold f_X11_leadOf
          refine bc (r_byAge (by omega)) ?_
          rw [gK]
        have hE : ER v = 2 * (v + 1) := by rw [ER_n (by omega)]; omega
        have hE1 : ER (v + 1) ≤ 19 := by unfold ER; split <;> omega
        -- a row of this level that is no lead has things alone
        have same : ∀ r, 0 ≤ r → r < 19 → lvR r = v → r ≠ bA g v 0 → E g r = eP g r := by
          intro r r0 r1 hl hq
          obtain ⟨x1, x2, x3⟩ := lv_ex (r := r) ⟨r0, r1⟩
          rw [hl] at x2 x3
          unfold eP
          by_cases c : g (7619 + r) = 2
          · rw [if_pos c]; exact E_tn (by omega) ⟨x2, x3⟩ c (Or.inr hq)
          · rw [if_neg c]; exact E_no c
        by_cases q : bA g v 0 = -1
        · obtain ⟨M2, b1, b2, b3⟩ := ih n (v + -1) K (by omega) (by omega) (by omega) hf (fun r r0 r1 hl => by
            by_cases c : lvR r = v
            · rw [same r r0 r1 c (by omega)]; exact hp r r0 r1 (by omega)
            · exact hi r r0 r1 (by omega)) (fun r r0 r1 hl => hp r r0 r1 (by omega))
          refine ⟨M2, ?_, b2, b3⟩
          rw [L_X11_laysEntries_27]
          exact ie (by omega) (it rfl (bc ld (it q b1)))
        · have hin : 2 * v ≤ bA g v 0 ∧ bA g v 0 < ER v := by
            rcases lv_cs (g := g) (l := v) (by omega) hv with ⟨a1, a2, a3, -⟩ | ⟨a1, a2, a3, -⟩ | ⟨a1, a2, a3, -⟩ <;> first | (exact absurd ‹_› q) | omega
          have hl0 := lvR_of (l := v) (by omega) hin
          obtain ⟨K2, c1, c2, c3⟩ := r_laysMarks gK hv hst (l := v) (by omega) rfl q (hp _ (by omega) (by omega) (by omega)) (fun x x0 x1 => hi x (by omega) (by omega) (by rw [lvR_of (l := v + 1) (by omega) ⟨x0, x1⟩]; omega))
          have lE : ∀ r, 0 ≤ r → r < 19 → (E g r).length ≤ 700 := by
            intro r r0 r1
            have a := E_len (r := r) hv hst.1 ⟨r0, r1⟩
            have b : rmE (lvR r).toNat ≤ 328 := by unfold rmE; split <;> omega
            omega
          obtain ⟨M2, b1, b2, b3⟩ := ih n (v + -1) K2 (by omega) (by omega) (by omega) (fun y hy => by rw [c3.1 y hy, hf y hy]) (fun r r0 r1 hl => by
            by_cases c : r = bA g v 0
            · rw [c]; exact c2
            · refine enR_cg (lE r r0 r1) c ?_ c3
              by_cases c4 : lvR r = v
              · rw [same r r0 r1 c4 c]; exact hp r r0 r1 (by omega)
              · exact hi r r0 r1 (by omega)) (fun r r0 r1 hl => enR_cg (by have := eP_len (r := r) hv ⟨r0, r1⟩; omega) (fun z => by rw [z] at hl; omega) (hp r r0 r1 (by omega)) c3)
          refine ⟨M2, ?_, b2, b3⟩
          rw [L_X11_laysEntries_27]
          exact ie (by omega) (it rfl (bc ld (ie q (bc ld (si (by omega) (bc c1 b1))))))
    obtain ⟨M1, b1, b2, b3⟩ := lev 8 20000 7 N (by omega) (by omega) (by omega) a3 (fun r r0 r1 hl => by
      obtain ⟨x1, x2, x3⟩ := lv_ex (r := r) ⟨r0, r1⟩
      have h8 : lvR r = 8 := by omega
      have : E g r = eP g r := by
        unfold eP
        rw [h8] at x2 x3
        by_cases c : g (7619 + r) = 2
        · rw [if_pos c]; exact E_tn (by omega) ⟨x2, x3⟩ c (Or.inl rfl)
        · rw [if_neg c]; exact E_no c
      rw [this]; exact a2 r r0 r1) (fun r r0 r1 _ => a2 r r0 r1)
    exact ⟨M1, start M1 b1, fun r r0 r1 => by unfold eA; rw [if_pos rfl]; exact b2 r r0 r1, fr M1 b3⟩
  · refine ⟨N, start N ?_, fun r r0 r1 => by unfold eA; rw [if_neg (by omega)]; exact a2 r r0 r1, fr N a3⟩
    rw [L_X11_laysEntries_27]
    exact ie (by omega) (ie (by omega) rfl)
end ENT6
