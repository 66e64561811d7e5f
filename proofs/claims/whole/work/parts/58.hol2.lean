/-! what each key is found by: the class's holdings, the reference's rows of keys -/
section HOL2
theorem ordL_len {g : Int → Int} (hv : okV g) : (ordL g).length ≤ 18 := by
  have key : ∀ d : Nat, d ≤ 9 → (ordF g d).length ≤ 2 * d := by
    intro d
    induction d with
    | zero => intro _; simp [ordF]
    | succ d ih =>
      intro hd
      have := ih (by omega)
      have h1 := lvL_len (l := 8 - d) (by omega) hv
      have h2 := lv_cs (l := 8 - d) (by omega) hv
      rw [ordF, List.length_append]
      omega
  exact key 9 (by omega)
theorem ordL_mem {g : Int → Int} (hv : okV g) : ∀ r ∈ ordL g, (0 ≤ r ∧ r < 19) ∧ g (7619 + r) = 2 := ordF_mem hv 9 (by omega)
theorem c_valueOf {h : Nat} {M : fMem} {g : Int → Int} {κ : Int} (hv : RelV h M g) (ho : okV g) (hκ : 0 ≤ κ ∧ κ < 200) (ha : ordAt h M 0 (ordL g)) : f_X7_valueOf h κ M = some (hV g κ (ordL g)) := by
  have hl := ordL_len ho
  unfold f_X7_valueOf f_X7_firstWith
  refine bc (c_firstWith hv ho hκ (ordL g) 20000 0 (ordL_mem ho) ha (by omega) (by omega) (by omega)) ?_
  rcases hF_cs (g := g) (κ := κ) (ordL g) with ⟨a, b⟩ | ⟨a, b, c⟩
  · rw [a, b]; exact it rfl rfl
  · obtain ⟨d1, d2⟩ := ordL_mem ho _ a
    have rk := (hv.2 _ d1.1 d1.2 d2).1
    refine ie (by omega) (si d1 (bc (c_placeOf rk (ho.1 _ d1.1 d1.2 d2) hκ) ?_))
    rcases pl_cs g (r := hF g κ (ordL g)) (κ := κ) rk.2.1.1 with ⟨z, -⟩ | ⟨z1, z2, -⟩
    · exact absurd z b
    · refine bc (k_valueAt rk ⟨z1, z2⟩) ?_
      rw [c]
/-- fill -/
theorem c_fill {p : Nat} {a : Int} {k : fMem → Option fMem} {n : Int} (hn : Ln p = n) : ∀ (d m : Nat) (v : Int) (M : fMem), 0 ≤ v → v + d = n → d < m → ∃ M1, L_AF_fill_5 k m p a v n M = k M1 ∧ (∀ j, M1 p j = if v ≤ j ∧ j < n then a else M p j) ∧ ∀ x, x ≠ p → M1 x = M x := by
  intro d
  induction d with
  | zero =>
    intro m v M v0 v1 hm
    obtain ⟨m, rfl⟩ : ∃ m', m = m' + 1 := ⟨m - 1, by omega⟩
    refine ⟨M, ?_, fun j => ?_, fun _ _ => rfl⟩
    · rw [L_AF_fill_5]; exact it (by omega) rfl
    · rw [if_neg (by omega)]
  | succ d ih =>
    intro m v M v0 v1 hm
    obtain ⟨m, rfl⟩ : ∃ m', m = m' + 1 := ⟨m - 1, by omega⟩
    obtain ⟨M1, a1, a2, a3⟩ := ih m (v + 1) (mset M p v a) (by omega) (by omega) (by omega)
    refine ⟨M1, ?_, fun j => ?_, fun x hx => by rw [a3 x hx, mset_ne hx]⟩
    · rw [L_AF_fill_5]; exact ie (by omega) (si (by omega) (bs fun N e => by subst e; exact a1))
    · rw [a2 j]
      by_cases q : j = v
      · subst q; rw [if_neg (by omega), if_pos (by omega), mset_self]
      · rw [mset_slot q]
        by_cases c : v ≤ j ∧ j < n
        · rw [if_pos c, if_pos (by omega)]
        · rw [if_neg c, if_neg (by omega)]
/-- the class's holdings o of a shelf -/
def holR (o : Nat) (M : fMem) (g : Int → Int) (xs : List Int) : Prop := (∀ κ, 0 ≤ κ → κ < 200 → M (o + 1) κ = hV g κ xs ∧ M (o + 2) κ = hC g κ xs) ∧ M o 2 = hT g xs
theorem c_readRow {o p : Nat} {M : fMem} {g : Int → Int} {r : Int} {xs : List Int} (h : holR o M g xs) (hk : rowK p M g r) (ho : okR g r) (hp : p + 2 < o ∨ o + 2 < p) (hl : xs.length < 100) (ht : 0 ≤ hT g xs ∧ hT g xs ≤ 100000) : ∃ M1, f_X2_readRow o p M = some M1 ∧ holR o M1 g (r :: xs) ∧ ∀ x, x ≠ o → x ≠ o + 1 → x ≠ o + 2 → M1 x = M x := by
  have hrm := rmR_bd r
  have hsz := hk.2.1
  have up := ho.2.2.2.2.2
  have rgk := ho.2.2.2.2.1
  have key : ∀ (d m : Nat) (j : Int) (M1 : fMem), 0 ≤ j → j + d = g (7600 + r) → d < m → (∀ x, x ≠ o → x ≠ o + 1 → x ≠ o + 2 → M1 x = M x) → M1 o 2 = hT g xs + j →
      (∀ κ, 0 ≤ κ → κ < 200 → M1 (o + 1) κ = (if plc g r κ j.toNat = -1 then hV g κ xs else g (3800 + 200 * r + plc g r κ j.toNat)) ∧ M1 (o + 2) κ = (if plc g r κ j.toNat = -1 then 0 else 1) + hC g κ xs) →
      ∃ M2, L_X2_readRow_2 o (fun M_12 => some M_12) m p j M1 = some M2 ∧ holR o M2 g (r :: xs) ∧ ∀ x, x ≠ o → x ≠ o + 1 → x ≠ o + 2 → M2 x = M x := by
    intro d
    induction d with
    | zero =>
      intro m j M1 j0 j1 hm fr t1 hh
      obtain ⟨m, rfl⟩ : ∃ m', m = m' + 1 := ⟨m - 1, by omega⟩
      have ej : j = g (7600 + r) := by omega
      refine ⟨M1, ?_, ⟨fun κ k0 k1 => ?_, ?_⟩, fr⟩
      · rw [L_X2_readRow_2, fr p (by omega) (by omega) (by omega), hk.1]; exact it (by omega) rfl
      · rw [hV, hC]
        have := hh κ k0 k1
        rw [ej] at this
        exact this
      · rw [t1, hT]; omega
    | succ d ih =>
      intro m j M1 j0 j1 hm fr t1 hh
      obtain ⟨m, rfl⟩ : ∃ m', m = m' + 1 := ⟨m - 1, by omega⟩
      have hk1 : rowK p M1 g r := ⟨by rw [fr p (by omega) (by omega) (by omega)]; exact hk.1, hk.2.1, hk.2.2.1, fun i i0 i1 => by rw [fr (p + 1) (by omega) (by omega) (by omega), fr (p + 2) (by omega) (by omega) (by omega)]; exact hk.2.2.2 i i0 i1⟩
      have ky := k_keyAt (i := j) hk1 j0
      rw [if_neg (by omega)] at ky
      have kr := rgk j j0 (by omega)
      have vy := k_valueAt (i := j) hk1 ⟨j0, by omega⟩
      have isk : f_X10_isKey (g (200 * r + j)) M1 = some 1 := by unfold f_X10_isKey; exact ie (by omega) (ie (by omega) rfl)
      generalize hK : g (200 * r + j) = K at *
      have no : plc g r K j.toNat = -1 := by
        rcases plc_cs g r K j.toNat with z | ⟨z1, z2, z3⟩
        · exact z.1
        · exfalso
          have := up (plc g r K j.toNat) j z1 (by omega) (by omega)
          omega
      obtain ⟨q1, q2⟩ := hh K kr.1 kr.2.1
      rw [no, if_pos rfl] at q2
      have hcb := hC_bd g K xs
      have stp : ∀ κ, plc g r κ (j + 1).toNat = if κ = K then j else plc g r κ j.toNat := by
        intro κ
        rw [show (j + 1).toNat = j.toNat + 1 by omega, plc, show ((j.toNat : Nat) : Int) = j by omega, hK]
        by_cases c : κ = K
        · rw [if_pos c.symm, if_pos c]
        · rw [if_neg (fun z => c z.symm), if_neg c]
      obtain ⟨M2, b1, b2, b3⟩ := ih m (j + 1) (mset (mset (mset M1 (o + 1) K (g (3800 + 200 * r + j))) (o + 2) K (0 + hC g K xs + 1)) o 2 (hT g xs + j + 1)) (by omega) (by omega) (by omega) (fun x x1 x2 x3 => by rw [mset_ne x1, mset_ne x3, mset_ne x2, fr x x1 x2 x3]) (by rw [mset_self]; omega) (fun κ k0 k1 => by
        rw [stp κ]
        have oA : mset (mset (mset M1 (o + 1) K (g (3800 + 200 * r + j))) (o + 2) K (0 + hC g K xs + 1)) o 2 (hT g xs + j + 1) (o + 1) = us (M1 (o + 1)) K (g (3800 + 200 * r + j)) := by
          rw [mset_ne (k := o) (by omega), mset_ne (k := o + 2) (by omega), mset_at]
        have oB : mset (mset (mset M1 (o + 1) K (g (3800 + 200 * r + j))) (o + 2) K (0 + hC g K xs + 1)) o 2 (hT g xs + j + 1) (o + 2) = us (M1 (o + 2)) K (0 + hC g K xs + 1) := by
          rw [mset_ne (k := o) (by omega), mset_at, mset_ne (k := o + 1) (by omega)]
        rw [oA, oB]
        by_cases c : κ = K
        · subst c
          rw [us_eq, us_eq, if_pos rfl, if_neg (by omega), if_neg (by omega)]
          exact ⟨rfl, by omega⟩
        · rw [us_ne c, us_ne c, if_neg c]
          exact hh κ k0 k1)
      refine ⟨M2, ?_, b2, b3⟩
      rw [L_X2_readRow_2, fr p (by omega) (by omega) (by omega), hk.1]
      refine ie (by omega) (bc ky (bc isk (ie (by omega) (bc vy (si (by omega) (bs fun N e => ?_))))))
      have z2 : N (o + 2) K = 0 + hC g K xs := by rw [e, mset_ne (by omega), q2]
      rw [z2]
      refine si (by omega) (bs fun N2 e2 => ?_)
      have z3 : N2 o 2 = hT g xs + j := by rw [e2, mset_ne (by omega), e, mset_ne (by omega), t1]
      rw [z3]
      refine si (by omega) (bs fun N3 e3 => ?_)
      rw [e3, e2, e]
      exact b1
  obtain ⟨M2, a, b, c⟩ := key (g (7600 + r)).toNat 20000 0 M (by omega) (by omega) (by omega) (fun _ _ _ _ => rfl) (by rw [h.2]; omega) (fun κ k0 k1 => by
    have : plc g r κ (0 : Int).toNat = -1 := rfl
    rw [this, if_pos rfl, if_pos rfl]
    have := h.1 κ k0 k1
    exact ⟨this.1, by rw [this.2]; omega⟩)
  exact ⟨M2, a, b, c⟩
theorem hT_bd {g : Int → Int} : ∀ xs : List Int, (∀ r ∈ xs, 0 ≤ g (7600 + r) ∧ g (7600 + r) ≤ 200) → 0 ≤ hT g xs ∧ hT g xs ≤ 200 * xs.length := by
  intro xs
  induction xs with
  | nil => intro _; simp [hT]
  | cons r xs ih =>
    intro h
    have a := h r List.mem_cons_self
    have b := ih (fun x hx => h x (List.mem_cons_of_mem _ hx))
    rw [hT]; simp only [List.length_cons]; push_cast; omega
/-- the class reads a shelf: from the last row back -/
theorem c_readL {o h : Nat} {M : fMem} {g : Int → Int} {L : List Int} (hv : RelV h M g) (ho : okV g) (hm : ∀ r ∈ L, (0 ≤ r ∧ r < 19) ∧ g (7619 + r) = 2) (ha : ordAt h M 0 L) (hL : L.length ≤ 19) (hoh : o + 2 < h ∨ h + 60 ≤ o) :
    ∀ (ys xs : List Int) (n : Nat) (M1 : fMem), L = ys.reverse ++ xs → ys.length < n → holR o M1 g xs → (∀ x, x ≠ o → x ≠ o + 1 → x ≠ o + 2 → M1 x = M x) → ∃ M2, L_X2_read_28 o (fun M_15 => some M_15) n h (ys.length - 1) M1 = some M2 ∧ holR o M2 g L ∧ ∀ x, x ≠ o → x ≠ o + 1 → x ≠ o + 2 → M2 x = M x := by
  intro ys
  induction ys with
  | nil =>
    intro xs n M1 e hn hh fr
    obtain ⟨n, rfl⟩ : ∃ n', n = n' + 1 := ⟨n - 1, by omega⟩
    refine ⟨M1, ?_, by rw [e]; simpa using hh, fr⟩
    rw [L_X2_read_28]; exact it (by simp) rfl
  | cons y ys ih =>
    intro xs n M1 e hn hh fr
    simp only [List.length_cons] at hn
    obtain ⟨n, rfl⟩ : ∃ n', n = n' + 1 := ⟨n - 1, by omega⟩
    have e2 : L = ys.reverse ++ (y :: xs) := by rw [e]; simp
    have hy := hm y (by rw [e2]; simp)
    have hlen : L.length = ys.length + (xs.length + 1) := by rw [e2]; simp
    have pos : M (h + 2) (ys.length : Int) = y := by
      have := ha.2 ys.length y (by rw [e2]; simp)
      rwa [Int.zero_add] at this
    have rk := (hv.2 y hy.1.1 hy.1.2 hy.2).1
    have rk1 : rowK (h + 3 * y.toNat + 3) M1 g y := ⟨by rw [fr _ (by omega) (by omega) (by omega)]; exact rk.1, rk.2.1, rk.2.2.1, fun i i0 i1 => by rw [fr _ (by omega) (by omega) (by omega), fr _ (by omega) (by omega) (by omega)]; exact rk.2.2.2 i i0 i1⟩
    have hb := hT_bd (g := g) xs (fun r hr => by
      have hq := hm r (by rw [e2]; simp [hr])
      have := (ho.1 r hq.1.1 hq.1.2 hq.2).2.1
      have := rmR_bd r
      omega)
    obtain ⟨M2, b1, b2, b3⟩ := c_readRow hh rk1 (ho.1 y hy.1.1 hy.1.2 hy.2) (by omega) (by omega) (by omega)
    obtain ⟨M3, d1, d2, d3⟩ := ih (y :: xs) n M2 e2 (by omega) b2 (fun x x1 x2 x3 => by rw [b3 x x1 x2 x3, fr x x1 x2 x3])
    refine ⟨M3, ?_, d2, d3⟩
    rw [L_X2_read_28]
    simp only [List.length_cons]
    rw [show (((ys.length + 1 : Nat) : Int) - 1) = (ys.length : Int) by push_cast; omega]
    rw [fr (h + 2) (by omega) (by omega) (by omega), pos]
    refine ie (by omega) (si (by omega) (si hy.1 (bc b1 ?_)))
    rw [show ((ys.length : Int) + -1) = (ys.length : Int) - 1 by omega]
    exact d1
theorem c_read {o h : Nat} {M : fMem} {g : Int → Int} (hv : RelV h M g) (ho : okV g) (ho2 : Ln (o + 1) = 200 ∧ Ln (o + 2) = 200) (hoh : o + 2 < h ∨ h + 60 ≤ o) : ∃ M1, f_X2_read o h M = some M1 ∧ holR o M1 g (ordL g) ∧ ordAt h M1 0 (ordL g) ∧ (∀ j, j ≠ 2 → M1 h j = M h j) ∧ ∀ x, x ≠ o → x ≠ o + 1 → x ≠ o + 2 → x ≠ h → x ≠ h + 2 → M1 x = M x := by
  have hl := ordL_len ho
  obtain ⟨N1, a1, a2, a3⟩ := c_fill (p := o + 1) (a := -1) (k := fun M_4 => some M_4) ho2.1 200 20000 0 M (by omega) (by omega) (by omega)
  obtain ⟨N2, b1, b2, b3⟩ := c_fill (p := o + 2) (a := 0) (k := fun M_4 => some M_4) ho2.2 200 20000 0 N1 (by omega) (by omega) (by omega)
  have hfr : ∀ x, x ≠ o → x ≠ o + 1 → x ≠ o + 2 → mset N2 o 2 0 x = M x := fun x x1 x2 x3 => by rw [mset_ne x1, b3 x x3, a3 x x2]
  have hv1 : RelV h (mset N2 o 2 0) g := RelV_cg hv (fun x x1 x2 => hfr x (by omega) (by omega) (by omega))
  obtain ⟨N3, c1, c2, c3⟩ := c_arrange hv1.1 ho
  have hv2 : RelV h N3 g := RelV_cg hv1 (fun x x1 x2 => c3.2 x (by omega) (by omega))
  have h0 : holR o N3 g [] := by
    refine ⟨fun κ k0 k1 => ?_, ?_⟩
    · rw [c3.2 _ (by omega) (by omega), c3.2 _ (by omega) (by omega), mset_ne (by omega), mset_ne (by omega), b2 κ, if_pos (by omega), b3 _ (by omega), a2 κ, if_pos (by omega)]
      exact ⟨rfl, rfl⟩
    · rw [c3.2 _ (by omega) (by omega), mset_self]; rfl
  obtain ⟨M2, d1, d2, d3⟩ := c_readL (o := o) hv2 ho (ordL_mem ho) c2 (by omega) hoh (ordL g).reverse [] 20000 N3 (by simp) (by simp; omega) h0 (fun _ _ _ _ => rfl)
  refine ⟨M2, ?_, d2, ?_, fun j hj => ?_, fun x x1 x2 x3 x4 x5 => ?_⟩
  · unfold f_X2_read f_AF_fill
    rw [ho2.1, a1]
    refine bs fun x1 e1 => ?_
    subst e1
    rw [ho2.2, b1]
    refine bs fun x2 e2 => ?_
    subst e2
    refine bs fun x3 e3 => ?_
    subst e3
    refine bc c1 (si (by dsimp only; omega) ?_)
    rw [List.length_reverse] at d1
    exact d1
  · refine ⟨?_, fun j x hx => ?_⟩
    · rw [d3 h (by omega) (by omega) (by omega)]; exact c2.1
    · rw [d3 (h + 2) (by omega) (by omega) (by omega)]; exact c2.2 j x hx
  · rw [d3 h (by omega) (by omega) (by omega), c3.1 j hj, hfr h (by omega) (by omega) (by omega)]
  · rw [d3 x x1 x2 x3, c3.2 x x4 x5, hfr x x1 x2 x3]
end HOL2
