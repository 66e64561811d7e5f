/-! the reference's rows of keys -/
section HOL3
theorem r_shutMany {M : fMem} {l : Int} (h : 0 ≤ l ∧ l ≤ 8) : f_X11_shutMany l M = some (shM (M 419) l) := by
  have := e_shutMany (M := M) (g := M 419) h; rwa [os_id] at this
theorem r_byAge {M : fMem} {l a : Int} (h : 0 ≤ l ∧ l ≤ 8) : f_X11_byAge l a M = some (bA (M 419) l a) := by
  have := e_byAge (M := M) (g := M 419) (a := a) h; rwa [os_id] at this
theorem r_keyAt {M : fMem} {r j : Int} (hr : 0 ≤ r ∧ r < 19) (hj : 0 ≤ j ∧ j < 200) : f_X11_keyAt r j M = some (M 419 (200 * r + j)) := by
  have := e_keyAt (M := M) (g := M 419) hr hj; rwa [os_id] at this
theorem r_valueAt {M : fMem} {r j : Int} (hr : 0 ≤ r ∧ r < 19) (hj : 0 ≤ j ∧ j < 200) : f_X11_valueAt r j M = some (M 419 (3800 + 200 * r + j)) := by
  have := e_valueAt (M := M) (g := M 419) hr hj; rwa [os_id] at this
theorem r_isShut {M : fMem} {r : Int} (hr : 0 ≤ r ∧ r < 19) : f_X11_isShut r M = some (b1 (M 419 (7619 + r) = 2)) := by
  have := e_isShut (M := M) (g := M 419) hr; rwa [os_id] at this
def keyR (M : fMem) (g : Int → Int) (xs : List Int) : Prop := ∀ κ, 0 ≤ κ → κ < 200 → M 423 κ = hF g κ xs ∧ M 422 κ = hV g κ xs ∧ M 424 κ = hC g κ xs
theorem hF_app {g : Int → Int} {κ r : Int} : ∀ xs : List Int, (∀ x ∈ xs, 0 ≤ x) → hF g κ (xs ++ [r]) = (if hF g κ xs = -1 ∧ pl g r κ ≠ -1 then r else hF g κ xs) ∧ hV g κ (xs ++ [r]) = (if hF g κ xs = -1 ∧ pl g r κ ≠ -1 then g (3800 + 200 * r + pl g r κ) else hV g κ xs) ∧ hC g κ (xs ++ [r]) = hC g κ xs + (if pl g r κ = -1 then 0 else 1) := by
  intro xs
  induction xs with
  | nil =>
    intro _
    simp only [List.nil_append, hF, hV, hC]
    by_cases q : pl g r κ = -1 <;> simp [q]
  | cons x xs ih =>
    intro hp
    obtain ⟨i1, i2, i3⟩ := ih (fun y hy => hp y (List.mem_cons_of_mem _ hy))
    have hx := hp x List.mem_cons_self
    simp only [List.cons_append, hF, hV, hC]
    by_cases q : pl g x κ = -1
    · simp only [if_pos q]; rw [i1, i2, i3]; exact ⟨rfl, rfl, by omega⟩
    · simp only [if_neg q]
      rw [if_neg (fun z => by omega), if_neg (fun z => by omega), i3]; exact ⟨rfl, rfl, by omega⟩
theorem r_laysRow {M : fMem} {g : Int → Int} {r : Int} {xs : List Int} (hg : M 419 = g) (h : keyR M g xs) (hr : 0 ≤ r ∧ r < 19) (ho : okR g r) (hp : ∀ x ∈ xs, 0 ≤ x) (hl : xs.length < 100) : ∃ M1, f_X11_laysRow r M = some M1 ∧ keyR M1 g (xs ++ [r]) ∧ ∀ x, x ≠ 422 → x ≠ 423 → x ≠ 424 → M1 x = M x := by
  have hrm := rmR_bd r
  have hsz := ho.2.1
  have up := ho.2.2.2.2.2
  have rgk := ho.2.2.2.2.1
  have key : ∀ (d m : Nat) (j : Int) (M1 : fMem), 0 ≤ j → j + d = g (7600 + r) → d < m → (∀ x, x ≠ 422 → x ≠ 423 → x ≠ 424 → M1 x = M x) →
      (∀ κ, 0 ≤ κ → κ < 200 → M1 423 κ = (if hF g κ xs = -1 ∧ plc g r κ j.toNat ≠ -1 then r else hF g κ xs) ∧ M1 422 κ = (if hF g κ xs = -1 ∧ plc g r κ j.toNat ≠ -1 then g (3800 + 200 * r + plc g r κ j.toNat) else hV g κ xs) ∧ M1 424 κ = hC g κ xs + (if plc g r κ j.toNat = -1 then 0 else 1)) →
      ∃ M2, L_X11_laysRow_2 (fun M_13 => some M_13) m r j M1 = some M2 ∧ keyR M2 g (xs ++ [r]) ∧ ∀ x, x ≠ 422 → x ≠ 423 → x ≠ 424 → M2 x = M x := by
    intro d
    induction d with
    | zero =>
      intro m j M1 j0 j1 hm fr hh
      obtain ⟨m, rfl⟩ : ∃ m', m = m' + 1 := ⟨m - 1, by omega⟩
      have ej : j = g (7600 + r) := by omega
      refine ⟨M1, ?_, fun κ k0 k1 => ?_, fr⟩
      · rw [L_X11_laysRow_2, fr 419 (by omega) (by omega) (by omega), hg]; exact si (by omega) (it (by omega) rfl)
      · obtain ⟨i1, i2, i3⟩ := hF_app (g := g) (κ := κ) (r := r) xs hp
        have := hh κ k0 k1
        rw [ej] at this
        rw [i1, i2, i3]
        exact this
    | succ d ih =>
      intro m j M1 j0 j1 hm fr hh
      obtain ⟨m, rfl⟩ : ∃ m', m = m' + 1 := ⟨m - 1, by omega⟩
      have g1 : M1 419 = g := by rw [fr 419 (by omega) (by omega) (by omega), hg]
      have ky := r_keyAt (M := M1) (j := j) hr ⟨j0, by omega⟩
      rw [g1] at ky
      have kr := rgk j j0 (by omega)
      generalize hK : g (200 * r + j) = K at *
      have no : plc g r K j.toNat = -1 := by
        rcases plc_cs g r K j.toNat with z | ⟨z1, z2, z3⟩
        · exact z.1
        · exfalso
          have := up (plc g r K j.toNat) j z1 (by omega) (by omega)
          omega
      obtain ⟨q1, q2, q3⟩ := hh K kr.1 kr.2.1
      rw [no] at q1 q2 q3
      rw [if_neg (fun z => z.2 rfl)] at q1 q2
      rw [if_pos rfl, Int.add_zero] at q3
      have hcb := hC_bd g K xs
      have stp : ∀ κ, plc g r κ (j + 1).toNat = if κ = K then j else plc g r κ j.toNat := by
        intro κ
        rw [show (j + 1).toNat = j.toNat + 1 by omega, plc, show ((j.toNat : Nat) : Int) = j by omega, hK]
        by_cases c : κ = K
        · rw [if_pos c.symm, if_pos c]
        · rw [if_neg (fun z => c z.symm), if_neg c]
      rw [L_X11_laysRow_2, g1]
      by_cases hq : hF g K xs = -1
      · obtain ⟨M2, b1, b2, b3⟩ := ih m (j + 1) (mset (mset (mset M1 423 K r) 422 K (g (3800 + 200 * r + j))) 424 K (hC g K xs + 1)) (by omega) (by omega) (by omega) (fun x x1 x2 x3 => by rw [mset_ne x3, mset_ne x1, mset_ne x2, fr x x1 x2 x3]) (fun κ k0 k1 => by
          rw [stp κ]
          have oA : mset (mset (mset M1 423 K r) 422 K (g (3800 + 200 * r + j))) 424 K (hC g K xs + 1) 423 = us (M1 423) K r := by
            rw [mset_ne (k := 424) (by omega), mset_ne (k := 422) (by omega), mset_at]
          have oB : mset (mset (mset M1 423 K r) 422 K (g (3800 + 200 * r + j))) 424 K (hC g K xs + 1) 422 = us (M1 422) K (g (3800 + 200 * r + j)) := by
            rw [mset_ne (k := 424) (by omega), mset_at, mset_ne (k := 423) (by omega)]
          have oC : mset (mset (mset M1 423 K r) 422 K (g (3800 + 200 * r + j))) 424 K (hC g K xs + 1) 424 = us (M1 424) K (hC g K xs + 1) := by
            rw [mset_at, mset_ne (k := 422) (by omega), mset_ne (k := 423) (by omega)]
          rw [oA, oB, oC]
          by_cases c : κ = K
          · subst c
            rw [us_eq, us_eq, us_eq, if_pos rfl, if_pos ⟨hq, by omega⟩, if_pos ⟨hq, by omega⟩, if_neg (by omega)]
            exact ⟨rfl, rfl, rfl⟩
          · rw [us_ne c, us_ne c, us_ne c, if_neg c]
            exact hh κ k0 k1)
        refine ⟨M2, ?_, b2, b3⟩
        refine si (by omega) (ie (by omega) (bc ky (si (by omega) (it (by rw [q1]; exact hq) (bs fun N e => ?_)))))
        have gN : N 419 = g := by rw [e, mset_ne (by omega), g1]
        have vy := r_valueAt (M := N) (j := j) hr ⟨j0, by omega⟩
        rw [gN] at vy
        refine bc vy (bs fun N2 e2 => ?_)
        have z3 : N2 424 K = hC g K xs := by rw [e2, mset_ne (by omega), e, mset_ne (by omega), q3]
        rw [z3]
        refine si (by omega) (bs fun N3 e3 => ?_)
        rw [e3, e2, e]
        exact b1
      · obtain ⟨M2, b1, b2, b3⟩ := ih m (j + 1) (mset M1 424 K (hC g K xs + 1)) (by omega) (by omega) (by omega) (fun x x1 x2 x3 => by rw [mset_ne x3, fr x x1 x2 x3]) (fun κ k0 k1 => by
          rw [stp κ, mset_ne (k := 424) (a := 423) (by omega), mset_ne (k := 424) (a := 422) (by omega), mset_at]
          by_cases c : κ = K
          · subst c
            rw [us_eq, if_pos rfl, if_neg (fun z => hq z.1), if_neg (fun z => hq z.1), if_neg (by omega)]
            exact ⟨q1, q2, rfl⟩
          · rw [us_ne c, if_neg c]
            exact hh κ k0 k1)
        refine ⟨M2, ?_, b2, b3⟩
        refine si (by omega) (ie (by omega) (bc ky (si (by omega) (ie (by rw [q1]; exact hq) ?_))))
        rw [q3]
        refine si (by omega) (bs fun N3 e3 => ?_)
        rw [e3]
        exact b1
  obtain ⟨M2, a, b, c⟩ := key (g (7600 + r)).toNat 20000 0 M (by omega) (by omega) (by omega) (fun _ _ _ _ => rfl) (fun κ k0 k1 => by
    have : plc g r κ (0 : Int).toNat = -1 := rfl
    rw [this, if_neg (fun z => z.2 rfl), if_neg (fun z => z.2 rfl), if_pos rfl, Int.add_zero]
    exact h κ k0 k1)
  exact ⟨M2, a, b, c⟩
theorem r_lkLv {M : fMem} {g : Int → Int} {l : Int} {xs : List Int} {k : Int → fMem → Option fMem} {m : Nat} (hg : M 419 = g) (h : keyR M g xs) (hl : 0 ≤ l ∧ l ≤ 8) (ho : okV g) (hp : ∀ x ∈ xs, 0 ≤ x) (hlen : xs.length < 90) : ∃ M1, L_X11_laysKeys_46 k (m + 3) l 0 M = k l M1 ∧ keyR M1 g (xs ++ lvL g l) ∧ ∀ x, x ≠ 422 → x ≠ 423 → x ≠ 424 → M1 x = M x := by
  have hE : ER l ≤ 19 := by unfold ER; split <;> omega
  rw [L_X11_laysKeys_46, r_shutMany hl, hg]
  unfold lvL
  rcases lv_cs hl ho with ⟨a1, -⟩ | ⟨a1, a2, a3, a4, -⟩ | ⟨a1, a2, a3, a4, a5, a6, -⟩
  · refine ⟨M, ?_, ?_, fun _ _ _ _ => rfl⟩
    · rw [a1]; exact bs fun x e => by subst e; exact it (by omega) rfl
    · rw [if_pos a1, List.append_nil]; exact h
  · obtain ⟨M1, b1, b2, b3⟩ := r_laysRow hg h (r := bA g l 0) (by omega) (ho.1 _ (by omega) (by omega) a4) hp (by omega)
    have g1 : M1 419 = g := by rw [b3 _ (by omega) (by omega) (by omega), hg]
    refine ⟨M1, ?_, ?_, b3⟩
    · rw [a1]
      refine bs fun x e => ?_
      subst e
      refine ie (by omega) (bc (r_byAge hl) ?_)
      rw [hg]
      refine bc b1 ?_
      rw [L_X11_laysKeys_46, r_shutMany hl, g1, a1]
      exact bs fun x e => by subst e; exact it (by omega) rfl
    · rw [if_neg (by omega), if_pos a1]; exact b2
  · obtain ⟨M1, b1, b2, b3⟩ := r_laysRow hg h (r := bA g l 0) (by omega) (ho.1 _ (by omega) (by omega) a5) hp (by omega)
    have g1 : M1 419 = g := by rw [b3 _ (by omega) (by omega) (by omega), hg]
    obtain ⟨M2, d1, d2, d3⟩ := r_laysRow g1 b2 (r := bA g l 1) (by omega) (ho.1 _ (by omega) (by omega) a6) (fun x hx => by
      rw [List.mem_append] at hx
      rcases hx with hx | hx
      · exact hp x hx
      · simp at hx; omega) (by simp; omega)
    have g2 : M2 419 = g := by rw [d3 _ (by omega) (by omega) (by omega), g1]
    refine ⟨M2, ?_, ?_, fun x x1 x2 x3 => by rw [d3 x x1 x2 x3, b3 x x1 x2 x3]⟩
    · rw [a1]
      refine bs fun x e => ?_
      subst e
      refine ie (by omega) (bc (r_byAge hl) ?_)
      rw [hg]
      refine bc b1 ?_
      rw [L_X11_laysKeys_46, r_shutMany hl, g1, a1]
      refine bs fun x e => ?_
      subst e
      refine ie (by omega) (bc (r_byAge hl) ?_)
      rw [g1]
      refine bc d1 ?_
      rw [L_X11_laysKeys_46, r_shutMany hl, g2, a1]
      exact bs fun x e => by subst e; exact it (by omega) rfl
    · rw [if_neg (by omega), if_neg (by omega)]
      rw [List.append_assoc] at d2
      exact d2
theorem r_lkAll {g : Int → Int} {k : fMem → Option fMem} (ho : okV g) : ∀ (d m : Nat) (M : fMem) (v : Int) (xs : List Int), M 419 = g → v + d = 9 → d < m → keyR M g xs → (∀ x ∈ xs, 0 ≤ x) → xs.length ≤ 2 * v → ∃ M1, L_X11_laysKeys_38 k m v M = k M1 ∧ keyR M1 g (xs ++ ordF g d) ∧ ∀ x, x ≠ 422 → x ≠ 423 → x ≠ 424 → M1 x = M x := by
  intro d
  induction d with
  | zero =>
    intro m M v xs hg h1 hm h hp hlen
    obtain ⟨m, rfl⟩ : ∃ m', m = m' + 1 := ⟨m - 1, by omega⟩
    refine ⟨M, ?_, by rw [ordF, List.append_nil]; exact h, fun _ _ _ _ => rfl⟩
    rw [L_X11_laysKeys_38]; exact it (by omega) rfl
  | succ d ih =>
    intro m M v xs hg h1 hm h hp hlen
    obtain ⟨m, rfl⟩ : ∃ m', m = m' + 1 := ⟨m - 1, by omega⟩
    have hl : 0 ≤ v ∧ v ≤ 8 := by omega
    obtain ⟨M1, a1, a2, a3⟩ := r_lkLv (m := 19997) (k := fun v1_13 M_13 => (if -2147483648 ≤ v1_13 + 1 ∧ v1_13 + 1 < 2147483648 then L_X11_laysKeys_38 k m (v1_13 + 1) M_13 else none)) hg h hl ho hp (by omega)
    have g1 : M1 419 = g := by rw [a3 _ (by omega) (by omega) (by omega), hg]
    have hll := lvL_len hl ho
    have hcs := lv_cs hl ho
    obtain ⟨M2, b1, b2, b3⟩ := ih m M1 (v + 1) (xs ++ lvL g v) g1 (by omega) (by omega) a2 (fun x hx => by
      rw [List.mem_append] at hx
      rcases hx with hx | hx
      · exact hp x hx
      · have := (lvL_mem hl ho hx).1; omega) (by rw [List.length_append]; omega)
    refine ⟨M2, ?_, ?_, fun x x1 x2 x3 => by rw [b3 x x1 x2 x3, a3 x x1 x2 x3]⟩
    · rw [L_X11_laysKeys_38]
      refine ie (by omega) ?_
      rw [a1, if_pos (by omega)]
      exact b1
    · rw [ordF, show (8 - (d : Int)) = v by omega, ← List.append_assoc]; exact b2
theorem r_laysKeys {M : fMem} (ho : okV (M 419)) : ∃ M1, f_X11_laysKeys M = some M1 ∧ keyR M1 (M 419) (ordL (M 419)) ∧ ∀ x, x ≠ 422 → x ≠ 423 → x ≠ 424 → M1 x = M x := by
  have key : ∀ (d m : Nat) (v : Int) (N : fMem) (k : fMem → Option fMem), 0 ≤ v → v + d = 200 → d < m → (∀ κ, 0 ≤ κ → κ < v → N 423 κ = -1 ∧ N 422 κ = -1 ∧ N 424 κ = 0) → (∀ x, x ≠ 422 → x ≠ 423 → x ≠ 424 → N x = M x) →
      ∃ M1, L_X11_laysKeys_2 k m v N = k M1 ∧ keyR M1 (M 419) [] ∧ ∀ x, x ≠ 422 → x ≠ 423 → x ≠ 424 → M1 x = M x := by
    intro d
    induction d with
    | zero =>
      intro m v N k v0 v1 hm hh fr
      obtain ⟨m, rfl⟩ : ∃ m', m = m' + 1 := ⟨m - 1, by omega⟩
      refine ⟨N, ?_, fun κ k0 k1 => hh κ k0 (by omega), fr⟩
      rw [L_X11_laysKeys_2]; exact it (by omega) rfl
    | succ d ih =>
      intro m v N k v0 v1 hm hh fr
      obtain ⟨m, rfl⟩ : ∃ m', m = m' + 1 := ⟨m - 1, by omega⟩
      obtain ⟨M1, a1, a2, a3⟩ := ih m (v + 1) (mset (mset (mset N 422 v (-1)) 423 v (-1)) 424 v 0) k (by omega) (by omega) (by omega) (fun κ k0 k1 => by
        have oA : mset (mset (mset N 422 v (-1)) 423 v (-1)) 424 v 0 423 = us (N 423) v (-1) := by rw [mset_ne (k := 424) (by omega), mset_at, mset_ne (k := 422) (by omega)]
        have oB : mset (mset (mset N 422 v (-1)) 423 v (-1)) 424 v 0 422 = us (N 422) v (-1) := by rw [mset_ne (k := 424) (by omega), mset_ne (k := 423) (by omega), mset_at]
        have oC : mset (mset (mset N 422 v (-1)) 423 v (-1)) 424 v 0 424 = us (N 424) v 0 := by rw [mset_at, mset_ne (k := 423) (by omega), mset_ne (k := 422) (by omega)]
        rw [oA, oB, oC]
        by_cases c : κ = v
        · subst c; rw [us_eq, us_eq, us_eq]; exact ⟨rfl, rfl, rfl⟩
        · rw [us_ne c, us_ne c, us_ne c]; exact hh κ k0 (by omega)) (fun x x1 x2 x3 => by rw [mset_ne x3, mset_ne x2, mset_ne x1, fr x x1 x2 x3])
      refine ⟨M1, ?_, a2, a3⟩
      rw [L_X11_laysKeys_2]
      refine ie (by omega) (si (by omega) (bs fun N1 e1 => bs fun N2 e2 => bs fun N3 e3 => ?_))
      rw [e3, e2, e1]; exact a1
  unfold f_X11_laysKeys
  obtain ⟨M1, a1, a2, a3⟩ := key 200 20000 0 M (fun M_6 => L_X11_laysKeys_38 (fun M_15 => some M_15) 20000 0 M_6) (by omega) (by omega) (by omega) (fun κ k0 k1 => by omega) (fun _ _ _ _ => rfl)
  obtain ⟨M2, b1, b2, b3⟩ := r_lkAll (k := fun M_15 => some M_15) ho 9 20000 M1 0 [] (a3 _ (by omega) (by omega) (by omega)) (by omega) (by omega) a2 (fun x hx => by simp at hx) (by simp)
  refine ⟨M2, by rw [a1, b1], by rw [List.nil_append] at b2; exact b2, fun x x1 x2 x3 => by rw [b3 x x1 x2 x3, a3 x x1 x2 x3]⟩
/-- sums over keys -/
def kS (f : Int → Int) : Int → Nat → Int
  | _, 0 => 0
  | v, d + 1 => f v + kS f (v + 1) d
theorem kS_cg {f f1 : Int → Int} : ∀ (d : Nat) (v : Int), (∀ j, v ≤ j → j < v + d → f j = f1 j) → kS f v d = kS f1 v d := by
  intro d
  induction d with
  | zero => intro v _; rfl
  | succ d ih => intro v h; rw [kS, kS, h v (by omega) (by omega), ih (v + 1) (fun j a b => h j (by omega) (by omega))]
theorem kS_bd {f : Int → Int} : ∀ (d : Nat) (v : Int), (∀ j, v ≤ j → j < v + d → 0 ≤ f j ∧ f j ≤ 1) → 0 ≤ kS f v d ∧ kS f v d ≤ d := by
  intro d
  induction d with
  | zero => intro v _; simp [kS]
  | succ d ih =>
    intro v h
    have a := h v (by omega) (by omega)
    have b := ih (v + 1) (fun j x y => h j (by omega) (by omega))
    rw [kS]; push_cast; omega
end HOL3
