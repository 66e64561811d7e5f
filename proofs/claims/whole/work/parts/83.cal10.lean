/-! marks, things, signs of a row; how many are ahead -/
section CAL10
theorem m3_nm : ∀ (n : Nat) (T Y Z : List En), T.length + Y.length + Z.length = n → okE 0 T → okE 1 Y → okE 2 Z → nmE (m3 n T Y Z) = nmE T + nmE Y + nmE Z := by
  intro n
  induction n with
  | zero =>
    intro T Y Z h _ _ _
    have a : T = [] := List.eq_nil_of_length_eq_zero (by omega)
    have b : Y = [] := List.eq_nil_of_length_eq_zero (by omega)
    have c : Z = [] := List.eq_nil_of_length_eq_zero (by omega)
    subst a; subst b; subst c
    simp [m3, nmE]
  | succ n ih =>
    intro T Y Z h hT hY hZ
    by_cases q : hk T ≤ hk Y ∧ hk T ≤ hk Z
    · cases T with
      | nil =>
        have b := hk_200 hY (by have := q.1; rw [hk_n] at this; exact this)
        have c := hk_200 hZ (by have := q.2; rw [hk_n] at this; exact this)
        subst b; subst c
        simp at h
      | cons t T =>
        rw [m3_T1 q, nmE, nmE, ih T Y Z (by simp only [List.length_cons] at h; omega) (okE_tl hT) hY hZ]; omega
    · by_cases q2 : hk Y ≤ hk Z
      · cases Y with
        | nil =>
          exfalso
          have c := hk_200 hZ (by rw [hk_n] at q2; exact q2)
          subst c
          apply q
          rw [hk_n]
          cases T with
          | nil => rw [hk_n]; omega
          | cons t T => have := hk_lt hT; omega
        | cons y Y =>
          rw [m3_Y1 q q2, nmE, ih T Y Z (by simp only [List.length_cons] at h; omega) hT (okE_tl hY) hZ]
          rw [nmE]; omega
      · cases Z with
        | nil =>
          exfalso
          apply q2
          rw [hk_n]
          cases Y with
          | nil => rw [hk_n]; omega
          | cons y Y => have := hk_lt hY; omega
        | cons z Z =>
          rw [m3_Z1 q q2, nmE, ih T Y Z (by simp only [List.length_cons] at h; omega) hT hY (okE_tl hZ)]
          rw [nmE]; omega
theorem nm_T (g : Int → Int) (r : Int) : ∀ (n : Nat) (j : Int), nmE (thg g r j n) = 0 := by
  intro n
  induction n with
  | zero => intro j; rfl
  | succ n ih => intro j; rw [thg, nmE, ih]; simp
theorem nm_mk {st k r : Int} {L : List En} (hst : 2 ≤ st) : ∀ (n : Nat) (p : Int), 0 ≤ p → nmE (mks st k r L p n) = n := by
  intro n
  induction n with
  | zero => intro p _; rfl
  | succ n ih => intro p hp; rw [mks, nmE, ih (p + st) (by omega), if_neg (by dsimp only; omega)]; push_cast; omega
theorem nm_E {g : Int → Int} {r : Int} (hv : okV g) (hst : 2 ≤ g 7740 ∧ g 7740 ≤ 8) (hr : 0 ≤ r ∧ r < 19) : nmE (E g r) = if g (7619 + r) = 2 then ((E g r).length : Int) - g (7600 + r) else 0 := by
  obtain ⟨x1, x2, x3⟩ := lv_ex hr
  by_cases h : g (7619 + r) = 2
  · rw [if_pos h]
    have ho := hv.1 r hr.1 hr.2 h
    have tl := eT_len (g := g) (r := r) ho.2.1.1
    by_cases hq : lvR r = 8 ∨ r ≠ bA g (lvR r) 0
    · rw [E_tn x1 ⟨x2, x3⟩ h hq, tl]
      unfold eT; rw [nm_T]; omega
    · have h8 : lvR r ≠ 8 := fun z => hq (Or.inl z)
      have hb : r = bA g (lvR r) 0 := Classical.byContradiction fun z => hq (Or.inr z)
      rw [E_ld hv (by omega) ⟨x2, x3⟩ h hb]
      have mk : ∀ k a, a = 0 ∨ a = 1 → okE (1 + k) (mkL (g 7740) k (bA g (lvR r + 1) a) (E g (bA g (lvR r + 1) a))) := by
        intro k a ha
        by_cases z : bA g (lvR r + 1) a = -1
        · unfold mkL; rw [if_pos z]; exact ⟨List.Pairwise.nil, fun e he => by simp at he⟩
        · have hE : ER (lvR r + 1) ≤ 19 := by unfold ER; split <;> omega
          have : 2 * (lvR r + 1) ≤ bA g (lvR r + 1) a ∧ bA g (lvR r + 1) a < ER (lvR r + 1) := by
            rcases lv_cs (g := g) (l := lvR r + 1) (by omega) hv with ⟨a1, a2, a3, -⟩ | ⟨a1, a2, a3, -⟩ | ⟨a1, a2, a3, -⟩ <;> rcases ha with rfl | rfl <;> first | (exact absurd ‹_› z) | omega
          have i := E_ok (r := bA g (lvR r + 1) a) hv hst.1 (Or.inr (by omega)) (fun w => absurd w z)
          exact mkL_ok hst.1 i.1 i.2
      have nl : ∀ k y L, nmE (mkL (g 7740) k y L) = (mkL (g 7740) k y L).length := by
        intro k y L
        unfold mkL
        split
        · rfl
        · rw [nm_mk hst.1 _ _ (by omega), mks_len]
      have w := (eW_spec ho (mk 0 0 (Or.inl rfl)) (mk 1 1 (Or.inr rfl))).2.2
      rw [w]
      unfold eW
      rw [m3_nm _ _ _ _ rfl (eT_ok ho) (mk 0 0 (Or.inl rfl)) (mk 1 1 (Or.inr rfl)), nl, nl]
      unfold eT at *
      rw [nm_T]; push_cast; omega
  · rw [if_neg h, E_no h]; rfl
/-- things of a level's shut rows -/
def tI (g : Int → Int) (l : Int) : Int := wR g (fun r => g (7600 + r)) (2 * l) + wR g (fun r => g (7600 + r)) (2 * l + 1) + (if l = 8 then wR g (fun r => g (7600 + r)) (2 * l + 2) else 0)
theorem wR_bd {g : Int → Int} {r : Int} (hv : okV g) (hr : 0 ≤ r ∧ r < 19) : 0 ≤ wR g (fun r => g (7600 + r)) r ∧ wR g (fun r => g (7600 + r)) r ≤ 200 := by
  unfold wR
  split
  · rename_i h
    have := (hv.1 r hr.1 hr.2 h).2.1
    have := rmR_bd r
    dsimp only; omega
  · omega
theorem tO_step {h : Nat} {M : fMem} {g : Int → Int} {k : Int → Option Int} {n : Nat} {l c v : Int} (hs : RelV h M g) (hv' : okV g) (hl : 0 ≤ l ∧ l ≤ 8) (hc : 0 ≤ c ∧ c < 10000) (hv : 0 ≤ v ∧ v < ER l) : L_X7_thingsOf_8 h M k (n + 1) l c v = L_X7_thingsOf_8 h M k n l (c + wR g (fun r => g (7600 + r)) v) (v + 1) := by
  have hv2 : v < 19 := by unfold ER at hv; split at hv <;> omega
  have hb := wR_bd (r := v) hv' (by omega)
  rw [L_X7_thingsOf_8]
  refine si (by omega) (ie (by omega) (si (by omega) ?_))
  have hq := (hs.1 v hv.1 hv2).1
  unfold f_X6_isShut
  by_cases q : g (7619 + v) = 2
  · have sz := (hs.2 v hv.1 hv2 q).1.1
    have e : wR g (fun r => g (7600 + r)) v = g (7600 + v) := by unfold wR; rw [if_pos q]
    rw [if_pos (hq.mpr q)]
    refine bs fun x ex => ?_
    subst ex
    rw [sz]
    rw [e] at hb ⊢
    exact ie (by omega) (si (by omega) rfl)
  · have e : wR g (fun r => g (7600 + r)) v = 0 := by unfold wR; rw [if_neg q]
    rw [if_neg (fun z => q (hq.mp z)), e]
    exact bs fun x ex => by subst ex; exact it rfl (si (by omega) rfl)
theorem tO_end {h : Nat} {M : fMem} {k : Int → Option Int} {n : Nat} {l c v : Int} (hl : 0 ≤ l ∧ l ≤ 8) (hv : ER l ≤ v) : L_X7_thingsOf_8 h M k (n + 1) l c v = k c := by
  rw [L_X7_thingsOf_8]
  exact si (by omega) (it hv rfl)
theorem c_thingsOf {h : Nat} {M : fMem} {g : Int → Int} {l : Int} (hs : RelV h M g) (hv : okV g) (hl : 0 ≤ l ∧ l ≤ 8) : f_X7_thingsOf h l M = some (tI g l) := by
  unfold f_X7_thingsOf
  refine si (by omega) ?_
  unfold FR tI
  have a0 := wR_bd (r := 2 * l) hv (by omega)
  have a1 := wR_bd (r := 2 * l + 1) hv (by omega)
  by_cases h8 : l = 8
  · have er : ER l = 2 * l + 3 := by rw [h8]; rfl
    rw [tO_step hs hv hl (by omega) (by omega), tO_step hs hv hl (by omega) (by omega), show 2 * l + 1 + 1 = 2 * l + 2 by omega, tO_step hs hv hl (by omega) (by omega), tO_end hl (by omega), if_pos h8, Int.zero_add]
  · have er : ER l = 2 * l + 2 := ER_n h8
    rw [tO_step hs hv hl (by omega) (by omega), tO_step hs hv hl (by omega) (by omega), tO_end hl (by omega), if_neg h8, Int.zero_add, Int.add_zero]
theorem tI_step {M : fMem} {k : Int → Option Int} {n : Nat} {l c v : Int} (hv' : okV (M 419)) (hl : 0 ≤ l ∧ l ≤ 8) (hc : 0 ≤ c ∧ c < 10000) (hv : 0 ≤ v ∧ v < if l = 8 then 3 else 2) : L_X11_thingsIn_4 M k (n + 1) l c v = L_X11_thingsIn_4 M k n l (c + wR (M 419) (fun r => M 419 (7600 + r)) (2 * l + v)) (v + 1) := by
  have hv2 : 0 ≤ v ∧ v ≤ 2 := by split at hv <;> omega
  have hrow : 0 ≤ 2 * l + v ∧ 2 * l + v < 19 := by split at hv <;> omega
  have hb := wR_bd (r := 2 * l + v) hv' hrow
  rw [L_X11_thingsIn_4]
  refine bc (e_rowsOf l M) (ie (by omega) (bc (e_rowAt _ hl hv2) (bc (r_isShut hrow) ?_)))
  by_cases q : M 419 (7619 + (2 * l + v)) = 2
  · have e : wR (M 419) (fun r => M 419 (7600 + r)) (2 * l + v) = M 419 (7600 + (2 * l + v)) := by unfold wR; rw [if_pos q]
    rw [show b1 (M 419 (7619 + (2 * l + v)) = 2) = 1 by simp [b1, q]]
    rw [e] at hb ⊢
    exact ie (by omega) (bc (e_rowAt _ hl hv2) (si (by omega) (si (by omega) rfl)))
  · have e : wR (M 419) (fun r => M 419 (7600 + r)) (2 * l + v) = 0 := by unfold wR; rw [if_neg q]
    rw [show b1 (M 419 (7619 + (2 * l + v)) = 2) = 0 by simp [b1, q], e]
    exact it rfl (si (by omega) rfl)
theorem r_thingsIn {M : fMem} {l : Int} (hv : okV (M 419)) (hl : 0 ≤ l ∧ l ≤ 8) : f_X11_thingsIn l M = some (tI (M 419) l) := by
  unfold f_X11_thingsIn tI
  have a0 := wR_bd (r := 2 * l) hv (by omega)
  have a1 := wR_bd (r := 2 * l + 1) hv (by omega)
  have en : ∀ {n : Nat} {c v : Int}, (if l = 8 then 3 else 2) ≤ v → L_X11_thingsIn_4 M (fun v2_10 => some v2_10) (n + 1) l c v = some c := by
    intro n c v hv
    rw [L_X11_thingsIn_4]
    exact bc (e_rowsOf l M) (it hv rfl)
  rw [tI_step hv hl (by omega) (by split <;> omega), Int.add_zero, Int.zero_add, Int.zero_add, tI_step hv hl (by omega) (by split <;> omega), show (1 : Int) + 1 = 2 from rfl]
  by_cases h8 : l = 8
  · rw [tI_step hv hl (by omega) (by rw [if_pos h8]; omega), en (by rw [if_pos h8]; omega), if_pos h8]
  · rw [en (by rw [if_neg h8]; omega), if_neg h8, Int.add_zero]
theorem r_signsIn {M : fMem} {r : Int} (hr : 0 ≤ r ∧ r < 19) (hs : 0 ≤ M 419 (7600 + r) ∧ M 419 (7600 + r) ≤ 200) : f_X11_signsIn r M = some (sgN (M 419) r (M 419 (7600 + r)).toNat) := by
  have key : ∀ (d n j : Nat), (j : Int) + d = M 419 (7600 + r) → d < n → L_X11_signsIn_4 M (fun v2_7 => some v2_7) n r (sgN (M 419) r j) j = some (sgN (M 419) r (M 419 (7600 + r)).toNat) := by
    intro d
    induction d with
    | zero =>
      intro n j h1 hn
      obtain ⟨n, rfl⟩ : ∃ n', n = n' + 1 := ⟨n - 1, by omega⟩
      rw [L_X11_signsIn_4]
      refine si (by omega) (it (by omega) ?_)
      rw [show (M 419 (7600 + r)).toNat = j by omega]
    | succ d ih =>
      intro n j h1 hn
      obtain ⟨n, rfl⟩ : ∃ n', n = n' + 1 := ⟨n - 1, by omega⟩
      have i := ih n (j + 1) (by push_cast; omega) (by omega)
      have sb := sgN_bd (M 419) r j
      rw [sgN] at i
      rw [L_X11_signsIn_4]
      refine si (by omega) (ie (by omega) (bc (r_valueAt hr (by omega)) ?_))
      by_cases q : M 419 (3800 + 200 * r + j) = -1
      · rw [show b1 (M 419 (3800 + 200 * r + j) = -1) = 1 by simp [b1, q]] at i
        rw [if_pos q]
        refine si (by omega) ?_
        rw [show (j : Int) + 1 = ((j + 1 : Nat) : Int) by push_cast; rfl]; exact i
      · rw [show b1 (M 419 (3800 + 200 * r + j) = -1) = 0 by simp [b1, q]] at i
        rw [if_neg q]
        refine si (by omega) ?_
        rw [show (j : Int) + 1 = ((j + 1 : Nat) : Int) by push_cast; rfl]; exact i
  exact key (M 419 (7600 + r)).toNat 20000 0 (by omega) (by omega)
/-- where a row lies in the order -/
def aI (r : Int) : List Int → Int → Int
  | [], _ => -1
  | x :: xs, i => if x = r then i else aI r xs (i + 1)
theorem aI_app {r : Int} : ∀ (xs ys : List Int) (i : Int), (∀ x ∈ xs, x ≠ r) → aI r (xs ++ ys) i = aI r ys (i + xs.length) := by
  intro xs
  induction xs with
  | nil => intro ys i _; simp
  | cons x xs ih =>
    intro ys i h
    rw [List.cons_append, aI, if_neg (h x List.mem_cons_self), ih ys (i + 1) (fun y hy => h y (List.mem_cons_of_mem _ hy)), List.length_cons]
    rw [show i + 1 + (xs.length : Int) = i + ((xs.length + 1 : Nat) : Int) by push_cast; omega]
theorem aI_no {r : Int} : ∀ (xs : List Int) (i : Int), (∀ x ∈ xs, x ≠ r) → aI r xs i = -1 := by
  intro xs
  induction xs with
  | nil => intro i _; rfl
  | cons x xs ih =>
    intro i h
    rw [aI, if_neg (h x List.mem_cons_self), ih (i + 1) (fun y hy => h y (List.mem_cons_of_mem _ hy))]
def oS (g : Int → Int) : Nat → Int
  | 0 => 0
  | n + 1 => oS g n + shM g n
theorem bA_y {g : Int → Int} {l a : Int} (h : bA g l a ≠ -1) : yMn g l (bA g l a) = a := by
  unfold bA at h ⊢
  split
  · rename_i q; exact q.2
  · split
    · rename_i q; exact q.2
    · split
      · rename_i q; exact q.2.2
      · rename_i q1 q2 q3; rw [if_neg q1, if_neg q2, if_neg q3] at h; exact absurd rfl h
theorem aI_ord {g : Int → Int} {r : Int} (hv : okV g) (hr : 0 ≤ r ∧ r < 19) (h : g (7619 + r) = 2) : aI r (ordL g) 0 = oS g (lvR r).toNat + yMn g (lvR r) r := by
  obtain ⟨x1, x2, x3⟩ := lv_ex hr
  have key : ∀ d : Nat, d ≤ 9 → 9 - (d : Int) ≤ lvR r → ∀ i, aI r (ordF g d) i = i + (oS g (lvR r).toNat - oS g (9 - d)) + yMn g (lvR r) r := by
    intro d
    induction d with
    | zero => intro _ h; simp at h; omega
    | succ d ih =>
      intro hd h1 i
      rw [ordF]
      by_cases c : lvR r = 8 - d
      · have e9 : 9 - (d + 1) = (lvR r).toNat := by omega
        rw [e9, ← c]
        have hm := lvL_of x1 hv ⟨x2, x3⟩ h
        rcases lv_cs x1 hv with ⟨a1, -⟩ | ⟨a1, a2, a3, -⟩ | ⟨a1, a2, a3, a4, -⟩
        · rw [lvL0 a1] at hm; simp at hm
        · rw [lvL1 a1] at hm ⊢
          simp at hm
          rw [List.cons_append, aI, if_pos hm.symm]
          have := bA_y (g := g) (l := lvR r) (a := 0) (by omega)
          rw [← hm] at this
          omega
        · rw [lvL2 a1] at hm ⊢
          simp at hm
          rw [List.cons_append, aI]
          by_cases c0 : r = bA g (lvR r) 0
          · rw [if_pos c0.symm]
            have := bA_y (g := g) (l := lvR r) (a := 0) (by omega)
            rw [← c0] at this
            omega
          · have c1 : r = bA g (lvR r) 1 := hm.resolve_left c0
            rw [if_neg (fun z => c0 z.symm), List.cons_append, aI, if_pos c1.symm]
            have := bA_y (g := g) (l := lvR r) (a := 1) (by omega)
            rw [← c1] at this
            omega
      · have hll := lvL_len (l := 8 - d) (by omega) hv
        have so : oS g (9 - d) = oS g (9 - (d + 1)) + shM g (8 - d) := by
          rw [show 9 - d = (9 - (d + 1)) + 1 by omega, oS, show (((9 - (d + 1) : Nat)) : Int) = 8 - d by omega]
        rw [aI_app _ _ _ (fun x hx z => by
          have := (lvL_mem (l := 8 - d) (by omega) hv hx).1
          have := lvR_of (l := 8 - d) (by omega) this
          rw [z] at this; exact c this), ih (by omega) (by push_cast at h1; omega), hll]
        omega
  have := key 9 (by omega) (by omega) 0
  rw [show 9 - 9 = 0 from rfl] at this
  unfold ordL
  rw [this, oS]; omega
theorem oS_bd {g : Int → Int} (hv : okV g) : ∀ n : Nat, n ≤ 9 → 0 ≤ oS g n ∧ oS g n ≤ 2 * n := by
  intro n
  induction n with
  | zero => intro _; simp [oS]
  | succ n ih =>
    intro hn
    have := ih (by omega)
    have := lv_cs (g := g) (l := (n : Int)) (by omega) hv
    rw [oS]; push_cast; omega
theorem r_shutAhead {M : fMem} {l r : Int} (hv : okV (M 419)) (hr : 0 ≤ r ∧ r < 19) (hl : lvR r = l) : f_X11_shutAhead l r M = some (aI r (ordL (M 419)) 0) := by
  have lx := lv_ex hr
  unfold f_X11_shutAhead
  refine bc (r_isShut hr) ?_
  by_cases q : M 419 (7619 + r) = 2
  · rw [show b1 (M 419 (7619 + r) = 2) = 1 by simp [b1, q], aI_ord hv hr q, hl]
    have ym := e_youngerMany (M := M) (g := M 419) (l := l) (r := r) (by omega) hr
    rw [os_id] at ym
    refine ie (by omega) (bc ym ?_)
    have yb : 0 ≤ yMn (M 419) l r ∧ yMn (M 419) l r ≤ 3 := by
      unfold yMn
      have h0 := b1_01 (M 419 (7619 + (2 * l + 0)) = 2 ∧ M 419 (7638 + r) < M 419 (7638 + (2 * l + 0)))
      have h1 := b1_01 (M 419 (7619 + (2 * l + 1)) = 2 ∧ M 419 (7638 + r) < M 419 (7638 + (2 * l + 1)))
      have h2 := b1_01 (M 419 (7619 + (2 * l + 2)) = 2 ∧ M 419 (7638 + r) < M 419 (7638 + (2 * l + 2)))
      split <;> omega
    have key : ∀ (d n j : Nat), (j : Int) + d = l → d < n → L_X11_shutAhead_20 M (fun v3_7 => some v3_7) n l (yMn (M 419) l r + oS (M 419) j) j = some (oS (M 419) l.toNat + yMn (M 419) l r) := by
      intro d
      induction d with
      | zero =>
        intro n j h1 hn
        obtain ⟨n, rfl⟩ : ∃ n', n = n' + 1 := ⟨n - 1, by omega⟩
        rw [L_X11_shutAhead_20, if_pos (by omega), show l.toNat = j by omega, Int.add_comm]
      | succ d ih =>
        intro n j h1 hn
        obtain ⟨n, rfl⟩ : ∃ n', n = n' + 1 := ⟨n - 1, by omega⟩
        have i := ih n (j + 1) (by push_cast; omega) (by omega)
        have ob := oS_bd hv j (by omega)
        have sm := shM_bd (M 419) j
        rw [L_X11_shutAhead_20, if_neg (by omega)]
        refine bc (r_shutMany (by omega)) (si (by omega) ?_)
        rw [oS] at i
        rw [show yMn (M 419) l r + oS (M 419) j + shM (M 419) j = yMn (M 419) l r + (oS (M 419) j + shM (M 419) j) by omega, show (j : Int) + 1 = ((j + 1 : Nat) : Int) by push_cast; rfl]
        exact i
    have := key l.toNat 20000 0 (by omega) (by omega)
    rw [show oS (M 419) 0 = 0 from rfl, Int.add_zero] at this
    exact this
  · rw [show b1 (M 419 (7619 + r) = 2) = 0 by simp [b1, q], aI_no _ _ (fun x hx z => by rw [z] at hx; exact q (ordL_mem hv r hx).2)]
    exact it rfl rfl
theorem c_aheadOf {M : fMem} {n r : Int} (h : St M n) : ∃ M1, f_X10_aheadOf r M = some (aI r (ordL (M 419)) 0, M1) ∧ St M1 n ∧ ∀ x, 418 ≤ x → M1 x = M x := by
  obtain ⟨M1, a1, a2, a3, a4⟩ := C_arr h
  obtain ⟨-, hv⟩ := C_rel h
  have hl := ordL_len hv
  have key : ∀ (xs : List Int) (m : Nat) (i : Int), ordAt 2 M1 i xs → 0 ≤ i → i + xs.length = (ordL (M 419)).length → xs.length < m → L_X10_aheadOf_13 (fun M_6 => some ((-1), M_6)) m r ((ordL (M 419)).length : Int) i M1 = some (aI r xs i, M1) := by
    intro xs
    induction xs with
    | nil =>
      intro m i ha i0 i1 hm
      obtain ⟨m, rfl⟩ : ∃ m', m = m' + 1 := ⟨m - 1, by omega⟩
      rw [L_X10_aheadOf_13, if_pos (by simp at i1; omega), aI]
    | cons x xs ih =>
      intro m i ha i0 i1 hm
      simp only [List.length_cons] at i1 hm
      push_cast at i1
      obtain ⟨m, rfl⟩ : ∃ m', m = m' + 1 := ⟨m - 1, by omega⟩
      obtain ⟨b1, b2, b3⟩ := ordAt_hd ha
      have b1' : M1 4 i = x := b1
      rw [L_X10_aheadOf_13, b1', aI]
      refine ie (by omega) (si (by omega) ?_)
      by_cases c : x = r
      · rw [if_pos c, if_pos c]
      · rw [if_neg c, if_neg c]; exact ih m (i + 1) b2 (by omega) (by omega) (by omega)
  refine ⟨M1, ?_, a2, a3⟩
  unfold f_X10_aheadOf
  exact bc a1 (key (ordL (M 419)) 20000 0 a4 (by omega) (by omega) (by omega))
end CAL10
