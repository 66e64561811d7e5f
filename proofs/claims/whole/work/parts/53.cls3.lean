/-! the class: levels are asked; a step -/
section CLS3
theorem c_begin {e : Nat} {M0 M : fMem} {g : Int → Int} {l into : Int} (h : RF e M0 M g) (hl : 0 ≤ l ∧ l ≤ 8) (hi : 0 ≤ into ∧ into < 19) (ho : okO g) (h8 : shM g 8 ≤ 2) : ∃ M1, f_X0_begin e l into M = some M1 ∧ RF e M0 M1 (sBeg g l into) := by
  obtain ⟨y0, y1⟩ := yB_bA hl ho.2 h8
  unfold f_X0_begin
  have h1 := rf_mrg (i := 0) (x := 7657 + l) (v := 1) h hl (by omega)
  generalize q1 : mset M (e + l.toNat + 62) 0 1 = N1 at h1
  have a1 : agK g (us g (7657 + l) 1) := fun i i0 i1 => us_ne (by omega)
  have hb : bareV (us g (7657 + l) 1) l = bareV g l := by
    unfold bareV
    have : bare (us g (7657 + l) 1) l ↔ bare g l := by
      unfold bare
      constructor
      · intro z j j0 j1; rw [← shM_ag a1 ⟨by omega, j1⟩]; exact z j j0 j1
      · intro z j j0 j1; rw [shM_ag a1 ⟨by omega, j1⟩]; exact z j j0 j1
    by_cases c : bare g l
    · rw [if_pos c, if_pos (this.mpr c)]
    · rw [if_neg c, if_neg (fun z => c (this.mp z))]
  have yag : ∀ {g1 : Int → Int} {b : Int}, agK g g1 → yB g1 l b = yB g l b := by
    intro g1 b ag
    have s : ∀ {y v : Int}, yBo g y → (0 ≤ v ∧ v < 19) → yB1 g1 b y v = yB1 g b y v := by
      intro y v hy hv
      unfold yB1
      rw [ag (7619 + v) (by omega) (by omega), ag (7638 + v) (by omega) (by omega)]
      rcases hy with rfl | ⟨z0, z1, z2⟩
      · simp
      · rw [ag (7638 + y) (by omega) (by omega)]
    have o0 : yBo g (-1) := Or.inl rfl
    have o1 := yB1_ok (but := b) o0 (v := 2 * l) (by omega)
    have o2 := yB1_ok (but := b) o1 (v := 2 * l + 1) (by omega)
    unfold yB
    rw [s o0 (by omega), s o1 (by omega)]
    split
    · rw [s o2 (by omega)]
    · rfl
  have h2 := rf_mrg (i := 1) (x := 7666 + l) (v := bareV g l) h1 hl (by omega)
  generalize q2 : mset N1 (e + l.toNat + 62) 1 (bareV g l) = N2 at h2
  have a2 : agK g (us (us g (7657 + l) 1) (7666 + l) (bareV g l)) := fun i i0 i1 => by rw [us_ne (by omega), us_ne (by omega)]
  have h3 := rf_mrg (i := 2) (x := 7684 + l) (v := bA g l 0) h2 hl (by omega)
  generalize q3 : mset N2 (e + l.toNat + 62) 2 (bA g l 0) = N3 at h3
  have a3 : agK g (us (us (us g (7657 + l) 1) (7666 + l) (bareV g l)) (7684 + l) (bA g l 0)) := fun i i0 i1 => by rw [us_ne (by omega), us_ne (by omega), us_ne (by omega)]
  have h4 := rf_mrg (i := 3) (x := 7693 + l) (v := bA g l 1) h3 hl (by omega)
  generalize q4 : mset N3 (e + l.toNat + 62) 3 (bA g l 1) = N4 at h4
  have h5 := rf_mrg (i := 4) (x := 7675 + l) (v := into) h4 hl (by omega)
  generalize q5 : mset N4 (e + l.toNat + 62) 4 into = N5 at h5
  have h6 := rf_mrg (i := 5) (x := 7702 + l) (v := 0) h5 hl (by omega)
  generalize q6 : mset N5 (e + l.toNat + 62) 5 0 = N6 at h6
  have h7 := rf_mrg (i := 6) (x := 7711 + l) (v := 0) h6 hl (by omega)
  generalize q7 : mset N6 (e + l.toNat + 62) 6 0 = N7 at h7
  obtain ⟨M1, c1, c2⟩ := c_clear (s := 1) h7 hi (by omega)
  refine ⟨M1, ?_, ?_⟩
  · refine si (by omega) (bs fun x hx => ?_)
    subst hx
    refine bc (c_nothing (shK_of h1.1) hl) ?_
    rw [hb]
    refine bs fun x hx => ?_
    rw [q2] at hx; subst hx
    refine bc (c_youngestBut (shK_of h2.1) hl) ?_
    rw [yag a2, y0]
    refine bs fun x hx => ?_
    rw [q3] at hx; subst hx
    have r3 : x (e + l.toNat + 62) 2 = bA g l 0 := by rw [← q3, mset_self]
    rw [r3]
    refine bc (c_youngestBut (shK_of h3.1) hl) ?_
    rw [yag a3, y1]
    refine bs fun x hx => ?_
    rw [q4] at hx; subst hx
    refine bs fun x hx => ?_
    rw [q5] at hx; subst hx
    refine bs fun x hx => ?_
    rw [q6] at hx; subst hx
    refine bs fun x hx => ?_
    rw [q7] at hx; subst hx
    exact si hi (bc c1 rfl)
  · have e1 : sBeg g l into = us (us (us (us (us (us (us (us (us g (7657 + l) 1) (7666 + l) (bareV g l)) (7684 + l) (bA g l 0)) (7693 + l) (bA g l 1)) (7675 + l) into) (7702 + l) 0) (7711 + l) 0) (7619 + into) 1) (7600 + into) 0 := by
      unfold sBeg
      rw [us_comm (i := 7666 + l) (j := 7657 + l) (by omega), us_comm (i := 7675 + l) (j := 7684 + l) (by omega), us_comm (i := 7675 + l) (j := 7693 + l) (by omega)]
    rw [e1]; exact c2
theorem c_ask {e : Nat} {M0 : fMem} {k : fMem → Option fMem} : ∀ (d n : Nat) (M : fMem) (g : Int → Int) (v : Int), v + 1 = d → d ≤ 9 → d < n → RF e M0 M g → InvS g → ∃ M1, L_X0_askLevels_3 e k n v M = k M1 ∧ RF e M0 M1 (sAll g d) := by
  intro d
  induction d with
  | zero =>
    intro n M g v h1 h2 hn h hi
    obtain ⟨n, rfl⟩ : ∃ n', n = n' + 1 := ⟨n - 1, by omega⟩
    refine ⟨M, ?_, h⟩
    rw [L_X0_askLevels_3]
    exact it (by omega) rfl
  | succ d ih =>
    intro n M g v h1 h2 hn h hi
    obtain ⟨n, rfl⟩ : ∃ n', n = n' + 1 := ⟨n - 1, by omega⟩
    have hv : v = (d : Int) := by omega
    have hl : 0 ≤ v ∧ v ≤ 8 := by omega
    have hnx : min (v + 1) 8 = nxt v := by unfold nxt; split <;> omega
    have hon : M (e + v.toNat + 62) 0 = g (7657 + v) := (h.1.2.1 v hl.1 hl.2).1
    have h01 := (hi.2.1 v hl.1 hl.2).1
    have step : ∃ M1, RF e M0 M1 (sAsk g v) ∧ L_X0_askLevels_3 e k (n + 1) v M = L_X0_askLevels_3 e k n (v + -1) M1 := by
      rw [L_X0_askLevels_3]
      rcases sAsk_cs g v with ⟨e1, hc⟩ | ⟨e1, z1, z2, z3⟩
      · rw [e1]
        refine ⟨M, h, ?_⟩
        refine ie (by omega) (si (by omega) ?_)
        rw [hnx]
        refine bc (c_firstFree h.1 (nxt_bd hl)) (si (by omega) ?_)
        rw [hon]
        by_cases q0 : g (7657 + v) = 0
        · refine it q0 ?_
          by_cases q1 : fFr g (nxt v) = -1
          · exact it q1 rfl
          · refine ie q1 (bc (c_shutOf (shK_of h.1) hl) (ie ?_ rfl))
            rcases hc with z | z | z
            · omega
            · exact z
            · exact absurd z q1
        · exact ie q0 rfl
      · rw [e1]
        obtain ⟨i0, i1, -⟩ := (fFr_bd (g := g) (nxt_bd hl)).resolve_left z3
        obtain ⟨M1, b1, b2⟩ := c_begin (into := fFr g (nxt v)) h hl ⟨i0, i1⟩ hi.2.2.1 hi.2.2.2.2.1
        refine ⟨M1, b2, ?_⟩
        refine ie (by omega) (si (by omega) ?_)
        rw [hnx]
        refine bc (c_firstFree h.1 (nxt_bd hl)) (si (by omega) ?_)
        rw [hon]
        refine it (by omega) (ie z3 (bc (c_shutOf (shK_of h.1) hl) (it z2 (bc b1 rfl))))
    obtain ⟨M1, s1, s2⟩ := step
    obtain ⟨M2, t1, t2⟩ := ih n M1 (sAsk g v) (v + -1) (by omega) (by omega) (by omega) s1 (InvS_ask hl hi)
    refine ⟨M2, by rw [s2, t1], ?_⟩
    rw [sAll, ← hv]; exact t2
theorem c_askLevels {e : Nat} {M0 M : fMem} {g : Int → Int} (h : RF e M0 M g) (hi : InvS g) : ∃ M1, f_X0_askLevels e M = some M1 ∧ RF e M0 M1 (sAll g 9) := by
  unfold f_X0_askLevels
  exact c_ask 9 20000 M g 8 (by omega) (by omega) (by omega) h hi
/-- a row's key and value -/
theorem c_keyAt {e : Nat} {M : fMem} {g : Int → Int} {r i : Int} (h : RelE e M g) (he : e = 1 ∨ e = 72) (hr : 0 ≤ r ∧ r < 19) (hi : 0 ≤ i) : f_X6_keyAt (e + 3 * r.toNat + 4) i M = some (if g (7600 + r) ≤ i then 200 else g (200 * r + i)) := by
  obtain ⟨a, b, c, d, f, k⟩ := h.1 r hr.1 hr.2
  unfold f_X6_keyAt
  rw [b, (Ln_E he hr).1]
  refine ie (by omega) ?_
  by_cases q : g (7600 + r) ≤ i
  · rw [if_pos q, if_pos q]
  · rw [if_neg q, if_neg q]
    refine si (by omega) ?_
    rw [(k i hi (by omega)).1]
theorem c_valueAt {e : Nat} {M : fMem} {g : Int → Int} {r i : Int} (h : RelE e M g) (he : e = 1 ∨ e = 72) (hr : 0 ≤ r ∧ r < 19) (hi : 0 ≤ i ∧ i < g (7600 + r)) : f_X6_valueAt (e + 3 * r.toNat + 4) i M = some (g (3800 + 200 * r + i)) := by
  obtain ⟨a, b, c, d, f, k⟩ := h.1 r hr.1 hr.2
  unfold f_X6_valueAt
  rw [b, (Ln_E he hr).2]
  refine ie (by omega) (ie (by omega) (si (by omega) ?_))
  rw [(k i hi.1 hi.2).2]
/-- a thing goes on -/
theorem c_moveOn {e : Nat} {M0 M : fMem} {g : Int → Int} {l r i : Int} (h : RF e M0 M g) (he : e = 1 ∨ e = 72) (hl : 0 ≤ l ∧ l ≤ 8) (hb : g (7666 + l) = 0 ∨ g (7666 + l) = 1) (ht : 0 ≤ g (7675 + l) ∧ g (7675 + l) < 19) (hn : g (7600 + g (7675 + l)) < rmR (g (7675 + l))) (c1 : rg (g (7729 + l) + 1)) (c2 : rg (g 7746 + 1)) : ∃ M1, f_X0_moveOn e (e + l.toNat + 62) (g (200 * r + i)) (g (3800 + 200 * r + i)) M = some M1 ∧ RF e M0 M1 (sCome g l r i) := by
  obtain ⟨m0, m1, m2, m3, m4, m5, m6, m7, m8⟩ := h.1.2.1 l hl.1 hl.2
  have s9 : M e 9 = g 7746 := h.1.2.2.2.2.2.2.2.2.2
  have key : ∃ M1, j_X0_moveOn_25 e (e + l.toNat + 62) (g (200 * r + i)) (g (3800 + 200 * r + i)) M = some M1 ∧ RF e M0 M1 (us (us (us (us g (200 * g (7675 + l) + g (7600 + g (7675 + l))) (g (200 * r + i))) (3800 + 200 * g (7675 + l) + g (7600 + g (7675 + l))) (g (3800 + 200 * r + i))) (7600 + g (7675 + l)) (g (7600 + g (7675 + l)) + 1)) (7729 + l) (g (7729 + l) + 1)) := by
    obtain ⟨M1, a1, a2, -⟩ := c_append (k := g (200 * r + i)) (v := g (3800 + 200 * r + i)) h he ht hn
    have hrow := (h.1.1 _ ht.1 ht.2).2.2.2.2.1
    have hrm := rmR_bd (g (7675 + l))
    have r8 : M1 (e + l.toNat + 62) 8 = g (7729 + l) := by
      rw [(a2.1.2.1 l hl.1 hl.2).2.2.2.2.2.2.2.2, us_ne (by omega), us_ne (by omega), us_ne (by omega)]
    refine ⟨mset M1 (e + l.toNat + 62) 8 (g (7729 + l) + 1), ?_, rf_mrg a2 hl (by omega)⟩
    unfold j_X0_moveOn_25
    rw [m4]
    refine si ht (bc a1 ?_)
    rw [r8]
    exact si c1 rfl
  unfold f_X0_moveOn sCome
  by_cases q : g (3800 + 200 * r + i) = -1
  · by_cases q2 : g (7666 + l) = 1
    · refine ⟨mset M e 9 (g 7746 + 1), ?_, ?_⟩
      · rw [m1, s9]
        exact it q (ie (by omega) (si c2 rfl))
      · rw [if_pos (c := _ ∧ _) ⟨q2, q⟩]
        exact rf_ctr h (by omega)
    · rw [if_neg (c := _ ∧ _) (fun z => q2 z.1)]
      obtain ⟨M1, a1, a2⟩ := key
      refine ⟨M1, ?_, a2⟩
      rw [m1]
      exact it q (it (by omega) a1)
  · rw [if_neg (c := _ ∧ _) (fun z => q z.2)]
    obtain ⟨M1, a1, a2⟩ := key
    exact ⟨M1, ie q a1, a2⟩
end CLS3
