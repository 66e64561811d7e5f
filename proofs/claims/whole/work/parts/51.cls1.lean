/-! the class's rows, merges and counts, and the reference's numbers -/
section CLS1
theorem us_comm {g : Int → Int} {i j v w : Int} (h : i ≠ j) : us (us g i v) j w = us (us g j w) i v := by
  funext x
  simp only [us]
  by_cases a : x = j
  · by_cases b : x = i
    · omega
    · simp [a, show ¬ j = i by omega]
  · simp [a]
theorem mset_at (M : fMem) (k : Nat) (j v : Int) : mset M k j v k = us (M k) j v := by
  funext x; simp [mset, us]
theorem us_us (g : Int → Int) (i v w : Int) : us (us g i v) i w = us g i w := by
  funext x; simp only [us]; split <;> rfl
theorem us_id {g : Int → Int} {i v : Int} (h : g i = v) : us g i v = g := by
  funext x; simp only [us]; split
  · rename_i q; rw [q, h]
  · rfl
/-- how many of a row's first things are signs -/
def sgN (g : Int → Int) (r : Int) : Nat → Int
  | 0 => 0
  | n + 1 => sgN g r n + b1 (g (3800 + 200 * r + n) = -1)
theorem sgN_cg {g g1 : Int → Int} {r : Int} : ∀ n : Nat, (∀ j : Int, 0 ≤ j → j < n → g1 (3800 + 200 * r + j) = g (3800 + 200 * r + j)) → sgN g1 r n = sgN g r n := by
  intro n
  induction n with
  | zero => intro _; rfl
  | succ n ih =>
    intro h
    rw [sgN, sgN, ih (fun j a b => h j a (by omega)), h n (by omega) (by omega)]
theorem sgN_bd (g : Int → Int) (r : Int) : ∀ n : Nat, 0 ≤ sgN g r n ∧ sgN g r n ≤ n := by
  intro n
  induction n with
  | zero => exact ⟨by simp [sgN], by simp [sgN]⟩
  | succ n ih =>
    have := b1_01 (g (3800 + 200 * r + n) = -1)
    rw [sgN]; omega
def rowE (p : Nat) (M : fMem) (g : Int → Int) (r : Int) : Prop :=
  M p 2 = g (7619 + r) ∧ M p 3 = g (7600 + r) ∧ M p 4 = sgN g r (g (7600 + r)).toNat ∧ (g (7619 + r) = 2 → M p 5 = g (7638 + r)) ∧ (0 ≤ g (7600 + r) ∧ g (7600 + r) ≤ rmR r) ∧
  ∀ j, 0 ≤ j → j < g (7600 + r) → M (p + 1) j = g (200 * r + j) ∧ M (p + 2) j = g (3800 + 200 * r + j)
def mrgE (p : Nat) (M : fMem) (g : Int → Int) (l : Int) : Prop :=
  M p 0 = g (7657 + l) ∧ M p 1 = g (7666 + l) ∧ M p 2 = g (7684 + l) ∧ M p 3 = g (7693 + l) ∧ M p 4 = g (7675 + l) ∧ M p 5 = g (7702 + l) ∧ M p 6 = g (7711 + l) ∧ M p 7 = g (7720 + l) ∧ M p 8 = g (7729 + l)
def ctrE (e : Nat) (M : fMem) (g : Int → Int) : Prop :=
  M e 2 = g 7739 ∧ M e 3 = g 7738 ∧ M e 4 = g 7741 ∧ M e 5 = g 7742 ∧ M e 6 = g 7743 ∧ M e 7 = g 7744 ∧ M e 8 = g 7745 ∧ M e 9 = g 7746
def RelE (e : Nat) (M : fMem) (g : Int → Int) : Prop :=
  (∀ r, 0 ≤ r → r < 19 → rowE (e + 3 * r.toNat + 4) M g r) ∧ (∀ l, 0 ≤ l → l ≤ 8 → mrgE (e + l.toNat + 62) M g l) ∧ ctrE e M g
def frm (e n : Nat) (M M1 : fMem) : Prop := ∀ a, a < e ∨ e + n ≤ a → M1 a = M a
theorem frm_rf (e n : Nat) (M : fMem) : frm e n M M := fun _ _ => rfl
theorem frm_tr {e n : Nat} {M M1 M2 : fMem} (a : frm e n M M1) (b : frm e n M1 M2) : frm e n M M2 := fun x hx => by rw [b x hx, a x hx]
theorem frm_ms {e n : Nat} {M M1 : fMem} {p : Nat} {i v : Int} (a : frm e n M M1) (h : e ≤ p ∧ p < e + n) : frm e n M (mset M1 p i v) := fun x hx => by rw [mset_ne (by omega), a x hx]
def RF (e : Nat) (M0 M : fMem) (g : Int → Int) : Prop := RelE e M g ∧ frm e 71 M0 M
theorem rowE_cg {p : Nat} {M M1 : fMem} {g g1 : Int → Int} {r : Int} (hr : 0 ≤ r ∧ r < 19) (h : rowE p M g r) (hp : M1 p = M p ∧ M1 (p + 1) = M (p + 1) ∧ M1 (p + 2) = M (p + 2))
    (hg : ∀ y, (y = 7619 + r ∨ y = 7600 + r ∨ y = 7638 + r ∨ (200 * r ≤ y ∧ y < 200 * r + 200) ∨ (3800 + 200 * r ≤ y ∧ y < 4000 + 200 * r)) → g1 y = g y) : rowE p M1 g1 r := by
  obtain ⟨a, b, c, d, f, k⟩ := h
  have hrm := rmR_bd r
  unfold rowE
  rw [hp.1, hp.2.1, hp.2.2, hg (7619 + r) (by omega), hg (7600 + r) (by omega), hg (7638 + r) (by omega), sgN_cg (g := g) (g1 := g1) _ (fun j j0 j1 => hg _ (by omega))]
  refine ⟨a, b, c, d, f, fun j j0 j1 => ?_⟩
  rw [hg (200 * r + j) (by omega), hg (3800 + 200 * r + j) (by omega)]
  exact k j j0 j1
theorem mrgE_cg {p : Nat} {M M1 : fMem} {g g1 : Int → Int} {l : Int} (hl : 0 ≤ l ∧ l ≤ 8) (h : mrgE p M g l) (hp : M1 p = M p)
    (hg : ∀ y, (y = 7657 + l ∨ y = 7666 + l ∨ y = 7675 + l ∨ y = 7684 + l ∨ y = 7693 + l ∨ y = 7702 + l ∨ y = 7711 + l ∨ y = 7720 + l ∨ y = 7729 + l) → g1 y = g y) : mrgE p M1 g1 l := by
  unfold mrgE at h ⊢
  rw [hp, hg (7657 + l) (by omega), hg (7666 + l) (by omega), hg (7675 + l) (by omega), hg (7684 + l) (by omega), hg (7693 + l) (by omega), hg (7702 + l) (by omega), hg (7711 + l) (by omega), hg (7720 + l) (by omega), hg (7729 + l) (by omega)]
  exact h
theorem ctrE_cg {e : Nat} {M M1 : fMem} {g g1 : Int → Int} (h : ctrE e M g) (hp : M1 e = M e) (hg : ∀ y, (7738 ≤ y ∧ y < 7747) → y ≠ 7740 → g1 y = g y) : ctrE e M1 g1 := by
  unfold ctrE at h ⊢
  rw [hp, hg 7739 (by omega) (by omega), hg 7738 (by omega) (by omega), hg 7741 (by omega) (by omega), hg 7742 (by omega) (by omega), hg 7743 (by omega) (by omega), hg 7744 (by omega) (by omega), hg 7745 (by omega) (by omega), hg 7746 (by omega) (by omega)]
  exact h
/-- a count -/
theorem rf_ctr {e : Nat} {M0 M : fMem} {g : Int → Int} {i x v : Int} (h : RF e M0 M g) (hx : (i = 2 ∧ x = 7739) ∨ (i = 3 ∧ x = 7738) ∨ (i = 4 ∧ x = 7741) ∨ (i = 5 ∧ x = 7742) ∨ (i = 6 ∧ x = 7743) ∨ (i = 7 ∧ x = 7744) ∨ (i = 8 ∧ x = 7745) ∨ (i = 9 ∧ x = 7746)) : RF e M0 (mset M e i v) (us g x v) := by
  refine ⟨⟨fun r r0 r1 => ?_, fun l l0 l1 => ?_, ?_⟩, frm_ms h.2 (by omega)⟩
  · refine rowE_cg ⟨r0, r1⟩ (h.1.1 r r0 r1) ⟨mset_ne (by omega), mset_ne (by omega), mset_ne (by omega)⟩ (fun y hy => us_ne (by omega))
  · exact mrgE_cg ⟨l0, l1⟩ (h.1.2.1 l l0 l1) (mset_ne (by omega)) (fun y hy => us_ne (by omega))
  · obtain ⟨a1, a2, a3, a4, a5, a6, a7, a8⟩ := h.1.2.2
    have key : ∀ j y, ((j = 2 ∧ y = 7739) ∨ (j = 3 ∧ y = 7738) ∨ (j = 4 ∧ y = 7741) ∨ (j = 5 ∧ y = 7742) ∨ (j = 6 ∧ y = 7743) ∨ (j = 7 ∧ y = 7744) ∨ (j = 8 ∧ y = 7745) ∨ (j = 9 ∧ y = 7746)) → M e j = g y → mset M e i v e j = us g x v y := by
      intro j y hj hm
      by_cases q : j = i
      · have : y = x := by omega
        rw [this, us_eq, q, mset_self]
      · rw [mset_slot q, us_ne (by omega), hm]
    exact ⟨key 2 _ (by omega) a1, key 3 _ (by omega) a2, key 4 _ (by omega) a3, key 5 _ (by omega) a4, key 6 _ (by omega) a5, key 7 _ (by omega) a6, key 8 _ (by omega) a7, key 9 _ (by omega) a8⟩
/-- a merge's number -/
theorem rf_mrg {e : Nat} {M0 M : fMem} {g : Int → Int} {l i x v : Int} (h : RF e M0 M g) (hl : 0 ≤ l ∧ l ≤ 8) (hx : (i = 0 ∧ x = 7657 + l) ∨ (i = 1 ∧ x = 7666 + l) ∨ (i = 2 ∧ x = 7684 + l) ∨ (i = 3 ∧ x = 7693 + l) ∨ (i = 4 ∧ x = 7675 + l) ∨ (i = 5 ∧ x = 7702 + l) ∨ (i = 6 ∧ x = 7711 + l) ∨ (i = 7 ∧ x = 7720 + l) ∨ (i = 8 ∧ x = 7729 + l)) : RF e M0 (mset M (e + l.toNat + 62) i v) (us g x v) := by
  refine ⟨⟨fun r r0 r1 => ?_, fun k k0 k1 => ?_, ?_⟩, frm_ms h.2 (by omega)⟩
  · refine rowE_cg ⟨r0, r1⟩ (h.1.1 r r0 r1) ⟨mset_ne (by omega), mset_ne (by omega), mset_ne (by omega)⟩ (fun y hy => us_ne (by omega))
  · by_cases q : k = l
    · subst q
      obtain ⟨a0, a1, a2, a3, a4, a5, a6, a7, a8⟩ := h.1.2.1 k k0 k1
      have key : ∀ j y, ((j = 0 ∧ y = 7657 + k) ∨ (j = 1 ∧ y = 7666 + k) ∨ (j = 2 ∧ y = 7684 + k) ∨ (j = 3 ∧ y = 7693 + k) ∨ (j = 4 ∧ y = 7675 + k) ∨ (j = 5 ∧ y = 7702 + k) ∨ (j = 6 ∧ y = 7711 + k) ∨ (j = 7 ∧ y = 7720 + k) ∨ (j = 8 ∧ y = 7729 + k)) → M (e + k.toNat + 62) j = g y → mset M (e + k.toNat + 62) i v (e + k.toNat + 62) j = us g x v y := by
        intro j y hj hm
        by_cases q : j = i
        · have : y = x := by omega
          rw [this, us_eq, q, mset_self]
        · rw [mset_slot q, us_ne (by omega), hm]
      exact ⟨key 0 _ (by omega) a0, key 1 _ (by omega) a1, key 2 _ (by omega) a2, key 3 _ (by omega) a3, key 4 _ (by omega) a4, key 5 _ (by omega) a5, key 6 _ (by omega) a6, key 7 _ (by omega) a7, key 8 _ (by omega) a8⟩
    · exact mrgE_cg ⟨k0, k1⟩ (h.1.2.1 k k0 k1) (mset_ne (by omega)) (fun y hy => us_ne (by omega))
  · exact ctrE_cg h.1.2.2 (mset_ne (by omega)) (fun y hy _ => us_ne (by omega))
/-- a row -/
theorem rf_row {e : Nat} {M0 M M1 : fMem} {g g1 : Int → Int} {r : Int} (h : RF e M0 M g) (hr : 0 ≤ r ∧ r < 19) (ho : ∀ a, a ≠ e + 3 * r.toNat + 4 → a ≠ e + 3 * r.toNat + 4 + 1 → a ≠ e + 3 * r.toNat + 4 + 2 → M1 a = M a)
    (hg : ∀ y, ¬ (y = 7619 + r ∨ y = 7600 + r ∨ y = 7638 + r ∨ (200 * r ≤ y ∧ y < 200 * r + 200) ∨ (3800 + 200 * r ≤ y ∧ y < 4000 + 200 * r)) → g1 y = g y) (hn : rowE (e + 3 * r.toNat + 4) M1 g1 r) : RF e M0 M1 g1 := by
  refine ⟨⟨fun q q0 q1 => ?_, fun k k0 k1 => ?_, ?_⟩, fun a ha => ?_⟩
  · by_cases c : q = r
    · subst c; exact hn
    · exact rowE_cg ⟨q0, q1⟩ (h.1.1 q q0 q1) ⟨ho _ (by omega) (by omega) (by omega), ho _ (by omega) (by omega) (by omega), ho _ (by omega) (by omega) (by omega)⟩ (fun y hy => hg y (by omega))
  · exact mrgE_cg ⟨k0, k1⟩ (h.1.2.1 k k0 k1) (ho _ (by omega) (by omega) (by omega)) (fun y hy => hg y (by omega))
  · exact ctrE_cg h.1.2.2 (ho _ (by omega) (by omega) (by omega)) (fun y hy _ => hg y (by omega))
  · rw [ho a (by omega) (by omega) (by omega), h.2 a ha]
/-- a row is emptied -/
theorem c_clear {e : Nat} {M0 M : fMem} {g : Int → Int} {r s : Int} (h : RF e M0 M g) (hr : 0 ≤ r ∧ r < 19) (hs : s ≠ 2) : ∃ M1, f_X6_clear (e + 3 * r.toNat + 4) s M = some M1 ∧ RF e M0 M1 (us (us g (7619 + r) s) (7600 + r) 0) := by
  refine ⟨mset (mset (mset M (e + 3 * r.toNat + 4) 2 s) (e + 3 * r.toNat + 4) 3 0) (e + 3 * r.toNat + 4) 4 0, rfl, ?_⟩
  have hrm := rmR_bd r
  refine rf_row h hr (fun a a1 a2 a3 => by rw [mset_ne a1, mset_ne a1, mset_ne a1]) (fun y hy => by rw [us_ne (by omega), us_ne (by omega)]) ?_
  have z : us (us g (7619 + r) s) (7600 + r) 0 (7600 + r) = 0 := us_eq _ _ _
  have z2 : us (us g (7619 + r) s) (7600 + r) 0 (7619 + r) = s := by rw [us_ne (by omega), us_eq]
  unfold rowE
  rw [z, z2]
  refine ⟨?_, ?_, ?_, fun q => absurd q hs, by omega, fun j j0 j1 => by omega⟩
  · rw [mset_slot (by omega), mset_slot (by omega), mset_self]
  · rw [mset_slot (by omega), mset_self]
  · rw [mset_self]; rfl
/-- how long the arrays are -/
theorem Ln_S {h : Nat} {r : Int} (hh : h = 2 ∨ h = 73 ∨ h = 238 ∨ h = 298 ∨ h = 358) (hr : 0 ≤ r ∧ r < 19) : Ln (h + 3 * r.toNat + 3 + 1) = rmR r ∧ Ln (h + 3 * r.toNat + 3 + 2) = rmR r := by
  obtain ⟨n, rfl⟩ : ∃ n : Nat, r = n := ⟨r.toNat, by omega⟩
  have hn : n < 19 := by omega
  rw [Int.toNat_natCast]
  have : n = 0 ∨ n = 1 ∨ n = 2 ∨ n = 3 ∨ n = 4 ∨ n = 5 ∨ n = 6 ∨ n = 7 ∨ n = 8 ∨ n = 9 ∨ n = 10 ∨ n = 11 ∨ n = 12 ∨ n = 13 ∨ n = 14 ∨ n = 15 ∨ n = 16 ∨ n = 17 ∨ n = 18 := by omega
  rcases this with rfl | rfl | rfl | rfl | rfl | rfl | rfl | rfl | rfl | rfl | rfl | rfl | rfl | rfl | rfl | rfl | rfl | rfl | rfl <;> rcases hh with rfl | rfl | rfl | rfl | rfl <;> exact ⟨rfl, rfl⟩
theorem Ln_E {e : Nat} {r : Int} (he : e = 1 ∨ e = 72) (hr : 0 ≤ r ∧ r < 19) : Ln (e + 3 * r.toNat + 4 + 1) = rmR r ∧ Ln (e + 3 * r.toNat + 4 + 2) = rmR r := by
  have := Ln_S (h := e + 1) (r := r) (by omega) hr
  rw [show e + 1 + 3 * r.toNat + 3 = e + 3 * r.toNat + 4 by omega] at this
  exact this
/-- a thing comes behind all in a row -/
theorem c_append {e : Nat} {M0 M : fMem} {g : Int → Int} {r k v : Int} (h : RF e M0 M g) (he : e = 1 ∨ e = 72) (hr : 0 ≤ r ∧ r < 19) (hn : g (7600 + r) < rmR r) : ∃ M1, f_X6_append (e + 3 * r.toNat + 4) k v M = some M1 ∧ RF e M0 M1 (us (us (us g (200 * r + g (7600 + r)) k) (3800 + 200 * r + g (7600 + r)) v) (7600 + r) (g (7600 + r) + 1)) ∧ M1 (e + 3 * r.toNat + 4) 4 = M (e + 3 * r.toNat + 4) 4 + b1 (v = -1) := by
  obtain ⟨l1, l2⟩ := Ln_E (e := e) he hr
  have hrm := rmR_bd r
  obtain ⟨a, b, c, d, f, k'⟩ := h.1.1 r hr.1 hr.2
  have sb := sgN_bd g r (g (7600 + r)).toNat
  generalize hp : e + 3 * r.toNat + 4 = p at *
  generalize hg0 : g (7600 + r) = n at *
  have hs4 : ∀ w, w = M p 4 + b1 (v = -1) → RF e M0 (mset (mset (mset (mset M (p + 1) n k) (p + 2) n v) p 3 (n + 1)) p 4 w) (us (us (us g (200 * r + n) k) (3800 + 200 * r + n) v) (7600 + r) (n + 1)) := by
    intro w hw
    refine rf_row h hr (fun x x1 x2 x3 => ?_) (fun y hy => ?_) ?_
    · rw [hp] at x1 x2 x3
      rw [mset_ne x1, mset_ne x1, mset_ne x3, mset_ne x2]
    · rw [us_ne (by omega), us_ne (by omega), us_ne (by omega)]
    · rw [hp]
      have z : us (us (us g (200 * r + n) k) (3800 + 200 * r + n) v) (7600 + r) (n + 1) (7600 + r) = n + 1 := us_eq _ _ _
      have z2 : us (us (us g (200 * r + n) k) (3800 + 200 * r + n) v) (7600 + r) (n + 1) (7619 + r) = g (7619 + r) := by rw [us_ne (by omega), us_ne (by omega), us_ne (by omega)]
      have z3 : us (us (us g (200 * r + n) k) (3800 + 200 * r + n) v) (7600 + r) (n + 1) (7638 + r) = g (7638 + r) := by rw [us_ne (by omega), us_ne (by omega), us_ne (by omega)]
      unfold rowE
      rw [z, z2, z3]
      refine ⟨?_, ?_, ?_, fun q => ?_, by omega, fun j j0 j1 => ?_⟩
      · rw [mset_slot (by omega), mset_slot (by omega), mset_ne (by omega), mset_ne (by omega), a]
      · rw [mset_slot (by omega), mset_self]
      · rw [mset_self, hw, show (n + 1).toNat = n.toNat + 1 by omega, sgN, c]
        rw [sgN_cg (g := g) (g1 := us (us (us g (200 * r + n) k) (3800 + 200 * r + n) v) (7600 + r) (n + 1)) _ (fun j j0 j1 => by rw [us_ne (by omega), us_ne (by omega), us_ne (by omega)]), show (n.toNat : Int) = n by omega, us_ne (by omega), us_eq]
      · rw [mset_slot (by omega), mset_slot (by omega), mset_ne (by omega), mset_ne (by omega)]; exact d q
      · have oA : mset (mset (mset (mset M (p + 1) n k) (p + 2) n v) p 3 (n + 1)) p 4 w (p + 1) = us (M (p + 1)) n k := by
          rw [mset_ne (k := p) (by omega), mset_ne (k := p) (by omega), mset_ne (k := p + 2) (by omega), mset_at]
        have oB : mset (mset (mset (mset M (p + 1) n k) (p + 2) n v) p 3 (n + 1)) p 4 w (p + 2) = us (M (p + 2)) n v := by
          rw [mset_ne (k := p) (by omega), mset_ne (k := p) (by omega), mset_at, mset_ne (k := p + 1) (by omega)]
        rw [oA, oB]
        by_cases q : j = n
        · subst q
          refine ⟨?_, ?_⟩
          · rw [us_eq, us_ne (by omega), us_ne (by omega), us_eq]
          · rw [us_eq, us_ne (by omega), us_eq]
        · have := k' j j0 (by omega)
          refine ⟨?_, ?_⟩
          · rw [us_ne q, us_ne (by omega), us_ne (by omega), us_ne (by omega), this.1]
          · rw [us_ne q, us_ne (by omega), us_ne (by omega), us_ne (by omega), this.2]
  unfold f_X6_append
  rw [l1, l2, b]
  have e3 : mset (mset (mset M (p + 1) n k) (p + 2) n v) p 3 (n + 1) p 4 = M p 4 := by rw [mset_slot (by omega), mset_ne (by omega), mset_ne (by omega)]
  have e1 : mset M (p + 1) n k p 3 = n := by rw [mset_ne (by omega), b]
  have e2 : mset (mset M (p + 1) n k) (p + 2) n v p 3 = n := by rw [mset_ne (by omega), e1]
  by_cases hv : v = -1
  · refine ⟨mset (mset (mset (mset M (p + 1) n k) (p + 2) n v) p 3 (n + 1)) p 4 (M p 4 + 1), ?_, hs4 _ (by simp [b1, hv]), by rw [mset_self]; simp [b1, hv]⟩
    refine ie (by omega) (si (by omega) (bs fun N1 q1 => ?_))
    subst q1
    rw [e1]
    refine si (by omega) (bs fun N2 q2 => ?_)
    subst q2
    rw [e2]
    refine si (by omega) (bs fun N3 q3 => ?_)
    subst q3
    rw [e3]
    refine it hv (si (by omega) rfl)
  · refine ⟨mset (mset (mset (mset M (p + 1) n k) (p + 2) n v) p 3 (n + 1)) p 4 (M p 4 + 0), ?_, hs4 _ (by simp [b1, hv]), by rw [mset_self]; simp [b1, hv]⟩
    refine ie (by omega) (si (by omega) (bs fun N1 q1 => ?_))
    subst q1
    rw [e1]
    refine si (by omega) (bs fun N2 q2 => ?_)
    subst q2
    rw [e2]
    refine si (by omega) (bs fun N3 q3 => ?_)
    subst q3
    rw [e3]
    refine ie hv (si (by omega) rfl)
/-- a row is shut -/
theorem c_shut {e : Nat} {M0 M : fMem} {g : Int → Int} {r : Int} (h : RF e M0 M g) (hr : 0 ≤ r ∧ r < 19) (hc : rg (g 7738 + 1)) : ∃ M1, f_X0_shut e (e + 3 * r.toNat + 4) M = some M1 ∧ RF e M0 M1 (sShut g r) := by
  have hst : M e 3 = g 7738 := h.1.2.2.2.1
  have h1 := rf_ctr (i := 3) (x := 7738) (v := g 7738 + 1) h (by omega)
  refine ⟨mset (mset (mset M e 3 (g 7738 + 1)) (e + 3 * r.toNat + 4) 5 (g 7738 + 1)) (e + 3 * r.toNat + 4) 2 2, ?_, ?_⟩
  · unfold f_X0_shut
    rw [hst]
    refine si hc (bs fun N1 q1 => ?_)
    subst q1
    rw [mset_self]
    rfl
  · have hrm := rmR_bd r
    refine rf_row h1 hr (fun a a1 a2 a3 => by rw [mset_ne a1, mset_ne a1]) (fun y hy => ?_) ?_
    · unfold sShut
      by_cases q : y = 7738
      · subst q; rw [us_ne (by omega), us_eq, us_eq]
      · rw [us_ne (by omega), us_ne q, us_ne (by omega), us_ne q]
    · obtain ⟨a, b, c, d, f, k⟩ := h1.1.1 r hr.1 hr.2
      have ev : ∀ y, y ≠ 7738 → us g 7738 (g 7738 + 1) y = g y := fun y hy => us_ne hy
      have es : ∀ y, y ≠ 7738 → y ≠ 7619 + r → y ≠ 7638 + r → sShut g r y = g y := fun y y1 y2 y3 => by unfold sShut; rw [us_ne y3, us_ne y1, us_ne y2]
      have z2 : sShut g r (7619 + r) = 2 := by unfold sShut; rw [us_ne (by omega), us_ne (by omega), us_eq]
      have z3 : sShut g r (7638 + r) = g 7738 + 1 := by unfold sShut; rw [us_eq]
      rw [ev _ (by omega)] at b c f k
      unfold rowE
      rw [z2, z3, es (7600 + r) (by omega) (by omega) (by omega)]
      refine ⟨by rw [mset_self], ?_, ?_, fun _ => ?_, f, fun j j0 j1 => ?_⟩
      · rw [mset_slot (by omega), mset_slot (by omega)]; exact b
      · rw [mset_slot (by omega), mset_slot (by omega), c]
        exact sgN_cg _ (fun j j0 j1 => by rw [ev _ (by omega), es _ (by omega) (by omega) (by omega)])
      · rw [mset_slot (by omega), mset_self]
      · have := k j j0 j1
        rw [ev _ (by omega), ev _ (by omega)] at this
        refine ⟨?_, ?_⟩
        · rw [mset_ne (k := e + 3 * r.toNat + 4) (by omega), mset_ne (k := e + 3 * r.toNat + 4) (by omega), es _ (by omega) (by omega) (by omega)]; exact this.1
        · rw [mset_ne (k := e + 3 * r.toNat + 4) (by omega), mset_ne (k := e + 3 * r.toNat + 4) (by omega), es _ (by omega) (by omega) (by omega)]; exact this.2
end CLS1
