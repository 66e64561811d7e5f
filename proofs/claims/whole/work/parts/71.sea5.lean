/-! the reference's way: rows gone into -/
section SEA5
def gF (M M1 : fMem) : Prop := (∀ x, x ≠ 418 → (x < 430 ∨ 434 < x) → M1 x = M x) ∧ ∀ i, i ≠ 14 → i ≠ 15 → i ≠ 16 → i ≠ 22 → M1 418 i = M 418 i
theorem gF_rf (M : fMem) : gF M M := ⟨fun _ _ _ => rfl, fun _ _ _ _ _ => rfl⟩
theorem gF_tr {M M1 M2 : fMem} (a : gF M M1) (b : gF M1 M2) : gF M M2 := ⟨fun x h1 h2 => by rw [b.1 x h1 h2, a.1 x h1 h2], fun i h1 h2 h3 h4 => by rw [b.2 i h1 h2 h3 h4, a.2 i h1 h2 h3 h4]⟩
theorem enR_gF {M M1 : fMem} {q : Int} {L : List En} (h : enR M q L) (f : gF M M1) : enR M1 q L := by
  refine ⟨by rw [f.1 _ (by omega) (by omega)]; exact h.1, fun j e he => ?_⟩
  obtain ⟨c1, c2, c3, c4⟩ := h.2 j e he
  exact ⟨by rw [f.1 _ (by omega) (by omega)]; exact c1, by rw [f.1 _ (by omega) (by omega)]; exact c2, by rw [f.1 _ (by omega) (by omega)]; exact c3, by rw [f.1 _ (by omega) (by omega)]; exact c4⟩
def rtR (M : fMem) (g : Int → Int) (a κ j r : Int) : Prop := M 430 j = r ∧ M 431 j = (bdX g a κ r).1 ∧ M 432 j = (bdX g a κ r).2 ∧ M 433 j = (faX g a κ r).1 ∧ M 434 j = lkX g a κ r
def rts (M : fMem) (g : Int → Int) (a κ : Int) (pre : List Int) : Prop := M 418 22 = pre.length ∧ M 418 16 = lS (lkX g a κ) pre ∧ ∀ (j : Nat) (r : Int), pre[j]? = some r → rtR M g a κ j r
/-- what leads the way into a level -/
def hld (g : Int → Int) (a κ l ld f : Int) : Prop := a = 0 → (l = 0 ∧ ld = -1) ∨ ∃ l' : Nat, l = l' + 1 ∧ ld = bA g l' 0 ∧ (ld ≠ -1 → f = fLd g κ l')
theorem r_goes {M : fMem} {g : Int → Int} {a κ r ld fell l : Int} {pre : List Int} (hv : okV g) (hst : 2 ≤ g 7740 ∧ g 7740 ≤ 8) (ha : a = 0 ∨ a = 1) (h13 : M 418 13 = a) (he : ∀ q, 0 ≤ q → q < 19 → enR M q (eA g a q)) (hr : 0 ≤ r ∧ r < 19) (hlr : lvR r = l) (hl : hld g a κ l ld fell) (hp : rts M g a κ pre) (hlen : pre.length < 19) (b16 : 0 ≤ M 418 16 ∧ M 418 16 < 800000) :
    ∃ M1, f_X11_goesInto r ld fell κ M = some (fdX g a κ r, M1) ∧ rts M1 g a κ (pre ++ [r]) ∧ gF M M1 := by
  obtain ⟨N1, a1, a2, a3, a4⟩ := r_bounds (κ := κ) (r := r) (ld := ld) (fell := fell) hv hst ha h13 he hr (fun z => by rw [hlr]; exact hl z)
  have fb := faX_bd (a := a) (κ := κ) hv hst hr
  have e1 : ∀ q, 0 ≤ q → q < 19 → enR N1 q (eA g a q) := by
    intro q q0 q1
    have := he q q0 q1
    refine ⟨by rw [a4.1 _ (by omega)]; exact this.1, fun j e hj => ?_⟩
    obtain ⟨c1, c2, c3, c4⟩ := this.2 j e hj
    exact ⟨by rw [a4.1 _ (by omega)]; exact c1, by rw [a4.1 _ (by omega)]; exact c2, by rw [a4.1 _ (by omega)]; exact c3, by rw [a4.1 _ (by omega)]; exact c4⟩
  have n16 : N1 418 16 = M 418 16 := a4.2 16 (by omega)
  have n22 : N1 418 22 = M 418 22 := a4.2 22 (by omega)
  have fi := r_fallsIn (κ := κ) hv hst (e1 r hr.1 hr.2) hr a2 a3 (by omega)
  have hlenr := eA_len (a := a) (r := r) hv hst hr
  -- looked at once more
  have fo : ∃ N3, f_X11_isFoundAt r (faX g a κ r).1 κ (mset N1 418 16 (N1 418 16 + (faX g a κ r).2)) = some (fdX g a κ r, N3) ∧ N3 418 16 = M 418 16 + lkX g a κ r ∧ (∀ x, x ≠ 418 → N3 x = M x) ∧ ∀ i, i ≠ 16 → N3 418 i = N1 418 i := by
    generalize hN2 : mset N1 418 16 (N1 418 16 + (faX g a κ r).2) = N2
    have z16 : N2 418 16 = M 418 16 + (faX g a κ r).2 := by rw [← hN2, mset_self, n16]
    have zx : ∀ x, x ≠ 418 → N2 x = M x := fun x hx => by rw [← hN2, mset_ne hx, a4.1 x hx]
    have zi : ∀ i, i ≠ 16 → N2 418 i = N1 418 i := fun i hi => by rw [← hN2, mset_slot hi]
    have z9 : N2 429 r = (eA g a r).length := by rw [zx _ (by omega)]; exact (he r hr.1 hr.2).1
    unfold f_X11_isFoundAt
    rw [z9]
    by_cases c : (faX g a κ r).1 < (eA g a r).length
    · have ep := enR_at (he r hr.1 hr.2) ⟨fb.1.1, c⟩
      refine ⟨mset N2 418 16 (M 418 16 + (faX g a κ r).2 + 1), ?_, ?_, fun x hx => by rw [mset_ne hx, zx x hx], fun i hi => by rw [mset_slot hi, zi i hi]⟩
      · refine si hr (it c ?_)
        rw [z16]
        refine si (by omega) (bs fun x e => ?_)
        have x5 : x 425 (700 * r + (faX g a κ r).1) = (gE (eA g a r) (faX g a κ r).1).1 := by rw [e, mset_ne (by omega), zx _ (by omega)]; exact ep.1
        have x6 : x 426 (700 * r + (faX g a κ r).1) = (gE (eA g a r) (faX g a κ r).1).2.1 := by rw [e, mset_ne (by omega), zx _ (by omega)]; exact ep.2.1
        rw [x5, x6]
        refine si (by omega) ?_
        unfold fdX
        subst e
        by_cases c1 : (gE (eA g a r) (faX g a κ r).1).1 = κ
        · by_cases c2 : (gE (eA g a r) (faX g a κ r).1).2.1 = 0
          · rw [if_pos c1, if_pos c2, if_pos ⟨c, c1, c2⟩]
          · rw [if_pos c1, if_neg c2, if_neg (fun w => c2 w.2.2)]
        · rw [if_neg c1, if_neg (fun w => c1 w.2.1)]
      · rw [mset_self]; unfold lkX; rw [if_neg (by omega)]; omega
    · refine ⟨N2, ?_, ?_, zx, zi⟩
      · refine si hr (ie c ?_)
        unfold fdX; rw [if_neg (fun w => c w.1)]
      · rw [z16]; unfold lkX; rw [if_pos (by omega)]; omega
  obtain ⟨N3, f1, f2, f3, f4⟩ := fo
  have g22 : N3 418 22 = pre.length := by rw [f4 22 (by omega), n22]; exact hp.1
  have g14 : N3 418 14 = (bdX g a κ r).1 := by rw [f4 14 (by omega)]; exact a2
  have g15 : N3 418 15 = (bdX g a κ r).2 := by rw [f4 15 (by omega)]; exact a3
  have pl : (0 : Int) ≤ (pre.length : Int) ∧ (pre.length : Int) < 19 := by omega
  generalize hK : mset (mset (mset (mset (mset (mset N3 430 pre.length r) 431 pre.length (bdX g a κ r).1) 432 pre.length (bdX g a κ r).2) 433 pre.length (faX g a κ r).1) 434 pre.length (lkX g a κ r)) 418 22 ((pre.length : Int) + 1) = K
  have ko : ∀ x, x ≠ 418 → (x < 430 ∨ 434 < x) → K x = M x := fun x h1 h2 => by rw [← hK, mset_ne h1, mset_ne (by omega), mset_ne (by omega), mset_ne (by omega), mset_ne (by omega), mset_ne (by omega), f3 x h1]
  have ks : ∀ i, i ≠ 22 → K 418 i = N3 418 i := fun i hi => by rw [← hK, mset_slot hi, mset_ne (by omega), mset_ne (by omega), mset_ne (by omega), mset_ne (by omega), mset_ne (by omega)]
  have kq : ∀ y, 430 ≤ y → y ≤ 434 → ∀ j, j ≠ (pre.length : Int) → K y j = M y j := by
    intro y y0 y1 j hj
    rw [← hK, mset_ne (by omega)]
    simp only [mset]
    simp [hj]
    rw [f3 y (by omega)]
  have k0 : K 430 pre.length = r := by rw [← hK, mset_ne (by omega), mset_ne (by omega), mset_ne (by omega), mset_ne (by omega), mset_ne (by omega), mset_self]
  have k1 : K 431 pre.length = (bdX g a κ r).1 := by rw [← hK, mset_ne (by omega), mset_ne (by omega), mset_ne (by omega), mset_ne (by omega), mset_self]
  have k2 : K 432 pre.length = (bdX g a κ r).2 := by rw [← hK, mset_ne (by omega), mset_ne (by omega), mset_ne (by omega), mset_self]
  have k3 : K 433 pre.length = (faX g a κ r).1 := by rw [← hK, mset_ne (by omega), mset_ne (by omega), mset_self]
  have k4 : K 434 pre.length = lkX g a κ r := by rw [← hK, mset_ne (by omega), mset_self]
  have k22 : K 418 22 = pre.length + 1 := by rw [← hK, mset_self]
  refine ⟨K, ?_, ⟨?_, ?_, fun j q hq => ?_⟩, ko, fun i h1 h2 h3 h4 => ?_⟩
  · unfold f_X11_goesInto
    refine bc a1 (bc fi (bc f1 ?_))
    refine si (by show 0 ≤ N3 418 22 ∧ N3 418 22 < 19; rw [g22]; exact pl) (bs fun x1 q1 => ?_)
    have q1 : x1 = mset N3 430 pre.length r := by rw [q1]; show mset N3 430 (N3 418 22) r = _; rw [g22]
    have s22 : x1 418 22 = pre.length := by rw [q1, mset_ne (by omega), g22]
    have s14 : x1 418 14 = (bdX g a κ r).1 := by rw [q1, mset_ne (by omega), g14]
    refine si (by rw [s22]; exact pl) (bs fun x2 q2 => ?_)
    rw [s22, s14] at q2
    have t22 : x2 418 22 = pre.length := by rw [q2, mset_ne (by omega), s22]
    have t15 : x2 418 15 = (bdX g a κ r).2 := by rw [q2, mset_ne (by omega), q1, mset_ne (by omega), g15]
    refine si (by rw [t22]; exact pl) (bs fun x3 q3 => ?_)
    rw [t22, t15] at q3
    have u22 : x3 418 22 = pre.length := by rw [q3, mset_ne (by omega), t22]
    refine si (by rw [u22]; exact pl) (bs fun x4 q4 => ?_)
    rw [u22] at q4
    have v22 : x4 418 22 = pre.length := by rw [q4, mset_ne (by omega), u22]
    have v16 : x4 418 16 = M 418 16 + lkX g a κ r := by rw [q4, mset_ne (by omega), q3, mset_ne (by omega), q2, mset_ne (by omega), q1, mset_ne (by omega), f2]
    have v16' : x4 418 16 - M 418 16 = lkX g a κ r := by omega
    refine si (by rw [v22]; exact pl) (si (by rw [v16']; omega) (bs fun x5 q5 => ?_))
    rw [v22, v16'] at q5
    have w22 : x5 418 22 = pre.length := by rw [q5, mset_ne (by omega), v22]
    refine si (by rw [w22]; omega) (bs fun x6 q6 => ?_)
    rw [w22] at q6
    rw [q6, q5, q4, q3, q2, q1, hK]
  · rw [k22]; simp
  · rw [ks 16 (by omega), f2, hp.2.1, lS_app]; simp [lS]
  · by_cases c : j < pre.length
    · rw [List.getElem?_append_left c] at hq
      obtain ⟨w0, w1, w2, w3, w4⟩ := hp.2.2 j q hq
      have hj : (j : Int) ≠ (pre.length : Int) := by omega
      exact ⟨by rw [kq _ (by omega) (by omega) _ hj]; exact w0, by rw [kq _ (by omega) (by omega) _ hj]; exact w1, by rw [kq _ (by omega) (by omega) _ hj]; exact w2, by rw [kq _ (by omega) (by omega) _ hj]; exact w3, by rw [kq _ (by omega) (by omega) _ hj]; exact w4⟩
    · have hj := (List.getElem?_eq_some_iff.mp hq).1
      simp at hj
      have : j = pre.length := by omega
      subst this
      rw [List.getElem?_append_right (Nat.le_refl _)] at hq
      simp at hq
      rw [← hq]
      exact ⟨k0, k1, k2, k3, k4⟩
  · rw [ks i h4, f4 i h3, a4.2 i (by omega)]
theorem lS_bd {w : Int → Int} {c : Int} : ∀ xs : List Int, (∀ r ∈ xs, 0 ≤ w r ∧ w r ≤ c) → 0 ≤ lS w xs ∧ lS w xs ≤ c * xs.length := by
  intro xs
  induction xs with
  | nil => intro _; simp [lS]
  | cons x xs ih =>
    intro h
    have a := h x List.mem_cons_self
    have b := ih (fun y hy => h y (List.mem_cons_of_mem _ hy))
    have hm := mul_s c xs.length
    rw [lS, List.length_cons]; omega
theorem lk_sum {g : Int → Int} {a κ : Int} (hv : okV g) (hst : 2 ≤ g 7740 ∧ g 7740 ≤ 8) {xs : List Int} (h : ∀ r ∈ xs, 0 ≤ r ∧ r < 19) : 0 ≤ lS (lkX g a κ) xs ∧ lS (lkX g a κ) xs ≤ 41 * xs.length := lS_bd xs (fun r hr => (faX_bd (a := a) (κ := κ) hv hst (h r hr)).2.2)
theorem lvL0 {g : Int → Int} {l : Int} (h : shM g l = 0) : lvL g l = [] := by unfold lvL; rw [if_pos h]
theorem lvL1 {g : Int → Int} {l : Int} (h : shM g l = 1) : lvL g l = [bA g l 0] := by unfold lvL; rw [if_neg (by omega), if_pos h]
theorem lvL2 {g : Int → Int} {l : Int} (h : shM g l = 2) : lvL g l = [bA g l 0, bA g l 1] := by unfold lvL; rw [if_neg (by omega), if_neg (by omega)]
theorem r_lfLv {M : fMem} {g : Int → Int} {a κ l ld f : Int} {pre : List Int} {k : Int → Int → Int → fMem → Option (Int × fMem)} {n : Nat} (hg : M 419 = g) (hv : okV g) (hst : 2 ≤ g 7740 ∧ g 7740 ≤ 8) (ha : a = 0 ∨ a = 1) (h13 : M 418 13 = a) (he : ∀ q, 0 ≤ q → q < 19 → enR M q (eA g a q)) (hl8 : 0 ≤ l ∧ l ≤ 8) (hl : hld g a κ l ld f) (hp : rts M g a κ pre) (hpm : ∀ r ∈ pre, 0 ≤ r ∧ r < 19) (hlen : pre.length ≤ 16) :
    ∃ M1, gF M M1 ∧ ((L_X11_looksFor_30 k (n + 3) κ ld f l (-1) 0 M = k κ l (if shM g l = 0 then -1 else (faX g a κ (bA g l 0)).1) M1 ∧ rts M1 g a κ (pre ++ lvL g l) ∧ ∀ rest, viX g a κ (lvL g l ++ rest) = lvL g l ++ viX g a κ rest) ∨
      (∃ zs, L_X11_looksFor_30 k (n + 3) κ ld f l (-1) 0 M = some (M1 418 16, M1) ∧ rts M1 g a κ (pre ++ zs) ∧ ∀ rest, viX g a κ (lvL g l ++ rest) = zs)) := by
  have hE : ER l ≤ 19 := by unfold ER; split <;> omega
  have f01 : ∀ r, fdX g a κ r = 0 ∨ fdX g a κ r = 1 := fun r => by unfold fdX; split <;> omega
  rw [L_X11_looksFor_30, r_shutMany hl8, hg]
  rcases lv_cs hl8 hv with ⟨a1, -⟩ | ⟨a1, a2, a3, a4, -⟩ | ⟨a1, a2, a3, a4, a5, a6, -⟩
  · refine ⟨M, gF_rf M, Or.inl ⟨?_, ?_, fun rest => ?_⟩⟩
    · rw [a1]; exact bs fun x e => by subst e; exact it (by omega) rfl
    · rw [lvL0 a1, List.append_nil]; exact hp
    · rw [lvL0 a1]; rfl
  · rw [lvL1 a1, if_neg (by omega : ¬ shM g l = 0)]
    have sb := lk_sum (a := a) (κ := κ) hv hst hpm
    obtain ⟨M1, b1, b2, b3⟩ := r_goes (κ := κ) (r := bA g l 0) (ld := ld) (fell := f) (l := l) hv hst ha h13 he (by omega) (lvR_of hl8 a3) hl hp (by omega) (by rw [hp.2.1]; omega)
    have g1 : M1 419 = g := by rw [b3.1 _ (by omega) (by omega), hg]
    have c22 : M1 418 22 = pre.length + 1 := by rw [b2.1]; simp
    have c33 : M1 433 pre.length = (faX g a κ (bA g l 0)).1 := (b2.2.2 pre.length (bA g l 0) (by simp)).2.2.2.1
    refine ⟨M1, b3, ?_⟩
    by_cases q : fdX g a κ (bA g l 0) = 0
    · left
      refine ⟨?_, b2, fun rest => ?_⟩
      · rw [a1]
        refine bs fun x e => ?_
        subst e
        refine ie (by omega) (bc (r_byAge hl8) ?_)
        rw [hg]
        refine bc b1 ?_
        have c21 : M1 418 22 - 1 = pre.length := by omega
        refine it q (it rfl (si (by show 0 ≤ M1 418 22 - 1 ∧ M1 418 22 - 1 < 19; omega) ?_))
        show L_X11_looksFor_30 k (n + 2) κ ld f l (M1 433 (M1 418 22 - 1)) (0 + 1) M1 = _
        rw [c21, c33]
        rw [L_X11_looksFor_30, r_shutMany hl8, g1, a1]
        refine bs fun x e => ?_
        subst e
        exact it (by omega) rfl
      · show viX g a κ (bA g l 0 :: rest) = _
        rw [viX, if_pos q]; rfl
    · right
      refine ⟨[bA g l 0], ?_, b2, fun rest => ?_⟩
      · rw [a1]
        refine bs fun x e => ?_
        subst e
        refine ie (by omega) (bc (r_byAge hl8) ?_)
        rw [hg]
        refine bc b1 ?_
        exact ie q rfl
      · show viX g a κ (bA g l 0 :: rest) = _
        rw [viX, if_neg q]
  · rw [lvL2 a1, if_neg (by omega : ¬ shM g l = 0)]
    have sb := lk_sum (a := a) (κ := κ) hv hst hpm
    obtain ⟨M1, b1, b2, b3⟩ := r_goes (κ := κ) (r := bA g l 0) (ld := ld) (fell := f) (l := l) hv hst ha h13 he (by omega) (lvR_of hl8 a2) hl hp (by omega) (by rw [hp.2.1]; omega)
    have g1 : M1 419 = g := by rw [b3.1 _ (by omega) (by omega), hg]
    have c22 : M1 418 22 = pre.length + 1 := by rw [b2.1]; simp
    have c33 : M1 433 pre.length = (faX g a κ (bA g l 0)).1 := (b2.2.2 pre.length (bA g l 0) (by simp)).2.2.2.1
    by_cases q : fdX g a κ (bA g l 0) = 0
    · have hpm1 : ∀ r ∈ pre ++ [bA g l 0], 0 ≤ r ∧ r < 19 := by
        intro r hr
        rw [List.mem_append] at hr
        rcases hr with hr | hr
        · exact hpm r hr
        · simp at hr; omega
      have sb1 := lk_sum (a := a) (κ := κ) hv hst hpm1
      have ll : (pre ++ [bA g l 0]).length = pre.length + 1 := by simp
      obtain ⟨M2, d1, d2, d3⟩ := r_goes (κ := κ) (r := bA g l 1) (ld := ld) (fell := f) (l := l) hv hst ha (by rw [b3.2 13 (by omega) (by omega) (by omega) (by omega), h13]) (fun q q0 q1 => enR_gF (he q q0 q1) b3) (by omega) (lvR_of hl8 a3) hl b2 (by omega) (by rw [b2.2.1]; omega)
      have g2 : M2 419 = g := by rw [d3.1 _ (by omega) (by omega), g1]
      rw [List.append_assoc] at d2
      refine ⟨M2, gF_tr b3 d3, ?_⟩
      by_cases q2 : fdX g a κ (bA g l 1) = 0
      · left
        refine ⟨?_, d2, fun rest => ?_⟩
        · rw [a1]
          refine bs fun x e => ?_
          subst e
          refine ie (by omega) (bc (r_byAge hl8) ?_)
          rw [hg]
          refine bc b1 ?_
          have c21 : M1 418 22 - 1 = pre.length := by omega
          refine it q (it rfl (si (by show 0 ≤ M1 418 22 - 1 ∧ M1 418 22 - 1 < 19; omega) ?_))
          show L_X11_looksFor_30 k (n + 2) κ ld f l (M1 433 (M1 418 22 - 1)) (0 + 1) M1 = _
          rw [c21, c33]
          rw [L_X11_looksFor_30, r_shutMany hl8, g1, a1]
          refine bs fun x e => ?_
          subst e
          refine ie (by omega) (bc (r_byAge hl8) ?_)
          rw [g1]
          refine bc d1 ?_
          refine it q2 (ie (by omega) ?_)
          rw [L_X11_looksFor_30, r_shutMany hl8]
          dsimp only
          rw [g2, a1]
          refine bs fun x e => ?_
          subst e
          exact it (by omega) rfl
        · show viX g a κ (bA g l 0 :: bA g l 1 :: rest) = _
          rw [viX, if_pos q, viX, if_pos q2]; rfl
      · right
        refine ⟨[bA g l 0, bA g l 1], ?_, d2, fun rest => ?_⟩
        · rw [a1]
          refine bs fun x e => ?_
          subst e
          refine ie (by omega) (bc (r_byAge hl8) ?_)
          rw [hg]
          refine bc b1 ?_
          have c21 : M1 418 22 - 1 = pre.length := by omega
          refine it q (it rfl (si (by show 0 ≤ M1 418 22 - 1 ∧ M1 418 22 - 1 < 19; omega) ?_))
          show L_X11_looksFor_30 k (n + 2) κ ld f l (M1 433 (M1 418 22 - 1)) (0 + 1) M1 = _
          rw [c21, c33]
          rw [L_X11_looksFor_30, r_shutMany hl8, g1, a1]
          refine bs fun x e => ?_
          subst e
          refine ie (by omega) (bc (r_byAge hl8) ?_)
          rw [g1]
          refine bc d1 ?_
          exact ie q2 rfl
        · show viX g a κ (bA g l 0 :: bA g l 1 :: rest) = _
          rw [viX, if_pos q, viX, if_neg q2]
    · refine ⟨M1, b3, Or.inr ⟨[bA g l 0], ?_, b2, fun rest => ?_⟩⟩
      · rw [a1]
        refine bs fun x e => ?_
        subst e
        refine ie (by omega) (bc (r_byAge hl8) ?_)
        rw [hg]
        refine bc b1 ?_
        exact ie q rfl
      · show viX g a κ (bA g l 0 :: bA g l 1 :: rest) = _
        rw [viX, if_neg q]
end SEA5
