/-! the class's way: enter, follow -/
section SEA3
def pFr (M M1 : fMem) : Prop := ∀ x, x < 227 ∨ 231 < x → M1 x = M x
theorem ixR_cg {M M1 : fMem} {g : Int → Int} (h : ixR M g) (f : ∀ x, 151 ≤ x → x < 227 → M1 x = M x) : ixR M1 g := by
  intro r r0 r1
  have eb := eO_bd (r := r) ⟨r0, r1⟩
  obtain ⟨c1, c2, c3⟩ := h r r0 r1
  refine ⟨by rw [f _ (by omega) (by omega)]; exact c1, by rw [f _ (by omega) (by omega)]; exact c2, fun j e he => ?_⟩
  rw [f _ (by omega) (by omega), f _ (by omega) (by omega), f _ (by omega) (by omega)]; exact c3 j e he
theorem c_enter {M : fMem} {g : Int → Int} {κ r : Int} (hR : RelV 2 M g) (hx : ixR M g) (hv : okV g) (hst : 2 ≤ g 7740 ∧ g 7740 ≤ 8) (hr : 0 ≤ r ∧ r < 19) (hκ : 0 ≤ κ ∧ κ < 200) (hld : ∀ l : Nat, lvR r = l + 1 → bA g l 0 ≠ -1 → M 230 (bA g l 0) = fLd g κ l) (b4 : 0 ≤ M 227 4 ∧ M 227 4 < 100) (b5 : 0 ≤ M 227 5 ∧ M 227 5 < 100000) :
    ∃ M1, f_X5_enter 2 r κ M = some (fdA g κ r, M1) ∧ pth M1 g κ r ∧ M1 227 4 = M 227 4 + 1 ∧ M1 227 5 = M 227 5 + lkA g κ r ∧ (∀ q, q ≠ r → pth M g κ q → pth M1 g κ q) ∧ pFr M M1 := by
  obtain ⟨N, a1, a2, a3, a4, a5⟩ := c_narrow hR hx hv hst hr hld
  have eb := eO_bd hr
  have hlr := E_len (r := r) hv hst.1 hr
  have hEr : rmE (lvR r).toNat ≤ 328 := by unfold rmE; split <;> omega
  have hL := Ln_eO hr
  have bd := (bd_bd (κ := κ) hv hst (lvR r).toNat (by have := lv_ex hr; omega)).1 r
  have ex := hx r hr.1 hr.2
  have exN : enC N g r (E g r) := by
    obtain ⟨c1, c2, c3⟩ := ex
    refine ⟨by rw [a5 _ (by omega) (by omega)]; exact c1, by rw [a5 _ (by omega) (by omega)]; exact c2, fun j e he => ?_⟩
    rw [a5 _ (by omega) (by omega), a5 _ (by omega) (by omega), a5 _ (by omega) (by omega)]; exact c3 j e he
  obtain ⟨M1, d1, d2, d3, d4, d5, d6, d7⟩ := c_halve (p := eO r + 1) (f := kf (E g r)) (κ := κ) (sz := ((E g r).length : Int)) hr a2 a3 bd.1 bd.2 ⟨by rw [hL.1]; omega, by omega⟩ (fun i i0 i1 => (enC_at exN ⟨i0, i1⟩).1) (by rw [a5 227 (by omega) (by omega)]; exact b4) (by rw [a5 227 (by omega) (by omega)]; exact b5)
  have fb := fal_bd (κ := κ) hv hst hr
  have exM : enC M1 g r (E g r) := by
    obtain ⟨c1, c2, c3⟩ := exN
    refine ⟨by rw [d7 _ (by omega)]; exact c1, by rw [d7 _ (by omega)]; exact c2, fun j e he => ?_⟩
    rw [d7 _ (by omega), d7 _ (by omega), d7 _ (by omega)]; exact c3 j e he
  have e230 : M1 230 r = (fal g κ r).1 := d2
  refine ⟨M1, ?_, ⟨by rw [d7 228 (by omega)]; exact a2, by rw [d7 229 (by omega)]; exact a3, d2, d3⟩, ?_, ?_, fun q hq hp => ?_, fun x hx2 => ?_⟩
  · unfold f_X5_enter
    refine si hr (bc a1 ?_)
    have sz : N (4 * psO r.toNat + 151) 3 = (E g r).length := exN.1
    rw [sz]
    refine bc d1 ?_
    rw [e230]
    have ky := c_ekeyAt (i := (fal g κ r).1) exM hr hlr fb.1.1
    refine bc ky ?_
    unfold fdA
    by_cases c1 : (gE (E g r) (fal g κ r).1).1 = κ
    · rw [if_pos c1]
      have hlt : (fal g κ r).1 < (E g r).length := by
        by_cases z : (fal g κ r).1 < (E g r).length
        · exact z
        · rw [gE_out (by omega)] at c1; dsimp only at c1; omega
      have pl : f_X1_placeAt (4 * psO r.toNat + 151) (fal g κ r).1 M1 = some (gE (E g r) (fal g κ r).1).2.2.2 := by
        have s3 : M1 (4 * psO r.toNat + 151) 3 = (E g r).length := exM.1
        have l3 : Ln (4 * psO r.toNat + 151 + 3) = rmE (lvR r).toNat := hL.2.2
        have v3 : M1 (4 * psO r.toNat + 151 + 3) (fal g κ r).1 = (gE (E g r) (fal g κ r).1).2.2.2 := (enC_at exM ⟨fb.1.1, hlt⟩).2.2
        unfold f_X1_placeAt
        rw [s3, l3]
        refine ie (by omega) (ie (by omega) (si (by omega) ?_))
        rw [v3]
      refine bc pl ?_
      obtain ⟨x1, x2, x3⟩ := lv_ex hr
      rcases E_mk hv hst x1 ⟨x2, x3⟩ _ (gE_mem (L := E g r) (p := (fal g κ r).1) ⟨fb.1.1, hlt⟩) with ⟨z1, z2⟩ | ⟨z1, z2, -⟩
      · rw [if_pos z2, if_pos ⟨hlt, c1, z1⟩]
      · rw [if_neg (by omega), if_neg (fun w => by omega)]
    · rw [if_neg c1, if_neg (fun w => c1 w.2.1)]
  · rw [d4, a5 227 (by omega) (by omega)]
  · rw [d5, a5 227 (by omega) (by omega)]; rfl
  · obtain ⟨p1, p2, p3, p4⟩ := hp
    exact ⟨by rw [d7 228 (by omega), (a4 q hq).1]; exact p1, by rw [d7 229 (by omega), (a4 q hq).2]; exact p2, by rw [(d6 q hq).1, a5 230 (by omega) (by omega)]; exact p3, by rw [(d6 q hq).2, a5 231 (by omega) (by omega)]; exact p4⟩
  · rw [d7 x (by omega), a5 x (by omega) (by omega)]
/-- leads were gone through ahead -/
def ldp (g : Int → Int) : List Int → List Int → Prop
  | _, [] => True
  | pre, r :: xs => (∀ l : Nat, lvR r = l + 1 → bA g l 0 ≠ -1 → bA g l 0 ∈ pre) ∧ ldp g (pre ++ [r]) xs
theorem ldp_app {g : Int → Int} : ∀ (xs ys pre : List Int), ldp g pre xs → ldp g (pre ++ xs) ys → ldp g pre (xs ++ ys) := by
  intro xs
  induction xs with
  | nil => intro ys pre _ h; simpa using h
  | cons x xs ih =>
    intro ys pre h h2
    refine ⟨h.1, ih ys (pre ++ [x]) h.2 ?_⟩
    rw [List.append_assoc]; exact h2
theorem ldp_ord {g : Int → Int} (hv : okV g) : ∀ (d : Nat), d ≤ 9 → ∀ pre : List Int, (∀ l : Nat, (l : Int) + d < 9 → bA g l 0 ≠ -1 → bA g l 0 ∈ pre) → ldp g pre (ordF g d) := by
  intro d
  induction d with
  | zero => intro _ pre _; trivial
  | succ d ih =>
    intro hd pre hp
    rw [ordF]
    have hE : ER (8 - d) ≤ 19 := by unfold ER; split <;> omega
    have own : ∀ r, 2 * (8 - (d : Int)) ≤ r → r < ER (8 - d) → ∀ pre' : List Int, (∀ x ∈ pre, x ∈ pre') → ∀ l : Nat, lvR r = l + 1 → bA g l 0 ≠ -1 → bA g l 0 ∈ pre' := by
      intro r r0 r1 pre' hs l hl hq
      have := lvR_of (l := 8 - d) (by omega) ⟨r0, r1⟩
      exact hs _ (hp l (by push_cast; omega) hq)
    have hl : ldp g pre (lvL g (8 - d)) ∧ (bA g (8 - d) 0 ≠ -1 → bA g (8 - d) 0 ∈ pre ++ lvL g (8 - d)) := by
      unfold lvL
      rcases lv_cs (g := g) (l := 8 - d) (by omega) hv with ⟨a1, a2, -⟩ | ⟨a1, a2, a3, -⟩ | ⟨a1, a2, a3, -⟩
      · rw [if_pos a1]; exact ⟨trivial, fun z => absurd a2 z⟩
      · rw [if_neg (by omega), if_pos a1]
        exact ⟨⟨own _ a3.1 a3.2 pre (fun _ h => h), trivial⟩, fun _ => by simp⟩
      · rw [if_neg (by omega), if_neg (by omega)]
        exact ⟨⟨own _ a2.1 a2.2 pre (fun _ h => h), own _ a3.1 a3.2 _ (fun x h => by simp [h]), trivial⟩, fun _ => by simp⟩
    refine ldp_app _ _ _ hl.1 (ih (by omega) _ (fun l h1 h2 => ?_))
    by_cases c : (l : Int) = 8 - d
    · rw [c] at h2 ⊢; exact hl.2 h2
    · rw [List.mem_append]; exact Or.inl (hp l (by push_cast; omega) h2)
/-- the rows to which one goes -/
noncomputable def vis (g : Int → Int) (κ : Int) : List Int → List Int
  | [] => []
  | r :: xs => r :: (if fdA g κ r = 0 then vis g κ xs else [])
theorem lead_pth {M : fMem} {g : Int → Int} {κ r : Int} {pre : List Int} (hv : okV g) (hp : ∀ q ∈ pre, pth M g κ q) (h : ∀ l : Nat, lvR r = l + 1 → bA g l 0 ≠ -1 → bA g l 0 ∈ pre) (hr : 0 ≤ r ∧ r < 19) : ∀ l : Nat, lvR r = l + 1 → bA g l 0 ≠ -1 → M 230 (bA g l 0) = fLd g κ l := by
  intro l hl hq
  have := (hp _ (h l hl hq)).2.2.1
  rw [this, fLd_eq]
  have hin : 2 * (l : Int) ≤ bA g l 0 ∧ bA g l 0 < ER l := by
    have := lv_ex hr
    rcases lv_cs (g := g) (l := (l : Int)) (by omega) hv with ⟨a1, a2, a3, -⟩ | ⟨a1, a2, a3, -⟩ | ⟨a1, a2, a3, -⟩ <;> first | (exact absurd ‹_› hq) | omega
  have := lv_ex hr
  unfold fal
  rw [lvR_of (l := (l : Int)) (by omega) hin, Int.toNat_natCast]
theorem c_follow {g : Int → Int} {κ : Int} (hv : okV g) (hst : 2 ≤ g 7740 ∧ g 7740 ≤ 8) (hκ : 0 ≤ κ ∧ κ < 200) : ∀ (xs pre : List Int) (n : Nat) (i : Int) (M : fMem), RelV 2 M g → ixR M g → ordAt 2 M i xs → (∀ r ∈ xs, (0 ≤ r ∧ r < 19) ∧ g (7619 + r) = 2) → ldp g pre xs → (∀ q ∈ pre, pth M g κ q) → 0 ≤ i → i + xs.length ≤ 19 → xs.length < n → 0 ≤ M 227 4 → M 227 4 + xs.length < 100 → 0 ≤ M 227 5 → M 227 5 + 41 * xs.length < 100000 →
    ∃ M1, L_X5_follow_10 (fun M_8 => some M_8) n 2 κ 0 i M = some M1 ∧ (∀ q ∈ vis g κ xs, pth M1 g κ q) ∧ M1 227 4 = M 227 4 + (vis g κ xs).length ∧ M1 227 5 = M 227 5 + lS (lkA g κ) (vis g κ xs) ∧ pFr M M1 ∧ (∀ q ∈ pre, pth M1 g κ q) := by
  intro xs
  induction xs with
  | nil =>
    intro pre n i M hR hx ha hm hl hp i0 i1 hn b0 b1 c0 c1
    obtain ⟨n, rfl⟩ : ∃ n', n = n' + 1 := ⟨n - 1, by omega⟩
    refine ⟨M, ?_, fun q hq => by simp [vis] at hq, by simp [vis], by simp [vis, lS], fun _ _ => rfl, hp⟩
    rw [L_X5_follow_10]
    exact it (by rw [ha.1]; simp) rfl
  | cons r xs ih =>
    intro pre n i M hR hx ha hm hl hp i0 i1 hn b0 b1 c0 c1
    simp only [List.length_cons] at i1 hn b1 c1
    push_cast at i1 b1 c1
    obtain ⟨n, rfl⟩ : ∃ n', n = n' + 1 := ⟨n - 1, by omega⟩
    obtain ⟨o1, o2, o3⟩ := ordAt_hd ha
    obtain ⟨r1, r2⟩ := hm r List.mem_cons_self
    obtain ⟨M1, a1, a2, a3, a4, a5, a6⟩ := c_enter (κ := κ) hR hx hv hst r1 hκ (lead_pth hv hp hl.1 r1) (by omega) (by omega)
    have fb := fal_bd (κ := κ) hv hst r1
    have f01 : fdA g κ r = 0 ∨ fdA g κ r = 1 := by unfold fdA; split <;> omega
    have hp1 : ∀ q ∈ pre ++ [r], pth M1 g κ q := by
      intro q hq
      by_cases c : q = r
      · rw [c]; exact a2
      · rw [List.mem_append] at hq
        rcases hq with hq | hq
        · exact a5 q c (hp q hq)
        · simp at hq; exact absurd hq c
    rw [L_X5_follow_10, o1, if_neg (by omega), if_pos rfl, if_pos (by omega), a1]
    unfold vis
    by_cases c : fdA g κ r = 0
    · rw [if_pos c, c]
      obtain ⟨M2, d1, d2, d3, d4, d5, d6⟩ := ih (pre ++ [r]) n (i + 1) M1 (RelV_cg hR (fun x h1 h2 => a6 x (by omega))) (ixR_cg hx (fun x h1 h2 => a6 x (by omega))) ⟨by rw [a6 2 (by omega)]; exact o2.1, fun j x hx => by rw [a6 (2 + 2) (by omega)]; exact o2.2 j x hx⟩ (fun q hq => hm q (List.mem_cons_of_mem _ hq)) hl.2 hp1 (by omega) (by omega) (by omega) (by omega) (by omega) (by omega) (by omega)
      refine ⟨M2, ?_, fun q hq => ?_, ?_, ?_, fun x hx => by rw [d5 x hx, a6 x hx], fun q hq => d6 q (by simp [hq])⟩
      · exact bs fun x e => by subst e; exact d1
      · rw [List.mem_cons] at hq
        rcases hq with hq | hq
        · rw [hq]; exact d6 r (by simp)
        · exact d2 q hq
      · rw [d3, a3, List.length_cons]; push_cast; omega
      · rw [d4, a4, lS]; omega
    · rw [if_neg c]
      have c1 : fdA g κ r = 1 := by omega
      obtain ⟨n, rfl⟩ : ∃ n', n = n' + 1 := ⟨n - 1, by omega⟩
      refine ⟨M1, ?_, fun q hq => ?_, ?_, ?_, a6, fun q hq => hp1 q (by simp [hq])⟩
      · refine bs fun x e => ?_
        subst e
        dsimp only
        rw [c1, L_X5_follow_10]
        by_cases z : M1 2 2 ≤ i + 1
        · exact it z rfl
        · exact ie z (ie (by omega) rfl)
      · simp at hq; rw [hq]; exact a2
      · rw [a3]; simp
      · rw [a4]; simp [lS]
theorem c_followAll {g : Int → Int} {κ : Int} (hv : okV g) (hst : 2 ≤ g 7740 ∧ g 7740 ≤ 8) (hκ : 0 ≤ κ ∧ κ < 200) : ∀ (xs pre : List Int) (n : Nat) (i : Int) (M : fMem), RelV 2 M g → ixR M g → ordAt 2 M i xs → (∀ r ∈ xs, (0 ≤ r ∧ r < 19) ∧ g (7619 + r) = 2) → ldp g pre xs → (∀ q ∈ pre, pth M g κ q) → 0 ≤ i → i + xs.length ≤ 19 → xs.length < n → 0 ≤ M 227 4 → M 227 4 + xs.length < 100 → 0 ≤ M 227 5 → M 227 5 + 41 * xs.length < 100000 →
    ∃ M1, L_X5_followAll_7 (fun M_7 => some M_7) n 2 κ i M = some M1 ∧ (∀ q ∈ xs, pth M1 g κ q) ∧ pFr M M1 ∧ (∀ q ∈ pre, pth M1 g κ q) := by
  intro xs
  induction xs with
  | nil =>
    intro pre n i M hR hx ha hm hl hp i0 i1 hn b0 b1 c0 c1
    obtain ⟨n, rfl⟩ : ∃ n', n = n' + 1 := ⟨n - 1, by omega⟩
    refine ⟨M, ?_, fun q hq => by simp at hq, fun _ _ => rfl, hp⟩
    rw [L_X5_followAll_7]
    exact it (by rw [ha.1]; simp) rfl
  | cons r xs ih =>
    intro pre n i M hR hx ha hm hl hp i0 i1 hn b0 b1 c0 c1
    simp only [List.length_cons] at i1 hn b1 c1
    push_cast at i1 b1 c1
    obtain ⟨n, rfl⟩ : ∃ n', n = n' + 1 := ⟨n - 1, by omega⟩
    obtain ⟨o1, o2, o3⟩ := ordAt_hd ha
    obtain ⟨r1, r2⟩ := hm r List.mem_cons_self
    obtain ⟨M1, a1, a2, a3, a4, a5, a6⟩ := c_enter (κ := κ) hR hx hv hst r1 hκ (lead_pth hv hp hl.1 r1) (by omega) (by omega)
    have fb := fal_bd (κ := κ) hv hst r1
    have hp1 : ∀ q ∈ pre ++ [r], pth M1 g κ q := by
      intro q hq
      by_cases c : q = r
      · rw [c]; exact a2
      · rw [List.mem_append] at hq
        rcases hq with hq | hq
        · exact a5 q c (hp q hq)
        · simp at hq; exact absurd hq c
    obtain ⟨M2, d1, d2, d5, d6⟩ := ih (pre ++ [r]) n (i + 1) M1 (RelV_cg hR (fun x h1 h2 => a6 x (by omega))) (ixR_cg hx (fun x h1 h2 => a6 x (by omega))) ⟨by rw [a6 2 (by omega)]; exact o2.1, fun j x hx => by rw [a6 (2 + 2) (by omega)]; exact o2.2 j x hx⟩ (fun q hq => hm q (List.mem_cons_of_mem _ hq)) hl.2 hp1 (by omega) (by omega) (by omega) (by omega) (by omega) (by omega) (by omega)
    refine ⟨M2, ?_, fun q hq => ?_, fun x hx => by rw [d5 x hx, a6 x hx], fun q hq => d6 q (by simp [hq])⟩
    · rw [L_X5_followAll_7, o1, if_neg (by omega), if_pos (by omega), a1]
      exact bs fun x e => by subst e; exact d1
    · rw [List.mem_cons] at hq
      rcases hq with hq | hq
      · rw [hq]; exact d6 r (by simp)
      · exact d2 q hq
/-- plain -/
noncomputable def falP (g : Int → Int) (κ r : Int) : Int × Int := bsr (kf (eT g r)) κ 40 0 (eT g r).length
noncomputable def lkP (g : Int → Int) (κ r : Int) : Int := (falP g κ r).2 + (if ((eT g r).length : Int) ≤ (falP g κ r).1 then 0 else 1)
noncomputable def fdP (g : Int → Int) (κ r : Int) : Int := if (falP g κ r).1 < (eT g r).length ∧ (gE (eT g r) (falP g κ r).1).1 = κ then 1 else 0
noncomputable def visP (g : Int → Int) (κ : Int) : List Int → List Int
  | [] => []
  | r :: xs => r :: (if fdP g κ r = 0 then visP g κ xs else [])
theorem thg_get {g : Int → Int} {r : Int} : ∀ (n i : Nat) (j : Int), i < n → (thg g r j n)[i]? = some (g (200 * r + (j + i)), 0, j + i, -1) := by
  intro n
  induction n with
  | zero => intro i j h; omega
  | succ n ih =>
    intro i j h
    cases i with
    | zero => simp [thg]
    | succ i =>
      rw [thg, List.getElem?_cons_succ, ih i (j + 1) (by omega)]
      rw [show j + 1 + (i : Int) = j + ((i + 1 : Nat) : Int) by push_cast; omega]
theorem eT_at {g : Int → Int} {r i : Int} (h : 0 ≤ i ∧ i < g (7600 + r)) : gE (eT g r) i = (g (200 * r + i), 0, i, -1) := by
  unfold gE eT
  rw [thg_get _ _ _ (by omega), show (0 : Int) + ((i.toNat : Nat) : Int) = i by omega]; rfl
theorem falP_bd {g : Int → Int} {κ r : Int} : (0 ≤ (falP g κ r).1 ∧ (falP g κ r).1 ≤ (eT g r).length) ∧ (0 ≤ (falP g κ r).2 ∧ (falP g κ r).2 ≤ 40) ∧ 0 ≤ lkP g κ r ∧ lkP g κ r ≤ 41 := by
  have b := bsr_bd (f := kf (eT g r)) (κ := κ) 40 0 ((eT g r).length : Int) (by omega)
  unfold lkP falP
  refine ⟨by omega, by omega, ?_⟩
  split <;> omega
theorem c_followP {g : Int → Int} {κ : Int} (hv : okV g) (hκ : 0 ≤ κ ∧ κ < 200) : ∀ (xs : List Int) (n : Nat) (i : Int) (M : fMem), RelV 2 M g → ordAt 2 M i xs → (∀ r ∈ xs, (0 ≤ r ∧ r < 19) ∧ g (7619 + r) = 2) → 0 ≤ i → i + xs.length ≤ 19 → xs.length < n → 0 ≤ M 227 4 → M 227 4 + xs.length < 100 → 0 ≤ M 227 5 → M 227 5 + 41 * xs.length < 100000 →
    ∃ M1, L_X5_followPlain_9 (fun M_14 => some M_14) n 2 κ 0 i M = some M1 ∧ M1 227 5 = M 227 5 + lS (lkP g κ) (visP g κ xs) ∧ pFr M M1 := by
  intro xs
  induction xs with
  | nil =>
    intro n i M hR ha hm i0 i1 hn b0 b1 c0 c1
    obtain ⟨n, rfl⟩ : ∃ n', n = n' + 1 := ⟨n - 1, by omega⟩
    refine ⟨M, ?_, by simp [visP, lS], fun _ _ => rfl⟩
    rw [L_X5_followPlain_9]
    exact it (by rw [ha.1]; simp) rfl
  | cons r xs ih =>
    intro n i M hR ha hm i0 i1 hn b0 b1 c0 c1
    simp only [List.length_cons] at i1 hn b1 c1
    push_cast at i1 b1 c1
    obtain ⟨n, rfl⟩ : ∃ n', n = n' + 1 := ⟨n - 1, by omega⟩
    obtain ⟨o1, o2, o3⟩ := ordAt_hd ha
    obtain ⟨r1, r2⟩ := hm r List.mem_cons_self
    have ho := hv.1 r r1.1 r1.2 r2
    have rk := (hR.2 r r1.1 r1.2 r2).1
    have tl := eT_len (g := g) (r := r) ho.2.1.1
    have hsz := ho.2.1
    have hrm := rmR_bd r
    generalize hp : 2 + 3 * r.toNat + 3 = p at *
    have hp4 : 2 + 3 * r.toNat + 4 = p + 1 := by omega
    have hpb : p + 2 < 227 := by omega
    generalize hN : mset (mset M 228 r 0) 229 r (g (7600 + r)) = N
    have nx : ∀ x, x ≠ 228 → x ≠ 229 → N x = M x := fun x h1 h2 => by rw [← hN, mset_ne h2, mset_ne h1]
    have n228 : N 228 r = 0 := by rw [← hN, mset_ne (by omega), mset_self]
    have n229 : N 229 r = ((eT g r).length : Int) := by rw [← hN, mset_self, tl]
    obtain ⟨M1, d1, d2, d3, d4, d5, d6, d7⟩ := c_halve (p := p + 1) (f := kf (eT g r)) (κ := κ) (sz := ((eT g r).length : Int)) r1 n228 n229 (by omega) (by omega) ⟨by rw [rk.2.2.1.1]; omega, by omega⟩ (fun i i0 i1 => by rw [nx _ (by omega) (by omega), (rk.2.2.2 i i0 (by omega)).1]; unfold kf; rw [eT_at ⟨i0, by omega⟩]) (by rw [nx 227 (by omega) (by omega)]; omega) (by rw [nx 227 (by omega) (by omega)]; omega)
    have fb := falP_bd (g := g) (κ := κ) (r := r)
    have fr : pFr M M1 := fun x hx => by rw [d7 x (by omega), nx x (by omega) (by omega)]
    have rk1 : rowK p M1 g r := ⟨by rw [fr p (by omega)]; exact rk.1, rk.2.1, rk.2.2.1, fun j j0 j1 => by rw [fr (p + 1) (by omega), fr (p + 2) (by omega)]; exact rk.2.2.2 j j0 j1⟩
    have ky := k_keyAt (i := (falP g κ r).1) rk1 fb.1.1
    have n4 : M1 227 4 = M 227 4 + 1 := by rw [d4, nx 227 (by omega) (by omega)]
    have n5 : M1 227 5 = M 227 5 + lkP g κ r := by rw [d5, nx 227 (by omega) (by omega)]; rfl
    have tail : ∀ v4', L_X5_followPlain_9 (fun M_14 => some M_14) (n + 1) 2 κ 0 i M = L_X5_followPlain_9 (fun M_14 => some M_14) n 2 κ v4' (i + 1) M1 ∨ v4' ≠ fdP g κ r := by
      intro v4'
      by_cases q : v4' = fdP g κ r
      · left
        rw [q, L_X5_followPlain_9, o1, if_neg (by omega), if_pos rfl, if_pos (by omega), if_pos r1]
        refine bs fun N1 e1 => ?_
        have s3 : N1 (2 + 3 * r.toNat + 3) 3 = g (7600 + r) := by rw [hp, e1, mset_ne (by omega), rk.1]
        rw [s3]
        refine bs fun N2 e2 => ?_
        rw [e1, hN] at e2
        subst e2
        have s4 : N2 (2 + 3 * r.toNat + 3) 3 = ((eT g r).length : Int) := by rw [hp, nx p (by omega) (by omega), rk.1, tl]
        rw [s4, hp4]
        refine bc d1 ?_
        have e230 : M1 230 r = (falP g κ r).1 := d2
        rw [e230, hp]
        refine bc ky ?_
        unfold fdP
        by_cases c : g (7600 + r) ≤ (falP g κ r).1
        · rw [if_pos c, if_neg (by omega), if_neg (fun w => by omega)]
        · rw [if_neg c, eT_at ⟨fb.1.1, by omega⟩]
          dsimp only
          by_cases c2 : g (200 * r + (falP g κ r).1) = κ
          · rw [if_pos c2, if_pos ⟨by omega, c2⟩]
          · rw [if_neg c2, if_neg (fun w => c2 w.2)]
      · exact Or.inr q
    have step := (tail (fdP g κ r)).resolve_right (fun z => z rfl)
    rw [step]
    unfold visP
    have f01 : fdP g κ r = 0 ∨ fdP g κ r = 1 := by unfold fdP; split <;> omega
    by_cases c : fdP g κ r = 0
    · rw [if_pos c, c]
      obtain ⟨M2, e1, e2, e3⟩ := ih n (i + 1) M1 (RelV_cg hR (fun x h1 h2 => fr x (by omega))) ⟨by rw [fr 2 (by omega)]; exact o2.1, fun j x hx => by rw [fr (2 + 2) (by omega)]; exact o2.2 j x hx⟩ (fun q hq => hm q (List.mem_cons_of_mem _ hq)) (by omega) (by omega) (by omega) (by omega) (by omega) (by omega) (by omega)
      refine ⟨M2, e1, ?_, fun x hx => by rw [e3 x hx, fr x hx]⟩
      rw [e2, n5, lS]; omega
    · rw [if_neg c]
      have c1 : fdP g κ r = 1 := by omega
      obtain ⟨n, rfl⟩ : ∃ n', n = n' + 1 := ⟨n - 1, by omega⟩
      refine ⟨M1, ?_, by rw [n5]; simp [lS], fr⟩
      rw [c1, L_X5_followPlain_9]
      by_cases z : M1 2 2 ≤ i + 1
      · exact it z rfl
      · exact ie z (ie (by omega) rfl)
end SEA3
