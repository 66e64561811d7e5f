/-! the reference's way: all levels; up to a row -/
section SEA6
theorem faX_ld {g : Int → Int} {κ : Int} {l : Nat} (hv : okV g) (hl : l ≤ 8) (hq : bA g l 0 ≠ -1) : (faX g 0 κ (bA g l 0)).1 = fLd g κ l := by
  have hin : 2 * (l : Int) ≤ bA g l 0 ∧ bA g l 0 < ER l := by
    rcases lv_cs (g := g) (l := (l : Int)) (by omega) hv with ⟨a1, a2, a3, -⟩ | ⟨a1, a2, a3, -⟩ | ⟨a1, a2, a3, -⟩ <;> first | (exact absurd ‹_› hq) | omega
  rw [fLd_eq]
  unfold faX bdX eA
  rw [if_pos rfl, if_pos rfl, lvR_of (l := (l : Int)) (by omega) hin, Int.toNat_natCast]
theorem r_lfAll {g : Int → Int} {a κ : Int} (hv : okV g) (hst : 2 ≤ g 7740 ∧ g 7740 ≤ 8) (ha : a = 0 ∨ a = 1) : ∀ (d n : Nat) (v ld f : Int) (pre : List Int) (M : fMem), M 419 = g → M 418 13 = a → (∀ q, 0 ≤ q → q < 19 → enR M q (eA g a q)) → v + d = 9 → 0 ≤ v → d < n → hld g a κ v ld f → rts M g a κ pre → (∀ r ∈ pre, 0 ≤ r ∧ r < 19) → (pre.length : Int) ≤ 2 * v →
    ∃ M1, L_X11_looksFor_17 (fun M_15 => some (M_15 418 16, M_15)) n κ ld f v M = some (M1 418 16, M1) ∧ rts M1 g a κ (pre ++ viX g a κ (ordF g d)) ∧ gF M M1 := by
  intro d
  induction d with
  | zero =>
    intro n v ld f pre M hg h13 he h1 v0 hn hl hp hpm hlen
    obtain ⟨n, rfl⟩ : ∃ n', n = n' + 1 := ⟨n - 1, by omega⟩
    refine ⟨M, ?_, ?_, gF_rf M⟩
    · rw [L_X11_looksFor_17]; exact it (by omega) rfl
    · rw [ordF, viX, List.append_nil]; exact hp
  | succ d ih =>
    intro n v ld f pre M hg h13 he h1 v0 hn hl hp hpm hlen
    obtain ⟨n, rfl⟩ : ∃ n', n = n' + 1 := ⟨n - 1, by omega⟩
    have hl8 : 0 ≤ v ∧ v ≤ 8 := by omega
    have hE : ER v ≤ 19 := by unfold ER; split <;> omega
    obtain ⟨M1, a1, a2⟩ := r_lfLv (n := 19997) (k := fun v1_12 v4_12 v5_12 M_12 => ((f_X11_leadOf v4_12 M_12).bind fun r13 => (if -2147483648 ≤ v4_12 + 1 ∧ v4_12 + 1 < 2147483648 then L_X11_looksFor_17 (fun M_15 => some (M_15 418 16, M_15)) n v1_12 r13 v5_12 (v4_12 + 1) M_12 else none))) hg hv hst ha h13 he hl8 hl hp hpm (by omega)
    rw [L_X11_looksFor_17, if_neg (by omega)]
    rw [ordF, show (8 - (d : Int)) = v by omega]
    rcases a2 with ⟨b1, b2, b3⟩ | ⟨zs, b1, b2, b3⟩
    · have g1 : M1 419 = g := by rw [a1.1 _ (by omega) (by omega), hg]
      have hll := lvL_len hl8 hv
      have hcs := lv_cs hl8 hv
      have hvn : ((v.toNat : Nat) : Int) = v := by omega
      obtain ⟨M2, c1, c2, c3⟩ := ih n (v + 1) (bA g v 0) (if shM g v = 0 then -1 else (faX g a κ (bA g v 0)).1) (pre ++ lvL g v) M1 g1 (by rw [a1.2 13 (by omega) (by omega) (by omega) (by omega), h13]) (fun q q0 q1 => enR_gF (he q q0 q1) a1) (by omega) (by omega) (by omega) (fun z => Or.inr ⟨v.toNat, by omega, by rw [hvn], fun w => by
        have hs : shM g v ≠ 0 := by
          intro hs
          rcases hcs with ⟨z1, z2, -⟩ | ⟨z1, -⟩ | ⟨z1, -⟩
          · exact w z2
          · omega
          · omega
        rw [if_neg hs, z]
        have := faX_ld (κ := κ) (l := v.toNat) hv (by omega) (by rw [hvn]; exact w)
        rw [hvn] at this
        exact this⟩) b2 (fun r hr => by
        rw [List.mem_append] at hr
        rcases hr with hr | hr
        · exact hpm r hr
        · have := (lvL_mem hl8 hv hr).1; omega) (by rw [List.length_append]; push_cast; omega)
      refine ⟨M2, ?_, ?_, gF_tr a1 c3⟩
      · rw [b1]
        have ld1 : f_X11_leadOf v M1 = some (bA g v 0) := by
          unfold f_X11_leadOf
          refine bc (r_byAge hl8) ?_
          rw [g1]
        refine bc ld1 (si (by omega) c1)
      · rw [b3, ← List.append_assoc]; exact c2
    · refine ⟨M1, b1, ?_, a1⟩
      rw [b3]; exact b2
theorem r_looksFor {M : fMem} {g : Int → Int} {a κ : Int} (hg : M 419 = g) (hv : okV g) (hst : 2 ≤ g 7740 ∧ g 7740 ≤ 8) (ha : a = 0 ∨ a = 1) (h13 : M 418 13 = a) (he : ∀ q, 0 ≤ q → q < 19 → enR M q (eA g a q)) : ∃ M1, f_X11_looksFor κ M = some (lS (lkX g a κ) (viX g a κ (ordL g)), M1) ∧ rts M1 g a κ (viX g a κ (ordL g)) ∧ gF M M1 := by
  generalize hN : mset (mset M 418 16 0) 418 22 0 = N
  have nx : ∀ x, x ≠ 418 → N x = M x := fun x hx => by rw [← hN, mset_ne hx, mset_ne hx]
  have ni : ∀ i, i ≠ 16 → i ≠ 22 → N 418 i = M 418 i := fun i h1 h2 => by rw [← hN, mset_slot h2, mset_slot h1]
  have gfN : gF M N := ⟨fun x h1 _ => nx x h1, fun i _ _ h3 h4 => ni i h3 h4⟩
  obtain ⟨M1, a1, a2, a3⟩ := r_lfAll (κ := κ) hv hst ha 9 20000 0 (-1) 0 [] N (by rw [nx _ (by omega), hg]) (by rw [ni 13 (by omega) (by omega), h13]) (fun q q0 q1 => enR_gF (he q q0 q1) gfN) (by omega) (by omega) (by omega) (fun _ => Or.inl ⟨rfl, rfl⟩) ⟨by rw [← hN, mset_self]; rfl, by rw [← hN, mset_slot (by omega), mset_self]; rfl, fun j r hr => by simp at hr⟩ (fun r hr => by simp at hr) (by simp)
  rw [List.nil_append] at a2
  refine ⟨M1, ?_, a2, gF_tr gfN a3⟩
  unfold f_X11_looksFor
  refine bs fun x1 e1 => bs fun x2 e2 => ?_
  rw [e1, hN] at e2
  rw [e2, a1, a2.2.1]; rfl
theorem r_comesTo {M : fMem} {g : Int → Int} {κ l r : Int} (hg : M 419 = g) (hv : okV g) (hst : 2 ≤ g 7740 ∧ g 7740 ≤ 8) (hl : 0 ≤ l ∧ l ≤ 8) (hr : 0 ≤ r ∧ 2 * l + r < ER l) (b16 : 0 ≤ M 418 16 ∧ M 418 16 < 700000) : ∃ M1, f_X11_comesTo κ l r M = some M1 ∧ M1 418 14 = (bdX g 0 κ (2 * l + r)).1 ∧ M1 418 15 = (bdX g 0 κ (2 * l + r)).2 ∧ (M 418 16 ≤ M1 418 16 ∧ M1 418 16 ≤ M 418 16 + 360) ∧ (∀ q, 0 ≤ q → q < 19 → enR M1 q (eA g 0 q)) ∧ (∀ x, x ≠ 418 → (x < 425 ∨ 429 < x) → M1 x = M x) ∧ (∀ i, i ≠ 13 → i ≠ 14 → i ≠ 15 → i ≠ 16 → M1 418 i = M 418 i) := by
  have hE : ER l ≤ 19 := by unfold ER; split <;> omega
  obtain ⟨N, a1, a2, a3, a4, a5⟩ := r_laysEntries (a := 0) hg hv hst (Or.inl rfl)
  have key : ∀ (d n : Nat) (v ld f : Int) (K : fMem), v + d = l → 0 ≤ v → d < n → hld g 0 κ v ld f → (∀ x, x ≠ 418 → K x = N x) → (∀ i, i ≠ 14 → i ≠ 15 → i ≠ 16 → K 418 i = N 418 i) → (N 418 16 ≤ K 418 16 ∧ K 418 16 ≤ N 418 16 + 40 * v) →
      ∃ M1, L_X11_comesTo_14 (fun v2_10 v3_10 v4_10 v5_10 M_10 => ((f_X11_rowAt v2_10 v3_10 M_10).bind fun r11 => ((f_X11_bounds r11 v4_10 v5_10 M_10).bind fun r12 => some r12))) n κ l r ld f v K = some M1 ∧ M1 418 14 = (bdX g 0 κ (2 * l + r)).1 ∧ M1 418 15 = (bdX g 0 κ (2 * l + r)).2 ∧ (N 418 16 ≤ M1 418 16 ∧ M1 418 16 ≤ N 418 16 + 40 * l) ∧ (∀ x, x ≠ 418 → M1 x = N x) ∧ ∀ i, i ≠ 14 → i ≠ 15 → i ≠ 16 → M1 418 i = N 418 i := by
    intro d
    induction d with
    | zero =>
      intro n v ld f K h1 v0 hn hh kx ki kb
      obtain ⟨n, rfl⟩ : ∃ n', n = n' + 1 := ⟨n - 1, by omega⟩
      have vl : v = l := by omega
      subst vl
      have enK : ∀ q, 0 ≤ q → q < 19 → enR K q (eA g 0 q) := fun q q0 q1 => enR_gF (a2 q q0 q1) ⟨fun x h1 _ => kx x h1, fun i h1 h2 h3 _ => ki i h1 h2 h3⟩
      have lr := lvR_of (r := 2 * v + r) hl ⟨by omega, by omega⟩
      obtain ⟨M1, c1, c2, c3, c4⟩ := r_bounds (κ := κ) (r := 2 * v + r) (ld := ld) (fell := f) hv hst (Or.inl rfl) (by rw [ki 13 (by omega) (by omega) (by omega)]; exact a3) enK (by omega) (fun z => by rw [lr]; exact hh z)
      refine ⟨M1, ?_, c2, c3, by rw [c4.2 16 (by omega)]; exact kb, fun x hx => by rw [c4.1 x hx, kx x hx], fun i h1 h2 h3 => by rw [c4.2 i (by omega), ki i h1 h2 h3]⟩
      rw [L_X11_comesTo_14]
      refine it (by omega) (bc (e_rowAt _ hl (by have : ER v ≤ 2 * v + 3 := (by unfold ER; split <;> omega); omega)) (bc c1 rfl))
    | succ d ih =>
      intro n v ld f K h1 v0 hn hh kx ki kb
      obtain ⟨n, rfl⟩ : ∃ n', n = n' + 1 := ⟨n - 1, by omega⟩
      have gK : K 419 = g := by rw [kx _ (by omega), a5 _ (by omega) (by omega), hg]
      have ld1 : f_X11_leadOf v K = some (bA g v 0) := by
        unfold f_X11_leadOf
        refine bc (r_byAge (by omega)) ?_
        rw [gK]
      have hvn : ((v.toNat : Nat) : Int) = v := by omega
      rw [L_X11_comesTo_14, if_neg (by omega), ld1]
      by_cases q : bA g v 0 = -1
      · obtain ⟨M1, c1, c2⟩ := ih n (v + 1) (bA g v 0) f K (by omega) (by omega) (by omega) (fun _ => Or.inr ⟨v.toNat, by omega, by rw [hvn], fun w => absurd q w⟩) kx ki (by omega)
        refine ⟨M1, ?_, c2⟩
        exact bs fun x e => by subst e; exact it q c1
      · have hEv : ER v ≤ 19 := by unfold ER; split <;> omega
        have hin : 2 * v ≤ bA g v 0 ∧ bA g v 0 < ER v := by
          rcases lv_cs (g := g) (l := v) (by omega) hv with ⟨a1, a2, a3, -⟩ | ⟨a1, a2, a3, -⟩ | ⟨a1, a2, a3, -⟩ <;> first | (exact absurd ‹_› q) | omega
        have h19 : 0 ≤ bA g v 0 ∧ bA g v 0 < 19 := by omega
        have enK : ∀ q, 0 ≤ q → q < 19 → enR K q (eA g 0 q) := fun q q0 q1 => enR_gF (a2 q q0 q1) ⟨fun x h1 _ => kx x h1, fun i h1 h2 h3 _ => ki i h1 h2 h3⟩
        have lr := lvR_of (l := v) (by omega) hin
        obtain ⟨K1, c1, c2, c3, c4⟩ := r_bounds (κ := κ) (r := bA g v 0) (ld := ld) (fell := f) hv hst (Or.inl rfl) (by rw [ki 13 (by omega) (by omega) (by omega)]; exact a3) enK h19 (fun z => by rw [lr]; exact hh z)
        have n16 : N 418 16 = M 418 16 := a4 16 (by omega)
        have k16 : K1 418 16 = K 418 16 := c4.2 16 (by omega)
        have fb := faX_bd (a := 0) (κ := κ) hv hst h19
        have fi := r_fallsIn (κ := κ) (a := 0) hv hst (M := K1) (enR_gF (enK _ h19.1 h19.2) ⟨fun x h1 _ => c4.1 x h1, fun i h1 h2 _ _ => c4.2 i (by omega)⟩) h19 c2 c3 (by omega)
        obtain ⟨M1, d1, d2⟩ := ih n (v + 1) (bA g v 0) (faX g 0 κ (bA g v 0)).1 (mset K1 418 16 (K1 418 16 + (faX g 0 κ (bA g v 0)).2)) (by omega) (by omega) (by omega) (fun _ => Or.inr ⟨v.toNat, by omega, by rw [hvn], fun w => by
          have := faX_ld (κ := κ) (l := v.toNat) hv (by omega) (by rw [hvn]; exact q)
          rw [hvn] at this
          exact this⟩) (fun x hx => by rw [mset_ne hx, c4.1 x hx, kx x hx]) (fun i h1 h2 h3 => by rw [mset_slot h3, c4.2 i (by omega), ki i h1 h2 h3]) (by rw [mset_self]; omega)
        refine ⟨M1, ?_, d2⟩
        exact bs fun x e => by subst e; exact ie q (bc c1 (bc fi d1))
  obtain ⟨M1, b1, b2, b3, b4, b5, b6⟩ := key l.toNat 20000 0 (-1) 0 N (by omega) (by omega) (by omega) (fun _ => Or.inl ⟨rfl, rfl⟩) (fun _ _ => rfl) (fun _ _ _ _ => rfl) (by omega)
  have n16 : N 418 16 = M 418 16 := a4 16 (by omega)
  refine ⟨M1, ?_, b2, b3, by omega, fun q q0 q1 => enR_gF (a2 q q0 q1) ⟨fun x h1 _ => b5 x h1, fun i h1 h2 h3 _ => b6 i h1 h2 h3⟩, fun x h1 h2 => by rw [b5 x h1, a5 x h1 h2], fun i h1 h2 h3 h4 => by rw [b6 i h2 h3 h4, a4 i h1]⟩
  unfold f_X11_comesTo
  exact bc a1 b1
/-- both ways are one -/
theorem X_0 (g : Int → Int) (κ : Int) : (∀ r, bdX g 0 κ r = bdL g κ r (lvR r).toNat) ∧ (∀ r, faX g 0 κ r = fal g κ r) ∧ (∀ r, lkX g 0 κ r = lkA g κ r) ∧ (∀ r, fdX g 0 κ r = fdA g κ r) := by
  have e1 : ∀ r, bdX g 0 κ r = bdL g κ r (lvR r).toNat := fun r => by unfold bdX; rw [if_pos rfl]
  have e0 : ∀ r, eA g 0 r = E g r := fun r => by unfold eA; rw [if_pos rfl]
  have e2 : ∀ r, faX g 0 κ r = fal g κ r := fun r => by unfold faX fal; rw [e0, e1]
  exact ⟨e1, e2, fun r => by unfold lkX lkA; rw [e0, e2], fun r => by unfold fdX fdA; rw [e0, e2]⟩
theorem vi_0 (g : Int → Int) (κ : Int) : ∀ xs, viX g 0 κ xs = vis g κ xs ∧ lS (lkX g 0 κ) xs = lS (lkA g κ) xs := by
  obtain ⟨-, -, h3, h4⟩ := X_0 g κ
  intro xs
  induction xs with
  | nil => exact ⟨rfl, rfl⟩
  | cons r xs ih => rw [viX, vis, h4, ih.1, lS, lS, h3, ih.2]; exact ⟨rfl, rfl⟩
theorem X_1 {g : Int → Int} {κ r : Int} (h : g (7619 + r) = 2) : faX g 1 κ r = falP g κ r ∧ lkX g 1 κ r = lkP g κ r ∧ fdX g 1 κ r = fdP g κ r := by
  have e0 : eA g 1 r = eT g r := by unfold eA eP; rw [if_neg (by omega), if_pos h]
  have e2 : faX g 1 κ r = falP g κ r := by unfold faX falP bdX eP; rw [e0, if_neg (by omega), if_pos h]
  refine ⟨e2, by unfold lkX lkP; rw [e0, e2], ?_⟩
  unfold fdX fdP
  rw [e0, e2]
  have fb := falP_bd (g := g) (κ := κ) (r := r)
  by_cases c : (falP g κ r).1 < (eT g r).length ∧ (gE (eT g r) (falP g κ r).1).1 = κ
  · rw [if_pos c, if_pos]
    have hm := gE_mem (L := eT g r) (p := (falP g κ r).1) ⟨fb.1.1, c.1⟩
    obtain ⟨i, -, -, hi⟩ := (thg_mem _ _ _).mp hm
    exact ⟨c.1, c.2, by rw [hi]⟩
  · rw [if_neg c, if_neg (fun w => c ⟨w.1, w.2.1⟩)]
theorem vi_1 {g : Int → Int} {κ : Int} : ∀ xs : List Int, (∀ r ∈ xs, g (7619 + r) = 2) → viX g 1 κ xs = visP g κ xs ∧ lS (lkX g 1 κ) (viX g 1 κ xs) = lS (lkP g κ) (visP g κ xs) := by
  intro xs
  induction xs with
  | nil => intro _; exact ⟨rfl, rfl⟩
  | cons r xs ih =>
    intro h
    obtain ⟨i1, i2⟩ := ih (fun x hx => h x (List.mem_cons_of_mem _ hx))
    obtain ⟨-, x2, x3⟩ := X_1 (κ := κ) (h r List.mem_cons_self)
    rw [viX, visP, x3]
    by_cases c : fdP g κ r = 0
    · rw [if_pos c, if_pos c, i1]; rw [i1] at i2; exact ⟨rfl, by rw [lS, lS, x2, i2]⟩
    · rw [if_neg c, if_neg c]; exact ⟨rfl, by rw [lS, lS, x2]; rfl⟩
theorem vis_mem {g : Int → Int} {κ : Int} : ∀ xs : List Int, ∀ r ∈ vis g κ xs, r ∈ xs := by
  intro xs
  induction xs with
  | nil => intro r h; simp [vis] at h
  | cons x xs ih =>
    intro r h
    rw [vis, List.mem_cons] at h
    rcases h with h | h
    · rw [h]; exact List.mem_cons_self
    · split at h
      · exact List.mem_cons_of_mem _ (ih r h)
      · simp at h
theorem vis_get {g : Int → Int} {κ : Int} : ∀ (xs : List Int) (j : Nat) (r : Int), (vis g κ xs)[j]? = some r → xs[j]? = some r := by
  intro xs
  induction xs with
  | nil => intro j r h; simp [vis] at h
  | cons x xs ih =>
    intro j r h
    rw [vis] at h
    cases j with
    | zero => simpa using h
    | succ j =>
      rw [List.getElem?_cons_succ] at h ⊢
      split at h
      · exact ih j r h
      · simp at h
end SEA6
