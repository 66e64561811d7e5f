/-! all rows free; a calm state -/
section FRE
def frF (g : Int → Int) (v : Int) : Int → Int := fun x => if (7619 ≤ x ∧ x < 7619 + v) ∨ (7600 ≤ x ∧ x < 7600 + v) then 0 else g x
def mgF (g : Int → Int) (v : Int) : Int → Int := fun x => if 7657 ≤ x ∧ x < 7657 + v then 0 else g x
theorem frF_0 (g : Int → Int) : frF g 0 = g := by
  funext x; unfold frF; rw [if_neg (by omega)]
theorem mgF_0 (g : Int → Int) : mgF g 0 = g := by
  funext x; unfold mgF; rw [if_neg (by omega)]
theorem frF_s {g : Int → Int} {v : Int} (hv : 0 ≤ v ∧ v < 19) : us (us (frF g v) (7619 + v) 0) (7600 + v) 0 = frF g (v + 1) := by
  funext x
  by_cases e2 : x = 7600 + v
  · subst e2; rw [us_eq]; unfold frF; rw [if_pos (by omega)]
  · rw [us_ne e2]
    by_cases e : x = 7619 + v
    · subst e; rw [us_eq]; unfold frF; rw [if_pos (by omega)]
    · rw [us_ne e]
      have i1 : ((7619 ≤ x ∧ x < 7619 + (v + 1)) ∨ (7600 ≤ x ∧ x < 7600 + (v + 1))) ↔ ((7619 ≤ x ∧ x < 7619 + v) ∨ (7600 ≤ x ∧ x < 7600 + v)) := by omega
      unfold frF
      simp only [i1]
theorem mgF_s {g : Int → Int} {v : Int} (hv : 0 ≤ v ∧ v < 9) : us (mgF g v) (7657 + v) 0 = mgF g (v + 1) := by
  funext x
  by_cases e : x = 7657 + v
  · subst e; rw [us_eq]; unfold mgF; rw [if_pos (by omega)]
  · rw [us_ne e]
    have i1 : (7657 ≤ x ∧ x < 7657 + (v + 1)) ↔ (7657 ≤ x ∧ x < 7657 + v) := by omega
    unfold mgF
    simp only [i1]
def frA (g : Int → Int) : Int → Int := mgF (frF g 19) 9
theorem frA_v (g : Int → Int) : (∀ r, 0 ≤ r → r < 19 → frA g (7619 + r) = 0 ∧ frA g (7600 + r) = 0) ∧ (∀ l, 0 ≤ l → l ≤ 8 → frA g (7657 + l) = 0) ∧ ∀ x, x < 7600 ∨ (7638 ≤ x ∧ x < 7657) ∨ 7666 ≤ x → frA g x = g x := by
  refine ⟨fun r r0 r1 => ?_, fun l l0 l1 => ?_, fun x hx => ?_⟩
  · constructor
    · unfold frA mgF frF; rw [if_neg (by omega), if_pos (by omega)]
    · unfold frA mgF frF; rw [if_neg (by omega), if_pos (by omega)]
  · unfold frA mgF; rw [if_pos (by omega)]
  · unfold frA mgF frF; rw [if_neg (by omega), if_neg (by omega)]
theorem r_fre1 {N : fMem} {g : Int → Int} {k : fMem → Option fMem} (m : Nat) : ∀ (fu : Nat) (v : Int), 0 ≤ v → 19 - v = m → m < fu → L_X11_freesAll_2 k fu v (oset N 419 (frF g v)) = k (oset N 419 (frF g 19)) := by
  induction m with
  | zero =>
    intro fu v v0 hm hf
    obtain ⟨f, rfl⟩ : ∃ f, fu = f + 1 := ⟨fu - 1, by omega⟩
    rw [show v = 19 by omega]
    exact it (by omega) rfl
  | succ m ih =>
    intro fu v v0 hm hf
    obtain ⟨f, rfl⟩ : ∃ f, fu = f + 1 := ⟨fu - 1, by omega⟩
    refine ie (by omega) (bc (e_frees ⟨v0, by omega⟩) ?_)
    unfold sFree
    rw [frF_s ⟨v0, by omega⟩]
    exact ih f (v + 1) (by omega) (by omega) (by omega)
theorem r_fre2 {N : fMem} {g : Int → Int} {k : fMem → Option fMem} (m : Nat) : ∀ (fu : Nat) (v : Int), 0 ≤ v → 9 - v = m → m < fu → L_X11_freesAll_21 k fu v (oset N 419 (mgF g v)) = k (oset N 419 (mgF g 9)) := by
  induction m with
  | zero =>
    intro fu v v0 hm hf
    obtain ⟨f, rfl⟩ : ∃ f, fu = f + 1 := ⟨fu - 1, by omega⟩
    rw [show v = 9 by omega]
    exact it (by omega) rfl
  | succ m ih =>
    intro fu v v0 hm hf
    obtain ⟨f, rfl⟩ : ∃ f, fu = f + 1 := ⟨fu - 1, by omega⟩
    refine ie (by omega) (it (by omega) (bm fun g1 e1 => ?_))
    rw [e1, mgF_s ⟨v0, by omega⟩]
    exact ih f (v + 1) (by omega) (by omega) (by omega)
theorem r_freesAll {N : fMem} : f_X11_freesAll N = some (oset N 419 (frA (N 419))) := by
  unfold f_X11_freesAll
  have a := r_fre1 (N := N) (g := N 419) (k := fun (M_4 : fMem) => L_X11_freesAll_21 (fun (M_8 : fMem) => some M_8) 20000 0 M_4) 19 20000 0 (by omega) (by omega) (by omega)
  rw [frF_0, os_id] at a
  have b := r_fre2 (N := N) (g := frF (N 419) 19) (k := fun M_8 => some M_8) 9 20000 0 (by omega) (by omega) (by omega)
  rw [mgF_0] at b
  exact a.trans b
theorem r_rstL {N : fMem} {g : Int → Int} {w : Int} {k : Int → fMem → Option (Int × fMem)} (m : Nat) : ∀ (fu : Nat) (v : Int), 0 ≤ v → 9 - v = m → m < fu → L_X11_restore_22 k fu w v (oset N 419 (mgF g v)) = k w (oset N 419 (mgF g 9)) := by
  induction m with
  | zero =>
    intro fu v v0 hm hf
    obtain ⟨f, rfl⟩ : ∃ f, fu = f + 1 := ⟨fu - 1, by omega⟩
    rw [show v = 9 by omega]
    exact it (by omega) rfl
  | succ m ih =>
    intro fu v v0 hm hf
    obtain ⟨f, rfl⟩ : ∃ f, fu = f + 1 := ⟨fu - 1, by omega⟩
    refine ie (by omega) (it (by omega) (bm fun g1 e1 => ?_))
    rw [e1, mgF_s ⟨v0, by omega⟩]
    exact ih f (v + 1) (by omega) (by omega) (by omega)
theorem c_fre1 {M0 : fMem} {g : Int → Int} {k : fMem → Option fMem} (m : Nat) : ∀ (fu : Nat) (v : Int) (M : fMem), 0 ≤ v → 19 - v = m → m < fu → RF 1 M0 M (frF g v) → ∃ M1, L_X7_freeAll_2 2 k fu v M = k M1 ∧ RF 1 M0 M1 (frF g 19) := by
  induction m with
  | zero =>
    intro fu v M v0 hm hf h
    obtain ⟨f, rfl⟩ : ∃ f, fu = f + 1 := ⟨fu - 1, by omega⟩
    have e : v = 19 := by omega
    subst e
    exact ⟨M, it (by omega) rfl, h⟩
  | succ m ih =>
    intro fu v M v0 hm hf h
    obtain ⟨f, rfl⟩ : ∃ f, fu = f + 1 := ⟨fu - 1, by omega⟩
    obtain ⟨N, n1, n2⟩ := c_clear (s := 0) h ⟨v0, by omega⟩ (by omega)
    rw [frF_s ⟨v0, by omega⟩] at n2
    rw [show 1 + 3 * v.toNat + 4 = 2 + 3 * v.toNat + 3 by omega] at n1
    obtain ⟨M1, k1, k2⟩ := ih f (v + 1) N (by omega) (by omega) (by omega) n2
    exact ⟨M1, ie (by omega) (it (by omega) (bc n1 k1)), k2⟩
theorem c_fre2 {M0 : fMem} {g : Int → Int} {k : fMem → Option fMem} (m : Nat) : ∀ (fu : Nat) (v : Int) (M : fMem), 0 ≤ v → 9 - v = m → m < fu → RF 1 M0 M (mgF g v) → ∃ M1, L_X0_freeAll_9 1 k fu v M = k M1 ∧ RF 1 M0 M1 (mgF g 9) := by
  induction m with
  | zero =>
    intro fu v M v0 hm hf h
    obtain ⟨f, rfl⟩ : ∃ f, fu = f + 1 := ⟨fu - 1, by omega⟩
    have e : v = 9 := by omega
    subst e
    exact ⟨M, it (by omega) rfl, h⟩
  | succ m ih =>
    intro fu v M v0 hm hf h
    obtain ⟨f, rfl⟩ : ∃ f, fu = f + 1 := ⟨fu - 1, by omega⟩
    have n2 := rf_mrg (l := v) (i := 0) (x := 7657 + v) (v := 0) h (by omega) (Or.inl ⟨rfl, rfl⟩)
    rw [mgF_s ⟨v0, by omega⟩] at n2
    obtain ⟨M1, k1, k2⟩ := ih f (v + 1) _ (by omega) (by omega) (by omega) n2
    refine ⟨M1, ie (by omega) (it (by omega) (bs fun x e => ?_)), k2⟩
    rw [e]
    exact k1
theorem c_freeAll {M0 M : fMem} {g : Int → Int} (h : RF 1 M0 M g) : ∃ M1, f_X0_freeAll 1 M = some M1 ∧ RF 1 M0 M1 (frA g) := by
  obtain ⟨A, a1, a2⟩ := c_fre1 (M0 := M0) (g := g) (k := fun M_6 => some M_6) 19 20000 0 M (by omega) (by omega) (by omega) (by rw [frF_0]; exact h)
  obtain ⟨B, b1', b2⟩ := c_fre2 (M0 := M0) (g := frF g 19) (k := fun M_7 => some M_7) 9 20000 0 A (by omega) (by omega) (by omega) (by rw [mgF_0]; exact a2)
  refine ⟨B, ?_, b2⟩
  unfold f_X0_freeAll f_X7_freeAll
  exact bc a1 b1'
/-- nothing merges, what is not shut is free -/
def clm (g : Int → Int) : Prop := okV g ∧ (∀ r, 0 ≤ r → r < 19 → g (7619 + r) ≠ 2 → g (7619 + r) = 0 ∧ g (7600 + r) = 0) ∧ (∀ l, 0 ≤ l → l ≤ 8 → g (7657 + l) = 0 ∧ (g (7666 + l) = 0 ∨ g (7666 + l) = 1)) ∧ (∀ r, 0 ≤ r → r < 19 → g (7619 + r) = 2 → g (7638 + r) ≤ g 7738) ∧ ∀ x, rg (g x)
theorem InvS_clm {g : Int → Int} (h : clm g) : InvS g := by
  obtain ⟨h1, h2, h3, h4, h5⟩ := h
  refine ⟨fun r r0 r1 => ?_, fun l l0 l1 => ?_, ⟨h4, h1.2.1⟩, ⟨fun l k l0 l1 k0 k1 _ z => ?_, fun r r0 r1 z => ?_⟩, h1.2.2, h5⟩
  · by_cases q : g (7619 + r) = 2
    · exact h1.1 r r0 r1 q
    · obtain ⟨a, b⟩ := h2 r r0 r1 q
      have := rmR_bd r
      exact ⟨Or.inl a, by omega, fun _ => b, fun z => absurd z q, fun j j0 j1 => by omega, fun i j i0 ij j1 => by omega⟩
  · obtain ⟨a, b⟩ := h3 l l0 l1
    exact ⟨Or.inl a, b, fun z => by omega⟩
  · have := (h3 l l0 l1).1; omega
  · have := (h2 r r0 r1 (by omega)).1; omega
theorem fFr_clm {g : Int → Int} (h : clm g) : fFr g 8 ≠ -1 := by
  have h8 := h.1.2.2
  have a := h.2.1 (2 * 8) (by omega) (by omega)
  have b := h.2.1 (2 * 8 + 1) (by omega) (by omega)
  have c := h.2.1 (2 * 8 + 2) (by omega) (by omega)
  rw [sh0, if_pos rfl] at h8
  rw [fF0]
  by_cases q0 : g (7619 + 2 * 8) = 2
  · by_cases q1 : g (7619 + (2 * 8 + 1)) = 2
    · by_cases q2 : g (7619 + (2 * 8 + 2)) = 2
      · exfalso
        unfold b1 at h8
        rw [if_pos q0, if_pos q1, if_pos q2] at h8
        omega
      · rw [if_neg (by omega), if_neg (by omega), if_pos ⟨rfl, (c q2).1⟩]; omega
    · rw [if_neg (by omega), if_pos (b q1).1]; omega
  · rw [if_pos (a q0).1]; omega
theorem sh_one {g : Int → Int} {r l : Int} (h : ∀ q, 0 ≤ q → q < 19 → g (7619 + q) = 2 → q = r) (hl : 0 ≤ l ∧ l ≤ 8) : shM g l ≤ 1 := by
  rw [sh0]
  have a := h (2 * l) (by omega) (by omega)
  have b := h (2 * l + 1) (by omega) (by omega)
  unfold b1
  by_cases h8 : l = 8
  · have c := h (2 * l + 2) (by omega) (by omega)
    rw [if_pos h8]
    repeat' split
    all_goals omega
  · rw [if_neg h8]
    repeat' split
    all_goals omega
/-- the run goes on from a state with the same counts -/
theorem Run_new {g g1 : Int → Int} {T : Int} (h : Run g T) (hi : Inv g1) (hc : ∀ x, isC x → g x ≤ g1 x ∧ g1 x ≤ g x + 1) (hT : T + 210000 < 2000000000) : Run g1 (T + 210000) := by
  refine ⟨hi, fun x hx => ?_, hT⟩
  have a := h.2.1 x hx
  have b := phi_bd h.1.1
  have c := phi_bd hi.1
  have d := hc x hx
  omega
theorem CR_en2 {M M1 : fMem} {g g1 K tk tp : Int → Int} {tn : Int} (h : CR M g K tk tp tn) (hR : RelE 1 M1 g1) (f : ∀ x, (143 ≤ x ∧ x ≤ 148) ∨ (238 ≤ x ∧ x < 418) → M1 x = M x) (h10 : M1 0 10 = M 0 10) (h11 : M1 0 11 = 1) (hg : ∀ x, x = 7740 ∨ x = 7741 ∨ (7747 ≤ x ∧ x < 7787) → g1 x = g x) : CR M1 g1 K tk tp tn := by
  obtain ⟨a, b, c, d, e, -⟩ := h
  refine ⟨hR, by rw [h10, b, hg 7740 (by omega)], ⟨?_, fun j j0 j1 => ?_⟩, ⟨?_, ?_, fun i i0 i1 => ?_⟩, fun v v0 v1 => ?_, fun z => by omega⟩
  · rw [f 145 (by omega)]; exact c.1
  · rw [f 146 (by omega)]; exact c.2 j j0 j1
  · rw [f 147 (by omega), hg 7741 (by omega)]; exact d.1
  · rw [f 147 (by omega), hg 7741 (by omega)]; exact d.2.1
  · rw [f 148 (by omega), hg (7747 + i) (by omega)]; exact d.2.2 i i0 i1
  · obtain ⟨e1, e2⟩ := e v v0 v1
    have : v = 0 ∨ v = 1 ∨ v = 2 := by omega
    exact ⟨by rw [f 144 (by omega)]; exact e1, RelV_cg e2 (fun x h1 h2 => f x (by omega))⟩
theorem SI_new {g g1 K tk tp : Int → Int} {tn T : Int} (h : SI g K tk tp tn T) (hi : Inv g1) (hc : ∀ x, isC x → g x ≤ g1 x ∧ g1 x ≤ g x + 1) (hg : ∀ x, x = 7739 ∨ x = 7740 → g1 x = g x) (hT : T + 210000 < 2000000000) : SI g1 K tk tp tn (T + 210000) := by
  obtain ⟨a, b, c, d, e, f, i, j⟩ := h
  have m := (hc 7738 (by unfold isC; omega)).1
  refine ⟨Run_new a hi hc hT, by omega, by rw [hg 7739 (by omega)]; exact c, by rw [hg 7740 (by omega)]; exact d, e, f, fun w w0 w1 => ?_, j⟩
  obtain ⟨i1, i2, i3⟩ := i w w0 w1
  exact ⟨i1, i2, fun r r0 r1 hr => Int.le_trans (i3 r r0 r1 hr) m⟩
end FRE
