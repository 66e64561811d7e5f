/-! the counts stay small -/
section RUN1
def isC (x : Int) : Prop := (7720 ≤ x ∧ x ≤ 7738) ∨ (7741 ≤ x ∧ x ≤ 7746)
/-- counts of g are no more than B -/
def cnt (g : Int → Int) (B : Int) : Prop := ∀ x, isC x → 0 ≤ g x ∧ g x ≤ B
theorem cnt_up {g : Int → Int} {B C : Int} (h : cnt g B) (hb : B ≤ C) : cnt g C := fun x hx => ⟨(h x hx).1, Int.le_trans (h x hx).2 hb⟩
theorem sMv_x {g : Int → Int} {l x : Int} (ok : okS g l) (hx : isC x) : g x ≤ sMv g l x ∧ sMv g l x ≤ g x + 1 := by
  have hl := ok.1
  have ht := ok.2.2.2.1
  have key : ∀ r i y2 e2, mvd g (sMv g l) l r i y2 e2 → g x ≤ sMv g l x ∧ sMv g l x ≤ g x + 1 := by
    intro r i y2 e2 hv
    obtain ⟨v1, v2, v3, v4, v5, v6, v7, v8, v9⟩ := hv
    unfold isC at hx
    by_cases q1 : x = 7729 + l
    · subst q1; omega
    by_cases q2 : x = 7742
    · subst q2; omega
    by_cases q3 : x = 7745
    · subst q3; omega
    by_cases q4 : x = 7746
    · subst q4; omega
    rw [v2 x (by omega) (by omega) (by omega) (by omega) q1 q2 q3 q4]; omega
  rcases sMv_mvd ok with ⟨-, hv⟩ | ⟨-, hv⟩ | ⟨-, hv⟩ <;> exact key _ _ _ _ hv
theorem sStep_x {g : Int → Int} {l x : Int} (hl : 0 ≤ l ∧ l ≤ 8) (h : Inv g) (hm : g (7657 + l) = 1) (d1 : rg (g (7729 + l) + 1)) (d2 : rg (g 7746 + 1)) (d3 : rg (g 7745 + 1)) (d4 : rg (g 7742 + 1)) (c1 : rg (g (7720 + l) + 1)) (c2 : rg (g 7738 + 1)) (hx : isC x) : g x ≤ sStep g l x ∧ sStep g l x ≤ g x + 1 := by
  have ok := okS_of hl h.1 hm d1 d2 d3 d4
  have hW := sMv_inv hl h.1 hm d1 d2 d3 d4
  have hx1 := sMv_x ok hx
  have far : ∀ x, 7619 ≤ x → x < 7702 → sMv g l x = g x := fun x x0 x1 => sMv_far ok (by omega) (by omega) (by omega) (by omega) (by omega) (by omega) (by omega)
  have ag : agK g (sMv g l) := fun x x0 x1 => far x x0 (by omega)
  have hq : ∀ k, 0 ≤ k → k ≤ 8 → quiet (sMv g l) k := by
    intro k k0 k1 h2
    rw [shM_ag ag ⟨k0, k1⟩] at h2
    rcases h.2 k k0 k1 h2 with z | ⟨z1, z2⟩
    · left; rw [far _ (by omega) (by omega)]; exact z
    · right; refine ⟨z1, ?_⟩
      rw [fFr_ag ag ⟨by omega, by omega⟩]; exact z2
  have e1 : sMv g l (7720 + l) = g (7720 + l) := sMv_far ok (by omega) (by omega) (by omega) (by omega) (by omega) (by omega) (by omega)
  have e2 : sMv g l 7738 = g 7738 := sMv_far ok (by omega) (by omega) (by omega) (by omega) (by omega) (by omega) (by omega)
  unfold sStep
  split
  · obtain ⟨-, ha⟩ := sThr_inv hl hW hq (by rw [e1]; exact c1) (by rw [e2]; exact c2)
    have hx2 := hx
    unfold isC at hx2
    rw [ha.1 x (by omega)]
    obtain ⟨hy, he, ht, n1, n2⟩ := mrg_rows hl h.1 hm
    have f1 := far (7684 + l) (by omega) (by omega)
    have f2 := far (7693 + l) (by omega) (by omega)
    have f3 := far (7675 + l) (by omega) (by omega)
    obtain ⟨v1, v2, ⟨v3, v4⟩, ⟨v5, v6⟩, v7, v8⟩ := sThr2_v (g := sMv g l) hl (by omega) (by omega) (by omega) (by omega) (by omega)
    by_cases q1 : x = 7720 + l
    · subst q1; rw [v2, e1]; omega
    by_cases q2 : x = 7738
    · subst q2; omega
    rw [v8 x (by omega) q1 (by omega) (by omega) (by omega) (by omega) (by omega) q2 (by omega)]
    exact hx1
  · exact hx1
/-- what runs: all holds, and the counts and what is ahead are no more than T -/
def Run (g : Int → Int) (T : Int) : Prop := Inv g ∧ cnt g (T - phi g) ∧ T < 2000000000
theorem Run_up {g : Int → Int} {T U : Int} (h : Run g T) (hb : T ≤ U) (hu : U < 2000000000) : Run g U := ⟨h.1, cnt_up h.2.1 (by omega), hu⟩
theorem Run_rg {g : Int → Int} {T x : Int} (h : Run g T) (hx : isC x) : rg (g x + 1) := by
  have a := h.2.1 x hx
  have b := phi_bd h.1.1
  have c := h.2.2
  unfold rg; omega
theorem Run_step {g : Int → Int} {T l : Int} {M : fMem} (h : Run g T) (hm : lowM g l) : Run (sStep g l) T ∧ phi (sStep g l) + 1 ≤ phi g ∧ f_X11_step (oset M 419 g) = some (1, oset M 419 (sStep g l)) := by
  have hl : 0 ≤ l ∧ l ≤ 8 := ⟨hm.1, hm.2.1⟩
  have d1 := Run_rg h (x := 7729 + l) (by unfold isC; omega)
  have d2 := Run_rg h (x := 7746) (by unfold isC; omega)
  have d3 := Run_rg h (x := 7745) (by unfold isC; omega)
  have d4 := Run_rg h (x := 7742) (by unfold isC; omega)
  have c1 := Run_rg h (x := 7720 + l) (by unfold isC; omega)
  have c2 := Run_rg h (x := 7738) (by unfold isC; omega)
  have hp := sStep_phi hl h.1 hm.2.2.1 d1 d2 d3 d4 c1 c2
  refine ⟨⟨sStep_inv hl h.1 hm.2.2.1 d1 d2 d3 d4 c1 c2, fun x hx => ?_, h.2.2⟩, hp, ?_⟩
  · have a := h.2.1 x hx
    have b := sStep_x hl h.1 hm.2.2.1 d1 d2 d3 d4 c1 c2 hx
    omega
  · have ok := okS_of hl h.1.1 hm.2.2.1 d1 d2 d3 d4
    refine e_step ok hm ?_ c1 c2
    obtain ⟨hR, -, ⟨-, -, e1, e2, e3, e4, e5, e6, e7, e8, e9, e11, e12⟩, -⟩ := sMv_inv hl h.1.1 hm.2.2.1 d1 d2 d3 d4
    have h1 := lst_bd l
    have a1 := (hR (sMv g l (7684 + l)) (by omega) (by omega)).2.1
    have a2 := (hR (sMv g l (7693 + l)) (by omega) (by omega)).2.1
    have b1 := rmR_bd (sMv g l (7684 + l))
    have b2 := rmR_bd (sMv g l (7693 + l))
    unfold rg left
    omega
end RUN1
