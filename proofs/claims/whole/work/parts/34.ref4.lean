/-! the reference: a step, all of it -/
section REF4
def yK (g : Int → Int) (l : Int) : Int := if g (7600 + g (7684 + l)) ≤ g (7702 + l) then 200 else g (200 * g (7684 + l) + g (7702 + l))
def eK (g : Int → Int) (l : Int) : Int := if g (7600 + g (7693 + l)) ≤ g (7711 + l) then 200 else g (200 * g (7693 + l) + g (7711 + l))
/-- the thing with the least key goes on -/
def sMv1 (g : Int → Int) (l : Int) : Int → Int := if eK g l < yK g l then us (sCome g l (g (7693 + l)) (g (7711 + l))) (7711 + l) (g (7711 + l) + 1) else us (sCome g l (g (7684 + l)) (g (7702 + l))) (7702 + l) (g (7702 + l) + 1)
def sMv2 (g : Int → Int) (l : Int) : Int → Int := if yK g l = eK g l then us (us (sMv1 g l) (7711 + l) (g (7711 + l) + 1)) 7745 (g 7745 + 1) else sMv1 g l
def sMv (g : Int → Int) (l : Int) : Int → Int := us (sMv2 g l) 7742 (g 7742 + 1)
/-- what a step needs of the numbers -/
def okS (g : Int → Int) (l : Int) : Prop :=
  (0 ≤ l ∧ l ≤ 8) ∧ (0 ≤ g (7684 + l) ∧ g (7684 + l) < 19) ∧ (0 ≤ g (7693 + l) ∧ g (7693 + l) < 19) ∧ (0 ≤ g (7675 + l) ∧ g (7675 + l) < 19) ∧
  (0 ≤ g (7702 + l) ∧ g (7702 + l) ≤ g (7600 + g (7684 + l)) ∧ g (7600 + g (7684 + l)) ≤ 200) ∧ (0 ≤ g (7711 + l) ∧ g (7711 + l) ≤ g (7600 + g (7693 + l)) ∧ g (7600 + g (7693 + l)) ≤ 200) ∧
  0 < left g l ∧ (0 ≤ g (7600 + g (7675 + l)) ∧ g (7600 + g (7675 + l)) < 200) ∧ (rg (g (7729 + l) + 1) ∧ rg (g 7746 + 1) ∧ rg (g 7745 + 1) ∧ rg (g 7742 + 1)) ∧
  (g (7702 + l) < g (7600 + g (7684 + l)) → 0 ≤ g (200 * g (7684 + l) + g (7702 + l)) ∧ g (200 * g (7684 + l) + g (7702 + l)) < 200) ∧ (g (7711 + l) < g (7600 + g (7693 + l)) → 0 ≤ g (200 * g (7693 + l) + g (7711 + l)) ∧ g (200 * g (7693 + l) + g (7711 + l)) < 200) ∧ (∀ i, rg (g i))
theorem sCome_at {g : Int → Int} {l r i x : Int} (hx : x < 7600 ∨ 7619 ≤ x) (hx2 : x ≠ 7746) (hx3 : x ≠ 7729 + l) (ht : 0 ≤ g (7675 + l) ∧ g (7675 + l) < 19) (hn : 0 ≤ g (7600 + g (7675 + l)) ∧ g (7600 + g (7675 + l)) < 200) (hx4 : 7600 ≤ x) : sCome g l r i x = g x := by
  unfold sCome
  split
  · rw [us_ne hx2]
  · rw [us_ne hx3, us_ne (by omega), us_ne (by omega), us_ne (by omega)]
theorem e_step116 {l : Int} {M : fMem} {g : Int → Int} (ok : okS g l) : j_X11_step_116 l (g (7684 + l)) (g (7693 + l)) (g (7702 + l)) (g (7711 + l)) (yK g l) (eK g l) (oset M 419 g) = j_X11_step_205 l (oset M 419 (sMv2 g l)) := by
  obtain ⟨hl, hy, he, ht, hyi, hei, hlf, hn, ⟨c1, c2, c3, c4⟩, ky, ke, hrg⟩ := ok
  have key : ∀ g1, g1 = sMv1 g l → g1 (7711 + l) + 1 = g (7711 + l) + 1 + (if eK g l < yK g l then 1 else 0) → g1 7745 = g 7745 → j_X11_step_172 l (yK g l) (eK g l) (oset M 419 g1) = j_X11_step_205 l (oset M 419 (sMv2 g l)) := by
    intro g1 e1 e2 e3
    unfold j_X11_step_172 sMv2
    by_cases hq : yK g l = eK g l
    · rw [if_pos (c := yK g l = eK g l) (t := us (us (sMv1 g l) (7711 + l) (g (7711 + l) + 1)) 7745 (g 7745 + 1)) hq]
      rw [if_neg (by omega)] at e2
      refine it hq ?_
      simp only [os]
      refine si (by omega) (si ⟨by omega, by omega⟩ (bm fun g2 e4 => ?_))
      have v2 : g2 7745 = g 7745 := by rw [e4, us_ne (by omega), e3]
      simp only [os]
      rw [v2]
      refine si c3 (bm fun g3 e5 => ?_)
      rw [e5, e4, e1, show sMv1 g l (7711 + l) + 1 = g (7711 + l) + 1 by rw [← e1]; omega]
    · rw [if_neg (c := yK g l = eK g l) (t := us (us (sMv1 g l) (7711 + l) (g (7711 + l) + 1)) 7745 (g 7745 + 1)) hq]
      refine ie hq ?_
      rw [e1]
  unfold j_X11_step_116
  by_cases hlt : eK g l < yK g l
  · have hee : g (7711 + l) < g (7600 + g (7693 + l)) := by
      unfold eK yK at hlt
      split at hlt
      · split at hlt
        · omega
        · have := ky (by omega); omega
      · omega
    refine it hlt (bc (e_comes hl he ⟨hei.1, by omega⟩ ht hn c1 c2 (hrg _) (hrg _)) ?_)
    have v1 : sCome g l (g (7693 + l)) (g (7711 + l)) (7711 + l) = g (7711 + l) := sCome_at (by omega) (by omega) (by omega) ht hn (by omega)
    have v2 : sCome g l (g (7693 + l)) (g (7711 + l)) 7745 = g 7745 := sCome_at (by omega) (by omega) (by omega) ht hn (by omega)
    simp only [os]
    rw [v1]
    refine si (by omega) (si ⟨by omega, by omega⟩ (bm fun g1 e1 => ?_))
    refine key g1 (by rw [e1, sMv1, if_pos hlt]) ?_ ?_
    · rw [if_pos hlt, e1, us_eq]
    · rw [e1, us_ne (by omega), v2]
  · have hyy : g (7702 + l) < g (7600 + g (7684 + l)) := by
      unfold left at hlf
      unfold eK yK at hlt
      split at hlt
      · split at hlt
        · omega
        · omega
      · split at hlt
        · have := ke (by omega); omega
        · omega
    refine ie hlt (bc (e_comes hl hy ⟨hyi.1, by omega⟩ ht hn c1 c2 (hrg _) (hrg _)) ?_)
    have v1 : sCome g l (g (7684 + l)) (g (7702 + l)) (7702 + l) = g (7702 + l) := sCome_at (by omega) (by omega) (by omega) ht hn (by omega)
    have v2 : sCome g l (g (7684 + l)) (g (7702 + l)) 7745 = g 7745 := sCome_at (by omega) (by omega) (by omega) ht hn (by omega)
    have v3 : sCome g l (g (7684 + l)) (g (7702 + l)) (7711 + l) = g (7711 + l) := sCome_at (by omega) (by omega) (by omega) ht hn (by omega)
    simp only [os]
    rw [v1]
    refine si (by omega) (si ⟨by omega, by omega⟩ (bm fun g1 e1 => ?_))
    refine key g1 (by rw [e1, sMv1, if_neg hlt]) ?_ ?_
    · rw [if_neg hlt, e1, us_ne (by omega), v3]; omega
    · rw [e1, us_ne (by omega), v2]
theorem e_stepA {l : Int} {M : fMem} {g : Int → Int} (ok : okS g l) (hm : lowM g l) : f_X11_step (oset M 419 g) = j_X11_step_205 l (oset M 419 (sMv2 g l)) := by
  have ok0 := ok
  obtain ⟨hl, hy, he, ht, hyi, hei, hlf, hn, ⟨c1, c2, c3, c4⟩, ky, ke, hrg⟩ := ok
  have h86 : j_X11_step_86 l (g (7684 + l)) (g (7693 + l)) (g (7702 + l)) (g (7711 + l)) (yK g l) (oset M 419 g) = j_X11_step_205 l (oset M 419 (sMv2 g l)) := by
    rw [← e_step116 ok0]
    unfold j_X11_step_86
    simp only [os]
    refine si (by omega) ?_
    by_cases h1 : g (7600 + g (7693 + l)) ≤ g (7711 + l)
    · refine it h1 ?_
      rw [show eK g l = 200 by unfold eK; rw [if_pos h1]]
    · refine ie h1 (bc (e_keyAt he ⟨hei.1, by omega⟩) ?_)
      rw [show eK g l = g (200 * g (7693 + l) + g (7711 + l)) by unfold eK; rw [if_neg h1]]
  unfold f_X11_step
  refine bc (e_lowest hm) (ie (by omega) ?_)
  simp only [os]
  refine si (by omega) (si (by omega) (si (by omega) (si (by omega) (si (by omega) ?_))))
  by_cases h1 : g (7600 + g (7684 + l)) ≤ g (7702 + l)
  · refine it h1 ?_
    rw [show yK g l = 200 by unfold yK; rw [if_pos h1]] at h86
    exact h86
  · refine ie h1 (bc (e_keyAt hy ⟨hyi.1, by omega⟩) ?_)
    rw [show yK g l = g (200 * g (7684 + l) + g (7702 + l)) by unfold yK; rw [if_neg h1]] at h86
    exact h86
theorem e_stepN {M : fMem} {g : Int → Int} (hm : noM g) : f_X11_step (oset M 419 g) = some (0, oset M 419 g) := by
  unfold f_X11_step
  exact bc (e_lowestN hm) (it rfl rfl)
end REF4
