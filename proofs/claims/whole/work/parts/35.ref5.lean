/-! the reference: a level is through -/
section REF5
def sThr1 (g : Int → Int) (l : Int) : Int → Int := sFree (sFree (us (us g (7657 + l) 0) (7720 + l) (g (7720 + l) + 1)) (g (7684 + l))) (g (7693 + l))
def sThr2 (g : Int → Int) (l : Int) : Int → Int := if sThr1 g l (7600 + g (7675 + l)) = 0 then sFree (sThr1 g l) (g (7675 + l)) else sShut (sThr1 g l) (g (7675 + l))
noncomputable def sThr (g : Int → Int) (l : Int) : Int → Int := sAll (sThr2 g l) 9
noncomputable def sStep (g : Int → Int) (l : Int) : Int → Int := if left (sMv g l) l = 0 then sThr (sMv g l) l else sMv g l
theorem sFree_at {g : Int → Int} {r x : Int} (h : x < 7600 ∨ 7638 ≤ x) (hr : 0 ≤ r ∧ r < 19) : sFree g r x = g x := by
  unfold sFree; rw [us_ne (by omega), us_ne (by omega)]
theorem e_isThrough {l : Int} {M : fMem} {g : Int → Int} (h : 0 ≤ l ∧ l ≤ 8) (hy : 0 ≤ g (7684 + l) ∧ g (7684 + l) < 19) (he : 0 ≤ g (7693 + l) ∧ g (7693 + l) < 19) (ht : 0 ≤ g (7675 + l) ∧ g (7675 + l) < 19) (c1 : rg (g (7720 + l) + 1)) (c2 : rg (g 7738 + 1)) : f_X11_isThrough l (oset M 419 g) = some (oset M 419 (sThr g l)) := by
  unfold f_X11_isThrough
  simp only [os]
  refine si (by omega) (si (by omega) (bm fun g1 e1 => ?_))
  have v1 : g1 (7720 + l) = g (7720 + l) := by rw [e1, us_ne (by omega)]
  simp only [os]
  rw [v1]
  refine si (by omega) (si c1 (bm fun g2 e2 => ?_))
  have v2 : g2 (7684 + l) = g (7684 + l) := by rw [e2, us_ne (by omega), e1, us_ne (by omega)]
  have v3 : g2 (7693 + l) = g (7693 + l) := by rw [e2, us_ne (by omega), e1, us_ne (by omega)]
  have v4 : g2 7738 = g 7738 := by rw [e2, us_ne (by omega), e1, us_ne (by omega)]
  simp only [os]
  rw [v2]
  refine si (by omega) (bc (e_frees hy) ?_)
  simp only [os]
  rw [sFree_at (by omega) hy, v3]
  refine si (by omega) (bc (e_frees he) ?_)
  have e3 : sFree (sFree g2 (g (7684 + l))) (g (7693 + l)) = sThr1 g l := by unfold sThr1; rw [e2, e1]
  rw [e3]
  have v5 : sThr1 g l 7738 = g 7738 := by rw [← e3, sFree_at (by omega) he, sFree_at (by omega) hy, v4]
  simp only [os]
  refine si (by omega) ?_
  unfold sThr sThr2
  by_cases hz : sThr1 g l (7600 + g (7675 + l)) = 0
  · rw [if_pos (c := sThr1 g l (7600 + g (7675 + l)) = 0) (t := sFree (sThr1 g l) (g (7675 + l))) hz]
    exact it hz (bc (e_frees ht) (bc e_asksAll rfl))
  · rw [if_neg (c := sThr1 g l (7600 + g (7675 + l)) = 0) (t := sFree (sThr1 g l) (g (7675 + l))) hz]
    exact ie hz (bc (e_shuts ht (by rw [v5]; exact c2)) (bc e_asksAll rfl))
theorem sMv_far {g : Int → Int} {l x : Int} (ok : okS g l) (hx : 7619 ≤ x) (h1 : x ≠ 7702 + l) (h2 : x ≠ 7711 + l) (h3 : x ≠ 7729 + l) (h4 : x ≠ 7742) (h5 : x ≠ 7745) (h6 : x ≠ 7746) : sMv g l x = g x := by
  obtain ⟨hl, hy, he, ht, hyi, hei, hlf, hn, -⟩ := ok
  have k : sMv1 g l x = g x := by
    unfold sMv1
    split
    · rw [us_ne h2, sCome_at (by omega) h6 h3 ht hn (by omega)]
    · rw [us_ne h1, sCome_at (by omega) h6 h3 ht hn (by omega)]
  unfold sMv sMv2
  rw [us_ne h4]
  split
  · rw [us_ne h5, us_ne h2, k]
  · exact k
theorem e_step {l : Int} {M : fMem} {g : Int → Int} (ok : okS g l) (hm : lowM g l) (h1 : rg (left (sMv g l) l)) (c1 : rg (g (7720 + l) + 1)) (c2 : rg (g 7738 + 1)) : f_X11_step (oset M 419 g) = some (1, oset M 419 (sStep g l)) := by
  rw [e_stepA ok hm]
  have ok0 := ok
  obtain ⟨hl, hy, he, ht, hyi, hei, hlf, hn, ⟨d1, d2, d3, d4⟩, ky, ke, hrg⟩ := ok
  have f1 : sMv g l (7684 + l) = g (7684 + l) := sMv_far ok0 (by omega) (by omega) (by omega) (by omega) (by omega) (by omega) (by omega)
  have f2 : sMv g l (7693 + l) = g (7693 + l) := sMv_far ok0 (by omega) (by omega) (by omega) (by omega) (by omega) (by omega) (by omega)
  have f3 : sMv g l (7675 + l) = g (7675 + l) := sMv_far ok0 (by omega) (by omega) (by omega) (by omega) (by omega) (by omega) (by omega)
  have f4 : sMv g l (7720 + l) = g (7720 + l) := sMv_far ok0 (by omega) (by omega) (by omega) (by omega) (by omega) (by omega) (by omega)
  have f5 : sMv g l 7738 = g 7738 := sMv_far ok0 (by omega) (by omega) (by omega) (by omega) (by omega) (by omega) (by omega)
  have f6 : sMv g l (7657 + l) = g (7657 + l) := sMv_far ok0 (by omega) (by omega) (by omega) (by omega) (by omega) (by omega) (by omega)
  have v0 : sMv2 g l 7742 = g 7742 := by
    have k : ∀ r i, sCome g l r i 7742 = g 7742 := fun r i => sCome_at (by omega) (by omega) (by omega) ht hn (by omega)
    have k1 : sMv1 g l 7742 = g 7742 := by
      unfold sMv1
      split
      · rw [us_ne (by omega), k]
      · rw [us_ne (by omega), k]
    unfold sMv2
    split
    · rw [us_ne (by omega), us_ne (by omega), k1]
    · exact k1
  unfold j_X11_step_205
  simp only [os]
  rw [v0]
  refine si d4 (bm fun g1 e1 => ?_)
  have e2 : g1 = sMv g l := e1
  subst e2
  refine bc (e_leftOf hl (by rw [f1]; exact hy) (by rw [f2]; exact he) (by rw [f6, hm.2.2.1]; omega) h1) ?_
  unfold sStep
  by_cases hz : left (sMv g l) l = 0
  · rw [if_pos (c := left (sMv g l) l = 0) (t := sThr (sMv g l) l) hz]
    exact it hz (bc (e_isThrough hl (by rw [f1]; exact hy) (by rw [f2]; exact he) (by rw [f3]; exact ht) (by rw [f4]; exact c1) (by rw [f5]; exact c2)) rfl)
  · rw [if_neg (c := left (sMv g l) l = 0) (t := sThr (sMv g l) l) hz]
    exact ie hz rfl
end REF5
