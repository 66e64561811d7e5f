/-! aside and back, a row's copy -/
section ASD
theorem l_goesA {k : fMem → Option fMem} (m : Nat) : ∀ (fu : Nat) (v : Int) (M : fMem), 0 ≤ v → 7787 - v = m → m < fu → L_X11_goesAside_2 k fu v M = k (oset M 420 (fun x => if v ≤ x ∧ x < 7787 then M 419 x else M 420 x)) := by
  induction m with
  | zero =>
    intro fu v M v0 hm hf
    obtain ⟨f, rfl⟩ : ∃ f, fu = f + 1 := ⟨fu - 1, by omega⟩
    refine it (by omega) ?_
    have : oset M 420 (fun x => if v ≤ x ∧ x < 7787 then M 419 x else M 420 x) = M := by
      funext a i
      by_cases ha : a = 420
      · subst ha
        rw [os]
        show (if v ≤ i ∧ i < 7787 then _ else _) = _
        rw [if_neg (c := v ≤ i ∧ i < 7787) (by omega)]
      · rw [os_ne ha]
    rw [this]
  | succ m ih =>
    intro fu v M v0 hm hf
    obtain ⟨f, rfl⟩ : ∃ f, fu = f + 1 := ⟨fu - 1, by omega⟩
    refine ie (by omega) (it (by omega) (bs fun x e => ?_))
    rw [ih f (v + 1) x (by omega) (by omega) (by omega), e]
    have : oset (mset M 420 v (M 419 v)) 420 (fun x => if v + 1 ≤ x ∧ x < 7787 then mset M 420 v (M 419 v) 419 x else mset M 420 v (M 419 v) 420 x) = oset M 420 (fun x => if v ≤ x ∧ x < 7787 then M 419 x else M 420 x) := by
      funext a i
      by_cases ha : a = 420
      · subst ha
        rw [os, os, mset_ne (by omega), mset_at]
        by_cases c : i = v
        · subst c
          rw [if_neg (c := i + 1 ≤ i ∧ i < 7787) (by omega), if_pos (c := i ≤ i ∧ i < 7787) (by omega), us_eq]
        · by_cases d : v ≤ i ∧ i < 7787
          · rw [if_pos (c := v + 1 ≤ i ∧ i < 7787) (by omega), if_pos d]
          · rw [if_neg (c := v + 1 ≤ i ∧ i < 7787) (by omega), if_neg d, us_ne c]
      · rw [os_ne ha, os_ne ha, mset_ne ha]
    rw [this]
theorem l_comesB {k : fMem → Option fMem} (m : Nat) : ∀ (fu : Nat) (v : Int) (M : fMem), 0 ≤ v → 7787 - v = m → m < fu → L_X11_comesBack_2 k fu v M = k (oset M 419 (fun x => if v ≤ x ∧ x < 7787 then M 420 x else M 419 x)) := by
  induction m with
  | zero =>
    intro fu v M v0 hm hf
    obtain ⟨f, rfl⟩ : ∃ f, fu = f + 1 := ⟨fu - 1, by omega⟩
    refine it (by omega) ?_
    have : oset M 419 (fun x => if v ≤ x ∧ x < 7787 then M 420 x else M 419 x) = M := by
      funext a i
      by_cases ha : a = 419
      · subst ha
        rw [os]
        show (if v ≤ i ∧ i < 7787 then _ else _) = _
        rw [if_neg (c := v ≤ i ∧ i < 7787) (by omega)]
      · rw [os_ne ha]
    rw [this]
  | succ m ih =>
    intro fu v M v0 hm hf
    obtain ⟨f, rfl⟩ : ∃ f, fu = f + 1 := ⟨fu - 1, by omega⟩
    refine ie (by omega) (it (by omega) (bs fun x e => ?_))
    rw [ih f (v + 1) x (by omega) (by omega) (by omega), e]
    have : oset (mset M 419 v (M 420 v)) 419 (fun x => if v + 1 ≤ x ∧ x < 7787 then mset M 419 v (M 420 v) 420 x else mset M 419 v (M 420 v) 419 x) = oset M 419 (fun x => if v ≤ x ∧ x < 7787 then M 420 x else M 419 x) := by
      funext a i
      by_cases ha : a = 419
      · subst ha
        rw [os, os, mset_ne (by omega), mset_at]
        by_cases c : i = v
        · subst c
          rw [if_neg (c := i + 1 ≤ i ∧ i < 7787) (by omega), if_pos (c := i ≤ i ∧ i < 7787) (by omega), us_eq]
        · by_cases d : v ≤ i ∧ i < 7787
          · rw [if_pos (c := v + 1 ≤ i ∧ i < 7787) (by omega), if_pos d]
          · rw [if_neg (c := v + 1 ≤ i ∧ i < 7787) (by omega), if_neg d, us_ne c]
      · rw [os_ne ha, os_ne ha, mset_ne ha]
    rw [this]
theorem e_goesA (M : fMem) : f_X11_goesAside M = some (oset M 420 (fun x => if 0 ≤ x ∧ x < 7787 then M 419 x else M 420 x)) := l_goesA 7787 _ _ _ (by omega) (by omega) (by omega)
theorem e_comesB (M : fMem) : f_X11_comesBack M = some (oset M 419 (fun x => if 0 ≤ x ∧ x < 7787 then M 420 x else M 419 x)) := l_comesB 7787 _ _ _ (by omega) (by omega) (by omega)
theorem e_backTo {M : fMem} {g : Int → Int} (h1 : ∀ x, 0 ≤ x → x < 7787 → M 420 x = g x) (h2 : ∀ x, x < 0 ∨ 7787 ≤ x → M 419 x = g x) : f_X11_comesBack M = some (oset M 419 g) := by
  rw [e_comesB]
  have : (fun x => if 0 ≤ x ∧ x < 7787 then M 420 x else M 419 x) = g := by
    funext x
    by_cases c : 0 ≤ x ∧ x < 7787
    · rw [if_pos c, h1 x c.1 c.2]
    · rw [if_neg c, h2 x (by omega)]
  rw [this]
end ASD
