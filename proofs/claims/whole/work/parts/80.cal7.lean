/-! falls, bounds, route -/
section CAL7
theorem lvL_of {g : Int → Int} {l r : Int} (hl : 0 ≤ l ∧ l ≤ 8) (hv : okV g) (hr : 2 * l ≤ r ∧ r < ER l) (h : g (7619 + r) = 2) : r ∈ lvL g l := by
  rcases lv_cs hl hv with ⟨a1, a2, a3, a4⟩ | ⟨a1, a2, a3, a4, a5⟩ | ⟨a1, a2, a3, a4, a5, a6, a7, a8⟩
  · exact absurd h (a4 r hr.1 hr.2)
  · rw [lvL1 a1]
    have : r = bA g l 0 := Classical.byContradiction fun z => a5 r hr.1 hr.2 z h
    simp [this]
  · rw [lvL2 a1]
    by_cases c : r = bA g l 0
    · simp [c]
    · have : r = bA g l 1 := Classical.byContradiction fun z => a8 r hr.1 hr.2 c z h
      simp [this]
theorem ordL_of {g : Int → Int} {r : Int} (hv : okV g) (hr : 0 ≤ r ∧ r < 19) (h : g (7619 + r) = 2) : r ∈ ordL g := by
  obtain ⟨x1, x2, x3⟩ := lv_ex hr
  have key : ∀ d : Nat, d ≤ 9 → 9 - (d : Int) ≤ lvR r → r ∈ ordF g d := by
    intro d
    induction d with
    | zero => intro _ h; simp at h; omega
    | succ d ih =>
      intro hd h1
      rw [ordF, List.mem_append]
      by_cases c : lvR r = 8 - d
      · left; rw [← c]; exact lvL_of x1 hv ⟨x2, x3⟩ h
      · right; exact ih (by omega) (by push_cast at h1; omega)
  exact key 9 (by omega) (by omega)
def shOK (g : Int → Int) (l r : Int) : Prop := rowOK l r ∧ g (7619 + (2 * l + r)) = 2
theorem row19 {l r : Int} (h : rowOK l r) : 0 ≤ 2 * l + r ∧ 2 * l + r < 19 := by
  have hE : ER l ≤ 19 := by have := h.1; unfold ER; split <;> omega
  have := h.1; have := h.2; omega
theorem c_needShut {M : fMem} {n l r : Int} (h : St M n) : (shOK (M 419) l r → f_X10_needShut l r M = some 0) ∧ (¬ shOK (M 419) l r → f_X10_needShut l r M = some 1) := by
  unfold f_X10_needShut
  by_cases hr : rowOK l r
  · have h19 := row19 hr
    have st := (h.1.1.1 (2 * l + r) h19.1 h19.2).1
    rw [show 1 + 3 * (2 * l + r).toNat + 4 = 3 * (2 * l + r).toNat + 5 by omega] at st
    have is : f_X6_isShut (3 * (2 * l + r).toNat + 5) M = some (if M 419 (7619 + (2 * l + r)) = 2 then 1 else 0) := by
      unfold f_X6_isShut
      rw [st]
      split <;> rfl
    refine ⟨fun hs => ?_, fun hs => ?_⟩
    · refine bc ((c_needRow l r M).1 hr) (it rfl (bc (c_at hr) (si h19 (bc is ?_))))
      rw [if_pos hs.2]
      exact ie (by omega) rfl
    · refine bc ((c_needRow l r M).1 hr) (it rfl (bc (c_at hr) (si h19 (bc is ?_))))
      rw [if_neg (fun z => hs ⟨hr, z⟩)]
      exact it rfl rfl
  · refine ⟨fun hs => absurd hs.1 hr, fun _ => ?_⟩
    exact bc ((c_needRow l r M).2 hr) (ie (by omega) rfl)
theorem r_isShutRow {N : fMem} {κ l r : Int} (h0 : N 418 4 = 0) : ((0 ≤ κ ∧ κ < 200) ∧ shOK (N 419) l r → f_X11_isShutRow κ l r N = some (1, N)) ∧ (¬ ((0 ≤ κ ∧ κ < 200) ∧ shOK (N 419) l r) → f_X11_isShutRow κ l r N = some (0, mset N 418 4 1)) := by
  unfold f_X11_isShutRow
  have ra : rowOK l r → f_X11_rowAt l r N = some (2 * l + r) := fun hr => e_rowAt N hr.1 (by have := hr.2; have : ER l ≤ 2 * l + 3 := (by have := hr.1; unfold ER; split <;> omega); omega)
  refine ⟨fun hs => ?_, fun hs => ?_⟩
  · refine bc (r_isKey _ _) ?_
    rw [if_pos hs.1]
    refine ie (by omega) (bc ((r_isRow l r N).1 hs.2.1) (ie (by omega) (bc (ra hs.2.1) (bc (r_isShut (row19 hs.2.1)) ?_))))
    rw [show b1 (N 419 (7619 + (2 * l + r)) = 2) = 1 by simp [b1, hs.2.2]]
    exact ie (by omega) (bc (r_right1 h0) rfl)
  · refine bc (r_isKey _ _) ?_
    by_cases hk : 0 ≤ κ ∧ κ < 200
    · rw [if_pos hk]
      refine ie (by omega) ?_
      by_cases hr : rowOK l r
      · refine bc ((r_isRow l r N).1 hr) (ie (by omega) (bc (ra hr) (bc (r_isShut (row19 hr)) ?_)))
        have : ¬ N 419 (7619 + (2 * l + r)) = 2 := fun z => hs ⟨hk, hr, z⟩
        rw [show b1 (N 419 (7619 + (2 * l + r)) = 2) = 0 by simp [b1, this]]
        exact it rfl (bc (r_right0 h0 (by omega)) rfl)
      · exact bc ((r_isRow l r N).2 hr) (it rfl (bc (r_right0 h0 (by omega)) rfl))
    · rw [if_neg hk]
      exact it rfl (bc (r_right0 h0 (by omega)) rfl)
/-- class: up to where a key's way is known in all rows -/
theorem C_all {M : fMem} {n κ l r : Int} (h : St M n) (hk : 0 ≤ κ ∧ κ < 200) (hs : shOK (M 419) l r) : ∃ M1 M2, f_X10_refresh M = some M1 ∧ f_X5_followAll 2 κ M1 = some M2 ∧ St M2 n ∧ (∀ x, 418 ≤ x → M2 x = M x) ∧ pth M2 (M 419) κ (2 * l + r) := by
  obtain ⟨M1, a1, a2, a3, a4, a5⟩ := C_refresh h
  rw [← a3 419 (by omega)] at a4
  obtain ⟨M2, b1, b2, b3, b4⟩ := C_followAll a2 a4 hk
  obtain ⟨-, hv⟩ := C_rel h
  rw [a3 419 (by omega)] at b4
  exact ⟨M1, M2, a1, b1, b2, fun x hx => by rw [b3 x hx, a3 x hx], b4 _ (ordL_of hv (row19 hs.1) hs.2)⟩
theorem R_cTo {N : fMem} {n κ l r : Int} (h : St N n) (hn : n < 600) (hs : rowOK l r) : ∃ N1, f_X11_comesTo κ l r N = some N1 ∧ N1 418 14 = (bdX (N 419) 0 κ (2 * l + r)).1 ∧ N1 418 15 = (bdX (N 419) 0 κ (2 * l + r)).2 ∧ (N 418 16 ≤ N1 418 16 ∧ N1 418 16 ≤ N 418 16 + 360) ∧ (∀ q, 0 ≤ q → q < 19 → enR N1 q (eA (N 419) 0 q)) ∧ (∀ x, x ≠ 418 → (x < 425 ∨ 429 < x) → N1 x = N x) ∧ (∀ i, i ≠ 13 → i ≠ 14 → i ≠ 15 → i ≠ 16 → N1 418 i = N 418 i) := by
  obtain ⟨-, hv⟩ := C_rel h
  have := h.2.2
  exact r_comesTo rfl hv h.2.1.2.2.2.1 hs.1 ⟨hs.2.1, hs.2.2⟩ (by omega)
theorem E328 {g : Int → Int} {r : Int} (hv : okV g) (hst : 2 ≤ g 7740 ∧ g 7740 ≤ 8) (hr : 0 ≤ r ∧ r < 19) : (E g r).length ≤ 328 := by
  have := eA_len (a := 0) (r := r) hv hst hr
  unfold eA at this
  rw [if_pos rfl] at this
  exact this
theorem K_falls {M : fMem} {n κ l r : Int} (h : St M n) (hn : n < 600) : thrK (f_X10_falls κ l r) (f_X11_falls κ l r) M n := by
  obtain ⟨-, hv⟩ := C_rel h
  have hst := h.2.1.2.2.2.1
  by_cases hk : 0 ≤ κ ∧ κ < 200
  · by_cases hs : shOK (M 419) l r
    · have h19 := row19 hs.1
      obtain ⟨M1, M2, a1, a2, a3, a4, a5⟩ := C_all h hk hs
      have fb := fal_bd (κ := κ) hv hst h19
      have := E328 hv hst h19
      refine thr_join (c := 0) (v := (fal (M 419) κ (2 * l + r)).1) ⟨M2, ?_, a3, a4⟩ (by omega) ⟨by omega, by omega⟩ (fun N hN hx => ?_)
      · unfold f_X10_falls
        refine bc (c_needKey _ _) ?_
        rw [if_pos hk]
        refine it rfl (bc ((c_needShut h).1 hs) (it rfl (bc a1 (bc a2 (bc (c_at hs.1) (si h19 ?_))))))
        rw [a5.2.2.1]
      · obtain ⟨r1, r2, r3, r4⟩ := R_0 hN
        have gN : mset N 418 4 0 419 = M 419 := by rw [r3 419 (by omega), hx 419 (by omega) (by omega)]
        obtain ⟨N1, b1, b2, b3, b4, b5, b6, b7⟩ := R_cTo (κ := κ) r1 hn hs.1
        rw [gN] at b2 b3 b5
        have h16 := r1.2.2.1
        have hn0 := r1.2.2.2
        have fi := r_fallsIn (κ := κ) (a := 0) hv hst (b5 _ h19.1 h19.2) h19 b2 b3 (by omega)
        rw [(X_0 (M 419) κ).2.1] at fi
        have fx : ∀ x, x ≠ 418 → (x < 425 ∨ 429 < x) → mset N1 418 16 (N1 418 16 + (fal (M 419) κ (2 * l + r)).2) x = N x := fun x h1 h2 => by rw [mset_ne h1, b6 x h1 h2, r3 x h1]
        refine ⟨_, mset N1 418 16 (N1 418 16 + (fal (M 419) κ (2 * l + r)).2), ?_, ?_, fun _ => rfl, fx 439 (by omega) (by omega), ?_⟩
        · unfold f_X11_falls
          refine bs fun x e => ?_
          subst e
          refine bc ((r_isShutRow r2).1 ⟨hk, by rw [gN]; exact hs⟩) (ie (by simp) (bc b1 (bc (e_rowAt _ hs.1.1 (by have := hs.1.2; have : ER l ≤ 2 * l + 3 := (by have := hs.1.1; unfold ER; split <;> omega); omega)) (bc fi rfl))))
        · rw [mset_slot (by omega), b7 4 (by omega) (by omega) (by omega) (by omega), r2]
        · refine St_r hN (fun x hx => fx x (by omega) (by omega)) (fx 419 (by omega) (by omega)) (fx 435 (by omega) (by omega)) (fx 436 (by omega) (by omega)) (fx 421 (by omega) (by omega)) ?_ ?_ hn
          · rw [mset_slot (by omega), b7 3 (by omega) (by omega) (by omega) (by omega)]; exact r4.2.1
          · rw [mset_self]; omega
    · refine thr_join (c := 1) (v := 0) ⟨M, ?_, h, fun _ _ => rfl⟩ (by omega) ⟨by omega, by omega⟩ (fun N hN hx => R_no hN hn ?_ (by omega))
      · unfold f_X10_falls
        refine bc (c_needKey _ _) ?_
        rw [if_pos hk]
        exact it rfl (bc ((c_needShut h).2 hs) (ie (by omega) rfl))
      · obtain ⟨r1, r2, r3, r4⟩ := R_0 hN
        have gN : mset N 418 4 0 419 = M 419 := by rw [r3 419 (by omega), hx 419 (by omega) (by omega)]
        unfold f_X11_falls
        refine bs fun x e => ?_
        subst e
        exact bc ((r_isShutRow r2).2 (fun z => hs (by rw [← gN]; exact z.2))) (it rfl rfl)
  · refine thr_join (c := 1) (v := 0) ⟨M, ?_, h, fun _ _ => rfl⟩ (by omega) ⟨by omega, by omega⟩ (fun N hN hx => R_no hN hn ?_ (by omega))
    · unfold f_X10_falls
      refine bc (c_needKey _ _) ?_
      rw [if_neg hk]
      exact ie (by omega) rfl
    · obtain ⟨r1, r2, r3, r4⟩ := R_0 hN
      unfold f_X11_falls
      refine bs fun x e => ?_
      subst e
      exact bc ((r_isShutRow r2).2 (fun z => hk z.1)) (it rfl rfl)
theorem K_bounds {M : fMem} {n κ l r b : Int} (h : St M n) (hn : n < 600) : thrK (f_X10_bounds κ l r b) (f_X11_bounds_ κ l r b) M n := by
  obtain ⟨-, hv⟩ := C_rel h
  have hst := h.2.1.2.2.2.1
  by_cases hk : 0 ≤ κ ∧ κ < 200
  · by_cases hs : shOK (M 419) l r
    · have h19 := row19 hs.1
      obtain ⟨M1, M2, a1, a2, a3, a4, a5⟩ := C_all h hk hs
      have bd := bdX_bd (a := 0) (κ := κ) hv hst h19
      have el := eA_len (a := 0) (r := 2 * l + r) hv hst h19
      have xe := (X_0 (M 419) κ).1 (2 * l + r)
      refine thr_join (c := 0) (v := if b = 0 then (bdX (M 419) 0 κ (2 * l + r)).1 else (bdX (M 419) 0 κ (2 * l + r)).2) ⟨M2, ?_, a3, a4⟩ (by omega) (by unfold rg; split <;> omega) (fun N hN hx => ?_)
      · unfold f_X10_bounds
        refine bc (c_needKey _ _) ?_
        rw [if_pos hk]
        refine it rfl (bc ((c_needShut h).1 hs) (it rfl (bc a1 (bc a2 (bc (c_at hs.1) ?_)))))
        rw [xe]
        by_cases c : b = 0
        · rw [if_pos (c := b = 0) (t := (bdL (M 419) κ (2 * l + r) (lvR (2 * l + r)).toNat).1) c]
          refine it c (si h19 ?_)
          rw [a5.1]
        · rw [if_neg (c := b = 0) (t := (bdL (M 419) κ (2 * l + r) (lvR (2 * l + r)).toNat).1) c]
          refine ie c (si h19 ?_)
          rw [a5.2.1]
      · obtain ⟨r1, r2, r3, r4⟩ := R_0 hN
        have gN : mset N 418 4 0 419 = M 419 := by rw [r3 419 (by omega), hx 419 (by omega) (by omega)]
        obtain ⟨N1, b1, b2, b3, b4, b5, b6, b7⟩ := R_cTo (κ := κ) r1 hn hs.1
        rw [gN] at b2 b3 b5
        have h16 := r1.2.2.1
        have hn0 := r1.2.2.2
        have fx : ∀ x, x ≠ 418 → (x < 425 ∨ 429 < x) → N1 x = N x := fun x h1 h2 => by rw [b6 x h1 h2, r3 x h1]
        refine ⟨_, N1, ?_, by rw [b7 4 (by omega) (by omega) (by omega) (by omega), r2], fun _ => rfl, fx 439 (by omega) (by omega), ?_⟩
        · unfold f_X11_bounds_
          refine bs fun x e => ?_
          subst e
          refine bc ((r_isShutRow r2).1 ⟨hk, by rw [gN]; exact hs⟩) (ie (by simp) (bc b1 ?_))
          rw [b2, b3]
          by_cases c : b = 0
          · rw [if_pos c, if_pos c]
          · rw [if_neg c, if_neg c]
        · refine St_r hN (fun x hx => fx x (by omega) (by omega)) (fx 419 (by omega) (by omega)) (fx 435 (by omega) (by omega)) (fx 436 (by omega) (by omega)) (fx 421 (by omega) (by omega)) ?_ ?_ hn
          · rw [b7 3 (by omega) (by omega) (by omega) (by omega)]; exact r4.2.1
          · omega
    · refine thr_join (c := 1) (v := 0) ⟨M, ?_, h, fun _ _ => rfl⟩ (by omega) ⟨by omega, by omega⟩ (fun N hN hx => R_no hN hn ?_ (by omega))
      · unfold f_X10_bounds
        refine bc (c_needKey _ _) ?_
        rw [if_pos hk]
        exact it rfl (bc ((c_needShut h).2 hs) (ie (by omega) rfl))
      · obtain ⟨r1, r2, r3, r4⟩ := R_0 hN
        have gN : mset N 418 4 0 419 = M 419 := by rw [r3 419 (by omega), hx 419 (by omega) (by omega)]
        unfold f_X11_bounds_
        refine bs fun x e => ?_
        subst e
        exact bc ((r_isShutRow r2).2 (fun z => hs (by rw [← gN]; exact z.2))) (it rfl rfl)
  · refine thr_join (c := 1) (v := 0) ⟨M, ?_, h, fun _ _ => rfl⟩ (by omega) ⟨by omega, by omega⟩ (fun N hN hx => R_no hN hn ?_ (by omega))
    · unfold f_X10_bounds
      refine bc (c_needKey _ _) ?_
      rw [if_neg hk]
      exact ie (by omega) rfl
    · obtain ⟨r1, r2, r3, r4⟩ := R_0 hN
      unfold f_X11_bounds_
      refine bs fun x e => ?_
      subst e
      exact bc ((r_isShutRow r2).2 (fun z => hk z.1)) (it rfl rfl)
end CAL7
