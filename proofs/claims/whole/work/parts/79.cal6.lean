/-! looks, falls, bounds, route, entry -/
section CAL6
theorem C_refresh {M : fMem} {n : Int} (h : St M n) : ∃ M1, f_X10_refresh M = some M1 ∧ St M1 n ∧ (∀ x, 418 ≤ x → M1 x = M x) ∧ idxR M1 (M 419) ∧ RelV 2 M1 (M 419) := by
  obtain ⟨hR, hv⟩ := C_rel h
  obtain ⟨M1, a1, a2, a3, a4, a5, a6⟩ := c_refresh hv h.2.1.2.2.2.1 hR h.1.2.1 h.1.2.2.2.2.2
  have fx : ∀ x, 418 ≤ x → M1 x = M x := fun x hx => a6 x (by omega) (by omega) (by omega) (by omega)
  refine ⟨M1, a1, St_q h ⟨fun x hx => ?_, a4 10 (by omega), fx⟩ (fun _ => a2), fx, a2, RelV_cg hR (fun x h1 h2 => a6 x (by omega) (by omega) (by omega) (by omega))⟩
  unfold keep at hx; exact a6 x (by omega) (by omega) (by omega) (by omega)
/-- the path is scratch -/
theorem St_path {M M1 : fMem} {n : Int} {g : Int → Int} (h : St M n) (hg : M 419 = g) (f : pFr M M1) : St M1 n ∧ ∀ x, 418 ≤ x → M1 x = M x := by
  refine ⟨St_q h ⟨fun x hx => f x (by unfold keep at hx; omega), by rw [f 0 (by omega)], fun x hx => f x (by omega)⟩ (fun z => ?_), fun x hx => f x (by omega)⟩
  rw [f 0 (by omega)] at z
  obtain ⟨i1, i2⟩ := h.1.2.2.2.2.2 z
  exact ⟨ixR_cg i1 (fun x h1 h2 => f x (by omega)), by rw [f 2 (by omega)]; exact i2.1, fun j x hx => by rw [f (2 + 2) (by omega)]; exact i2.2 j x hx⟩
theorem C_start (M : fMem) : ∃ N, f_X5_start M = some N ∧ N 227 4 = 0 ∧ N 227 5 = 0 ∧ pFr M N := by
  refine ⟨mset (mset M 227 4 0) 227 5 0, rfl, by rw [mset_slot (by omega), mset_self], mset_self _ _ _ _, fun x hx => by rw [mset_ne (by omega), mset_ne (by omega)]⟩
theorem pFr_tr {A B C : fMem} (a : pFr A B) (b : pFr B C) : pFr A C := fun x hx => by rw [b x hx, a x hx]
theorem C_follow {M : fMem} {n κ : Int} (h : St M n) (hi : idxR M (M 419)) (hκ : 0 ≤ κ ∧ κ < 200) : ∃ M1, f_X5_follow 2 κ M = some M1 ∧ St M1 n ∧ (∀ x, 418 ≤ x → M1 x = M x) ∧ pFr M M1 ∧ (∀ q ∈ vis (M 419) κ (ordL (M 419)), pth M1 (M 419) κ q) ∧ M1 227 4 = (vis (M 419) κ (ordL (M 419))).length ∧ M1 227 5 = lS (lkA (M 419) κ) (vis (M 419) κ (ordL (M 419))) := by
  obtain ⟨hR, hv⟩ := C_rel h
  have hst := h.2.1.2.2.2.1
  obtain ⟨N, s1, s2, s3, s4⟩ := C_start M
  have hl := ordL_len hv
  obtain ⟨M1, a1, a2, a3, a4, a5, -⟩ := c_follow hv hst hκ (ordL (M 419)) [] 20000 0 N (RelV_cg hR (fun x h1 h2 => s4 x (by omega))) (ixR_cg hi.1 (fun x h1 h2 => s4 x (by omega))) ⟨by rw [s4 2 (by omega)]; exact hi.2.1, fun j x hx => by rw [s4 (2 + 2) (by omega)]; exact hi.2.2 j x hx⟩ (ordL_mem hv) (ldp_ord hv 9 (by omega) [] (fun l h1 _ => by omega)) (fun q hq => by simp at hq) (by omega) (by omega) (by omega) (by omega) (by omega) (by omega) (by omega)
  have fr := pFr_tr s4 a5
  obtain ⟨b1, b2⟩ := St_path h rfl fr
  refine ⟨M1, ?_, b1, b2, fr, a2, by rw [a3, s2]; omega, by rw [a4, s3]; omega⟩
  unfold f_X5_follow
  exact bc s1 a1
theorem C_followP {M : fMem} {n κ : Int} (h : St M n) (hi : idxR M (M 419)) (hκ : 0 ≤ κ ∧ κ < 200) : ∃ M1, f_X5_followPlain 2 κ M = some M1 ∧ St M1 n ∧ (∀ x, 418 ≤ x → M1 x = M x) ∧ pFr M M1 ∧ M1 227 5 = lS (lkP (M 419) κ) (visP (M 419) κ (ordL (M 419))) := by
  obtain ⟨hR, hv⟩ := C_rel h
  obtain ⟨N, s1, s2, s3, s4⟩ := C_start M
  have hl := ordL_len hv
  obtain ⟨M1, a1, a4, a5⟩ := c_followP hv hκ (ordL (M 419)) 20000 0 N (RelV_cg hR (fun x h1 h2 => s4 x (by omega))) ⟨by rw [s4 2 (by omega)]; exact hi.2.1, fun j x hx => by rw [s4 (2 + 2) (by omega)]; exact hi.2.2 j x hx⟩ (ordL_mem hv) (by omega) (by omega) (by omega) (by omega) (by omega) (by omega) (by omega)
  have fr := pFr_tr s4 a5
  obtain ⟨b1, b2⟩ := St_path h rfl fr
  refine ⟨M1, ?_, b1, b2, fr, by rw [a4, s3]; omega⟩
  unfold f_X5_followPlain
  exact bc s1 a1
theorem C_followAll {M : fMem} {n κ : Int} (h : St M n) (hi : idxR M (M 419)) (hκ : 0 ≤ κ ∧ κ < 200) : ∃ M1, f_X5_followAll 2 κ M = some M1 ∧ St M1 n ∧ (∀ x, 418 ≤ x → M1 x = M x) ∧ (∀ q ∈ ordL (M 419), pth M1 (M 419) κ q) := by
  obtain ⟨hR, hv⟩ := C_rel h
  have hst := h.2.1.2.2.2.1
  obtain ⟨N, s1, s2, s3, s4⟩ := C_start M
  have hl := ordL_len hv
  obtain ⟨M1, a1, a2, a5, -⟩ := c_followAll hv hst hκ (ordL (M 419)) [] 20000 0 N (RelV_cg hR (fun x h1 h2 => s4 x (by omega))) (ixR_cg hi.1 (fun x h1 h2 => s4 x (by omega))) ⟨by rw [s4 2 (by omega)]; exact hi.2.1, fun j x hx => by rw [s4 (2 + 2) (by omega)]; exact hi.2.2 j x hx⟩ (ordL_mem hv) (ldp_ord hv 9 (by omega) [] (fun l h1 _ => by omega)) (fun q hq => by simp at hq) (by omega) (by omega) (by omega) (by omega) (by omega) (by omega) (by omega)
  have fr := pFr_tr s4 a5
  obtain ⟨b1, b2⟩ := St_path h rfl fr
  refine ⟨M1, ?_, b1, b2, a2⟩
  unfold f_X5_followAll
  exact bc s1 a1
/-- the looks that a key takes, by marks or plain -/
noncomputable def lkT (g : Int → Int) (a κ : Int) : Int := lS (lkX g a κ) (viX g a κ (ordL g))
theorem viX_mem {g : Int → Int} {a κ : Int} : ∀ xs : List Int, ∀ r ∈ viX g a κ xs, r ∈ xs := by
  intro xs
  induction xs with
  | nil => intro r h; simp [viX] at h
  | cons x xs ih =>
    intro r h
    rw [viX, List.mem_cons] at h
    rcases h with h | h
    · rw [h]; exact List.mem_cons_self
    · split at h
      · exact List.mem_cons_of_mem _ (ih r h)
      · simp at h
theorem viX_len {g : Int → Int} {a κ : Int} : ∀ xs : List Int, (viX g a κ xs).length ≤ xs.length := by
  intro xs
  induction xs with
  | nil => simp [viX]
  | cons x xs ih => rw [viX, List.length_cons, List.length_cons]; split <;> simp <;> omega
theorem lkT_bd {g : Int → Int} {a κ : Int} (hv : okV g) (hst : 2 ≤ g 7740 ∧ g 7740 ≤ 8) : 0 ≤ lkT g a κ ∧ lkT g a κ ≤ 738 := by
  have := lk_sum (a := a) (κ := κ) hv hst (xs := viX g a κ (ordL g)) (fun r hr => (ordL_mem hv r (viX_mem _ r hr)).1)
  have l1 := viX_len (g := g) (a := a) (κ := κ) (ordL g)
  have l2 := ordL_len hv
  unfold lkT; omega
theorem C_looksFor {M : fMem} {n κ a : Int} (h : St M n) (hi : idxR M (M 419)) (hκ : 0 ≤ κ ∧ κ < 200) (ha : a = 0 ∨ a = 1) : ∃ M1, f_X10_looksFor κ a M = some (lkT (M 419) a κ, M1) ∧ St M1 n ∧ (∀ x, 418 ≤ x → M1 x = M x) ∧ idxR M1 (M 419) := by
  obtain ⟨hR, hv⟩ := C_rel h
  have ix : ∀ M1, pFr M M1 → idxR M1 (M 419) := fun M1 f => ⟨ixR_cg hi.1 (fun x h1 h2 => f x (by omega)), by rw [f 2 (by omega)]; exact hi.2.1, fun j x hx => by rw [f (2 + 2) (by omega)]; exact hi.2.2 j x hx⟩
  rcases ha with rfl | rfl
  · obtain ⟨M1, a1, a2, a3, a4, a5, a6, a7⟩ := C_follow h hi hκ
    refine ⟨M1, ?_, a2, a3, ix M1 a4⟩
    unfold f_X10_looksFor
    refine it rfl (bc a1 ?_)
    rw [a7]
    unfold lkT
    rw [(vi_0 (M 419) κ (ordL (M 419))).1, (vi_0 (M 419) κ (vis (M 419) κ (ordL (M 419)))).2]
  · obtain ⟨M1, a1, a2, a3, a4, a5⟩ := C_followP h hi hκ
    refine ⟨M1, ?_, a2, a3, ix M1 a4⟩
    unfold f_X10_looksFor
    refine ie (by omega) (bc a1 ?_)
    rw [a5]
    unfold lkT
    rw [(vi_1 (κ := κ) (ordL (M 419)) (fun r hr => (ordL_mem hv r hr).2)).2]
/-- the reference's frame with looks -/
theorem R_ent {N : fMem} {n a : Int} (h : St N n) (ha : a = 0 ∨ a = 1) : ∃ N1, f_X11_laysEntries a N = some N1 ∧ (∀ r, 0 ≤ r → r < 19 → enR N1 r (eA (N 419) a r)) ∧ N1 418 13 = a ∧ rF N N1 ∧ N1 418 4 = N 418 4 ∧ N1 439 = N 439 ∧ N1 419 = N 419 := by
  obtain ⟨-, hv⟩ := C_rel h
  obtain ⟨N1, a1, a2, a3, a4, a5⟩ := r_laysEntries (a := a) rfl hv h.2.1.2.2.2.1 ha
  exact ⟨N1, a1, a2, a3, ⟨fun x h1 h2 h3 => a5 x h1 (by omega), a4 3 (by omega), a4 16 (by omega)⟩, a4 4 (by omega), a5 439 (by omega) (by omega), a5 419 (by omega) (by omega)⟩
theorem R_looks {N : fMem} {n a κ : Int} (h : St N n) (hn : n < 600) (ha : a = 0 ∨ a = 1) (h13 : N 418 13 = a) (he : ∀ r, 0 ≤ r → r < 19 → enR N r (eA (N 419) a r)) : ∃ N1, f_X11_looksFor κ N = some (lkT (N 419) a κ, N1) ∧ rts N1 (N 419) a κ (viX (N 419) a κ (ordL (N 419))) ∧ gF N N1 ∧ St N1 (n + 1) ∧ N1 419 = N 419 := by
  obtain ⟨-, hv⟩ := C_rel h
  have hst := h.2.1.2.2.2.1
  obtain ⟨N1, a1, a2, a3⟩ := r_looksFor (κ := κ) rfl hv hst ha h13 he
  have lb := lkT_bd (a := a) (κ := κ) hv hst
  have e16 : N1 418 16 = lkT (N 419) a κ := a2.2.1
  have := h.2.2.2
  refine ⟨N1, a1, a2, a3, St_r h (fun x hx => a3.1 x (by omega) (by omega)) (a3.1 419 (by omega) (by omega)) (a3.1 435 (by omega) (by omega)) (a3.1 436 (by omega) (by omega)) (a3.1 421 (by omega) (by omega)) (a3.2 3 (by omega) (by omega) (by omega) (by omega)) (by rw [e16]; omega) hn, a3.1 419 (by omega) (by omega)⟩
theorem St_rF0 {N N1 : fMem} {n : Int} (h : St N n) (f : rF N N1) : St N1 n := by
  refine St_mk h.1 h.2.1 (fun x hx => f.1 x (by omega) (by omega) (by omega)) (f.1 419 (by omega) (by omega) (by omega)) (f.1 435 (by omega) (by omega) (by omega)) (f.1 436 (by omega) (by omega) (by omega)) (f.1 421 (by omega) (by omega) (by omega)) f.2.1 (by rw [f.2.2]; exact h.2.2.1) h.2.2.2
theorem K_looks {M : fMem} {n κ a : Int} (h : St M n) (hn : n < 600) (ha : a = 0 ∨ a = 1) : thrK (f_X10_looks κ a) (f_X11_looks κ a) M n := by
  by_cases hk : 0 ≤ κ ∧ κ < 200
  · obtain ⟨M1, a1, a2, a3, a4, a5⟩ := C_refresh h
    rw [← a3 419 (by omega)] at a4
    obtain ⟨M2, b1, b2, b3, b4⟩ := C_looksFor a2 a4 hk ha
    rw [a3 419 (by omega)] at b1
    obtain ⟨-, hv⟩ := C_rel h
    have lb := lkT_bd (a := a) (κ := κ) hv h.2.1.2.2.2.1
    refine thr_join (c := 0) (v := lkT (M 419) a κ) ⟨M2, ?_, b2, fun x hx => by rw [b3 x hx, a3 x hx]⟩ (by omega) ⟨by omega, by omega⟩ (fun N hN hx => ?_)
    · unfold f_X10_looks
      refine bc (c_needKey _ _) ?_
      rw [if_pos hk]
      exact it rfl (bc a1 (bc b1 rfl))
    · obtain ⟨r1, r2, r3, r4⟩ := R_0 hN
      obtain ⟨N1, c1, c2, c3, c4, c5, c6, c7⟩ := R_ent r1 ha
      have gN : N1 419 = M 419 := by rw [c7, r3 419 (by omega), hx 419 (by omega) (by omega)]
      rw [r3 419 (by omega), hx 419 (by omega) (by omega), ← gN] at c2
      obtain ⟨N2, d1, d2, d3, d4, d5⟩ := R_looks (κ := κ) (St_rF0 r1 c4) hn ha c3 c2
      rw [gN] at d1
      refine ⟨_, N2, ?_, by rw [d3.2 4 (by omega) (by omega) (by omega) (by omega), c5, r2], fun _ => rfl, by rw [d3.1 439 (by omega) (by omega), c6, r3 439 (by omega)], d4⟩
      unfold f_X11_looks
      refine bs fun x e => ?_
      subst e
      refine bc (r_isKey _ _) ?_
      rw [if_pos hk]
      exact bc (r_right1 r2) (ie (by simp) (bc c1 (bc d1 rfl)))
  · refine thr_join (c := 1) (v := 0) ⟨M, ?_, h, fun _ _ => rfl⟩ (by omega) ⟨by omega, by omega⟩ (fun N hN hx => R_no hN hn ?_ (by omega))
    · unfold f_X10_looks
      refine bc (c_needKey _ _) ?_
      rw [if_neg hk]
      exact ie (by omega) rfl
    · obtain ⟨r1, r2, r3, r4⟩ := R_0 hN
      unfold f_X11_looks
      refine bs fun x e => ?_
      subst e
      refine bc (r_isKey _ _) ?_
      rw [if_neg hk]
      exact bc (r_right0 r2 (by omega)) (it rfl rfl)
end CAL6
