/-! questions about keys -/
section CAL4
def Cq (f : fMem → Option (Int × Int × fMem)) (M : fMem) (n c v : Int) : Prop := ∃ M1, f M = some (c, v, M1) ∧ St M1 n ∧ ∀ x, 418 ≤ x → M1 x = M x
def Rq (f : fMem → Option (Int × fMem)) (N : fMem) (n c v : Int) : Prop := ∃ w N1, f N = some (w, N1) ∧ N1 418 4 = c ∧ (c = 0 → w = v) ∧ N1 439 = N 439 ∧ St N1 (n + 1)
/-- all of a question that may throw -/
def thrK (fX : fMem → Option (Int × Int × fMem)) (fR : fMem → Option (Int × fMem)) (M : fMem) (n : Int) : Prop := ∃ c v M1, fX M = some (c, v, M1) ∧ (0 ≤ c ∧ c ≤ 1) ∧ rg v ∧ ∀ o, ∃ w M2, fR (oset M1 439 o) = some (w, M2) ∧ M2 418 4 = c ∧ (c = 0 → w = v) ∧ M2 439 = o ∧ St M2 (n + 1)
def thrK2 (fX : fMem → Option (Int × Int × fMem)) (fR : fMem → Option (Int × fMem)) (M : fMem) (n : Int) : Prop := ∃ c v M1, fX M = some (c, v, M1) ∧ (0 ≤ c ∧ c ≤ 2) ∧ rg v ∧ ∀ o, ∃ w M2, fR (oset M1 439 o) = some (w, M2) ∧ M2 418 4 = c ∧ (c = 0 → w = v) ∧ M2 439 = o ∧ St M2 (n + 1)
theorem St_o {M : fMem} {n : Int} {o : Int → Int} (h : St M n) : St (oset M 439 o) n := by
  have f : ∀ x, x ≠ 439 → oset M 439 o x = M x := fun x hx => os_ne hx
  refine St_mk h.1 h.2.1 (fun x hx => f x (by omega)) (f 419 (by omega)) (f 435 (by omega)) (f 436 (by omega)) (f 421 (by omega)) (by rw [f 418 (by omega)]) (by rw [f 418 (by omega)]; exact h.2.2.1) h.2.2.2
theorem thr_join {fX : fMem → Option (Int × Int × fMem)} {fR : fMem → Option (Int × fMem)} {M : fMem} {n c v : Int} (hc : Cq fX M n c v) (h01 : 0 ≤ c ∧ c ≤ 1) (hv : rg v) (hr : ∀ N, St N n → (∀ x, 418 ≤ x → x ≠ 439 → N x = M x) → Rq fR N n c v) : thrK fX fR M n := by
  obtain ⟨M1, a1, a2, a3⟩ := hc
  refine ⟨c, v, M1, a1, h01, hv, fun o => ?_⟩
  obtain ⟨w, N1, b1, b2, b3, b4, b5⟩ := hr (oset M1 439 o) (St_o a2) (fun x h1 h2 => by rw [os_ne h2, a3 x h1])
  exact ⟨w, N1, b1, b2, b3, by rw [b4, os], b5⟩
theorem thr_join2 {fX : fMem → Option (Int × Int × fMem)} {fR : fMem → Option (Int × fMem)} {M : fMem} {n c v : Int} (hc : Cq fX M n c v) (h01 : 0 ≤ c ∧ c ≤ 2) (hv : rg v) (hr : ∀ N, St N n → (∀ x, 418 ≤ x → x ≠ 439 → N x = M x) → Rq fR N n c v) : thrK2 fX fR M n := by
  obtain ⟨M1, a1, a2, a3⟩ := hc
  refine ⟨c, v, M1, a1, h01, hv, fun o => ?_⟩
  obtain ⟨w, N1, b1, b2, b3, b4, b5⟩ := hr (oset M1 439 o) (St_o a2) (fun x h1 h2 => by rw [os_ne h2, a3 x h1])
  exact ⟨w, N1, b1, b2, b3, by rw [b4, os], b5⟩
theorem r_right1 {M : fMem} {b : Int} (h : M 418 4 = 0) : f_X11_right 1 b M = some (1, M) := by
  unfold f_X11_right
  rw [if_pos h, if_neg (by omega), if_pos h]
theorem r_right0 {M : fMem} {b : Int} (h : M 418 4 = 0) (hb : b ≠ 0) : f_X11_right 0 b M = some (0, mset M 418 4 b) := by
  unfold f_X11_right
  rw [if_pos h, if_pos rfl]
  refine bs fun x e => ?_
  have : x 418 4 = b := by rw [e, mset_self]
  rw [this, if_neg hb, e]
/-- numbers laid apart by the reference -/
def rF (N N1 : fMem) : Prop := (∀ x, x ≠ 418 → x ≠ 420 → (x < 422 ∨ (434 < x ∧ x ≠ 437 ∧ x ≠ 438)) → N1 x = N x) ∧ N1 418 3 = N 418 3 ∧ N1 418 16 = N 418 16
theorem St_rF {N N1 : fMem} {n : Int} (h : St N n) (f : rF N N1) (hn : n < 600) : St N1 (n + 1) := by
  have h16 := h.2.2.1
  refine St_r h (fun x hx => f.1 x (by omega) (by omega) (by omega)) (f.1 419 (by omega) (by omega) (by omega)) (f.1 435 (by omega) (by omega) (by omega)) (f.1 436 (by omega) (by omega) (by omega)) (f.1 421 (by omega) (by omega) (by omega)) f.2.1 (by rw [f.2.2]; omega) hn
theorem C_rel {M : fMem} {n : Int} (h : St M n) : RelV 2 M (M 419) ∧ okV (M 419) := ⟨RelV_of h.1.1 (Or.inl rfl), okV_of h.2.1.1.1.1⟩
theorem C_read {M : fMem} {n : Int} (h : St M n) : ∃ M1, f_X2_read 232 2 M = some M1 ∧ St M1 n ∧ (∀ x, 418 ≤ x → M1 x = M x) ∧ holR 232 M1 (M 419) (ordL (M 419)) := by
  obtain ⟨hR, hv⟩ := C_rel h
  obtain ⟨M1, a1, a2, a3, a4, a5⟩ := c_read (o := 232) (h := 2) hR hv ⟨rfl, rfl⟩ (by omega)
  have fx : ∀ x, 418 ≤ x → M1 x = M x := fun x hx => a5 x (by omega) (by omega) (by omega) (by omega) (by omega)
  refine ⟨M1, a1, ?_, fx, a2⟩
  refine St_q h ⟨fun x hx => ?_, ?_, fx⟩ (fun z => ?_)
  · unfold keep at hx; exact a5 x (by omega) (by omega) (by omega) (by omega) (by omega)
  · rw [a5 0 (by omega) (by omega) (by omega) (by omega) (by omega)]
  · rw [a5 0 (by omega) (by omega) (by omega) (by omega) (by omega)] at z
    exact ⟨ixR_cg (h.1.2.2.2.2.2 z).1 (fun x h1 h2 => a5 x (by omega) (by omega) (by omega) (by omega) (by omega)), a3⟩
theorem C_arr {M : fMem} {n : Int} (h : St M n) : ∃ M1, f_X7_arrange 2 M = some (((ordL (M 419)).length : Int), M1) ∧ St M1 n ∧ (∀ x, 418 ≤ x → M1 x = M x) ∧ ordAt 2 M1 0 (ordL (M 419)) := by
  obtain ⟨hR, hv⟩ := C_rel h
  obtain ⟨M1, a1, a2, a3⟩ := c_arrange hR.1 hv
  have fx : ∀ x, 418 ≤ x → M1 x = M x := fun x hx => a3.2 x (by omega) (by omega)
  refine ⟨M1, a1, ?_, fx, a2⟩
  refine St_q h ⟨fun x hx => ?_, ?_, fx⟩ (fun z => ?_)
  · unfold keep at hx; exact a3.2 x (by omega) (by omega)
  · rw [a3.2 0 (by omega) (by omega)]
  · rw [a3.2 0 (by omega) (by omega)] at z
    exact ⟨ixR_cg (h.1.2.2.2.2.2 z).1 (fun x h1 h2 => a3.2 x (by omega) (by omega)), a2⟩
/-- the reference begins -/
theorem R_0 {N : fMem} {n : Int} (h : St N n) : St (mset N 418 4 0) n ∧ (mset N 418 4 0) 418 4 = 0 ∧ (∀ x, x ≠ 418 → mset N 418 4 0 x = N x) ∧ rF N (mset N 418 4 0) := by
  have f : ∀ x, x ≠ 418 → mset N 418 4 0 x = N x := fun x hx => mset_ne hx
  refine ⟨St_mk h.1 h.2.1 (fun x hx => f x (by omega)) (f 419 (by omega)) (f 435 (by omega)) (f 436 (by omega)) (f 421 (by omega)) (mset_slot (by omega)) (by rw [mset_slot (by omega)]; exact h.2.2.1) h.2.2.2, mset_self _ _ _ _, f, fun x h1 _ _ => f x h1, mset_slot (by omega), mset_slot (by omega)⟩
theorem rF_tr {M M1 M2 : fMem} (a : rF M M1) (b : rF M1 M2) : rF M M2 := ⟨fun x h1 h2 h3 => by rw [b.1 x h1 h2 h3, a.1 x h1 h2 h3], by rw [b.2.1, a.2.1], by rw [b.2.2, a.2.2]⟩
theorem R_keys {N : fMem} {n : Int} (h : St N n) : ∃ N1, f_X11_laysKeys N = some N1 ∧ keyR N1 (N 419) (ordL (N 419)) ∧ rF N N1 ∧ N1 418 4 = N 418 4 ∧ N1 439 = N 439 ∧ N1 419 = N 419 := by
  obtain ⟨-, hv⟩ := C_rel h
  obtain ⟨N1, a1, a2, a3⟩ := r_laysKeys hv
  refine ⟨N1, a1, a2, ⟨fun x h1 _ h3 => a3 x (by omega) (by omega) (by omega), ?_, ?_⟩, ?_, a3 439 (by omega) (by omega) (by omega), a3 419 (by omega) (by omega) (by omega)⟩ <;> rw [a3 418 (by omega) (by omega) (by omega)]
/-- a refusal -/
theorem R_no {N : fMem} {n b : Int} {f : fMem → Option (Int × fMem)} (h : St N n) (hn : n < 600) (hf : f N = some (0, mset (mset N 418 4 0) 418 4 b)) (hb : b ≠ 0) : Rq f N n b 0 := by
  obtain ⟨r1, r2, r3, r4⟩ := R_0 h
  refine ⟨0, _, hf, mset_self _ _ _ _, fun z => absurd z hb, by rw [mset_ne (by omega), mset_ne (by omega)], St_rF h (rF_tr r4 ⟨fun x h1 _ _ => mset_ne h1, mset_slot (by omega), mset_slot (by omega)⟩) hn⟩
theorem hV_bd {g : Int → Int} {κ : Int} (hv : okV g) : ∀ xs : List Int, (∀ r ∈ xs, (0 ≤ r ∧ r < 19) ∧ g (7619 + r) = 2) → -1 ≤ hV g κ xs ∧ hV g κ xs ≤ 999 := by
  intro xs
  induction xs with
  | nil => intro _; simp [hV]
  | cons r xs ih =>
    intro h
    have i := ih (fun x hx => h x (List.mem_cons_of_mem _ hx))
    rw [hV]
    split
    · exact i
    · rename_i q
      obtain ⟨r1, r2⟩ := h r List.mem_cons_self
      have ho := hv.1 r r1.1 r1.2 r2
      rcases pl_cs g (r := r) (κ := κ) ho.2.1.1 with ⟨z, -⟩ | ⟨z1, z2, -⟩
      · exact absurd z q
      · have := ho.2.2.2.2.1 _ z1 z2; omega
theorem K_find {M : fMem} {n κ : Int} (h : St M n) (hn : n < 600) : ∃ v M1 M2, f_X10_find κ M = some (v, M1) ∧ f_X11_find κ M1 = some (v, M2) ∧ St M2 (n + 1) := by
  unfold f_X10_find f_X11_find
  by_cases hk : 0 ≤ κ ∧ κ < 200
  · obtain ⟨M1, a1, a2, a3, a4⟩ := C_arr h
    obtain ⟨hR, hv⟩ := C_rel a2
    rw [a3 419 (by omega)] at hR hv
    obtain ⟨r1, r2, r3, r4⟩ := R_0 a2
    obtain ⟨N1, b1, b2, b3, b4, b5, b6⟩ := R_keys r1
    rw [r3 419 (by omega), a3 419 (by omega)] at b2
    refine ⟨hV (M 419) κ (ordL (M 419)), M1, N1, ?_, ?_, St_rF a2 (rF_tr r4 b3) hn⟩
    · refine bc (c_isKey _ _) ?_
      rw [if_pos hk]
      exact ie (by omega) (bc a1 (bc (c_valueOf hR hv hk a4) rfl))
    · refine bs fun x e => ?_
      subst e
      refine bc (r_isKey _ _) ?_
      rw [if_pos hk]
      refine ie (by omega) (bc b1 (si hk ?_))
      rw [(b2 κ hk.1 hk.2).2.1]
  · refine ⟨-1, M, _, ?_, ?_, K_ref (c := 0) h hn⟩
    · refine bc (c_isKey _ _) ?_
      rw [if_neg hk]
      exact it rfl rfl
    · refine bs fun x e => ?_
      subst e
      refine bc (r_isKey _ _) ?_
      rw [if_neg hk]
      exact it rfl rfl
theorem nx_bd {f : Int → Int} : ∀ (d : Nat) (v : Int), 0 ≤ v → v + d = 200 → -1 ≤ nx f v d ∧ nx f v d < 200 := by
  intro d
  induction d with
  | zero => intro v _ _; rw [nx]; omega
  | succ d ih =>
    intro v h0 h1
    have := ih (v + 1) (by omega) (by push_cast at h1; omega)
    rw [nx]; split
    · exact this
    · push_cast at h1; omega
theorem K_next {M : fMem} {n κ : Int} (h : St M n) (hn : n < 600) : thrK (f_X10_next κ) (f_X11_next κ) M n := by
  by_cases hk : -1 ≤ κ ∧ κ ≤ 199
  · obtain ⟨M1, a1, a2, a3, a4⟩ := C_read h
    have hj : j_X10_next_9 κ M = some (0, nx (M1 233) (κ + 1) (199 - κ).toNat, M1) := by
      unfold j_X10_next_9
      exact bc a1 (si (by omega) (c_nextL (199 - κ).toNat 20000 (κ + 1) (by omega) (by omega) (by omega)))
    have hx : nx (M1 233) (κ + 1) (199 - κ).toNat = nx (fun κ => hV (M 419) κ (ordL (M 419))) (κ + 1) (199 - κ).toNat := nx_cg _ _ (fun j j0 j1 => (a4.1 j (by omega) (by omega)).1)
    rw [hx] at hj
    refine thr_join (c := 0) (v := nx (fun κ => hV (M 419) κ (ordL (M 419))) (κ + 1) (199 - κ).toNat) ⟨M1, ?_, a2, a3⟩ (by omega) (by have := nx_bd (f := fun κ => hV (M 419) κ (ordL (M 419))) (199 - κ).toNat (κ + 1) (by omega) (by omega); exact ⟨by omega, by omega⟩) (fun N hN hx => ?_)
    · unfold f_X10_next
      by_cases c : κ = -1
      · exact it c hj
      · refine ie c ?_
        unfold f_X10_needKey
        rw [c_isKey, if_pos (by omega)]
        exact bs fun x e => by subst e; exact hj
    · obtain ⟨r1, r2, r3, r4⟩ := R_0 hN
      obtain ⟨N1, b1, b2, b3, b4, b5, b6⟩ := R_keys r1
      rw [r3 419 (by omega), hx 419 (by omega) (by omega)] at b2
      refine ⟨nx (fun κ => hV (M 419) κ (ordL (M 419))) (κ + 1) (199 - κ).toNat, N1, ?_, by rw [b4, r2], fun _ => rfl, by rw [b5, r3 439 (by omega)], St_rF hN (rF_tr r4 b3) hn⟩
      unfold f_X11_next
      refine bs fun x e => ?_
      subst e
      refine bc (r_isIn _ _ _ _) ?_
      rw [if_pos hk]
      refine bc (r_right1 r2) (ie (by simp) (bc b1 (si (by omega) ?_)))
      rw [r_nextL (199 - κ).toNat 20000 (κ + 1) (by omega) (by omega) (by omega), nx_cg (f1 := fun κ => hV (M 419) κ (ordL (M 419))) _ _ (fun j j0 j1 => (b2 j (by omega) (by omega)).2.1)]
  · refine thr_join (c := 1) (v := 0) ⟨M, ?_, h, fun _ _ => rfl⟩ (by omega) ⟨by omega, by omega⟩ (fun N hN hx => R_no hN hn ?_ (by omega))
    · unfold f_X10_next f_X10_needKey
      refine ie (by omega) ?_
      rw [c_isKey, if_neg (by omega)]
      rfl
    · unfold f_X11_next
      obtain ⟨r1, r2, r3, r4⟩ := R_0 hN
      refine bs fun x e => ?_
      subst e
      refine bc (r_isIn _ _ _ _) ?_
      rw [if_neg hk]
      exact bc (r_right0 r2 (by omega)) (it rfl rfl)
theorem K_nth {M : fMem} {n i : Int} (h : St M n) (hn : n < 600) (hi : rg i) : thrK (f_X10_nth i) (f_X11_nth i) M n := by
  obtain ⟨M1, a1, a2, a3, a4⟩ := C_read h
  generalize hF : (fun κ => hV (M 419) κ (ordL (M 419))) = F
  have hFv : ∀ j, F j = hV (M 419) j (ordL (M 419)) := fun j => by rw [← hF]
  by_cases c : i < 0
  · refine thr_join (c := 1) (v := 0) ⟨M1, ?_, a2, a3⟩ (by omega) ⟨by omega, by omega⟩ (fun N hN hx => ?_)
    · unfold f_X10_nth
      refine bc a1 ?_
      rw [L_X10_nth_18]
      exact ie (by omega) (it c rfl)
    · obtain ⟨r1, r2, r3, r4⟩ := R_0 hN
      obtain ⟨N1, b1, b2, b3, b4, b5, b6⟩ := R_keys r1
      have t0 : N1 418 4 = 0 := by rw [b4, r2]
      refine ⟨0, mset N1 418 4 1, ?_, mset_self _ _ _ _, fun z => by omega, by rw [mset_ne (by omega), b5, r3 439 (by omega)], St_rF hN (rF_tr r4 (rF_tr b3 ⟨fun x h1 _ _ => mset_ne h1, mset_slot (by omega), mset_slot (by omega)⟩)) hn⟩
      unfold f_X11_nth
      refine bs fun x e => ?_
      subst e
      refine bc b1 ?_
      rw [L_X11_nth_13]
      refine ie (by omega) (it c ?_)
      exact bc (r_right0 t0 (by omega)) rfl
  · have ec : nt (M1 233) 0 i 200 = nt F 0 i 200 := nt_cg _ _ _ (fun j j0 j1 => by rw [hFv]; exact (a4.1 j (by omega) (by omega)).1)
    have bd := nt_bd (f := F) 200 0 i (by omega)
    have cl : f_X10_nth i M = some (if nt F 0 i 200 = 200 then (1, 0, M1) else (0, nt F 0 i 200, M1)) := by
      unfold f_X10_nth
      refine bc a1 ?_
      rw [c_nthL 200 20000 0 i (by omega) (by omega) (by omega) (by omega), ec]
    have rl : ∀ N, St N n → (∀ x, 418 ≤ x → x ≠ 439 → N x = M x) → ∃ N1, f_X11_nth i N = (if nt F 0 i 200 = 200 then some (0, mset N1 418 4 1) else some (nt F 0 i 200, N1)) ∧ N1 418 4 = 0 ∧ N1 439 = N 439 ∧ rF N N1 := by
      intro N hN hx
      obtain ⟨r1, r2, r3, r4⟩ := R_0 hN
      obtain ⟨N1, b1, b2, b3, b4, b5, b6⟩ := R_keys r1
      rw [r3 419 (by omega), hx 419 (by omega) (by omega)] at b2
      have t0 : N1 418 4 = 0 := by rw [b4, r2]
      refine ⟨N1, ?_, t0, by rw [b5, r3 439 (by omega)], rF_tr r4 b3⟩
      have er : nt (N1 422) 0 i 200 = nt F 0 i 200 := nt_cg _ _ _ (fun j j0 j1 => by rw [hFv]; exact (b2 j (by omega) (by omega)).2.1)
      unfold f_X11_nth
      refine bs fun x e => ?_
      subst e
      refine bc b1 ?_
      rw [r_nthL (by omega) 200 20000 0 i (by omega) (by omega) (by omega) (by omega) (by have := hi.2; omega), er]
      by_cases q : nt F 0 i 200 = 200
      · rw [if_pos q, if_pos q]; exact bc (r_right0 t0 (by omega)) rfl
      · rw [if_neg q, if_neg q]
    by_cases q : nt F 0 i 200 = 200
    · rw [if_pos q] at cl
      refine thr_join (c := 1) (v := 0) ⟨M1, cl, a2, a3⟩ (by omega) ⟨by omega, by omega⟩ (fun N hN hx => ?_)
      obtain ⟨N1, w1, w2, w3, w4⟩ := rl N hN hx
      rw [if_pos q] at w1
      exact ⟨0, _, w1, mset_self _ _ _ _, fun z => by omega, by rw [mset_ne (by omega), w3], St_rF hN (rF_tr w4 ⟨fun x h1 _ _ => mset_ne h1, mset_slot (by omega), mset_slot (by omega)⟩) hn⟩
    · rw [if_neg q] at cl
      refine thr_join (c := 0) (v := nt F 0 i 200) ⟨M1, cl, a2, a3⟩ (by omega) ⟨by omega, by omega⟩ (fun N hN hx => ?_)
      obtain ⟨N1, w1, w2, w3, w4⟩ := rl N hN hx
      rw [if_neg q] at w1
      exact ⟨_, _, w1, w2, fun _ => rfl, w3, St_rF hN w4 hn⟩
theorem c_needKey (κ : Int) (M : fMem) : f_X10_needKey κ M = some (if 0 ≤ κ ∧ κ < 200 then 0 else 1) := by
  unfold f_X10_needKey
  refine bc (c_isKey _ _) ?_
  by_cases h : 0 ≤ κ ∧ κ < 200
  · rw [if_pos h, if_pos h, if_neg (by omega)]
  · rw [if_neg h, if_neg h, if_pos rfl]
theorem c_needWhat (a k : Int) (M : fMem) : f_X10_needWhat a k M = some (if 0 ≤ a ∧ a < k then 0 else 1) := by
  unfold f_X10_needWhat
  by_cases h : a < 0
  · rw [if_pos h, if_neg (by omega)]
  · rw [if_neg h]
    by_cases h2 : a < k
    · rw [if_pos h2, if_pos (by omega)]
    · rw [if_neg h2, if_neg (by omega)]
theorem K_many {M : fMem} {n a b : Int} (h : St M n) (hn : n < 600) : thrK (f_X10_many a b) (f_X11_many a b) M n := by
  by_cases ha : 0 ≤ a ∧ a < 200
  · by_cases hb : 0 ≤ b ∧ b < 200
    · obtain ⟨M1, a1, a2, a3, a4⟩ := C_read h
      have e : kS (tH (M1 233)) a (b + 1 - a).toNat = kS (tH (fun κ => hV (M 419) κ (ordL (M 419)))) a (b + 1 - a).toNat := kS_cg _ _ (fun j j0 j1 => by unfold tH; rw [(a4.1 j (by omega) (by omega)).1])
      have bd := kS_bd (f := tH (fun κ => hV (M 419) κ (ordL (M 419)))) (b + 1 - a).toNat a (fun j _ _ => tH_bd _ _)
      refine thr_join (c := 0) (v := kS (tH (fun κ => hV (M 419) κ (ordL (M 419)))) a (b + 1 - a).toNat) ⟨M1, ?_, a2, a3⟩ (by omega) ⟨by omega, by omega⟩ (fun N hN hx => ?_)
      · unfold f_X10_many
        refine bc (c_needKey _ _) ?_
        rw [if_pos ha]
        refine it rfl (bc (c_needKey _ _) ?_)
        rw [if_pos hb]
        refine it rfl (bc a1 (bc (c_keysThere ha hb) ?_))
        rw [e]
      · obtain ⟨r1, r2, r3, r4⟩ := R_0 hN
        obtain ⟨N1, b1, b2, b3, b4, b5, b6⟩ := R_keys r1
        rw [r3 419 (by omega), hx 419 (by omega) (by omega)] at b2
        refine ⟨_, N1, ?_, by rw [b4, r2], fun _ => rfl, by rw [b5, r3 439 (by omega)], St_rF hN (rF_tr r4 b3) hn⟩
        unfold f_X11_many
        refine bs fun x e => ?_
        subst e
        refine bc (r_isKey _ _) ?_
        rw [if_pos ha]
        refine ie (by omega) (bc (r_isKey _ _) ?_)
        rw [if_pos hb]
        refine ie (by omega) ?_
        unfold j_X11_many_25
        refine si (by omega) (bc (r_right1 r2) (ie (by simp) (bc b1 ?_)))
        rw [r_manyL (b := b) hb.2 (b + 1 - a).toNat 20000 0 a (by omega) (by omega) (by omega) (by omega) (by omega), Int.zero_add]
        rw [kS_cg (f := tH (N1 422)) (f1 := tH (fun κ => hV (M 419) κ (ordL (M 419)))) _ _ (fun j j0 j1 => by unfold tH; rw [(b2 j (by omega) (by omega)).2.1])]
    · refine thr_join (c := 1) (v := 0) ⟨M, ?_, h, fun _ _ => rfl⟩ (by omega) ⟨by omega, by omega⟩ (fun N hN hx => R_no hN hn ?_ (by omega))
      · unfold f_X10_many
        refine bc (c_needKey _ _) ?_
        rw [if_pos ha]
        refine it rfl (bc (c_needKey _ _) ?_)
        rw [if_neg hb]
        exact ie (by omega) rfl
      · obtain ⟨r1, r2, r3, r4⟩ := R_0 hN
        unfold f_X11_many
        refine bs fun x e => ?_
        subst e
        refine bc (r_isKey _ _) ?_
        rw [if_pos ha]
        refine ie (by omega) (bc (r_isKey _ _) ?_)
        rw [if_neg hb]
        refine it rfl ?_
        unfold j_X11_many_24 j_X11_many_25
        exact si (by omega) (bc (r_right0 r2 (by omega)) (it rfl rfl))
  · refine thr_join (c := 1) (v := 0) ⟨M, ?_, h, fun _ _ => rfl⟩ (by omega) ⟨by omega, by omega⟩ (fun N hN hx => R_no hN hn ?_ (by omega))
    · unfold f_X10_many
      refine bc (c_needKey _ _) ?_
      rw [if_neg ha]
      exact ie (by omega) rfl
    · obtain ⟨r1, r2, r3, r4⟩ := R_0 hN
      unfold f_X11_many
      refine bs fun x e => ?_
      subst e
      refine bc (r_isKey _ _) ?_
      rw [if_neg ha]
      refine it rfl ?_
      unfold j_X11_many_24 j_X11_many_25
      exact si (by omega) (bc (r_right0 r2 (by omega)) (it rfl rfl))
end CAL4
