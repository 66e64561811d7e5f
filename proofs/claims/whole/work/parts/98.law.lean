/-! the law: call by call -/
section LAWP
def flT (f : fMem → Option (Int × Int × fMem)) (M : fMem) : Option (Int × fMem) := (f M).bind fun (r : Int × Int × fMem) => (if r.1 = 0 then some (0, mset r.2.2 439 0 r.2.1) else (if r.1 = 1 then some (1, r.2.2) else none))
def flT2 (f : fMem → Option (Int × Int × fMem)) (M : fMem) : Option (Int × fMem) := (f M).bind fun (r : Int × Int × fMem) => (if r.1 = 0 then some (0, mset r.2.2 439 0 r.2.1) else (if r.1 = 1 then some (1, r.2.2) else (if r.1 = 2 then some (2, r.2.2) else none)))
theorem cmpI_0 (x : Int) : cmpI x x = 0 := by unfold cmpI; rw [if_neg (by omega), if_pos rfl]
def thrR (fl fR : fMem → Option (Int × fMem)) (M : fMem) (n : Int) : Prop := ∃ (e : Int) (N1 : fMem) (w : Int) (M2 : fMem), fl M = some (e, N1) ∧ fR N1 = some (w, M2) ∧ M2 418 4 = e ∧ (e = 0 → cmpI (M2 439 0) w = 0) ∧ St M2 (n + 1)
theorem thrL2 {fX : fMem → Option (Int × Int × fMem)} {fR : fMem → Option (Int × fMem)} {M : fMem} {n : Int} (h : thrK2 fX fR M n) : thrR (flT2 fX) fR M n := by
  obtain ⟨c, v, M1, a, b, g, d⟩ := h
  by_cases c0 : c = 0
  · subst c0
    obtain ⟨w, M2, d1, d2, d3, d4, d5⟩ := d (us (M1 439) 0 v)
    rw [← mset_os] at d1
    refine ⟨0, mset M1 439 0 v, w, M2, ?_, d1, d2, fun _ => ?_, d5⟩
    · unfold flT2; exact bc a (it rfl rfl)
    · rw [d4, us_eq, d3 rfl, cmpI_0]
  · obtain ⟨w, M2, d1, d2, d3, d4, d5⟩ := d (M1 439)
    rw [os_id] at d1
    refine ⟨c, M1, w, M2, ?_, d1, d2, fun z => absurd z c0, d5⟩
    unfold flT2
    refine bc a (ie c0 ?_)
    by_cases c1 : c = 1
    · subst c1; exact it rfl rfl
    · have c2 : c = 2 := by omega
      subst c2
      exact ie (by show ¬ ((2 : Int) = 1); omega) (it rfl rfl)
theorem thrL {fX : fMem → Option (Int × Int × fMem)} {fR : fMem → Option (Int × fMem)} {M : fMem} {n : Int} (h : thrK fX fR M n) : thrR (flT fX) fR M n := by
  obtain ⟨c, v, M1, a, b, g, d⟩ := h
  by_cases c0 : c = 0
  · subst c0
    obtain ⟨w, M2, d1, d2, d3, d4, d5⟩ := d (us (M1 439) 0 v)
    rw [← mset_os] at d1
    refine ⟨0, mset M1 439 0 v, w, M2, ?_, d1, d2, fun _ => ?_, d5⟩
    · unfold flT; exact bc a (it rfl rfl)
    · rw [d4, us_eq, d3 rfl, cmpI_0]
  · obtain ⟨w, M2, d1, d2, d3, d4, d5⟩ := d (M1 439)
    rw [os_id] at d1
    have c1 : c = 1 := by omega
    subst c1
    refine ⟨1, M1, w, M2, ?_, d1, d2, fun z => absurd z c0, d5⟩
    unfold flT
    exact bc a (ie c0 (it rfl rfl))
theorem calm_L (a : Int) (M : fMem) : f_L_calm a M = flT (calmX a) M := by
  unfold f_L_calm flT calmX
  cases f_X10_calm a M with
  | none => rfl
  | some r =>
    obtain ⟨c, v, N⟩ := r
    show (if c = 0 then _ else if c = 2 then _ else none) = ((if c = 0 then some (c, v, N) else if c = 2 then some (1, v, N) else none).bind _)
    by_cases c0 : c = 0
    · rw [if_pos c0, if_pos c0]
      exact (it c0 rfl).symm
    · rw [if_neg c0, if_neg c0]
      by_cases c2 : c = 2
      · rw [if_pos c2, if_pos c2]; rfl
      · rw [if_neg c2, if_neg c2]; rfl
theorem lastT {e w : Int} {M2 : fMem} {k : fMem → Option Int} (c : M2 418 4 = e) (d : e = 0 → cmpI (M2 439 0) w = 0) (hk : k M2 = some 1) : ((f_X11_thrown M2).bind fun (r5 : Int) => (if r5 = e then (if e = 0 then (if (cmpI (M2 439 0) w) = 0 then k M2 else some 0) else k M2) else some 0)) = some 1 := by
  refine bs fun x ex => it (by rw [ex, c]) ?_
  by_cases z : e = 0
  · exact it z (it (d z) hk)
  · exact ie z hk
theorem w_c0 {sc : Int → Int} {sn i n : Int} {M : fMem} {k : fMem → Option Int} (rsc : ∀ j, rg (sc j)) (h : St M n) (hn : n < 600) (hi : 0 ≤ i ∧ i + 5 < sn) (hk : ∀ N, St N (n + 1) → k N = some 1) : law_c0 sc sn k i M = some 1 := by
  obtain ⟨v, M1, M2, a, b, c⟩ := @K_feed M n (sc (i + 1)) (sc (i + 2)) (sc (i + 3)) (sc (i + 4)) (sc (i + 5)) h hn
  unfold law_c0
  exact si (by omega) (si (by omega) (si (by omega) (si (by omega) (si (by omega) (bc a (si (by omega) (si (by omega) (si (by omega) (si (by omega) (si (by omega) (bc b (it rfl (hk _ c)))))))))))))
theorem w_c1 {sc : Int → Int} {sn i n : Int} {M : fMem} {k : fMem → Option Int} (rsc : ∀ j, rg (sc j)) (h : St M n) (hn : n < 600) (hi : 0 ≤ i ∧ i + 5 < sn) (hk : ∀ N, St N (n + 1) → k N = some 1) : law_c1 sc sn k i M = some 1 := by
  obtain ⟨v, M1, M2, a, b, c⟩ := @K_batch M n (sc (i + 1)) h hn
  unfold law_c1
  exact si (by omega) (bc a (si (by omega) (bc b (it rfl (hk _ c)))))
theorem w_c2 {sc : Int → Int} {sn i n : Int} {M : fMem} {k : fMem → Option Int} (rsc : ∀ j, rg (sc j)) (h : St M n) (hn : n < 600) (hi : 0 ≤ i ∧ i + 5 < sn) (hk : ∀ N, St N (n + 1) → k N = some 1) : law_c2 sc sn k i M = some 1 := by
  obtain ⟨v, M1, M2, a, b, c⟩ := @K_put M n (sc (i + 1)) (sc (i + 2)) h hn
  unfold law_c2
  exact si (by omega) (si (by omega) (bc a (si (by omega) (si (by omega) (bc b (it rfl (hk _ c)))))))
theorem w_c3 {sc : Int → Int} {sn i n : Int} {M : fMem} {k : fMem → Option Int} (rsc : ∀ j, rg (sc j)) (h : St M n) (hn : n < 600) (hi : 0 ≤ i ∧ i + 5 < sn) (hk : ∀ N, St N (n + 1) → k N = some 1) : law_c3 sc sn k i M = some 1 := by
  obtain ⟨v, M1, M2, a, b, c⟩ := @K_drop M n (sc (i + 1)) h hn
  unfold law_c3
  exact si (by omega) (bc a (si (by omega) (bc b (it rfl (hk _ c)))))
theorem w_c4 {sc : Int → Int} {sn i n : Int} {M : fMem} {k : fMem → Option Int} (rsc : ∀ j, rg (sc j)) (h : St M n) (hn : n < 600) (hi : 0 ≤ i ∧ i + 5 < sn) (hk : ∀ N, St N (n + 1) → k N = some 1) : law_c4 sc sn k i M = some 1 := by
  obtain ⟨v, M1, M2, a, b, c⟩ := @K_steps M n (sc (i + 1)) h hn
  unfold law_c4
  exact si (by omega) (bc a (si (by omega) (bc b (it rfl (hk _ c)))))
theorem w_c5 {sc : Int → Int} {sn i n : Int} {M : fMem} {k : fMem → Option Int} (rsc : ∀ j, rg (sc j)) (h : St M n) (hn : n < 600) (hi : 0 ≤ i ∧ i + 5 < sn) (hk : ∀ N, St N (n + 1) → k N = some 1) : law_c5 sc sn k i M = some 1 := by
  obtain ⟨v, M1, M2, a, b, c⟩ := @K_budget M n (sc (i + 1)) h hn
  unfold law_c5
  exact si (by omega) (bc a (si (by omega) (bc b (it rfl (hk _ c)))))
theorem w_c6 {sc : Int → Int} {sn i n : Int} {M : fMem} {k : fMem → Option Int} (rsc : ∀ j, rg (sc j)) (h : St M n) (hn : n < 600) (hi : 0 ≤ i ∧ i + 5 < sn) (hk : ∀ N, St N (n + 1) → k N = some 1) : law_c6 sc sn k i M = some 1 := by
  obtain ⟨v, M1, M2, a, b, c⟩ := @K_stride M n (sc (i + 1)) h hn
  unfold law_c6
  exact si (by omega) (bc a (si (by omega) (bc b (it rfl (hk _ c)))))
theorem w_c7 {sc : Int → Int} {sn i n : Int} {M : fMem} {k : fMem → Option Int} (rsc : ∀ j, rg (sc j)) (h : St M n) (hn : n < 600) (hi : 0 ≤ i ∧ i + 5 < sn) (hk : ∀ N, St N (n + 1) → k N = some 1) : law_c7 sc sn k i M = some 1 := by
  obtain ⟨v, M1, M2, a, b, c⟩ := @K_find M n (sc (i + 1)) h hn
  unfold law_c7
  exact si (by omega) (bc a (si (by omega) (bc b (it rfl (hk _ c)))))
theorem w_c8 {sc : Int → Int} {sn i n : Int} {M : fMem} {k : fMem → Option Int} (rsc : ∀ j, rg (sc j)) (h : St M n) (hn : n < 600) (hi : 0 ≤ i ∧ i + 5 < sn) (hk : ∀ N, St N (n + 1) → k N = some 1) : law_c8 sc sn k i M = some 1 := by
  unfold law_c8
  by_cases q : sc (i + 2) = 0
  · obtain ⟨e, N1, w, M2, a, b, c, d, s⟩ := thrL (@K_looks M n (sc (i + 1)) 0 h hn (Or.inl rfl))
    have a : f_L_looks (sc (i + 1)) 0 M = some (e, N1) := a
    exact si (by omega) (si (by omega) (it q (bc a (si (by omega) (si (by omega) (it q (bc b (lastT c d (hk _ s)))))))))
  · obtain ⟨e, N1, w, M2, a, b, c, d, s⟩ := thrL (@K_looks M n (sc (i + 1)) 1 h hn (Or.inr rfl))
    have a : f_L_looks (sc (i + 1)) 1 M = some (e, N1) := a
    exact si (by omega) (si (by omega) (ie q (bc a (si (by omega) (si (by omega) (ie q (bc b (lastT c d (hk _ s)))))))))
theorem w_c9 {sc : Int → Int} {sn i n : Int} {M : fMem} {k : fMem → Option Int} (rsc : ∀ j, rg (sc j)) (h : St M n) (hn : n < 600) (hi : 0 ≤ i ∧ i + 5 < sn) (hk : ∀ N, St N (n + 1) → k N = some 1) : law_c9 sc sn k i M = some 1 := by
  obtain ⟨e, N1, w, M2, a, b, c, d, s⟩ := thrL (@K_falls M n (sc (i + 1)) (sc (i + 2)) (sc (i + 3)) h hn)
  have a : f_L_falls (sc (i + 1)) (sc (i + 2)) (sc (i + 3)) M = some (e, N1) := a
  unfold law_c9
  exact si (by omega) (si (by omega) (si (by omega) (bc a (si (by omega) (si (by omega) (si (by omega) (bc b (lastT c d (hk _ s)))))))))
theorem w_c10 {sc : Int → Int} {sn i n : Int} {M : fMem} {k : fMem → Option Int} (rsc : ∀ j, rg (sc j)) (h : St M n) (hn : n < 600) (hi : 0 ≤ i ∧ i + 5 < sn) (hk : ∀ N, St N (n + 1) → k N = some 1) : law_c10 sc sn k i M = some 1 := by
  unfold law_c10
  by_cases q : sc (i + 4) = 0
  · obtain ⟨e, N1, w, M2, a, b, c, d, s⟩ := thrL (@K_bounds M n (sc (i + 1)) (sc (i + 2)) (sc (i + 3)) 0 h hn)
    have a : f_L_bounds (sc (i + 1)) (sc (i + 2)) (sc (i + 3)) 0 M = some (e, N1) := a
    exact si (by omega) (si (by omega) (si (by omega) (si (by omega) (it q (bc a (si (by omega) (si (by omega) (si (by omega) (si (by omega) (it q (bc b (lastT c d (hk _ s)))))))))))))
  · obtain ⟨e, N1, w, M2, a, b, c, d, s⟩ := thrL (@K_bounds M n (sc (i + 1)) (sc (i + 2)) (sc (i + 3)) 1 h hn)
    have a : f_L_bounds (sc (i + 1)) (sc (i + 2)) (sc (i + 3)) 1 M = some (e, N1) := a
    exact si (by omega) (si (by omega) (si (by omega) (si (by omega) (ie q (bc a (si (by omega) (si (by omega) (si (by omega) (si (by omega) (ie q (bc b (lastT c d (hk _ s)))))))))))))
theorem w_c11 {sc : Int → Int} {sn i n : Int} {M : fMem} {k : fMem → Option Int} (rsc : ∀ j, rg (sc j)) (h : St M n) (hn : n < 600) (hi : 0 ≤ i ∧ i + 5 < sn) (hk : ∀ N, St N (n + 1) → k N = some 1) : law_c11 sc sn k i M = some 1 := by
  obtain ⟨e, N1, w, M2, a, b, c, d, s⟩ := thrL (@K_route M n (sc (i + 1)) (sc (i + 2)) (sc (i + 3)) h hn)
  have a : f_L_route (sc (i + 1)) (sc (i + 2)) (sc (i + 3)) M = some (e, N1) := a
  unfold law_c11
  exact si (by omega) (si (by omega) (si (by omega) (bc a (si (by omega) (si (by omega) (si (by omega) (bc b (lastT c d (hk _ s)))))))))
theorem w_c12 {sc : Int → Int} {sn i n : Int} {M : fMem} {k : fMem → Option Int} (rsc : ∀ j, rg (sc j)) (h : St M n) (hn : n < 600) (hi : 0 ≤ i ∧ i + 5 < sn) (hk : ∀ N, St N (n + 1) → k N = some 1) : law_c12 sc sn k i M = some 1 := by
  obtain ⟨e, N1, w, M2, a, b, c, d, s⟩ := thrL (@K_next M n (sc (i + 1)) h hn)
  have a : f_L_next (sc (i + 1)) M = some (e, N1) := a
  unfold law_c12
  exact si (by omega) (bc a (si (by omega) (bc b (lastT c d (hk _ s)))))
theorem w_c13 {sc : Int → Int} {sn i n : Int} {M : fMem} {k : fMem → Option Int} (rsc : ∀ j, rg (sc j)) (h : St M n) (hn : n < 600) (hi : 0 ≤ i ∧ i + 5 < sn) (hk : ∀ N, St N (n + 1) → k N = some 1) : law_c13 sc sn k i M = some 1 := by
  obtain ⟨e, N1, w, M2, a, b, c, d, s⟩ := thrL (@K_nth M n (sc (i + 1)) h hn (rsc _))
  have a : f_L_nth (sc (i + 1)) M = some (e, N1) := a
  unfold law_c13
  exact si (by omega) (bc a (si (by omega) (bc b (lastT c d (hk _ s)))))
theorem w_c14 {sc : Int → Int} {sn i n : Int} {M : fMem} {k : fMem → Option Int} (rsc : ∀ j, rg (sc j)) (h : St M n) (hn : n < 600) (hi : 0 ≤ i ∧ i + 5 < sn) (hk : ∀ N, St N (n + 1) → k N = some 1) : law_c14 sc sn k i M = some 1 := by
  obtain ⟨e, N1, w, M2, a, b, c, d, s⟩ := thrL (@K_waste M n (sc (i + 1)) h hn)
  have a : f_L_waste (sc (i + 1)) M = some (e, N1) := a
  unfold law_c14
  exact si (by omega) (bc a (si (by omega) (bc b (lastT c d (hk _ s)))))
theorem w_c15 {sc : Int → Int} {sn i n : Int} {M : fMem} {k : fMem → Option Int} (rsc : ∀ j, rg (sc j)) (h : St M n) (hn : n < 600) (hi : 0 ≤ i ∧ i + 5 < sn) (hk : ∀ N, St N (n + 1) → k N = some 1) : law_c15 sc sn k i M = some 1 := by
  obtain ⟨e, N1, w, M2, a, b, c, d, s⟩ := thrL (@K_many M n (sc (i + 1)) (sc (i + 2)) h hn)
  have a : f_L_many (sc (i + 1)) (sc (i + 2)) M = some (e, N1) := a
  unfold law_c15
  exact si (by omega) (si (by omega) (bc a (si (by omega) (si (by omega) (bc b (lastT c d (hk _ s)))))))
theorem w_c16 {sc : Int → Int} {sn i n : Int} {M : fMem} {k : fMem → Option Int} (rsc : ∀ j, rg (sc j)) (h : St M n) (hn : n < 600) (hi : 0 ≤ i ∧ i + 5 < sn) (hk : ∀ N, St N (n + 1) → k N = some 1) : law_c16 sc sn k i M = some 1 := by
  obtain ⟨e, N1, w, M2, a, b, c, d, s⟩ := thrL (@K_trace M n (sc (i + 1)) (sc (i + 2)) h hn)
  have a : f_L_trace (sc (i + 1)) (sc (i + 2)) M = some (e, N1) := a
  unfold law_c16
  exact si (by omega) (si (by omega) (bc a (si (by omega) (si (by omega) (bc b (lastT c d (hk _ s)))))))
theorem w_c17 {sc : Int → Int} {sn i n : Int} {M : fMem} {k : fMem → Option Int} (rsc : ∀ j, rg (sc j)) (h : St M n) (hn : n < 600) (hi : 0 ≤ i ∧ i + 5 < sn) (hk : ∀ N, St N (n + 1) → k N = some 1) : law_c17 sc sn k i M = some 1 := by
  obtain ⟨e, N1, w, M2, a, b, c, d, s⟩ := thrL (@K_level M n (sc (i + 1)) (sc (i + 2)) h hn)
  have a : f_L_level (sc (i + 1)) (sc (i + 2)) M = some (e, N1) := a
  unfold law_c17
  exact si (by omega) (si (by omega) (bc a (si (by omega) (si (by omega) (bc b (lastT c d (hk _ s)))))))
theorem w_c18 {sc : Int → Int} {sn i n : Int} {M : fMem} {k : fMem → Option Int} (rsc : ∀ j, rg (sc j)) (h : St M n) (hn : n < 600) (hi : 0 ≤ i ∧ i + 5 < sn) (hk : ∀ N, St N (n + 1) → k N = some 1) : law_c18 sc sn k i M = some 1 := by
  obtain ⟨e, N1, w, M2, a, b, c, d, s⟩ := thrL (@K_row M n (sc (i + 1)) (sc (i + 2)) (sc (i + 3)) h hn)
  have a : f_L_row (sc (i + 1)) (sc (i + 2)) (sc (i + 3)) M = some (e, N1) := a
  unfold law_c18
  exact si (by omega) (si (by omega) (si (by omega) (bc a (si (by omega) (si (by omega) (si (by omega) (bc b (lastT c d (hk _ s)))))))))
theorem w_c19 {sc : Int → Int} {sn i n : Int} {M : fMem} {k : fMem → Option Int} (rsc : ∀ j, rg (sc j)) (h : St M n) (hn : n < 600) (hi : 0 ≤ i ∧ i + 5 < sn) (hk : ∀ N, St N (n + 1) → k N = some 1) : law_c19 sc sn k i M = some 1 := by
  obtain ⟨e, N1, w, M2, a, b, c, d, s⟩ := thrL (@K_thing M n (sc (i + 1)) (sc (i + 2)) (sc (i + 3)) (sc (i + 4)) h hn)
  have a : f_L_thing (sc (i + 1)) (sc (i + 2)) (sc (i + 3)) (sc (i + 4)) M = some (e, N1) := a
  unfold law_c19
  exact si (by omega) (si (by omega) (si (by omega) (si (by omega) (bc a (si (by omega) (si (by omega) (si (by omega) (si (by omega) (bc b (lastT c d (hk _ s)))))))))))
theorem w_c20 {sc : Int → Int} {sn i n : Int} {M : fMem} {k : fMem → Option Int} (rsc : ∀ j, rg (sc j)) (h : St M n) (hn : n < 600) (hi : 0 ≤ i ∧ i + 5 < sn) (hk : ∀ N, St N (n + 1) → k N = some 1) : law_c20 sc sn k i M = some 1 := by
  obtain ⟨e, N1, w, M2, a, b, c, d, s⟩ := thrL (@K_entry M n (sc (i + 1)) (sc (i + 2)) (sc (i + 3)) (sc (i + 4)) h hn)
  have a : f_L_entry (sc (i + 1)) (sc (i + 2)) (sc (i + 3)) (sc (i + 4)) M = some (e, N1) := a
  unfold law_c20
  exact si (by omega) (si (by omega) (si (by omega) (si (by omega) (bc a (si (by omega) (si (by omega) (si (by omega) (si (by omega) (bc b (lastT c d (hk _ s)))))))))))
theorem w_c21 {sc : Int → Int} {sn i n : Int} {M : fMem} {k : fMem → Option Int} (rsc : ∀ j, rg (sc j)) (h : St M n) (hn : n < 600) (hi : 0 ≤ i ∧ i + 5 < sn) (hk : ∀ N, St N (n + 1) → k N = some 1) : law_c21 sc sn k i M = some 1 := by
  obtain ⟨e, N1, w, M2, a, b, c, d, s⟩ := thrL (@K_count M n (sc (i + 1)) h hn)
  have a : f_L_count (sc (i + 1)) M = some (e, N1) := a
  unfold law_c21
  exact si (by omega) (bc a (si (by omega) (bc b (lastT c d (hk _ s)))))
theorem w_c22 {sc : Int → Int} {sn i n : Int} {M : fMem} {k : fMem → Option Int} (rsc : ∀ j, rg (sc j)) (h : St M n) (hn : n < 600) (hi : 0 ≤ i ∧ i + 5 < sn) (hk : ∀ N, St N (n + 1) → k N = some 1) : law_c22 sc sn k i M = some 1 := by
  obtain ⟨e, N1, w, M2, a, b, c, d, s⟩ := thrL (@K_toll M n (sc (i + 1)) h hn)
  have a : f_L_toll (sc (i + 1)) M = some (e, N1) := a
  unfold law_c22
  exact si (by omega) (bc a (si (by omega) (bc b (lastT c d (hk _ s)))))
theorem w_c23 {sc : Int → Int} {sn i n : Int} {M : fMem} {k : fMem → Option Int} (rsc : ∀ j, rg (sc j)) (h : St M n) (hn : n < 600) (hi : 0 ≤ i ∧ i + 5 < sn) (hk : ∀ N, St N (n + 1) → k N = some 1) : law_c23 sc sn k i M = some 1 := by
  obtain ⟨e, N1, w, M2, a, b, c, d, s⟩ := thrL2 (@K_ahead M n (sc (i + 1)) (sc (i + 2)) h hn)
  have a : f_L_ahead (sc (i + 1)) (sc (i + 2)) M = some (e, N1) := a
  unfold law_c23
  exact si (by omega) (si (by omega) (bc a (si (by omega) (si (by omega) (bc b (lastT c d (hk _ s)))))))
theorem w_c24 {sc : Int → Int} {sn i n : Int} {M : fMem} {k : fMem → Option Int} (rsc : ∀ j, rg (sc j)) (h : St M n) (hn : n < 600) (hi : 0 ≤ i ∧ i + 5 < sn) (hk : ∀ N, St N (n + 1) → k N = some 1) : law_c24 sc sn k i M = some 1 := by
  obtain ⟨e, N1, w, M2, a, b, c, d, s⟩ := thrL (@K_calm M n (sc (i + 1)) h hn)
  rw [← calm_L] at a
  unfold law_c24
  exact si (by omega) (bc a (si (by omega) (bc b (lastT c d (hk _ s)))))
theorem w_c25 {sc : Int → Int} {sn i n : Int} {M : fMem} {k : fMem → Option Int} (rsc : ∀ j, rg (sc j)) (h : St M n) (hn : n < 600) (hi : 0 ≤ i ∧ i + 5 < sn) (hk : ∀ N, St N (n + 1) → k N = some 1) : law_c25 sc sn k i M = some 1 := by
  obtain ⟨e, N1, w, M2, a, b, c, d, s⟩ := thrL (@K_due M n (sc (i + 1)) h hn)
  have a : f_L_due (sc (i + 1)) M = some (e, N1) := a
  unfold law_c25
  exact si (by omega) (bc a (si (by omega) (bc b (lastT c d (hk _ s)))))
theorem w_c26 {sc : Int → Int} {sn i n : Int} {M : fMem} {k : fMem → Option Int} (rsc : ∀ j, rg (sc j)) (h : St M n) (hn : n < 600) (hi : 0 ≤ i ∧ i + 5 < sn) (hk : ∀ N, St N (n + 1) → k N = some 1) : law_c26 sc sn k i M = some 1 := by
  obtain ⟨v, M1, M2, a, b, c⟩ := @K_pack M n  h hn
  unfold law_c26
  exact bc a (bc b (it rfl (hk _ c)))
theorem w_c27 {sc : Int → Int} {sn i n : Int} {M : fMem} {k : fMem → Option Int} (rsc : ∀ j, rg (sc j)) (h : St M n) (hn : n < 600) (hi : 0 ≤ i ∧ i + 5 < sn) (hk : ∀ N, St N (n + 1) → k N = some 1) : law_c27 sc sn k i M = some 1 := by
  obtain ⟨v, M1, M2, a, b, c⟩ := @K_view M n (sc (i + 1)) h hn
  unfold law_c27
  exact si (by omega) (bc a (si (by omega) (bc b (it rfl (hk _ c)))))
theorem w_c28 {sc : Int → Int} {sn i n : Int} {M : fMem} {k : fMem → Option Int} (rsc : ∀ j, rg (sc j)) (h : St M n) (hn : n < 600) (hi : 0 ≤ i ∧ i + 5 < sn) (hk : ∀ N, St N (n + 1) → k N = some 1) : law_c28 sc sn k i M = some 1 := by
  obtain ⟨v, M1, M2, a, b, c⟩ := @K_leave M n (sc (i + 1)) h hn
  unfold law_c28
  exact si (by omega) (bc a (si (by omega) (bc b (it rfl (hk _ c)))))
theorem w_c29 {sc : Int → Int} {sn i n : Int} {M : fMem} {k : fMem → Option Int} (rsc : ∀ j, rg (sc j)) (h : St M n) (hn : n < 600) (hi : 0 ≤ i ∧ i + 5 < sn) (hk : ∀ N, St N (n + 1) → k N = some 1) : law_c29 sc sn k i M = some 1 := by
  obtain ⟨e, N1, w, M2, a, b, c, d, s⟩ := thrL (@K_seen M n (sc (i + 1)) (sc (i + 2)) h hn)
  have a : f_L_seen (sc (i + 1)) (sc (i + 2)) M = some (e, N1) := a
  unfold law_c29
  exact si (by omega) (si (by omega) (bc a (si (by omega) (si (by omega) (bc b (lastT c d (hk _ s)))))))
theorem w_c30 {sc : Int → Int} {sn i n : Int} {M : fMem} {k : fMem → Option Int} (rsc : ∀ j, rg (sc j)) (h : St M n) (hn : n < 600) (hi : 0 ≤ i ∧ i + 5 < sn) (hk : ∀ N, St N (n + 1) → k N = some 1) : law_c30 sc sn k i M = some 1 := by
  obtain ⟨e, N1, w, M2, a, b, c, d, s⟩ := thrL (@K_against M n (sc (i + 1)) (sc (i + 2)) h hn)
  have a : f_L_against (sc (i + 1)) (sc (i + 2)) M = some (e, N1) := a
  unfold law_c30
  exact si (by omega) (si (by omega) (bc a (si (by omega) (si (by omega) (bc b (lastT c d (hk _ s)))))))
theorem w_c31 {sc : Int → Int} {sn i n : Int} {M : fMem} {k : fMem → Option Int} (rsc : ∀ j, rg (sc j)) (h : St M n) (hn : n < 600) (hi : 0 ≤ i ∧ i + 5 < sn) (hk : ∀ N, St N (n + 1) → k N = some 1) : law_c31 sc sn k i M = some 1 := by
  obtain ⟨e, N1, w, M2, a, b, c, d, s⟩ := thrL (@K_between M n (sc (i + 1)) (sc (i + 2)) h hn)
  have a : f_L_between (sc (i + 1)) (sc (i + 2)) M = some (e, N1) := a
  unfold law_c31
  exact si (by omega) (si (by omega) (bc a (si (by omega) (si (by omega) (bc b (lastT c d (hk _ s)))))))
theorem w_c32 {sc : Int → Int} {sn i n : Int} {M : fMem} {k : fMem → Option Int} (rsc : ∀ j, rg (sc j)) (h : St M n) (hn : n < 600) (hi : 0 ≤ i ∧ i + 5 < sn) (hk : ∀ N, St N (n + 1) → k N = some 1) : law_c32 sc sn k i M = some 1 := by
  obtain ⟨v, M1, M2, a, b, c⟩ := @K_restore M n (sc (i + 1)) h hn
  unfold law_c32
  exact si (by omega) (bc a (si (by omega) (bc b (it rfl (hk _ c)))))
end LAWP
