/-! counts: the deepest, those that merge, the most looks -/
section CAL13
noncomputable def dp (g : Int → Int) : Nat → Int
  | 0 => -1
  | n + 1 => if shM g n ≤ 0 then dp g n else n
theorem c_deepest {h : Nat} {M : fMem} {g : Int → Int} (hs : shK h M g) : f_X7_deepest h M = some (dp g 9) := by
  have key : ∀ (d n v : Nat), v + d = 9 → d < n → L_X7_deepest_4 h M (fun v1_4 => some v1_4) n (dp g v) v = some (dp g 9) := by
    intro d
    induction d with
    | zero =>
      intro n v h1 hn
      obtain ⟨n, rfl⟩ : ∃ n', n = n' + 1 := ⟨n - 1, by omega⟩
      have : v = 9 := by omega
      subst this
      rw [L_X7_deepest_4, if_pos (by omega)]
    | succ d ih =>
      intro n v h1 hn
      obtain ⟨n, rfl⟩ : ∃ n', n = n' + 1 := ⟨n - 1, by omega⟩
      have i := ih n (v + 1) (by omega) (by omega)
      rw [L_X7_deepest_4, if_neg (by omega)]
      refine bc (c_shutOf hs (by omega)) ?_
      rw [dp] at i
      rw [show (v : Int) + 1 = ((v + 1 : Nat) : Int) by push_cast; rfl]
      by_cases c : shM g v ≤ 0
      · rw [if_pos c] at i ⊢; exact i
      · rw [if_neg c] at i ⊢; exact i
  exact key 9 20000 0 (by omega) (by omega)
theorem r_deepest {M : fMem} : f_X11_deepest M = some (dp (M 419) 9) := by
  have key : ∀ (d n : Nat), d ≤ 9 → d < n → L_X11_deepest_3 M (some (-1)) n ((d : Int) - 1) = some (dp (M 419) d) := by
    intro d
    induction d with
    | zero =>
      intro n h1 hn
      obtain ⟨n, rfl⟩ : ∃ n', n = n' + 1 := ⟨n - 1, by omega⟩
      rw [L_X11_deepest_3, if_pos (by simp), dp]
    | succ d ih =>
      intro n h1 hn
      obtain ⟨n, rfl⟩ : ∃ n', n = n' + 1 := ⟨n - 1, by omega⟩
      have i := ih n (by omega) (by omega)
      rw [show ((d + 1 : Nat) : Int) - 1 = (d : Int) by push_cast; omega, L_X11_deepest_3, if_neg (by omega)]
      refine bc (r_shutMany (by omega)) ?_
      rw [dp]
      by_cases c : shM (M 419) d ≤ 0
      · rw [if_pos c, if_pos c, show (d : Int) + -1 = (d : Int) - 1 by omega]; exact i
      · rw [if_neg c, if_neg c]
  exact key 9 20000 (by omega) (by omega)
theorem dp_bd {g : Int → Int} : ∀ n : Nat, -1 ≤ dp g n ∧ dp g n ≤ n := by
  intro n
  induction n with
  | zero => simp [dp]
  | succ n ih => rw [dp]; push_cast; split <;> omega
/-- levels that merge -/
def mgS (g : Int → Int) : Nat → Int
  | 0 => 0
  | n + 1 => mgS g n + g (7657 + n)
theorem mgS_bd {g : Int → Int} (h : InvS g) : ∀ n : Nat, n ≤ 9 → 0 ≤ mgS g n ∧ mgS g n ≤ n := by
  intro n
  induction n with
  | zero => intro _; simp [mgS]
  | succ n ih =>
    intro hn
    have := ih (by omega)
    have := (h.2.1 n (by omega) (by omega)).1
    rw [mgS]; push_cast; omega
theorem c_merging {M : fMem} {g : Int → Int} (h : RelE 1 M g) (hi : InvS g) : f_X0_merging 1 M = some (mgS g 9) := by
  have key : ∀ (d n v : Nat), v + d = 9 → d < n → L_X0_merging_4 1 M (fun v1_7 => some v1_7) n (mgS g v) v = some (mgS g 9) := by
    intro d
    induction d with
    | zero =>
      intro n v h1 hn
      obtain ⟨n, rfl⟩ : ∃ n', n = n' + 1 := ⟨n - 1, by omega⟩
      have : v = 9 := by omega
      subst this
      rw [L_X0_merging_4, if_pos (by omega)]
    | succ d ih =>
      intro n v h1 hn
      obtain ⟨n, rfl⟩ : ∃ n', n = n' + 1 := ⟨n - 1, by omega⟩
      have i := ih n (v + 1) (by omega) (by omega)
      have b := mgS_bd hi v (by omega)
      have on := (hi.2.1 v (by omega) (by omega)).1
      have m0 := (h.2.1 v (by omega) (by omega)).1
      rw [L_X0_merging_4, m0]
      refine ie (by omega) (si (by omega) ?_)
      rw [mgS] at i
      rw [show (v : Int) + 1 = ((v + 1 : Nat) : Int) by push_cast; rfl]
      rcases on with z | z
      · rw [z] at i ⊢
        exact it rfl (si (by omega) i)
      · rw [z] at i ⊢
        exact ie (by omega) (si (by omega) i)
  exact key 9 20000 0 (by omega) (by omega)
theorem r_mergingMany {M : fMem} (hi : InvS (M 419)) : f_X11_mergingMany M = some (mgS (M 419) 9) := by
  have key : ∀ (d n v : Nat), v + d = 9 → d < n → L_X11_mergingMany_4 M (fun v1_4 => some v1_4) n (mgS (M 419) v) v = some (mgS (M 419) 9) := by
    intro d
    induction d with
    | zero =>
      intro n v h1 hn
      obtain ⟨n, rfl⟩ : ∃ n', n = n' + 1 := ⟨n - 1, by omega⟩
      have : v = 9 := by omega
      subst this
      rw [L_X11_mergingMany_4, if_pos (by omega)]
    | succ d ih =>
      intro n v h1 hn
      obtain ⟨n, rfl⟩ : ∃ n', n = n' + 1 := ⟨n - 1, by omega⟩
      have i := ih n (v + 1) (by omega) (by omega)
      have b := mgS_bd hi v (by omega)
      have on := (hi.2.1 v (by omega) (by omega)).1
      rw [L_X11_mergingMany_4]
      rw [mgS] at i
      rw [show (v : Int) + 1 = ((v + 1 : Nat) : Int) by push_cast; rfl]
      exact ie (by omega) (si (by omega) (si (by omega) i))
  exact key 9 20000 0 (by omega) (by omega)
/-- the most looks from a key on -/
noncomputable def mxL (g : Int → Int) (a : Int) : Int → Int → Nat → Int
  | c, _, 0 => c
  | c, v, d + 1 => mxL g a (max c (lkT g a v)) (v + 1) d
theorem mxL_bd {g : Int → Int} {a : Int} (hv : okV g) (hst : 2 ≤ g 7740 ∧ g 7740 ≤ 8) : ∀ (d : Nat) (c v : Int), 0 ≤ c → c ≤ 738 → 0 ≤ mxL g a c v d ∧ mxL g a c v d ≤ 738 := by
  intro d
  induction d with
  | zero => intro c v h0 h1; rw [mxL]; omega
  | succ d ih =>
    intro c v h0 h1
    have := lkT_bd (a := a) (κ := v) hv hst
    rw [mxL]
    exact ih _ _ (by omega) (by omega)
theorem C_most {M : fMem} {n a : Int} (h : St M n) (ha : a = 0 ∨ a = 1) : ∃ M1, f_X10_mostLooks a M = some (mxL (M 419) a 0 0 200, M1) ∧ St M1 n ∧ ∀ x, 418 ≤ x → M1 x = M x := by
  obtain ⟨N, a1, a2, a3, a4, -⟩ := C_refresh h
  have key : ∀ (d m : Nat) (c v : Int) (K : fMem), 0 ≤ v → v + d = 200 → d < m → St K n → idxR K (M 419) → (∀ x, 418 ≤ x → K x = M x) → ∃ M1, L_X10_mostLooks_8 (fun v2_7 M_7 => some (v2_7, M_7)) m a c v K = some (mxL (M 419) a c v d, M1) ∧ St M1 n ∧ ∀ x, 418 ≤ x → M1 x = M x := by
    intro d
    induction d with
    | zero =>
      intro m c v K v0 v1 hm sK iK fK
      obtain ⟨m, rfl⟩ : ∃ m', m = m' + 1 := ⟨m - 1, by omega⟩
      refine ⟨K, ?_, sK, fK⟩
      rw [L_X10_mostLooks_8, if_pos (by omega), mxL]
    | succ d ih =>
      intro m c v K v0 v1 hm sK iK fK
      obtain ⟨m, rfl⟩ : ∃ m', m = m' + 1 := ⟨m - 1, by omega⟩
      rw [← fK 419 (by omega)] at iK
      obtain ⟨K1, b1, b2, b3, b4⟩ := C_looksFor (κ := v) sK iK (by omega) ha
      rw [fK 419 (by omega)] at b1 b4
      obtain ⟨M1, d1, d2, d3⟩ := ih m (max c (lkT (M 419) a v)) (v + 1) K1 (by omega) (by omega) (by omega) b2 b4 (fun x hx => by rw [b3 x hx, fK x hx])
      refine ⟨M1, ?_, d2, d3⟩
      rw [L_X10_mostLooks_8, mxL]
      exact ie (by omega) (si (by omega) (bc b1 d1))
  obtain ⟨M1, k1, k2, k3⟩ := key 200 20000 0 0 N (by omega) (by omega) (by omega) a2 a4 a3
  refine ⟨M1, ?_, k2, k3⟩
  unfold f_X10_mostLooks
  exact bc a1 k1
theorem R_most {N : fMem} {n a : Int} (h : St N n) (hn : n < 600) (ha : a = 0 ∨ a = 1) : ∃ N1, f_X11_mostLooks a N = some (mxL (N 419) a 0 0 200, N1) ∧ St N1 (n + 1) ∧ N1 418 4 = N 418 4 ∧ N1 439 = N 439 := by
  obtain ⟨-, hv⟩ := C_rel h
  have hst := h.2.1.2.2.2.1
  obtain ⟨K, c1, c2, c3, c4, c5, c6, c7⟩ := R_ent h ha
  have key : ∀ (d m : Nat) (c v : Int) (L : fMem), v + d = 200 → d < m → L 419 = N 419 → gF K L → (0 ≤ L 418 16 ∧ L 418 16 ≤ 1000 * (n + 1)) → ∃ N1, L_X11_mostLooks_9 (fun v2_7 M_7 => some (v2_7, M_7)) m c v L = some (mxL (N 419) a c v d, N1) ∧ gF K N1 ∧ (0 ≤ N1 418 16 ∧ N1 418 16 ≤ 1000 * (n + 1)) := by
    intro d
    induction d with
    | zero =>
      intro m c v L v1 hm hL fL bL
      obtain ⟨m, rfl⟩ : ∃ m', m = m' + 1 := ⟨m - 1, by omega⟩
      refine ⟨L, ?_, fL, bL⟩
      rw [L_X11_mostLooks_9, if_pos (by omega), mxL]
    | succ d ih =>
      intro m c v L v1 hm hL fL bL
      obtain ⟨m, rfl⟩ : ∃ m', m = m' + 1 := ⟨m - 1, by omega⟩
      obtain ⟨L1, b1, b2, b3⟩ := r_looksFor (κ := v) hL hv hst ha (by rw [fL.2 13 (by omega) (by omega) (by omega) (by omega), c3]) (fun q q0 q1 => enR_gF (c2 q q0 q1) fL)
      have lb := lkT_bd (a := a) (κ := v) hv hst
      have e16 : L1 418 16 = lkT (N 419) a v := b2.2.1
      have hn0 := h.2.2.2
      have b1' : f_X11_looksFor v L = some (lkT (N 419) a v, L1) := b1
      obtain ⟨N1, d1, d2, d3⟩ := ih m (max c (lkT (N 419) a v)) (v + 1) L1 (by omega) (by omega) (by rw [b3.1 419 (by omega) (by omega), hL]) (gF_tr fL b3) (by rw [e16]; omega)
      refine ⟨N1, ?_, d2, d3⟩
      rw [L_X11_mostLooks_9, mxL]
      refine ie (by omega) (bc b1' ?_)
      by_cases q : lkT (N 419) a v ≤ c
      · rw [Int.max_eq_left q] at d1 ⊢; exact it q d1
      · rw [Int.max_eq_right (by omega)] at d1 ⊢; exact ie q d1
  have h16 := h.2.2.1
  obtain ⟨N1, k1, k2, k3⟩ := key 200 20000 0 0 K (by omega) (by omega) c7 (gF_rf K) (by rw [c4.2.2]; omega)
  have fx : ∀ x, x ≠ 418 → (x < 422 ∨ 434 < x) → x ≠ 420 → x ≠ 437 → x ≠ 438 → N1 x = N x := fun x h1 h2 h3 h4 h5 => by rw [k2.1 x h1 (by omega), c4.1 x h1 h3 (by omega)]
  refine ⟨N1, ?_, ?_, by rw [k2.2 4 (by omega) (by omega) (by omega) (by omega), c5], fx 439 (by omega) (by omega) (by omega) (by omega) (by omega)⟩
  · unfold f_X11_mostLooks
    exact bc c1 k1
  · exact St_r h (fun x hx => fx x (by omega) (by omega) (by omega) (by omega) (by omega)) (fx 419 (by omega) (by omega) (by omega) (by omega) (by omega)) (fx 435 (by omega) (by omega) (by omega) (by omega) (by omega)) (fx 436 (by omega) (by omega) (by omega) (by omega) (by omega)) (fx 421 (by omega) (by omega) (by omega) (by omega) (by omega)) (by rw [k2.2 3 (by omega) (by omega) (by omega) (by omega), c4.2.1]) k3 hn
theorem c_things {h : Nat} {M : fMem} {g : Int → Int} (hs : RelV h M g) (hv : okV g) : f_X7_things h M = some (hT g (ordL g)) := by
  have b : ∀ l : Int, 0 ≤ l → l ≤ 8 → 0 ≤ tI g l ∧ tI g l ≤ 600 := by
    intro l l0 l1
    have t0 := wR_bd (r := 2 * l) hv (by omega)
    have t1 := wR_bd (r := 2 * l + 1) hv (by omega)
    unfold tI
    by_cases h8 : l = 8
    · have := wR_bd (r := 2 * l + 2) hv (by omega); rw [if_pos h8]; omega
    · rw [if_neg h8]; omega
  have key : ∀ (d n : Nat) (c v : Int), v + d = 9 → 0 ≤ v → d < n → 0 ≤ c → c ≤ 600 * v → L_X7_things_4 h M (fun v1_4 => some v1_4) n c v = some (c + kS (tI g) v d) := by
    intro d
    induction d with
    | zero =>
      intro n c v h1 h2 hn c0 c1
      obtain ⟨n, rfl⟩ : ∃ n', n = n' + 1 := ⟨n - 1, by omega⟩
      rw [L_X7_things_4, if_pos (by omega), kS, Int.add_zero]
    | succ d ih =>
      intro n c v h1 h2 hn c0 c1
      obtain ⟨n, rfl⟩ : ∃ n', n = n' + 1 := ⟨n - 1, by omega⟩
      have := b v h2 (by omega)
      rw [L_X7_things_4, if_neg (by omega)]
      refine bc (c_thingsOf hs hv (by omega)) (si (by omega) ?_)
      rw [ih n (c + tI g v) (v + 1) (by omega) (by omega) (by omega) (by omega) (by omega), kS]
      congr 1; omega
  have e : kS (tI g) 0 9 = hT g (ordL g) := by
    rw [hT_all hv]
    show tI g 0 + (tI g 1 + (tI g 2 + (tI g 3 + (tI g 4 + (tI g 5 + (tI g 6 + (tI g 7 + (tI g 8 + 0)))))))) = wR g (fun r => g (7600 + r)) 0 + (wR g (fun r => g (7600 + r)) 1 + (wR g (fun r => g (7600 + r)) 2 + (wR g (fun r => g (7600 + r)) 3 + (wR g (fun r => g (7600 + r)) 4 + (wR g (fun r => g (7600 + r)) 5 + (wR g (fun r => g (7600 + r)) 6 + (wR g (fun r => g (7600 + r)) 7 + (wR g (fun r => g (7600 + r)) 8 + (wR g (fun r => g (7600 + r)) 9 + (wR g (fun r => g (7600 + r)) 10 + (wR g (fun r => g (7600 + r)) 11 + (wR g (fun r => g (7600 + r)) 12 + (wR g (fun r => g (7600 + r)) 13 + (wR g (fun r => g (7600 + r)) 14 + (wR g (fun r => g (7600 + r)) 15 + (wR g (fun r => g (7600 + r)) 16 + (wR g (fun r => g (7600 + r)) 17 + (wR g (fun r => g (7600 + r)) 18 + 0))))))))))))))))))
    have t : ∀ l : Int, l ≠ 8 → tI g l = wR g (fun r => g (7600 + r)) (2 * l) + wR g (fun r => g (7600 + r)) (2 * l + 1) := fun l hl => by unfold tI; rw [if_neg hl]; omega
    have t8 : tI g 8 = wR g (fun r => g (7600 + r)) 16 + wR g (fun r => g (7600 + r)) 17 + wR g (fun r => g (7600 + r)) 18 := by unfold tI; rw [if_pos rfl]; rfl
    have u0 : tI g 0 = wR g (fun r => g (7600 + r)) 0 + wR g (fun r => g (7600 + r)) 1 := t 0 (by omega)
    have u1 : tI g 1 = wR g (fun r => g (7600 + r)) 2 + wR g (fun r => g (7600 + r)) 3 := t 1 (by omega)
    have u2 : tI g 2 = wR g (fun r => g (7600 + r)) 4 + wR g (fun r => g (7600 + r)) 5 := t 2 (by omega)
    have u3 : tI g 3 = wR g (fun r => g (7600 + r)) 6 + wR g (fun r => g (7600 + r)) 7 := t 3 (by omega)
    have u4 : tI g 4 = wR g (fun r => g (7600 + r)) 8 + wR g (fun r => g (7600 + r)) 9 := t 4 (by omega)
    have u5 : tI g 5 = wR g (fun r => g (7600 + r)) 10 + wR g (fun r => g (7600 + r)) 11 := t 5 (by omega)
    have u6 : tI g 6 = wR g (fun r => g (7600 + r)) 12 + wR g (fun r => g (7600 + r)) 13 := t 6 (by omega)
    have u7 : tI g 7 = wR g (fun r => g (7600 + r)) 14 + wR g (fun r => g (7600 + r)) 15 := t 7 (by omega)
    rw [u0, u1, u2, u3, u4, u5, u6, u7, t8]
    omega
  unfold f_X7_things
  rw [key 9 20000 0 0 (by omega) (by omega) (by omega) (by omega) (by omega), Int.zero_add, e]
end CAL13
