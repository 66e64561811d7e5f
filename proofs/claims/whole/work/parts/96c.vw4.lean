/-! seen, against, between -/
section VW4
theorem C_vw {M : fMem} {n a : Int} (h : St M n) (ha : 0 ≤ a ∧ a < 3) : RelV (60 * a.toNat + 238) M (kv (M 435) a) ∧ okV (kv (M 435) a) := ⟨(h.1.2.2.2.2.1 a ha.1 ha.2).2, (h.2.1.2.2.2.2.2.2.1 a ha.1 ha.2).2.1⟩
theorem C_arrV {M : fMem} {n a : Int} (h : St M n) (ha : 0 ≤ a ∧ a < 3) : ∃ M1, f_X7_arrange (60 * a.toNat + 238) M = some (((ordL (kv (M 435) a)).length : Int), M1) ∧ St M1 n ∧ (∀ x, 418 ≤ x → M1 x = M x) ∧ ordAt (60 * a.toNat + 238) M1 0 (ordL (kv (M 435) a)) := by
  obtain ⟨hR, hv⟩ := C_vw h ha
  obtain ⟨M1, a1, a2, a3⟩ := c_arrange hR.1 hv
  have a4 : a = 0 ∨ a = 1 ∨ a = 2 := by omega
  have fx : ∀ x, 418 ≤ x → M1 x = M x := fun x hx => a3.2 x (by omega) (by omega)
  refine ⟨M1, a1, ?_, fx, a2⟩
  refine St_q h ⟨fun x hx => ?_, ?_, fx⟩ (fun z => ?_)
  · unfold keep at hx; exact a3.2 x (by omega) (by omega)
  · rw [a3.2 0 (by omega) (by omega)]
  · rw [a3.2 0 (by omega) (by omega)] at z
    obtain ⟨i1, i2⟩ := h.1.2.2.2.2.2 z
    exact ⟨ixR_cg i1 (fun x h1 h2 => a3.2 x (by omega) (by omega)), by rw [a3.2 2 (by omega) (by omega)]; exact i2.1, fun j x hx => by rw [a3.2 (2 + 2) (by omega) (by omega)]; exact i2.2 j x hx⟩
theorem C_readV {M : fMem} {n a : Int} {o : Nat} (h : St M n) (ha : 0 ≤ a ∧ a < 3) (ho : o = 232 ∨ o = 235) : ∃ M1, f_X2_read o (60 * a.toNat + 238) M = some M1 ∧ St M1 n ∧ (∀ x, 418 ≤ x → M1 x = M x) ∧ holR o M1 (kv (M 435) a) (ordL (kv (M 435) a)) ∧ ∀ x, x < 232 ∨ (235 ≤ x ∧ o = 232 ∧ x < 238) ∨ (x < 235 ∧ o = 235) → M1 x = M x := by
  obtain ⟨hR, hv⟩ := C_vw h ha
  have a4 : a = 0 ∨ a = 1 ∨ a = 2 := by omega
  obtain ⟨M1, a1, a2, a3, a6, a5⟩ := c_read (o := o) (h := 60 * a.toNat + 238) hR hv (by rcases ho with rfl | rfl <;> exact ⟨rfl, rfl⟩) (by omega)
  have fx : ∀ x, 418 ≤ x → M1 x = M x := fun x hx => a5 x (by omega) (by omega) (by omega) (by omega) (by omega)
  refine ⟨M1, a1, ?_, fx, a2, fun x hx => a5 x (by omega) (by omega) (by omega) (by omega) (by omega)⟩
  refine St_q h ⟨fun x hx => ?_, ?_, fx⟩ (fun z => ?_)
  · unfold keep at hx; exact a5 x (by omega) (by omega) (by omega) (by omega) (by omega)
  · rw [a5 0 (by omega) (by omega) (by omega) (by omega) (by omega)]
  · rw [a5 0 (by omega) (by omega) (by omega) (by omega) (by omega)] at z
    obtain ⟨i1, i2⟩ := h.1.2.2.2.2.2 z
    exact ⟨ixR_cg i1 (fun x h1 h2 => a5 x (by omega) (by omega) (by omega) (by omega) (by omega)), by rw [a5 2 (by omega) (by omega) (by omega) (by omega) (by omega)]; exact i2.1, fun j x hx => by rw [a5 (2 + 2) (by omega) (by omega) (by omega) (by omega) (by omega)]; exact i2.2 j x hx⟩
theorem R_seen {N : fMem} {n a : Int} (h : St N n) (ha : 0 ≤ a ∧ a < 3) : ∃ N1, f_X11_laysSeen a N = some N1 ∧ (∀ κ, 0 ≤ κ → κ < 200 → N1 437 κ = vK (N 435) a κ) ∧ rF N N1 ∧ N1 418 4 = N 418 4 ∧ N1 439 = N 439 ∧ N1 419 = N 419 ∧ N1 435 = N 435 ∧ N1 438 = N 438 := by
  obtain ⟨hR, hv⟩ := C_vw h ha
  obtain ⟨N1, a1, a2, a3⟩ := r_laysSeen ha hv
  have f := fun x h0 h2 h3 h4 h7 => a3 x h0 h2 h3 h4 h7
  refine ⟨N1, a1, a2, ⟨fun x h1 h2 h3 => a3 x h2 (by omega) (by omega) (by omega) (by omega), ?_, ?_⟩, ?_, a3 439 (by omega) (by omega) (by omega) (by omega) (by omega), a3 419 (by omega) (by omega) (by omega) (by omega) (by omega), a3 435 (by omega) (by omega) (by omega) (by omega) (by omega), a3 438 (by omega) (by omega) (by omega) (by omega) (by omega)⟩ <;> rw [a3 418 (by omega) (by omega) (by omega) (by omega) (by omega)]
theorem vK_bd {M : fMem} {n a κ : Int} (h : St M n) (ha : 0 ≤ a ∧ a < 3) : -1 ≤ vK (M 435) a κ ∧ vK (M 435) a κ ≤ 999 := by
  obtain ⟨-, hv⟩ := C_vw h ha
  exact hV_bd hv _ (ordL_mem hv)
theorem K_seen {M : fMem} {n a κ : Int} (h : St M n) (hn : n < 600) : thrK (f_X10_seen a κ) (f_X11_seen a κ) M n := by
  have ti := tkn_iff (a := a) h
  have no : ¬ (tkn (M 436) a ∧ 0 ≤ κ ∧ κ < 200) → ∀ N, St N n → (∀ x, 418 ≤ x → x ≠ 439 → N x = M x) → Rq (f_X11_seen a κ) N n 1 0 := by
    intro q N hN hx
    refine R_no hN hn ?_ (by omega)
    obtain ⟨r1, r2, r3, r4⟩ := R_0 hN
    have j25 : j_X11_seen_25 a κ (mset N 418 4 0) = some (0, mset (mset N 418 4 0) 418 4 1) := by
      unfold j_X11_seen_25 j_X11_seen_26
      exact si (by omega) (bc (r_right0 r2 (by omega)) (it rfl rfl))
    have e36 : mset N 418 4 0 436 = M 436 := by rw [r3 436 (by omega), hx 436 (by omega) (by omega)]
    unfold f_X11_seen
    refine bs fun x e => ?_
    subst e
    refine bc (r_isTaken _ _) ?_
    rw [e36]
    by_cases t : tkn (M 436) a
    · rw [if_pos t]
      refine ie (by omega) (bc (r_isKey _ _) ?_)
      rw [if_neg (fun z => q ⟨t, z⟩)]
      exact it rfl j25
    · rw [if_neg t]
      exact it rfl j25
  by_cases t : tkn (M 436) a
  · have ha := t.1
    by_cases hk : 0 ≤ κ ∧ κ < 200
    · obtain ⟨M1, a1, a2, a3, a4⟩ := C_arrV h ha
      obtain ⟨hR, hv⟩ := C_vw a2 ha
      rw [a3 435 (by omega)] at hR hv
      have bd := vK_bd (κ := κ) h ha
      refine thr_join (c := 0) (v := vK (M 435) a κ) ⟨M1, ?_, a2, a3⟩ (by omega) (by unfold rg; omega) (fun N hN hx => ?_)
      · unfold f_X10_seen
        refine bc (c_needTaken _ _) ?_
        rw [if_pos (ti.mpr t)]
        refine it rfl (bc (c_needKey _ _) ?_)
        rw [if_pos hk]
        exact it rfl (si ha (bc a1 (bc (c_valueOf hR hv hk a4) rfl)))
      · obtain ⟨r1, r2, r3, r4⟩ := R_0 hN
        obtain ⟨N1, b1', b2, b3, b4, b5, b6, b7, b8⟩ := R_seen r1 ha
        rw [r3 435 (by omega), hx 435 (by omega) (by omega)] at b2
        refine ⟨vK (M 435) a κ, N1, ?_, by rw [b4, r2], fun _ => rfl, by rw [b5, r3 439 (by omega)], St_rF hN (rF_tr r4 b3) hn⟩
        have e36 : mset N 418 4 0 436 = M 436 := by rw [r3 436 (by omega), hx 436 (by omega) (by omega)]
        unfold f_X11_seen
        refine bs fun x e => ?_
        subst e
        refine bc (r_isTaken _ _) ?_
        rw [e36, if_pos t]
        refine ie (by omega) (bc (r_isKey _ _) ?_)
        rw [if_pos hk]
        refine ie (by omega) ?_
        unfold j_X11_seen_26
        refine si (by omega) (bc (r_right1 r2) (ie (by simp) (bc b1' (si hk ?_))))
        rw [b2 κ hk.1 hk.2]
    · refine thr_join (c := 1) (v := 0) ⟨M, ?_, h, fun _ _ => rfl⟩ (by omega) ⟨by omega, by omega⟩ (no (fun z => hk z.2))
      unfold f_X10_seen
      refine bc (c_needTaken _ _) ?_
      rw [if_pos (ti.mpr t)]
      refine it rfl (bc (c_needKey _ _) ?_)
      rw [if_neg hk]
      exact ie (by omega) rfl
  · refine thr_join (c := 1) (v := 0) ⟨M, ?_, h, fun _ _ => rfl⟩ (by omega) ⟨by omega, by omega⟩ (no (fun z => t z.1))
    unfold f_X10_seen
    refine bc (c_needTaken _ _) ?_
    rw [if_neg (fun z => t (ti.mp z))]
    exact ie (by omega) rfl
/-- rows shut in both, the same -/
def syV (g h : Int → Int) : Int → Int := fun r => if h (7619 + r) = 2 ∧ g (7619 + r) = 2 ∧ h (7638 + r) = g (7638 + r) then 1 else 0
theorem syV_bd (g h : Int → Int) (r : Int) : 0 ≤ syV g h r ∧ syV g h r ≤ 1 := by unfold syV; split <;> omega
theorem c_shutYet {M : fMem} {g h : Int → Int} {o p : Nat} (ho : RelV o M h) (hp : RelV p M g) : f_X7_shutYetIn o p M = some (kS (syV g h) 0 19) := by
  have key : ∀ (d n : Nat) (c v : Int), v + d = 19 → 0 ≤ v → d < n → 0 ≤ c → c + d ≤ 1000 → L_X7_shutYetIn_4 o M (fun v2_13 => some v2_13) n p c v = some (c + kS (syV g h) v d) := by
    intro d
    induction d with
    | zero =>
      intro n c v h1 h2 hn c0 c1
      obtain ⟨n, rfl⟩ : ∃ n', n = n' + 1 := ⟨n - 1, by omega⟩
      rw [L_X7_shutYetIn_4, if_pos (by omega), kS, Int.add_zero]
    | succ d ih =>
      intro n c v h1 h2 hn c0 c1
      obtain ⟨n, rfl⟩ : ∃ n', n = n' + 1 := ⟨n - 1, by omega⟩
      obtain ⟨x1, x2⟩ := ho.1 v h2 (by omega)
      obtain ⟨y1, y2⟩ := hp.1 v h2 (by omega)
      have i0 := ih n c (v + 1) (by omega) (by omega) (by omega) (by omega) (by omega)
      have i1 := ih n (c + 1) (v + 1) (by omega) (by omega) (by omega) (by omega) (by omega)
      have e : kS (syV g h) v (d + 1) = syV g h v + kS (syV g h) (v + 1) d := rfl
      have z0 : syV g h v = 0 → L_X7_shutYetIn_4 o M (fun v2_13 => some v2_13) n p c (v + 1) = some (c + kS (syV g h) v (d + 1)) := fun z => by rw [i0, e, z]; congr 1; omega
      refine ie (by omega) (it (by omega) ?_)
      by_cases q1 : h (7619 + v) = 2
      · refine bc (r := 1) (by unfold f_X6_isShut; exact it (x1.mpr q1) rfl) (ie (by omega) ?_)
        by_cases q2 : g (7619 + v) = 2
        · refine bc (r := 1) (by unfold f_X6_isShut; exact it (y1.mpr q2) rfl) (ie (by omega) ?_)
          by_cases q3 : h (7638 + v) = g (7638 + v)
          · refine it (by rw [x2 q1, y2 q2]; exact q3) (it (by omega) ?_)
            rw [i1, e, show syV g h v = 1 by unfold syV; rw [if_pos ⟨q1, q2, q3⟩]]; congr 1; omega
          · exact ie (by rw [x2 q1, y2 q2]; exact q3) (z0 (by unfold syV; rw [if_neg (fun z => q3 z.2.2)]))
        · exact bc (r := 0) (by unfold f_X6_isShut; exact ie (fun z => q2 (y1.mp z)) rfl) (it rfl (z0 (by unfold syV; rw [if_neg (fun z => q2 z.2.1)])))
      · exact bc (r := 0) (by unfold f_X6_isShut; exact ie (fun z => q1 (x1.mp z)) rfl) (it rfl (z0 (by unfold syV; rw [if_neg (fun z => q1 z.1)])))
  unfold f_X7_shutYetIn
  rw [key 19 20000 0 0 (by omega) (by omega) (by omega) (by omega) (by omega), Int.zero_add]
theorem r_shutYet {M : fMem} {a : Int} (ha : 0 ≤ a ∧ a < 3) : f_X11_shutYet a M = some (kS (syV (M 419) (kv (M 435) a)) 0 19) := by
  obtain ⟨g, hg⟩ : ∃ g, g = M 419 := ⟨_, rfl⟩
  obtain ⟨h, hh⟩ : ∃ h, h = kv (M 435) a := ⟨_, rfl⟩
  rw [← hg, ← hh]
  have key : ∀ (d n : Nat) (c v : Int), v + d = 19 → 0 ≤ v → d < n → 0 ≤ c → c + d ≤ 1000 → L_X11_shutYet_4 M (fun v2_14 => some v2_14) n a c v = some (c + kS (syV g h) v d) := by
    intro d
    induction d with
    | zero =>
      intro n c v h1 h2 hn c0 c1
      obtain ⟨n, rfl⟩ : ∃ n', n = n' + 1 := ⟨n - 1, by omega⟩
      rw [L_X11_shutYet_4, if_pos (by omega), kS, Int.add_zero]
    | succ d ih =>
      intro n c v h1 h2 hn c0 c1
      obtain ⟨n, rfl⟩ : ∃ n', n = n' + 1 := ⟨n - 1, by omega⟩
      have i0 := ih n (c + 0) (v + 1) (by omega) (by omega) (by omega) (by omega) (by omega)
      have i1 := ih n (c + 1) (v + 1) (by omega) (by omega) (by omega) (by omega) (by omega)
      have e : kS (syV g h) v (d + 1) = syV g h v + kS (syV g h) (v + 1) d := rfl
      have z0 : syV g h v = 0 → L_X11_shutYet_4 M (fun v2_14 => some v2_14) n a (c + 0) (v + 1) = some (c + kS (syV g h) v (d + 1)) := fun z => by rw [i0, e, z]; congr 1; omega
      refine ie (by omega) (bc (r_isKept ha ⟨h2, by omega⟩) ?_)
      rw [← hh]
      by_cases q1 : h (7619 + v) = 2
      · rw [show b1 (h (7619 + v) = 2) = 1 by simp [b1, q1]]
        refine ie (by omega) (bc (r_isShut ⟨h2, by omega⟩) ?_)
        rw [← hg]
        by_cases q2 : g (7619 + v) = 2
        · rw [show b1 (g (7619 + v) = 2) = 1 by simp [b1, q2]]
          refine ie (by omega) (it (by omega) (bc (r := 7657 * a) (by unfold f_X11_viewAt; exact it (by omega) rfl) (it (by omega) ?_)))
          have e3 : M 435 (7657 * a + 7638 + v) = h (7638 + v) := by rw [hh]; unfold kv; rw [show 7657 * a + 7638 + v = 7657 * a + (7638 + v) by omega]
          by_cases q3 : h (7638 + v) = g (7638 + v)
          · refine it (by rw [e3]; exact q3.symm) (it (by omega) ?_)
            rw [i1, e, show syV g h v = 1 by unfold syV; rw [if_pos ⟨q1, q2, q3⟩]]; congr 1; omega
          · exact ie (by rw [e3]; exact fun z => q3 z.symm) (it (by omega) (z0 (by unfold syV; rw [if_neg (fun z => q3 z.2.2)])))
        · rw [show b1 (g (7619 + v) = 2) = 0 by simp [b1, q2]]
          exact it rfl (it (by omega) (z0 (by unfold syV; rw [if_neg (fun z => q2 z.2.1)])))
      · rw [show b1 (h (7619 + v) = 2) = 0 by simp [b1, q1]]
        exact it rfl (it (by omega) (z0 (by unfold syV; rw [if_neg (fun z => q1 z.1)])))
  unfold f_X11_shutYet
  rw [key 19 20000 0 0 (by omega) (by omega) (by omega) (by omega) (by omega), Int.zero_add]
end VW4
