/-! between -/
section VW6
theorem l_btw {k : Int → fMem → Option (Int × fMem)} {b : Int} (m : Nat) : ∀ (fu : Nat) (v : Int) (M : fMem), 0 ≤ v → 200 - v = m → m < fu → L_X11_between_43 k fu b v M = k b (oset M 438 (fun x => if v ≤ x ∧ x < 200 then M 437 x else M 438 x)) := by
  induction m with
  | zero =>
    intro fu v M v0 hm hf
    obtain ⟨f, rfl⟩ : ∃ f, fu = f + 1 := ⟨fu - 1, by omega⟩
    refine it (by omega) ?_
    have : oset M 438 (fun x => if v ≤ x ∧ x < 200 then M 437 x else M 438 x) = M := by
      funext a i
      by_cases ha : a = 438
      · subst ha
        rw [os]
        show (if v ≤ i ∧ i < 200 then _ else _) = _
        rw [if_neg (c := v ≤ i ∧ i < 200) (by omega)]
      · rw [os_ne ha]
    rw [this]
  | succ m ih =>
    intro fu v M v0 hm hf
    obtain ⟨f, rfl⟩ : ∃ f, fu = f + 1 := ⟨fu - 1, by omega⟩
    refine ie (by omega) (it (by omega) (bs fun x e => ?_))
    rw [ih f (v + 1) x (by omega) (by omega) (by omega), e]
    have : oset (mset M 438 v (M 437 v)) 438 (fun x => if v + 1 ≤ x ∧ x < 200 then mset M 438 v (M 437 v) 437 x else mset M 438 v (M 437 v) 438 x) = oset M 438 (fun x => if v ≤ x ∧ x < 200 then M 437 x else M 438 x) := by
      funext a i
      by_cases ha : a = 438
      · subst ha
        rw [os, os, mset_ne (by omega), mset_at]
        by_cases c : i = v
        · subst c
          rw [if_neg (c := i + 1 ≤ i ∧ i < 200) (by omega), if_pos (c := i ≤ i ∧ i < 200) (by omega), us_eq]
        · by_cases d : v ≤ i ∧ i < 200
          · rw [if_pos (c := v + 1 ≤ i ∧ i < 200) (by omega), if_pos d]
          · rw [if_neg (c := v + 1 ≤ i ∧ i < 200) (by omega), if_neg d, us_ne c]
      · rw [os_ne ha, os_ne ha, mset_ne ha]
    rw [this]
def bwI (v w : Int → Int) : Int → Int := fun κ => if v κ = w κ then 0 else 1
theorem bwI_bd (v w : Int → Int) (κ : Int) : 0 ≤ bwI v w κ ∧ bwI v w κ ≤ 1 := by unfold bwI; split <;> omega
theorem r_bwL {M : fMem} {k : Int → fMem → Option (Int × fMem)} : ∀ (d n : Nat) (c v : Int), v + d = 200 → 0 ≤ v → d < n → 0 ≤ c → c + d ≤ 1000 → L_X11_between_78 k n c v M = k (c + kS (bwI (M 438) (M 437)) v d) M := by
  intro d
  induction d with
  | zero =>
    intro n c v h1 h2 hn c0 c1
    obtain ⟨n, rfl⟩ : ∃ n', n = n' + 1 := ⟨n - 1, by omega⟩
    rw [L_X11_between_78, if_pos (by omega), kS, Int.add_zero]
  | succ d ih =>
    intro n c v h1 h2 hn c0 c1
    obtain ⟨n, rfl⟩ : ∃ n', n = n' + 1 := ⟨n - 1, by omega⟩
    have e : kS (bwI (M 438) (M 437)) v (d + 1) = bwI (M 438) (M 437) v + kS (bwI (M 438) (M 437)) (v + 1) d := rfl
    refine ie (by omega) (it (by omega) ?_)
    by_cases q : M 438 v = M 437 v
    · refine it q (it (by omega) ?_)
      rw [ih n (c + 0) (v + 1) (by omega) (by omega) (by omega) (by omega) (by omega), e, show bwI (M 438) (M 437) v = 0 by unfold bwI; rw [if_pos q], show c + (0 + kS (bwI (M 438) (M 437)) (v + 1) d) = c + 0 + kS (bwI (M 438) (M 437)) (v + 1) d by omega]
    · refine ie q (it (by omega) ?_)
      rw [ih n (c + 1) (v + 1) (by omega) (by omega) (by omega) (by omega) (by omega), e, show bwI (M 438) (M 437) v = 1 by unfold bwI; rw [if_neg q], show c + (1 + kS (bwI (M 438) (M 437)) (v + 1) d) = c + 1 + kS (bwI (M 438) (M 437)) (v + 1) d by omega]
theorem kS_sum {f f1 f2 : Int → Int} : ∀ (d : Nat) (v : Int), (∀ j, v ≤ j → j < v + d → f1 j + f2 j = f j) → kS f1 v d + kS f2 v d = kS f v d := by
  intro d
  induction d with
  | zero => intro v _; rfl
  | succ d ih =>
    intro v h
    have a := h v (by omega) (by omega)
    have b := ih (v + 1) (fun j j0 j1 => h j (by omega) (by omega))
    show f1 v + kS f1 (v + 1) d + (f2 v + kS f2 (v + 1) d) = f v + kS f (v + 1) d
    omega
theorem K_between {M : fMem} {n a b : Int} (h : St M n) (hn : n < 600) : thrK (f_X10_between a b) (f_X11_between a b) M n := by
  have ti := tkn_iff (a := a) h
  have tj := tkn_iff (a := b) h
  have no : ¬ (tkn (M 436) a ∧ tkn (M 436) b) → ∀ N, St N n → (∀ x, 418 ≤ x → x ≠ 439 → N x = M x) → Rq (f_X11_between a b) N n 1 0 := by
    intro q N hN hx
    refine R_no hN hn ?_ (by omega)
    obtain ⟨r1, r2, r3, r4⟩ := R_0 hN
    have j25 : j_X11_between_26 a b (mset N 418 4 0) = some (0, mset (mset N 418 4 0) 418 4 1) := by
      unfold j_X11_between_26 j_X11_between_27
      exact si (by omega) (bc (r_right0 r2 (by omega)) (it rfl rfl))
    have e36 : mset N 418 4 0 436 = M 436 := by rw [r3 436 (by omega), hx 436 (by omega) (by omega)]
    unfold f_X11_between
    refine bs fun x e => ?_
    subst e
    refine bc (r_isTaken _ _) ?_
    rw [e36]
    by_cases t : tkn (M 436) a
    · rw [if_pos t]
      refine ie (by omega) (bc (r_isTaken _ _) ?_)
      rw [e36, if_neg (fun z => q ⟨t, z⟩)]
      exact it rfl j25
    · rw [if_neg t]
      exact it rfl j25
  by_cases t : tkn (M 436) a
  · have ha := t.1
    by_cases u : tkn (M 436) b
    · have hb := u.1
      obtain ⟨M1, a1, a2, a3, a4, a5⟩ := C_readV (o := 232) h ha (Or.inl rfl)
      obtain ⟨M2, b1', b2, b3, b4, b5⟩ := C_readV (o := 235) a2 hb (Or.inr rfl)
      rw [a3 435 (by omega)] at b4
      have m2 : ∀ x, 418 ≤ x → M2 x = M x := fun x hx => by rw [b3 x hx, a3 x hx]
      have v33 : ∀ κ, 0 ≤ κ → κ < 200 → M2 233 κ = vK (M 435) a κ := fun κ k0 k1 => by rw [b5 233 (by omega)]; exact (a4.1 κ k0 k1).1
      have v36 : ∀ κ, 0 ≤ κ → κ < 200 → M2 236 κ = vK (M 435) b κ := fun κ k0 k1 => (b4.1 κ k0 k1).1
      have su : kS (tX (M2 233) (M2 236)) 0 200 + kS (tM (M2 236) (M2 233)) 0 200 = kS (bwI (vK (M 435) a) (vK (M 435) b)) 0 200 := kS_sum _ _ (fun j j0 j1 => by
        unfold tX tM bwI
        rw [v33 j (by omega) (by omega), v36 j (by omega) (by omega)]
        generalize vK (M 435) a j = p
        generalize vK (M 435) b j = q
        by_cases c1 : p = -1 <;> by_cases c2 : q = -1 <;> by_cases c3 : q = p
        all_goals simp [c1, c2]
        all_goals (try omega)
        all_goals (split <;> omega))
      have bd := kS_bd (f := bwI (vK (M 435) a) (vK (M 435) b)) 200 0 (fun j _ _ => bwI_bd _ _ _)
      refine thr_join (c := 0) (v := kS (bwI (vK (M 435) a) (vK (M 435) b)) 0 200) ⟨M2, ?_, b2, m2⟩ (by omega) (by unfold rg; omega) (fun N hN hx => ?_)
      · unfold f_X10_between
        refine bc (c_needTaken _ _) ?_
        rw [if_pos (ti.mpr t)]
        refine it rfl (bc (c_needTaken _ _) ?_)
        rw [if_pos (tj.mpr u)]
        refine it rfl (si ha (bc a1 (si hb (bc b1' (bc c_lostIn (bc c_missingIn ?_))))))
        show (if -2147483648 ≤ kS (tX (M2 233) (M2 236)) 0 200 + kS (tM (M2 236) (M2 233)) 0 200 ∧ kS (tX (M2 233) (M2 236)) 0 200 + kS (tM (M2 236) (M2 233)) 0 200 < 2147483648 then some ((0 : Int), kS (tX (M2 233) (M2 236)) 0 200 + kS (tM (M2 236) (M2 233)) 0 200, M2) else none) = _
        rw [su]
        exact si (by omega) rfl
      · obtain ⟨r1, r2, r3, r4⟩ := R_0 hN
        obtain ⟨N1, s1, s2, s3, s4, s5, s6, s7, s8⟩ := R_seen r1 ha
        rw [r3 435 (by omega), hx 435 (by omega) (by omega)] at s2
        obtain ⟨N2, hN2⟩ : ∃ N2, N2 = oset N1 438 (fun x => if 0 ≤ x ∧ x < 200 then N1 437 x else N1 438 x) := ⟨_, rfl⟩
        have n2 : ∀ x, x ≠ 438 → N2 x = N1 x := fun x hx => by rw [hN2, os_ne hx]
        have f2 : rF N1 N2 := ⟨fun x h1 h2 h3 => n2 x (by omega), by rw [n2 418 (by omega)], by rw [n2 418 (by omega)]⟩
        have hS2 : St N2 n := St_rF0 (St_rF0 r1 s3) f2
        obtain ⟨N3, t1, t2, t3, t4, t5, t6, t7, t8⟩ := R_seen hS2 hb
        rw [n2 435 (by omega), s7, r3 435 (by omega), hx 435 (by omega) (by omega)] at t2
        refine ⟨kS (bwI (vK (M 435) a) (vK (M 435) b)) 0 200, N3, ?_, by rw [t4, n2 418 (by omega), s4, r2], fun _ => rfl, by rw [t5, n2 439 (by omega), s5, r3 439 (by omega)], St_rF hN (rF_tr r4 (rF_tr s3 (rF_tr f2 t3))) hn⟩
        have e36 : mset N 418 4 0 436 = M 436 := by rw [r3 436 (by omega), hx 436 (by omega) (by omega)]
        unfold f_X11_between
        refine bs fun x e => ?_
        subst e
        refine bc (r_isTaken _ _) ?_
        rw [e36, if_pos t]
        refine ie (by omega) (bc (r_isTaken _ _) ?_)
        rw [e36, if_pos u]
        refine ie (by omega) ?_
        unfold j_X11_between_27
        refine si (by omega) (bc (r_right1 r2) (ie (by simp) (bc s1 ?_)))
        rw [l_btw 200 20000 0 N1 (by omega) (by omega) (by omega), ← hN2]
        refine bc t1 ?_
        rw [r_bwL 200 20000 0 0 (by omega) (by omega) (by omega) (by omega) (by omega), Int.zero_add]
        rw [kS_cg (f := bwI (N3 438) (N3 437)) (f1 := bwI (vK (M 435) a) (vK (M 435) b)) _ _ (fun j j0 j1 => by
          unfold bwI
          have e8 : N3 438 j = vK (M 435) a j := by
            rw [t8, hN2, os]
            show (if 0 ≤ j ∧ j < 200 then _ else _) = _
            rw [if_pos (c := 0 ≤ j ∧ j < 200) (by omega)]
            exact s2 j (by omega) (by omega)
          rw [e8, t2 j (by omega) (by omega)])]
    · refine thr_join (c := 1) (v := 0) ⟨M, ?_, h, fun _ _ => rfl⟩ (by omega) ⟨by omega, by omega⟩ (no (fun z => u z.2))
      unfold f_X10_between
      refine bc (c_needTaken _ _) ?_
      rw [if_pos (ti.mpr t)]
      refine it rfl (bc (c_needTaken _ _) ?_)
      rw [if_neg (fun z => u (tj.mp z))]
      exact ie (by omega) rfl
  · refine thr_join (c := 1) (v := 0) ⟨M, ?_, h, fun _ _ => rfl⟩ (by omega) ⟨by omega, by omega⟩ (no (fun z => t z.1))
    unfold f_X10_between
    refine bc (c_needTaken _ _) ?_
    rw [if_neg (fun z => t (ti.mp z))]
    exact ie (by omega) rfl
end VW6
