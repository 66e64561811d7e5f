/-! calls that act: put, drop, steps, budget, stride, batch -/
section CAL1
theorem St_mk {M1 M2 : fMem} {g K tk tp : Int → Int} {tn n : Int} (hc : CR M1 g K tk tp tn) (hs : SI g K tk tp tn (TT n)) (f : ∀ x, x < 418 → M2 x = M1 x) (e1 : M2 419 = g) (e2 : M2 435 = K) (e3 : M2 436 = tk) (e4 : M2 421 = tp) (e5 : M2 418 3 = tn) (e6 : 0 ≤ M2 418 16 ∧ M2 418 16 ≤ 1000 * n) (hn : 0 ≤ n) : St M2 n := by
  unfold St
  rw [e1, e2, e3, e4, e5]
  refine ⟨CR_q hc (fun x hx => f x (by unfold keep at hx; omega)) (by rw [f 0 (by omega)]) (fun z => ?_), hs, e6, hn⟩
  rw [f 0 (by omega)] at z
  obtain ⟨i1, i2⟩ := hc.2.2.2.2.2 z
  exact ⟨ixR_cg i1 (fun x x0 x1 => f x (by omega)), by rw [f 2 (by omega)]; exact i2.1, fun j x hx => by rw [f (2 + 2) (by omega)]; exact i2.2 j x hx⟩
theorem c_isKey (κ : Int) (M : fMem) : f_X10_isKey κ M = some (if 0 ≤ κ ∧ κ < 200 then 1 else 0) := by
  unfold f_X10_isKey
  by_cases a : κ < 0
  · rw [if_pos a, if_neg (by omega)]
  · rw [if_neg a]
    by_cases b : 200 ≤ κ
    · rw [if_pos b, if_neg (by omega)]
    · rw [if_neg b, if_pos (by omega)]
theorem r_isIn (v a b : Int) (M : fMem) : f_X11_isIn v a b M = some (if a ≤ v ∧ v ≤ b then 1 else 0) := by
  unfold f_X11_isIn
  by_cases h : v < a
  · rw [if_pos h, if_neg (by omega)]
  · rw [if_neg h]
    by_cases k : b < v
    · rw [if_pos k, if_neg (by omega)]
    · rw [if_neg k, if_pos (by omega)]
theorem r_isKey (κ : Int) (M : fMem) : f_X11_isKey κ M = some (if 0 ≤ κ ∧ κ < 200 then 1 else 0) := by
  unfold f_X11_isKey
  refine bc (r_isIn _ _ _ _) ?_
  by_cases h : 0 ≤ κ ∧ κ < 200
  · rw [if_pos h, if_pos (by omega)]
  · rw [if_neg h, if_neg (by omega)]
theorem R_act {N : fMem} {g : Int → Int} {T k v : Int} (hg : N 419 = g) (h : Run g T) (hb : 0 ≤ g 7739 ∧ g 7739 ≤ 40) (hk : 0 ≤ k ∧ k < 200) (hv : -1 ≤ v ∧ v ≤ 999) (hT0 : 500000 ≤ T) (hT : T + 1000 < 2000000000) : f_X11_acts k v N = some (sAll3 g k v, oset N 419 (sAct g k v)) := by
  have := e_acts (M := N) h hb hk hv hT0 hT
  rw [← hg, os_id] at this
  rw [hg] at this
  exact this
theorem m418 {M : fMem} {i v : Int} : (∀ x, x ≠ 418 → mset M 418 i v x = M x) ∧ ∀ j, j ≠ i → mset M 418 i v 418 j = M 418 j := ⟨fun x hx => mset_ne hx, fun j hj => mset_slot hj⟩
/-- a call that is refused -/
theorem K_ref {M : fMem} {n c : Int} (h : St M n) (hn : n < 600) : St (mset M 418 4 c) (n + 1) := by
  have h16 := h.2.2.1
  refine St_r h (fun x hx => mset_ne (by omega)) (mset_ne (by omega)) (mset_ne (by omega)) (mset_ne (by omega)) (mset_ne (by omega)) (mset_slot (by omega)) ?_ hn
  rw [mset_slot (by omega)]; omega
theorem TTs (n : Int) : TT (n + 1) = TT n + 210000 := by unfold TT; omega
theorem K_act {M : fMem} {n k v : Int} (h : St M n) (hn : n < 600) (hk : 0 ≤ k ∧ k < 200) (hv : -1 ≤ v ∧ v ≤ 999) : ∃ a M1, f_X10_takeAct k v M = some (a, M1) ∧ f_X11_acts k v (mset M1 418 4 0) = some (a, oset (mset M1 418 4 0) 419 (sAct (M 419) k v)) ∧ St (oset (mset M1 418 4 0) 419 (sAct (M 419) k v)) (n + 1) := by
  obtain ⟨hc, hs, h16, hn0⟩ := h
  have hT : TT n + 1000 < 2000000000 := by unfold TT; omega
  obtain ⟨M1, a1, a2, a3⟩ := A_act hc hs.1 hs.2.1 hs.2.2.1 hk hv hT
  refine ⟨_, M1, a1, R_act (by rw [mset_ne (by omega), a3 419 (by omega)]) hs.1 hs.2.2.1 hk hv hs.2.1 hT, ?_⟩
  have hN := TTs n
  have ox : ∀ x, x ≠ 419 → oset (mset M1 418 4 0) 419 (sAct (M 419) k v) x = mset M1 418 4 0 x := fun x hx => os_ne hx
  refine St_mk a2 (SI_up (SI_act hs hk hv hT) (by omega) (by unfold TT; omega)) (fun x hx => by rw [ox x (by omega), mset_ne (by omega)]) (os _ _ _) ?_ ?_ ?_ ?_ ?_ (by omega)
  · rw [ox 435 (by omega), mset_ne (by omega), a3 435 (by omega)]
  · rw [ox 436 (by omega), mset_ne (by omega), a3 436 (by omega)]
  · rw [ox 421 (by omega), mset_ne (by omega), a3 421 (by omega)]
  · rw [ox 418 (by omega), mset_slot (by omega), a3 418 (by omega)]
  · rw [ox 418 (by omega), mset_slot (by omega), a3 418 (by omega)]; omega
theorem K_put {M : fMem} {n k v : Int} (h : St M n) (hn : n < 600) : ∃ a M1 M2, f_X10_put k v M = some (a, M1) ∧ f_X11_put k v M1 = some (a, M2) ∧ St M2 (n + 1) := by
  unfold f_X10_put f_X11_put
  by_cases hk : 0 ≤ k ∧ k < 200
  · by_cases hv : 0 ≤ v ∧ v ≤ 999
    · obtain ⟨a, M1, b1, b2, b3⟩ := K_act h hn hk (v := v) (by omega)
      refine ⟨a, M1, _, ?_, ?_, b3⟩
      · refine bc (c_isKey _ _) ?_
        rw [if_pos hk]
        exact ie (by omega) (ie (by omega) (it (by omega) (bc b1 rfl)))
      · refine bs fun x e => ?_
        subst e
        refine bc (r_isKey _ _) ?_
        rw [if_pos hk]
        refine ie (by omega) (bc (r_isIn _ _ _ _) ?_)
        rw [if_pos hv]
        exact ie (by omega) (bc b2 rfl)
    · refine ⟨-1, M, _, ?_, ?_, K_ref (c := 0) h hn⟩
      · refine bc (c_isKey _ _) ?_
        rw [if_pos hk]
        refine ie (by omega) ?_
        by_cases c : v < 0
        · exact it c rfl
        · exact ie c (ie (by omega) rfl)
      · refine bs fun x e => ?_
        subst e
        refine bc (r_isKey _ _) ?_
        rw [if_pos hk]
        refine ie (by omega) (bc (r_isIn _ _ _ _) ?_)
        rw [if_neg hv]
        exact it rfl rfl
  · refine ⟨-1, M, _, ?_, ?_, K_ref (c := 0) h hn⟩
    · refine bc (c_isKey _ _) ?_
      rw [if_neg hk]
      exact it rfl rfl
    · refine bs fun x e => ?_
      subst e
      refine bc (r_isKey _ _) ?_
      rw [if_neg hk]
      exact it rfl rfl
theorem K_drop {M : fMem} {n k : Int} (h : St M n) (hn : n < 600) : ∃ a M1 M2, f_X10_drop k M = some (a, M1) ∧ f_X11_drop k M1 = some (a, M2) ∧ St M2 (n + 1) := by
  unfold f_X10_drop f_X11_drop
  by_cases hk : 0 ≤ k ∧ k < 200
  · obtain ⟨a, M1, b1, b2, b3⟩ := K_act h hn hk (v := -1) (by omega)
    refine ⟨a, M1, _, ?_, ?_, b3⟩
    · refine bc (c_isKey _ _) ?_
      rw [if_pos hk]
      exact ie (by omega) (bc b1 rfl)
    · refine bs fun x e => ?_
      subst e
      refine bc (r_isKey _ _) ?_
      rw [if_pos hk]
      exact ie (by omega) (bc b2 rfl)
  · refine ⟨-1, M, _, ?_, ?_, K_ref (c := 0) h hn⟩
    · refine bc (c_isKey _ _) ?_
      rw [if_neg hk]
      exact it rfl rfl
    · refine bs fun x e => ?_
      subst e
      refine bc (r_isKey _ _) ?_
      rw [if_neg hk]
      exact it rfl rfl
/-- the rows of the engine changed, all else as it was: what of the class still holds -/
theorem CR_eng {M M1 : fMem} {g g1 K tk tp : Int → Int} {tn : Int} (h : CR M g K tk tp tn) (hr : RF 1 M M1 g1) (hu : ∀ x, x = 7740 ∨ x = 7741 ∨ 7747 ≤ x → g1 x = g x) : CR (mset M1 0 11 1) g1 K tk tp tn := by
  obtain ⟨c1, c2, c3, ⟨c4, c5, c6⟩, c7, c8⟩ := h
  have fx : ∀ x, x ≠ 0 → 72 ≤ x → mset M1 0 11 1 x = M x := fun x h1 h2 => by rw [mset_ne h1, hr.2 x (by omega)]
  refine ⟨⟨fun r r0 r1 => ?_, fun l l0 l1 => ?_, ?_⟩, ?_, ⟨?_, fun j j0 j1 => ?_⟩, ⟨?_, ?_, fun i i0 i1 => ?_⟩, fun w w0 w1 => ?_, fun z => ?_⟩
  · exact rowE_cg ⟨r0, r1⟩ (hr.1.1 r r0 r1) ⟨mset_ne (by omega), mset_ne (by omega), mset_ne (by omega)⟩ (fun _ _ => rfl)
  · exact mrgE_cg ⟨l0, l1⟩ (hr.1.2.1 l l0 l1) (mset_ne (by omega)) (fun _ _ => rfl)
  · exact ctrE_cg hr.1.2.2 (mset_ne (by omega)) (fun _ _ _ => rfl)
  · rw [mset_slot (by omega), hr.2 0 (by omega), c2, hu 7740 (by omega)]
  · rw [fx 145 (by omega) (by omega)]; exact c3.1
  · rw [fx 146 (by omega) (by omega)]; exact c3.2 j j0 j1
  · rw [fx 147 (by omega) (by omega), hu 7741 (by omega)]; exact c4
  · rw [fx 147 (by omega) (by omega), hu 7741 (by omega)]; exact c5
  · rw [fx 148 (by omega) (by omega), hu (7747 + i) (by omega)]; exact c6 i i0 i1
  · obtain ⟨e1, e2⟩ := c7 w w0 w1
    exact ⟨by rw [fx 144 (by omega) (by omega)]; exact e1, RelV_cg e2 (fun x h1 h2 => fx x (by omega) (by omega))⟩
  · rw [mset_self] at z; omega
theorem RF_11 {M M1 : fMem} {g : Int → Int} (h : RF 1 (mset M 0 11 1) M1 g) : RF 1 M (mset M1 0 11 (M 0 11)) g ∧ mset (mset M1 0 11 (M 0 11)) 0 11 1 = M1 := by
  have e0 : M1 0 = us (M 0) 11 1 := by rw [h.2 0 (by omega), mset_at]
  refine ⟨⟨⟨fun r r0 r1 => ?_, fun l l0 l1 => ?_, ?_⟩, fun x hx => ?_⟩, ?_⟩
  · exact rowE_cg ⟨r0, r1⟩ (h.1.1 r r0 r1) ⟨mset_ne (by omega), mset_ne (by omega), mset_ne (by omega)⟩ (fun _ _ => rfl)
  · exact mrgE_cg ⟨l0, l1⟩ (h.1.2.1 l l0 l1) (mset_ne (by omega)) (fun _ _ => rfl)
  · exact ctrE_cg h.1.2.2 (mset_ne (by omega)) (fun _ _ _ => rfl)
  · by_cases c : x = 0
    · subst c
      rw [mset_at, e0, us_us]
      exact us_id rfl
    · rw [mset_ne c, h.2 x (by omega), mset_ne c]
  · funext x i
    simp only [mset]
    by_cases c : x = 0 ∧ i = 11
    · rw [if_pos c, c.1, c.2, e0, us_eq]
    · rw [if_neg c, if_neg c]
theorem K_steps {M : fMem} {n k : Int} (h : St M n) (hn : n < 600) : ∃ a M1 M2, f_X10_steps k M = some (a, M1) ∧ f_X11_steps k M1 = some (a, M2) ∧ St M2 (n + 1) := by
  unfold f_X10_steps f_X11_steps
  by_cases hk : 0 ≤ k ∧ k ≤ 1000
  · have hh := h
    obtain ⟨hc, hs, h16, hn0⟩ := h
    have hN := TTs n
    have c1 : RelE 1 (mset M 0 11 1) (M 419) := ⟨fun r r0 r1 => rowE_cg ⟨r0, r1⟩ (hc.1.1 r r0 r1) ⟨mset_ne (by omega), mset_ne (by omega), mset_ne (by omega)⟩ (fun _ _ => rfl), fun l l0 l1 => mrgE_cg ⟨l0, l1⟩ (hc.1.2.1 l l0 l1) (mset_ne (by omega)) (fun _ _ => rfl), ctrE_cg hc.1.2.2 (mset_ne (by omega)) (fun _ _ _ => rfl)⟩
    obtain ⟨M1, a1, a2⟩ := c_takeSteps (a := k) (M0 := mset M 0 11 1) ⟨c1, frm_rf _ _ _⟩ (Or.inl rfl) hs.1 (by omega)
    obtain ⟨b1, b2⟩ := RF_11 a2
    have con : ∀ x, isU x → (sTake k.toNat (M 419)).2 x = M 419 x := fun x hx => sTake_con hx _ _ hs.1
    have cr := CR_eng hc b1 (fun x hx => con x (by unfold isU; omega))
    rw [b2] at cr
    have f4 : ∀ x, 418 ≤ x → M1 x = M x := fun x hx => by rw [a2.2 x (by omega), mset_ne (by omega)]
    have rn := sTake_run k.toNat (M 419) hs.1
    refine ⟨(sTake k.toNat (M 419)).1, M1, oset (mset M1 418 4 0) 419 (sTake k.toNat (M 419)).2, ?_, ?_, ?_⟩
    · refine ie (by omega) (it (by omega) (bs fun x e => ?_))
      subst e
      exact bc a1 rfl
    · refine bs fun x e => ?_
      have gx : x 419 = M 419 := by rw [e, mset_ne (by omega), f4 419 (by omega)]
      refine bc (r_isIn _ _ _ _) ?_
      rw [if_pos hk]
      have tk := e_takes (M := x) (g := M 419) (a := k) hs.1 (by omega)
      rw [← gx, os_id, gx] at tk
      refine ie (by omega) (bc tk ?_)
      rw [e]
    · have ox : ∀ x, x ≠ 419 → oset (mset M1 418 4 0) 419 (sTake k.toNat (M 419)).2 x = mset M1 418 4 0 x := fun x hx => os_ne hx
      have SIn : SI (sTake k.toNat (M 419)).2 (M 435) (M 436) (M 421) (M 418 3) (TT n) := by
        obtain ⟨x1, x2, x3, x4, x5, x6, x7, x8⟩ := hs
        refine ⟨rn.1, x2, by rw [con 7739 (by unfold isU; omega)]; exact x3, by rw [con 7740 (by unfold isU; omega)]; exact x4, x5, x6, fun w w0 w1 => ?_, x8⟩
        obtain ⟨i1, i2, i3⟩ := x7 w w0 w1
        exact ⟨i1, i2, fun r r0 r1 hr => Int.le_trans (i3 r r0 r1 hr) (sTake_mono (by unfold isC; omega) _ _ x1)⟩
      refine St_mk cr (SI_up SIn (by omega) (by unfold TT; omega)) (fun x hx => by rw [ox x (by omega), mset_ne (by omega)]) (os _ _ _) ?_ ?_ ?_ ?_ ?_ (by omega)
      · rw [ox 435 (by omega), mset_ne (by omega), f4 435 (by omega)]
      · rw [ox 436 (by omega), mset_ne (by omega), f4 436 (by omega)]
      · rw [ox 421 (by omega), mset_ne (by omega), f4 421 (by omega)]
      · rw [ox 418 (by omega), mset_slot (by omega), f4 418 (by omega)]
      · rw [ox 418 (by omega), mset_slot (by omega), f4 418 (by omega)]; omega
  · refine ⟨-1, M, _, ?_, ?_, K_ref (c := 0) h hn⟩
    · by_cases c : k < 0
      · exact it c rfl
      · exact ie c (ie (by omega) rfl)
    · refine bs fun x e => ?_
      subst e
      refine bc (r_isIn _ _ _ _) ?_
      rw [if_neg hk]
      exact it rfl rfl
theorem Run_us {g : Int → Int} {T x v : Int} (h : Run g T) (hx : x = 7739 ∨ x = 7740) (hv : rg v) : Run (us g x v) T := by
  have e : ∀ y, y < 7720 ∨ y = 7738 → us g x v y = g y := fun y hy => us_ne (by omega)
  refine ⟨Inv_cg h.1 e (us_rg h.1.1.2.2.2.2.2 hv), fun y hy => ?_, h.2.2⟩
  rw [phi_cg h.1.1 e]
  unfold isC at hy
  rw [us_ne (by omega)]
  exact h.2.1 y hy
theorem eT_cg {g g1 : Int → Int} {r : Int} (hr : 0 ≤ r ∧ r < 19) (ho : okR g r) (e : ∀ x, x < 7657 → g1 x = g x) : eT g1 r = eT g r := by
  have hrm := rmR_bd r
  have hsz := ho.2.1
  have key : ∀ (n : Nat) (j : Int), 0 ≤ j → j + n ≤ 200 → thg g1 r j n = thg g r j n := by
    intro n
    induction n with
    | zero => intro j _ _; rfl
    | succ n ih => intro j h0 h1; rw [thg, thg, e (200 * r + j) (by omega), ih (j + 1) (by omega) (by push_cast at h1; omega)]
  unfold eT
  rw [e (7600 + r) (by omega), key _ _ (by omega) (by omega)]
theorem eN_cg {g g1 : Int → Int} (hv : okV g) (e : ∀ x, x < 7657 ∨ x = 7740 → g1 x = g x) : ∀ d : Nat, d ≤ 8 → ∀ r, 0 ≤ r → r < 19 → eN g1 d r = eN g d r := by
  have ag : agK g g1 := fun i _ i1 => e i (by omega)
  intro d
  induction d with
  | zero =>
    intro _ r r0 r1
    unfold eN
    rw [e (7619 + r) (by omega)]
    split
    · rename_i h; exact eT_cg ⟨r0, r1⟩ (hv.1 r r0 r1 h) (fun x hx => e x (by omega))
    · rfl
  | succ d ih =>
    intro hd r r0 r1
    have mk : ∀ k a, a = 0 ∨ a = 1 → mkL (g 7740) k (bA g (8 - d) a) (eN g1 d (bA g (8 - d) a)) = mkL (g 7740) k (bA g (8 - d) a) (eN g d (bA g (8 - d) a)) := by
      intro k a ha
      by_cases z : bA g (8 - d) a = -1
      · unfold mkL; rw [if_pos z, if_pos z]
      · have hE : ER (8 - d) ≤ 19 := by unfold ER; split <;> omega
        have : 2 * (8 - (d : Int)) ≤ bA g (8 - d) a ∧ bA g (8 - d) a < ER (8 - d) := by
          rcases lv_cs (g := g) (l := 8 - d) (by omega) hv with ⟨a1, a2, a3, -⟩ | ⟨a1, a2, a3, -⟩ | ⟨a1, a2, a3, -⟩ <;> rcases ha with rfl | rfl <;> first | (exact absurd ‹_› z) | omega
        rw [ih (by omega) _ (by omega) (by omega)]
    unfold eN
    rw [e (7619 + r) (by omega), e 7740 (by omega), bA_ag ag (by omega), bA_ag ag (by omega), bA_ag ag (by omega), mk 0 0 (Or.inl rfl), mk 1 1 (Or.inr rfl)]
    split
    · rename_i h
      have t := eT_cg ⟨r0, r1⟩ (hv.1 r r0 r1 h) (fun x hx => e x (by omega))
      unfold eW
      rw [t]
    · rfl
theorem ordL_cg {g g1 : Int → Int} (e : ∀ x, x < 7657 → g1 x = g x) : ordL g1 = ordL g := by
  have ag : agK g g1 := fun i _ i1 => e i (by omega)
  have key : ∀ d : Nat, d ≤ 9 → ordF g1 d = ordF g d := by
    intro d
    induction d with
    | zero => intro _; rfl
    | succ d ih =>
      intro hd
      rw [ordF, ordF, ih (by omega)]
      unfold lvL
      rw [shM_ag ag (by omega), bA_ag ag (by omega), bA_ag ag (by omega)]
  exact key 9 (by omega)
theorem E_of {g : Int → Int} {r : Int} (hv : okV g) (hst : 2 ≤ g 7740 ∧ g 7740 ≤ 8) (hr : 0 ≤ r ∧ r < 19) : ∀ e ∈ E g r, e.2.1 = 0 → 0 ≤ e.2.2.1 ∧ e.2.2.1 < g (7600 + r) ∧ g (7619 + r) = 2 ∧ g (7600 + r) ≤ 200 := by
  obtain ⟨x1, x2, x3⟩ := lv_ex hr
  have hrm := rmR_bd r
  by_cases h : g (7619 + r) = 2
  · have ho := hv.1 r hr.1 hr.2 h
    have hsz := ho.2.1
    have hT : ∀ e ∈ eT g r, 0 ≤ e.2.2.1 ∧ e.2.2.1 < g (7600 + r) ∧ g (7619 + r) = 2 ∧ g (7600 + r) ≤ 200 := by
      intro e he
      obtain ⟨i, i0, i1, rfl⟩ := (thg_mem _ _ e).mp he
      dsimp only; omega
    by_cases hq : lvR r = 8 ∨ r ≠ bA g (lvR r) 0
    · rw [E_tn x1 ⟨x2, x3⟩ h hq]
      intro e he _; exact hT e he
    · have h8 : lvR r ≠ 8 := fun z => hq (Or.inl z)
      have hb : r = bA g (lvR r) 0 := Classical.byContradiction fun z => hq (Or.inr z)
      rw [E_ld hv (by omega) ⟨x2, x3⟩ h hb]
      have mk : ∀ k a, a = 0 ∨ a = 1 → okE (1 + k) (mkL (g 7740) k (bA g (lvR r + 1) a) (E g (bA g (lvR r + 1) a))) := by
        intro k a ha
        by_cases z : bA g (lvR r + 1) a = -1
        · unfold mkL; rw [if_pos z]; exact ⟨List.Pairwise.nil, fun e he => by simp at he⟩
        · have hE : ER (lvR r + 1) ≤ 19 := by unfold ER; split <;> omega
          have : 2 * (lvR r + 1) ≤ bA g (lvR r + 1) a ∧ bA g (lvR r + 1) a < ER (lvR r + 1) := by
            rcases lv_cs (g := g) (l := lvR r + 1) (by omega) hv with ⟨a1, a2, a3, -⟩ | ⟨a1, a2, a3, -⟩ | ⟨a1, a2, a3, -⟩ <;> rcases ha with rfl | rfl <;> first | (exact absurd ‹_› z) | omega
          have i := E_ok (r := bA g (lvR r + 1) a) hv hst.1 (Or.inr (by omega)) (fun w => absurd w z)
          exact mkL_ok hst.1 i.1 i.2
      have w := eW_spec ho (mk 0 0 (Or.inl rfl)) (mk 1 1 (Or.inr rfl))
      intro e he hk
      rcases (w.2.1 e).mp he with z | z | z
      · exact hT e z
      · have := ((mk 0 0 (Or.inl rfl)).2 e z).2.2; omega
      · have := ((mk 1 1 (Or.inr rfl)).2 e z).2.2; omega
  · rw [E_no h]; intro e he; simp at he
theorem idxR_cg {M : fMem} {g g1 : Int → Int} (hv : okV g) (hst : 2 ≤ g 7740 ∧ g 7740 ≤ 8) (e : ∀ x, x < 7657 ∨ x = 7740 → g1 x = g x) (h : idxR M g) : idxR M g1 := by
  refine ⟨fun r r0 r1 => ?_, by rw [ordL_cg (fun x hx => e x (by omega))]; exact h.2⟩
  have eE : E g1 r = E g r := by
    unfold E
    have := lv_ex (r := r) ⟨r0, r1⟩
    exact eN_cg hv e _ (by omega) r r0 r1
  rw [eE]
  obtain ⟨c1, c2, c3⟩ := h.1 r r0 r1
  refine ⟨c1, c2, fun j x hx => ?_⟩
  obtain ⟨d1, d2, d3⟩ := c3 j x hx
  refine ⟨d1, ?_, d3⟩
  rw [d2]
  unfold vE
  split
  · rename_i hz
    have hm : x ∈ E g r := List.mem_of_getElem? hx
    have := E_of hv hst ⟨r0, r1⟩ x hm hz
    rw [e _ (by omega)]
  · rfl
theorem K_budget {M : fMem} {n k : Int} (h : St M n) (hn : n < 600) : ∃ a M1 M2, f_X10_budget k M = some (a, M1) ∧ f_X11_budget k M1 = some (a, M2) ∧ St M2 (n + 1) := by
  unfold f_X10_budget f_X11_budget
  by_cases hk : 0 ≤ k ∧ k ≤ 40
  · obtain ⟨hc, hs, h16, hn0⟩ := h
    have hN := TTs n
    have b0 : M 1 2 = M 419 7739 := hc.1.2.2.1
    refine ⟨M 419 7739, mset M 1 2 k, mset (mset (mset M 1 2 k) 418 4 0) 419 7739 k, ?_, ?_, ?_⟩
    · rw [b0]
      exact ie (by omega) (it (by omega) rfl)
    · refine bs fun x e => ?_
      refine bc (r_isIn _ _ _ _) ?_
      rw [if_pos hk]
      have : x 419 7739 = M 419 7739 := by rw [e, mset_ne (by omega), mset_ne (by omega)]
      rw [this]
      refine ie (by omega) ?_
      rw [e]; rfl
    · have rf := rf_ctr (i := 2) (x := 7739) (v := k) (e := 1) (M0 := M) ⟨hc.1, frm_rf 1 71 M⟩ (by omega)
      obtain ⟨x1, x2, x3, x4, x5, x6, x7, x8⟩ := hs
      have e419 : mset (mset (mset M 1 2 k) 418 4 0) 419 7739 k 419 = us (M 419) 7739 k := by rw [mset_at, mset_ne (k := 418) (by omega), mset_ne (k := 1) (by omega)]
      have ox : ∀ x, x ≠ 419 → x ≠ 418 → x ≠ 1 → mset (mset (mset M 1 2 k) 418 4 0) 419 7739 k x = M x := fun x h1 h2 h3 => by rw [mset_ne h1, mset_ne h2, mset_ne h3]
      have o18 : ∀ i, i ≠ 4 → mset (mset (mset M 1 2 k) 418 4 0) 419 7739 k 418 i = M 418 i := fun i hi => by rw [mset_ne (by omega), mset_slot hi, mset_ne (by omega)]
      have cr : CR (mset M 1 2 k) (us (M 419) 7739 k) (M 435) (M 436) (M 421) (M 418 3) := by
        obtain ⟨c1, c2, c3, ⟨c4, c5, c6⟩, c7, c8⟩ := hc
        refine ⟨rf.1, by rw [mset_ne (by omega), us_ne (by omega)]; exact c2, ⟨by rw [mset_ne (by omega)]; exact c3.1, fun j j0 j1 => by rw [mset_ne (by omega)]; exact c3.2 j j0 j1⟩, ⟨by rw [mset_ne (by omega), us_ne (by omega)]; exact c4, by rw [mset_ne (by omega), us_ne (by omega)]; exact c5, fun i i0 i1 => by rw [mset_ne (by omega), us_ne (by omega)]; exact c6 i i0 i1⟩, fun w w0 w1 => ?_, fun z => ?_⟩
        · obtain ⟨e1, e2⟩ := c7 w w0 w1
          exact ⟨by rw [mset_ne (by omega)]; exact e1, RelV_cg e2 (fun x h1 h2 => mset_ne (by omega))⟩
        · rw [mset_ne (by omega)] at z
          obtain ⟨i1, i2⟩ := c8 z
          exact idxR_cg (okV_of x1.1.1) x4 (fun x hx => us_ne (by omega)) ⟨ixR_cg i1 (fun x h1 h2 => mset_ne (by omega)), by rw [mset_ne (by omega)]; exact i2.1, fun j x hx => by rw [mset_ne (by omega)]; exact i2.2 j x hx⟩
      refine St_mk cr (SI_up ⟨Run_us x1 (Or.inl rfl) ⟨by omega, by omega⟩, x2, by rw [us_eq]; omega, by rw [us_ne (by omega)]; exact x4, x5, x6, fun w w0 w1 => ?_, x8⟩ (by omega) (by unfold TT; omega)) (fun x hx => by rw [mset_ne (by omega), mset_ne (by omega)]) e419 (ox 435 (by omega) (by omega) (by omega)) (ox 436 (by omega) (by omega) (by omega)) (ox 421 (by omega) (by omega) (by omega)) (o18 3 (by omega)) (by rw [o18 16 (by omega)]; omega) (by omega)
      obtain ⟨i1, i2, i3⟩ := x7 w w0 w1
      exact ⟨i1, i2, fun r r0 r1 hr => by rw [us_ne (by omega)]; exact i3 r r0 r1 hr⟩
  · refine ⟨-1, M, _, ?_, ?_, K_ref (c := 0) h hn⟩
    · by_cases c : k < 0
      · exact it c rfl
      · exact ie c (ie (by omega) rfl)
    · refine bs fun x e => ?_
      subst e
      refine bc (r_isIn _ _ _ _) ?_
      rw [if_neg hk]
      exact it rfl rfl
theorem K_stride {M : fMem} {n k : Int} (h : St M n) (hn : n < 600) : ∃ a M1 M2, f_X10_stride k M = some (a, M1) ∧ f_X11_stride k M1 = some (a, M2) ∧ St M2 (n + 1) := by
  unfold f_X10_stride f_X11_stride
  by_cases hk : 2 ≤ k ∧ k ≤ 8
  · obtain ⟨hc, hs, h16, hn0⟩ := h
    have hN := TTs n
    have b0 : M 0 10 = M 419 7740 := hc.2.1
    refine ⟨M 419 7740, mset (mset M 0 10 k) 0 11 1, mset (mset (mset (mset M 0 10 k) 0 11 1) 418 4 0) 419 7740 k, ?_, ?_, ?_⟩
    · rw [b0]
      exact ie (by omega) (it (by omega) rfl)
    · refine bs fun x e => ?_
      refine bc (r_isIn _ _ _ _) ?_
      rw [if_pos hk]
      have : x 419 7740 = M 419 7740 := by rw [e, mset_ne (by omega), mset_ne (by omega), mset_ne (by omega)]
      rw [this]
      refine ie (by omega) ?_
      rw [e]; rfl
    · obtain ⟨x1, x2, x3, x4, x5, x6, x7, x8⟩ := hs
      have e419 : mset (mset (mset (mset M 0 10 k) 0 11 1) 418 4 0) 419 7740 k 419 = us (M 419) 7740 k := by rw [mset_at, mset_ne (k := 418) (by omega), mset_ne (k := 0) (by omega), mset_ne (k := 0) (by omega)]
      have ox : ∀ x, x ≠ 419 → x ≠ 418 → x ≠ 0 → mset (mset (mset (mset M 0 10 k) 0 11 1) 418 4 0) 419 7740 k x = M x := fun x h1 h2 h3 => by rw [mset_ne h1, mset_ne h2, mset_ne h3, mset_ne h3]
      have o18 : ∀ i, i ≠ 4 → mset (mset (mset (mset M 0 10 k) 0 11 1) 418 4 0) 419 7740 k 418 i = M 418 i := fun i hi => by rw [mset_ne (by omega), mset_slot hi, mset_ne (by omega), mset_ne (by omega)]
      have cr : CR (mset (mset M 0 10 k) 0 11 1) (us (M 419) 7740 k) (M 435) (M 436) (M 421) (M 418 3) := by
        obtain ⟨c1, c2, c3, ⟨c4, c5, c6⟩, c7, c8⟩ := hc
        have rf := rf_far (x := 7740) (v := k) (e := 1) (M0 := M) ⟨c1, frm_rf 1 71 M⟩ (Or.inr rfl)
        have mx : ∀ x, x ≠ 0 → mset (mset M 0 10 k) 0 11 1 x = M x := fun x hx => by rw [mset_ne hx, mset_ne hx]
        refine ⟨⟨fun r r0 r1 => rowE_cg ⟨r0, r1⟩ (rf.1.1 r r0 r1) ⟨mx _ (by omega), mx _ (by omega), mx _ (by omega)⟩ (fun _ _ => rfl), fun l l0 l1 => mrgE_cg ⟨l0, l1⟩ (rf.1.2.1 l l0 l1) (mx _ (by omega)) (fun _ _ => rfl), ctrE_cg rf.1.2.2 (mx _ (by omega)) (fun _ _ _ => rfl)⟩, by rw [mset_slot (by omega), mset_self, us_eq], ⟨by rw [mx _ (by omega)]; exact c3.1, fun j j0 j1 => by rw [mx _ (by omega)]; exact c3.2 j j0 j1⟩, ⟨by rw [mx _ (by omega), us_ne (by omega)]; exact c4, by rw [mx _ (by omega), us_ne (by omega)]; exact c5, fun i i0 i1 => by rw [mx _ (by omega), us_ne (by omega)]; exact c6 i i0 i1⟩, fun w w0 w1 => ?_, fun z => ?_⟩
        · obtain ⟨e1, e2⟩ := c7 w w0 w1
          exact ⟨by rw [mx _ (by omega)]; exact e1, RelV_cg e2 (fun x h1 h2 => mx _ (by omega))⟩
        · rw [mset_self] at z; omega
      refine St_mk cr (SI_up ⟨Run_us x1 (Or.inr rfl) ⟨by omega, by omega⟩, x2, by rw [us_ne (by omega)]; exact x3, by rw [us_eq]; omega, x5, x6, fun w w0 w1 => ?_, x8⟩ (by omega) (by unfold TT; omega)) (fun x hx => by rw [mset_ne (by omega), mset_ne (by omega)]) e419 (ox 435 (by omega) (by omega) (by omega)) (ox 436 (by omega) (by omega) (by omega)) (ox 421 (by omega) (by omega) (by omega)) (o18 3 (by omega)) (by rw [o18 16 (by omega)]; omega) (by omega)
      obtain ⟨i1, i2, i3⟩ := x7 w w0 w1
      exact ⟨i1, i2, fun r r0 r1 hr => by rw [us_ne (by omega)]; exact i3 r r0 r1 hr⟩
  · refine ⟨-1, M, _, ?_, ?_, K_ref (c := 0) h hn⟩
    · by_cases c : k < 2
      · exact it c rfl
      · exact ie c (ie (by omega) rfl)
    · refine bs fun x e => ?_
      subst e
      refine bc (r_isIn _ _ _ _) ?_
      rw [if_neg hk]
      exact it rfl rfl
end CAL1
