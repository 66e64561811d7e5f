/-! batch -/
section CAL3
noncomputable def bat (tp : Int → Int) : Nat → Int → (Int → Int) → Int × (Int → Int)
  | 0, _, g => (0, g)
  | d + 1, i, g => if 0 ≤ tp i ∧ tp i < 200 then ((bat tp d (i + 2) (sAct g (tp i) (if tp (i + 1) = 255 then -1 else tp (i + 1)))).1 + 1, (bat tp d (i + 2) (sAct g (tp i) (if tp (i + 1) = 255 then -1 else tp (i + 1)))).2) else bat tp d (i + 2) g
theorem c_byteAt {M : fMem} {tp : Int → Int} {tn i : Int} (h : M 145 1 = tn ∧ ∀ j, 0 ≤ j → j < tn → M 146 j = tp j) (hi : 0 ≤ i ∧ i < tn) (ht : tn ≤ 200) : f_X8_byteAt i M = some (tp i) := by
  unfold f_X8_byteAt
  rw [h.1]
  refine ie (by omega) (ie (by omega) (si (by omega) ?_))
  rw [h.2 i hi.1 hi.2]
theorem c_batL {K tk tp : Int → Int} {tn e : Int} (he : e ≤ tn) {k : Int → fMem → Option (Int × fMem)} : ∀ (d n : Nat) (i c T : Int) (g : Int → Int) (M : fMem), i + 2 * d = e → 0 ≤ i → d < n → 0 ≤ c → c + d ≤ 1000 → CR M g K tk tp tn → SI g K tk tp tn T → T + 1000 * d + 1000 < 2000000000 →
    ∃ M1, L_X10_batch_27 k n e c i M = k (c + (bat tp d i g).1) M1 ∧ CR M1 (bat tp d i g).2 K tk tp tn ∧ SI (bat tp d i g).2 K tk tp tn (T + 1000 * d) ∧ ∀ x, 418 ≤ x → M1 x = M x := by
  intro d
  induction d with
  | zero =>
    intro n i c T g M h1 i0 hn c0 c1 hc hs hT
    obtain ⟨n, rfl⟩ : ∃ n', n = n' + 1 := ⟨n - 1, by omega⟩
    have := hs.2.2.2.2.1
    refine ⟨M, ?_, hc, SI_up hs (by simp) (by simp at hT ⊢; omega), fun _ _ => rfl⟩
    rw [L_X10_batch_27, bat, Int.add_zero]
    exact si (by omega) (it (by omega) rfl)
  | succ d ih =>
    intro n i c T g M h1 i0 hn c0 c1 hc hs hT
    obtain ⟨n, rfl⟩ : ∃ n', n = n' + 1 := ⟨n - 1, by omega⟩
    have tb := hs.2.2.2.2.1
    have e1 := c_byteAt (i := i) hc.2.2.1 (by omega) tb.2
    have e2 := c_byteAt (i := i + 1) hc.2.2.1 (by omega) tb.2
    have v1 := hs.2.2.2.2.2.1 (i + 1) (by omega) (by omega)
    rw [L_X10_batch_27]
    by_cases hk : 0 ≤ tp i ∧ tp i < 200
    · have eb : bat tp (d + 1) i g = ((bat tp d (i + 2) (sAct g (tp i) (if tp (i + 1) = 255 then -1 else tp (i + 1)))).1 + 1, (bat tp d (i + 2) (sAct g (tp i) (if tp (i + 1) = 255 then -1 else tp (i + 1)))).2) := by rw [bat, if_pos hk]
      rw [eb]
      have hv : -1 ≤ (if tp (i + 1) = 255 then -1 else tp (i + 1)) ∧ (if tp (i + 1) = 255 then -1 else tp (i + 1)) ≤ 999 := by split <;> omega
      obtain ⟨N, a1, a2, a3⟩ := A_act (k := tp i) (v := if tp (i + 1) = 255 then -1 else tp (i + 1)) hc hs.1 hs.2.1 hs.2.2.1 hk hv (by push_cast at hT; omega)
      have s1 := SI_act (k := tp i) (v := if tp (i + 1) = 255 then -1 else tp (i + 1)) hs hk hv (by push_cast at hT; omega)
      obtain ⟨M1, b1, b2, b3, b4⟩ := ih n (i + 2) (c + 1) (T + 1000) _ N (by push_cast at h1; omega) (by omega) (by omega) (by omega) (by push_cast at c1; omega) a2 s1 (by push_cast at hT; omega)
      refine ⟨M1, ?_, b2, by rw [show T + 1000 * ((d + 1 : Nat) : Int) = T + 1000 + 1000 * (d : Int) by push_cast; omega]; exact b3, fun x hx => by rw [b4 x hx, a3 x hx]⟩
      refine si (by omega) (ie (by push_cast at h1; omega) (bc e1 (bc e2 (bc (c_isKey _ _) ?_))))
      rw [if_pos hk]
      dsimp only
      rw [show c + ((bat tp d (i + 2) (sAct g (tp i) (if tp (i + 1) = 255 then -1 else tp (i + 1)))).1 + 1) = c + 1 + (bat tp d (i + 2) (sAct g (tp i) (if tp (i + 1) = 255 then -1 else tp (i + 1)))).1 by omega]
      refine ie (by omega) ?_
      by_cases q : tp (i + 1) = 255
      · rw [if_pos (c := tp (i + 1) = 255) (t := (-1 : Int)) q] at a1 b1 ⊢
        exact it q (bc a1 (si (by push_cast at c1; omega) (si (by omega) b1)))
      · rw [if_neg (c := tp (i + 1) = 255) (t := (-1 : Int)) q] at a1 b1 ⊢
        exact ie q (bc a1 (si (by push_cast at c1; omega) (si (by omega) b1)))
    · have eb : bat tp (d + 1) i g = bat tp d (i + 2) g := by rw [bat, if_neg hk]
      rw [eb]
      obtain ⟨M1, b1, b2, b3, b4⟩ := ih n (i + 2) c T g M (by push_cast at h1; omega) (by omega) (by omega) c0 (by push_cast at c1; omega) hc hs (by push_cast at hT; omega)
      refine ⟨M1, ?_, b2, SI_up b3 (by push_cast; omega) (by omega), b4⟩
      refine si (by omega) (ie (by push_cast at h1; omega) (bc e1 (bc e2 (bc (c_isKey _ _) ?_))))
      rw [if_neg hk]
      exact it rfl (si (by omega) b1)
theorem r_batL {K tk tp : Int → Int} {tn e : Int} (he : e ≤ 200) (htp : ∀ j, 0 ≤ j → j < e → 0 ≤ tp j ∧ tp j ≤ 255) {k : Int → fMem → Option (Int × fMem)} : ∀ (d n : Nat) (i c T : Int) (g : Int → Int) (M : fMem), i + 2 * d = e → 0 ≤ i → d < n → 0 ≤ c → c + d ≤ 1000 → M 421 = tp → M 419 = g → SI g K tk tp tn T → T + 1000 * d + 1000 < 2000000000 →
    L_X11_batch_34 k n e c i M = k (c + (bat tp d i g).1) (oset M 419 (bat tp d i g).2) := by
  intro d
  induction d with
  | zero =>
    intro n i c T g M h1 i0 hn c0 c1 h4 hg hs hT
    obtain ⟨n, rfl⟩ : ∃ n', n = n' + 1 := ⟨n - 1, by omega⟩
    rw [L_X11_batch_34, if_pos (by omega), bat, Int.add_zero]
    dsimp only
    rw [← hg, os_id]
  | succ d ih =>
    intro n i c T g M h1 i0 hn c0 c1 h4 hg hs hT
    obtain ⟨n, rfl⟩ : ∃ n', n = n' + 1 := ⟨n - 1, by omega⟩
    have v1 := htp (i + 1) (by omega) (by omega)
    rw [L_X11_batch_34, h4]
    by_cases hk : 0 ≤ tp i ∧ tp i < 200
    · have eb : bat tp (d + 1) i g = ((bat tp d (i + 2) (sAct g (tp i) (if tp (i + 1) = 255 then -1 else tp (i + 1)))).1 + 1, (bat tp d (i + 2) (sAct g (tp i) (if tp (i + 1) = 255 then -1 else tp (i + 1)))).2) := by rw [bat, if_pos hk]
      rw [eb]
      have hv : -1 ≤ (if tp (i + 1) = 255 then -1 else tp (i + 1)) ∧ (if tp (i + 1) = 255 then -1 else tp (i + 1)) ≤ 999 := by split <;> omega
      have a1 := R_act (k := tp i) (v := if tp (i + 1) = 255 then -1 else tp (i + 1)) hg hs.1 hs.2.2.1 hk hv hs.2.1 (by push_cast at hT; omega)
      have s1 := SI_act (k := tp i) (v := if tp (i + 1) = 255 then -1 else tp (i + 1)) hs hk hv (by push_cast at hT; omega)
      have b1 := ih n (i + 2) (c + 1) (T + 1000) _ (oset M 419 (sAct g (tp i) (if tp (i + 1) = 255 then -1 else tp (i + 1)))) (by push_cast at h1; omega) (by omega) (by omega) (by omega) (by push_cast at c1; omega) (by rw [os_ne (by omega), h4]) (os _ _ _) s1 (by push_cast at hT; omega)
      rw [os_os] at b1
      dsimp only
      rw [show c + ((bat tp d (i + 2) (sAct g (tp i) (if tp (i + 1) = 255 then -1 else tp (i + 1)))).1 + 1) = c + 1 + (bat tp d (i + 2) (sAct g (tp i) (if tp (i + 1) = 255 then -1 else tp (i + 1)))).1 by omega, ← b1]
      refine ie (by push_cast at h1; omega) (si (by omega) (bc (r_isKey _ _) ?_))
      rw [if_pos hk]
      refine ie (by omega) (si (by push_cast at h1; omega) ?_)
      by_cases q : tp (i + 1) = 255
      · rw [if_pos (c := tp (i + 1) = 255) (t := (-1 : Int)) q] at a1 ⊢
        exact it q (bc a1 (si (by push_cast at c1; omega) (si (by omega) rfl)))
      · rw [if_neg (c := tp (i + 1) = 255) (t := (-1 : Int)) q] at a1 ⊢
        exact ie q (bc a1 (si (by push_cast at c1; omega) (si (by omega) rfl)))
    · have eb : bat tp (d + 1) i g = bat tp d (i + 2) g := by rw [bat, if_neg hk]
      rw [eb]
      have b1 := ih n (i + 2) c T g M (by push_cast at h1; omega) (by omega) (by omega) c0 (by push_cast at c1; omega) h4 hg hs (by push_cast at hT; omega)
      rw [← b1]
      refine ie (by push_cast at h1; omega) (si (by omega) (bc (r_isKey _ _) ?_))
      rw [if_neg hk]
      exact it rfl (si (by omega) rfl)
theorem K_batch {M : fMem} {n k : Int} (h : St M n) (hn : n < 600) : ∃ v M1 M2, f_X10_batch k M = some (v, M1) ∧ f_X11_batch k M1 = some (v, M2) ∧ St M2 (n + 1) := by
  unfold f_X10_batch f_X11_batch
  have hh := h
  obtain ⟨hc, hs, h16, hn0⟩ := h
  have hN := TTs n
  have t0 : M 145 1 = M 418 3 := hc.2.2.1.1
  have tb := hs.2.2.2.2.1
  by_cases hk : 0 ≤ k ∧ k ≤ M 418 3
  · by_cases h2 : k % 2 = 0
    · have hT : TT n + 1000 * (k / 2) + 1000 < 2000000000 := by unfold TT; omega
      have hd : (((k / 2).toNat : Nat) : Int) = k / 2 := by omega
      obtain ⟨M1, a1, a2, a3, a4⟩ := c_batL (e := k) hk.2 (k := fun v2_22 M_22 => ((f_X8_clear M_22).bind fun r23 => some (v2_22, r23))) (k / 2).toNat 20000 0 0 (TT n) (M 419) M (by omega) (by omega) (by omega) (by omega) (by omega) hc hs (by omega)
      rw [Int.zero_add] at a1
      have b1 := r_batL (tn := M 418 3) (e := k) (tp := M 421) (K := M 435) (tk := M 436) (by omega) (fun j j0 j1 => hs.2.2.2.2.2.1 j j0 (by omega)) (k := fun v2_23 M_23 => some (v2_23, M_23)) (k / 2).toNat 20000 0 0 (TT n) (M 419) (mset (mset (mset M1 145 1 0) 418 4 0) 418 3 0) (by omega) (by omega) (by omega) (by omega) (by omega) (by rw [mset_ne (by omega), mset_ne (by omega), mset_ne (by omega), a4 421 (by omega)]) (by rw [mset_ne (by omega), mset_ne (by omega), mset_ne (by omega), a4 419 (by omega)]) hs (by omega)
      rw [Int.zero_add] at b1
      refine ⟨(bat (M 421) (k / 2).toNat 0 (M 419)).1, mset M1 145 1 0, oset (mset (mset (mset M1 145 1 0) 418 4 0) 418 3 0) 419 (bat (M 421) (k / 2).toNat 0 (M 419)).2, ?_, ?_, ?_⟩
      · rw [t0]
        refine ie (by omega) (si hk.1 (si (by omega) (it h2 (it hk.2 ?_))))
        rw [a1]; rfl
      · refine bs fun x e => ?_
        have : x 418 3 = M 418 3 := by rw [e, mset_slot (by omega), mset_ne (by omega), a4 418 (by omega)]
        rw [this]
        refine bc (r_isIn _ _ _ _) ?_
        rw [if_pos hk]
        refine ie (by omega) (si hk.1 (si (by omega) (it h2 (bs fun y e2 => ?_))))
        rw [e2, e]; exact b1
      · have ox : ∀ x, x ≠ 419 → x ≠ 418 → x ≠ 145 → oset (mset (mset (mset M1 145 1 0) 418 4 0) 418 3 0) 419 (bat (M 421) (k / 2).toNat 0 (M 419)).2 x = M1 x := fun x h1 h2 h3 => by rw [os_ne h1, mset_ne h2, mset_ne h2, mset_ne h3]
        obtain ⟨x1, x2, x3, x4, x5, x6, x7, x8⟩ := a3
        have cr : CR (mset M1 145 1 0) (bat (M 421) (k / 2).toNat 0 (M 419)).2 (M 435) (M 436) (M 421) 0 := by
          obtain ⟨c1, c2, c3, c4, c7, c8⟩ := a2
          refine ⟨⟨fun r r0 r1 => rowE_cg ⟨r0, r1⟩ (c1.1 r r0 r1) ⟨mset_ne (by omega), mset_ne (by omega), mset_ne (by omega)⟩ (fun _ _ => rfl), fun l l0 l1 => mrgE_cg ⟨l0, l1⟩ (c1.2.1 l l0 l1) (mset_ne (by omega)) (fun _ _ => rfl), ctrE_cg c1.2.2 (mset_ne (by omega)) (fun _ _ _ => rfl)⟩, by rw [mset_ne (by omega)]; exact c2, ⟨mset_self _ _ _ _, fun j j0 j1 => by omega⟩, ⟨by rw [mset_ne (by omega)]; exact c4.1, by rw [mset_ne (by omega)]; exact c4.2.1, fun i i0 i1 => by rw [mset_ne (by omega)]; exact c4.2.2 i i0 i1⟩, fun w w0 w1 => ?_, fun z => ?_⟩
          · obtain ⟨e1, e2⟩ := c7 w w0 w1
            exact ⟨by rw [mset_ne (by omega)]; exact e1, RelV_cg e2 (fun x h1 h2 => mset_ne (by omega))⟩
          · rw [mset_ne (by omega)] at z
            obtain ⟨i1, i2⟩ := c8 z
            exact ⟨ixR_cg i1 (fun x h1 h2 => mset_ne (by omega)), by rw [mset_ne (by omega)]; exact i2.1, fun j x hx => by rw [mset_ne (by omega)]; exact i2.2 j x hx⟩
        refine St_mk cr (SI_up ⟨x1, x2, x3, x4, by omega, fun j j0 j1 => by omega, x7, x8⟩ (by omega) (by unfold TT; omega)) (fun x hx => by rw [os_ne (by omega), mset_ne (by omega), mset_ne (by omega)]) (os _ _ _) (by rw [ox 435 (by omega) (by omega) (by omega), a4 435 (by omega)]) (by rw [ox 436 (by omega) (by omega) (by omega), a4 436 (by omega)]) (by rw [ox 421 (by omega) (by omega) (by omega), a4 421 (by omega)]) (by rw [os_ne (by omega), mset_self]) (by rw [os_ne (by omega), mset_slot (by omega), mset_slot (by omega), mset_ne (by omega), a4 418 (by omega)]; omega) (by omega)
    · refine ⟨-1, M, _, ?_, ?_, K_ref (c := 0) hh hn⟩
      · exact ie (by omega) (si hk.1 (si (by omega) (ie h2 rfl)))
      · refine bs fun x e => ?_
        have : x 418 3 = M 418 3 := by rw [e, mset_slot (by omega)]
        rw [this]
        refine bc (r_isIn _ _ _ _) ?_
        rw [if_pos hk]
        rw [e]
        exact ie (by omega) (si hk.1 (si (by omega) (ie h2 rfl)))
  · refine ⟨-1, M, _, ?_, ?_, K_ref (c := 0) hh hn⟩
    · rw [t0]
      by_cases c : k < 0
      · exact it c rfl
      · refine ie c (si (by omega) (si (by omega) ?_))
        by_cases h2 : k % 2 = 0
        · exact it h2 (ie (by omega) rfl)
        · exact ie h2 rfl
    · refine bs fun x e => ?_
      have : x 418 3 = M 418 3 := by rw [e, mset_slot (by omega)]
      rw [this]
      refine bc (r_isIn _ _ _ _) ?_
      rw [if_neg hk, e]
      exact it rfl rfl
end CAL3
