/-! all levels are asked -/
section INV3
theorem sAsk_cs (g : Int → Int) (l : Int) : (sAsk g l = g ∧ (g (7657 + l) = 1 ∨ shM g l ≠ 2 ∨ fFr g (nxt l) = -1)) ∨ (sAsk g l = sBeg g l (fFr g (nxt l)) ∧ g (7657 + l) ≠ 1 ∧ shM g l = 2 ∧ fFr g (nxt l) ≠ -1) := by
  unfold sAsk
  by_cases h1 : g (7657 + l) = 1
  · left; rw [if_pos h1]; exact ⟨rfl, Or.inl h1⟩
  · rw [if_neg h1]
    by_cases h2 : shM g l = 2
    · rw [if_pos h2]
      by_cases h3 : fFr g (nxt l) = -1
      · left; rw [if_pos h3]; exact ⟨rfl, Or.inr (Or.inr h3)⟩
      · right; rw [if_neg h3]; exact ⟨rfl, h1, h2, h3⟩
    · left; rw [if_neg h2]; exact ⟨rfl, Or.inr (Or.inl h2)⟩
theorem InvS_ask {g : Int → Int} {l : Int} (hl : 0 ≤ l ∧ l ≤ 8) (h : InvS g) : InvS (sAsk g l) := by
  rcases sAsk_cs g l with ⟨e, -⟩ | ⟨e, h1, h2, h3⟩
  · rw [e]; exact h
  · rw [e]; exact InvS_beg hl h h1 h2 h3
/-- what being asked leaves as it is -/
def askd (g g1 : Int → Int) : Prop := (∀ x, x < 7619 ∨ (7638 ≤ x ∧ x < 7657) ∨ 7720 ≤ x → g1 x = g x) ∧ ∀ r, 0 ≤ r → r < 19 → g1 (7619 + r) = g (7619 + r) ∨ (g (7619 + r) = 0 ∧ g1 (7619 + r) = 1)
theorem askd_rf (g : Int → Int) : askd g g := ⟨fun _ _ => rfl, fun _ _ _ => Or.inl rfl⟩
theorem askd_tr {g g1 g2 : Int → Int} (a : askd g g1) (b : askd g1 g2) : askd g g2 := by
  refine ⟨fun x hx => (b.1 x hx).trans (a.1 x hx), fun r r0 r1 => ?_⟩
  rcases a.2 r r0 r1 with h | h <;> rcases b.2 r r0 r1 with q | q
  · exact Or.inl (q.trans h)
  · exact Or.inr ⟨h ▸ q.1, q.2⟩
  · exact Or.inr ⟨h.1, q.trans h.2⟩
  · omega
theorem askd_ask {g : Int → Int} {l : Int} (hl : 0 ≤ l ∧ l ≤ 8) (h : InvS g) : askd g (sAsk g l) := by
  rcases sAsk_cs g l with ⟨e, -⟩ | ⟨e, h1, h2, h3⟩
  · rw [e]; exact askd_rf g
  · rw [e]
    obtain ⟨i0, i1, i2, i3, i4⟩ := (fFr_bd (g := g) (nxt_bd hl)).resolve_left h3
    generalize fFr g (nxt l) = into at *
    obtain ⟨v1, v2, v3, v4, v5, v6, v7, v8, v9⟩ := sBeg_v (g := g) hl ⟨i0, i1⟩
    refine ⟨fun x hx => ?_, fun r r0 r1 => ?_⟩
    · by_cases hx2 : x = 7600 + into
      · subst hx2; rw [v9, (h.1 into i0 i1).2.2.1 i2]
      · exact sBeg_at ⟨by omega, by omega, by omega, by omega, by omega, by omega, by omega, by omega, hx2⟩
    · by_cases hr : r = into
      · subst hr; exact Or.inr ⟨i2, v8⟩
      · exact Or.inl (sBeg_at ⟨by omega, by omega, by omega, by omega, by omega, by omega, by omega, by omega, by omega⟩)
theorem askd_sh {g g1 : Int → Int} (h : askd g g1) {l : Int} (hl : 0 ≤ l ∧ l ≤ 8) : shM g1 l = shM g l := by
  refine shM_cg hl (fun r r0 r1 => ?_)
  have := (lst_bd l)
  rcases h.2 r (by omega) (by omega) with q | q
  · rw [q]
  · omega
theorem quiet_ask {g : Int → Int} {l k : Int} (hl : 0 ≤ l ∧ l ≤ 8) (hk : l < k ∧ k ≤ 8) (h : InvS g) (hq : quiet g k) : quiet (sAsk g l) k := by
  rcases sAsk_cs g l with ⟨e, -⟩ | ⟨e, h1, h2, h3⟩
  · rw [e]; exact hq
  · have ha := askd_ask hl h
    intro h4
    rw [askd_sh ha (by omega)] at h4
    rw [e]
    obtain ⟨i0, i1, i2, i3, i4⟩ := (fFr_bd (g := g) (nxt_bd hl)).resolve_left h3
    have hnx := nxt_cs l
    rcases hq h4 with q | ⟨q1, q2⟩
    · left
      generalize fFr g (nxt l) = into at *
      rw [sBeg_at ⟨by omega, by omega, by omega, by omega, by omega, by omega, by omega, by omega, by omega⟩]
      exact q
    · right
      refine ⟨q1, ?_⟩
      have hlst : fFr g (nxt l) ≤ 2 * nxt l + 1 := by split at i4 <;> omega
      generalize fFr g (nxt l) = into at *
      rw [← q2, fF0, fF0]
      have z0 : sBeg g l into (7619 + 2 * (k + 1)) = g (7619 + 2 * (k + 1)) := sBeg_at ⟨by omega, by omega, by omega, by omega, by omega, by omega, by omega, by omega, by omega⟩
      have z1 : sBeg g l into (7619 + (2 * (k + 1) + 1)) = g (7619 + (2 * (k + 1) + 1)) := sBeg_at ⟨by omega, by omega, by omega, by omega, by omega, by omega, by omega, by omega, by omega⟩
      rw [z0, z1]
      by_cases h8 : k + 1 = 8
      · have z2 : sBeg g l into (7619 + (2 * (k + 1) + 2)) = g (7619 + (2 * (k + 1) + 2)) := sBeg_at ⟨by omega, by omega, by omega, by omega, by omega, by omega, by omega, by omega, by omega⟩
        rw [z2]
      · simp [h8]
theorem quiet_own {g : Int → Int} {l : Int} (hl : 0 ≤ l ∧ l ≤ 8) (h : InvS g) (h8 : l = 8 → shM g 8 = 2 → g 7665 = 1 ∨ fFr g 8 ≠ -1) : quiet (sAsk g l) l := by
  intro h4
  have ha := askd_ask hl h
  rw [askd_sh ha hl] at h4
  have hnx := nxt_cs l
  rcases sAsk_cs g l with ⟨e, h1⟩ | ⟨e, h1, h2, h3⟩
  · rw [e]
    rcases h1 with q | q | q
    · exact Or.inl q
    · exact absurd h4 q
    · rcases hnx with ⟨n1, n2⟩ | ⟨n1, n2⟩
      · subst n1
        rcases h8 rfl h4 with w | w
        · exact Or.inl w
        · rw [n2] at q; exact absurd q w
      · rw [n2] at q
        exact Or.inr ⟨by omega, q⟩
  · rw [e]
    obtain ⟨i0, i1, -⟩ := (fFr_bd (g := g) (nxt_bd hl)).resolve_left h3
    exact Or.inl (sBeg_v hl ⟨i0, i1⟩).2.1
theorem sAll_inv : ∀ (d : Nat) (g : Int → Int), d ≤ 9 → InvS g → (∀ k : Int, d ≤ k → k ≤ 8 → quiet g k) → (d = 9 → shM g 8 = 2 → g 7665 = 1 ∨ fFr g 8 ≠ -1) → Inv (sAll g d) ∧ askd g (sAll g d) := by
  intro d
  induction d with
  | zero => intro g _ h hq _; exact ⟨⟨h, fun l l0 l1 => hq l (by omega) l1⟩, askd_rf g⟩
  | succ d ih =>
    intro g hd h hq h8
    have hl : 0 ≤ (d : Int) ∧ (d : Int) ≤ 8 := by omega
    have hi := InvS_ask hl h
    obtain ⟨a, b⟩ := ih (sAsk g d) (by omega) hi (fun k k0 k1 => by
      by_cases hk : k = d
      · subst hk; exact quiet_own hl h (fun e => h8 (by omega))
      · exact quiet_ask hl ⟨by omega, k1⟩ h (hq k (by omega) k1)) (fun e => by omega)
    exact ⟨a, askd_tr (askd_ask hl h) b⟩
end INV3
