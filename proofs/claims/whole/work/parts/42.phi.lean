/-! how far it is until nothing merges -/
section PHI
/-- things of a level that have not gone on -/
def cL (g : Int → Int) (k : Int) : Int := g (7600 + 2 * k) + g (7600 + (2 * k + 1)) - (if g (7657 + k) = 1 then g (7702 + k) + g (7711 + k) else 0)
def phi8 (g : Int → Int) : Int := if g 7665 = 1 then left g 8 else 0
def phi (g : Int → Int) : Int := 408 * cL g 0 + 407 * cL g 1 + 406 * cL g 2 + 405 * cL g 3 + 404 * cL g 4 + 403 * cL g 5 + 402 * cL g 6 + 401 * cL g 7 + phi8 g
theorem cL_cg {g g1 : Int → Int} {k : Int} (a : g1 (7600 + 2 * k) = g (7600 + 2 * k)) (b : g1 (7600 + (2 * k + 1)) = g (7600 + (2 * k + 1))) (c : g1 (7657 + k) = g (7657 + k)) (d : g1 (7702 + k) = g (7702 + k)) (e : g1 (7711 + k) = g (7711 + k)) : cL g1 k = cL g k := by
  unfold cL; rw [a, b, c, d, e]
/-- a level that is asked keeps what has not gone on -/
theorem cL_ask {g : Int → Int} {l k : Int} (hl : 0 ≤ l ∧ l ≤ 8) (hk : 0 ≤ k ∧ k ≤ 8) (h : InvS g) : cL (sAsk g l) k = cL g k := by
  rcases sAsk_cs g l with ⟨e, -⟩ | ⟨e, h1, h2, h3⟩
  · rw [e]
  · have ha := askd_ask hl h
    rw [e] at ha ⊢
    obtain ⟨i0, i1, i2, i3, i4⟩ := (fFr_bd (g := g) (nxt_bd hl)).resolve_left h3
    generalize fFr g (nxt l) = into at *
    obtain ⟨v1, v2, v3, v4, v5, v6, v7, v8, v9⟩ := sBeg_v (g := g) hl ⟨i0, i1⟩
    unfold cL
    rw [ha.1 _ (by omega), ha.1 _ (by omega)]
    by_cases hkl : k = l
    · subst hkl
      rw [v2, v6, v7, if_pos rfl, if_neg h1]; omega
    · have z1 : sBeg g l into (7657 + k) = g (7657 + k) := sBeg_at ⟨by omega, by omega, by omega, by omega, by omega, by omega, by omega, by omega, by omega⟩
      have z2 : sBeg g l into (7702 + k) = g (7702 + k) := sBeg_at ⟨by omega, by omega, by omega, by omega, by omega, by omega, by omega, by omega, by omega⟩
      have z3 : sBeg g l into (7711 + k) = g (7711 + k) := sBeg_at ⟨by omega, by omega, by omega, by omega, by omega, by omega, by omega, by omega, by omega⟩
      rw [z1, z2, z3]
theorem left_le {g : Int → Int} {l : Int} (hl : 0 ≤ l ∧ l ≤ 8) (h : InvS g) (hm : g (7657 + l) = 1) : 0 < left g l ∧ left g l ≤ 400 := by
  obtain ⟨hy, he, ht, -⟩ := mrg_rows hl h hm
  obtain ⟨-, -, -, -, -, -, -, c8, c9, c10, -⟩ := (h.2.1 l hl.1 hl.2).2.2 hm
  have a1 := (h.1 _ hy.1 hy.2).2.1
  have a2 := (h.1 _ he.1 he.2).2.1
  have b1 := rmR_bd (g (7684 + l))
  have b2 := rmR_bd (g (7693 + l))
  refine ⟨c10, ?_⟩
  unfold left
  omega
theorem phi8_bd {g : Int → Int} (h : InvS g) : 0 ≤ phi8 g ∧ phi8 g ≤ 400 := by
  unfold phi8
  split
  · rename_i hm
    have := left_le (l := 8) (by omega) h hm; omega
  · omega
/-- the last level, where a level is asked -/
theorem phi8_ask {g : Int → Int} {l : Int} (hl : 0 ≤ l ∧ l ≤ 8) (h : InvS g) : phi8 (sAsk g l) = phi8 g ∨ (g 7665 ≠ 1 ∧ shM g 8 = 2) := by
  rcases sAsk_cs g l with ⟨e, -⟩ | ⟨e, h1, h2, h3⟩
  · rw [e]; exact Or.inl rfl
  · by_cases h8 : l = 8
    · subst h8; exact Or.inr ⟨h1, h2⟩
    · left
      have ha := askd_ask hl h
      rw [e] at ha ⊢
      obtain ⟨i0, i1, i2, i3, i4⟩ := (fFr_bd (g := g) (nxt_bd hl)).resolve_left h3
      generalize fFr g (nxt l) = into at *
      have z : ∀ x, x = 7665 ∨ x = 7692 ∨ x = 7701 ∨ x = 7710 ∨ x = 7719 → sBeg g l into x = g x := fun x hx => sBeg_at ⟨by omega, by omega, by omega, by omega, by omega, by omega, by omega, by omega, by omega⟩
      unfold phi8
      rw [z _ (by omega)]
      split
      · rename_i hm
        obtain ⟨hy, he, -⟩ := mrg_rows (l := 8) (by omega) h hm
        unfold left
        have y1 := z (7684 + 8) (by omega)
        have y2 := z (7693 + 8) (by omega)
        have y3 := z (7702 + 8) (by omega)
        have y4 := z (7711 + 8) (by omega)
        rw [y1, y2, y3, y4, ha.1 _ (by omega), ha.1 _ (by omega)]
      · rfl
theorem all_keep : ∀ (d : Nat) (g : Int → Int), d ≤ 9 → InvS g → (∀ k, 0 ≤ k → k ≤ 8 → cL (sAll g d) k = cL g k) ∧ InvS (sAll g d) ∧ (phi8 (sAll g d) = phi8 g ∨ (g 7665 ≠ 1 ∧ shM g 8 = 2)) := by
  intro d
  induction d with
  | zero => intro g _ h; exact ⟨fun _ _ _ => rfl, h, Or.inl rfl⟩
  | succ d ih =>
    intro g hd h
    have hl : 0 ≤ (d : Int) ∧ (d : Int) ≤ 8 := by omega
    have hi := InvS_ask hl h
    have ha := askd_ask hl h
    obtain ⟨a, b, c⟩ := ih (sAsk g d) (by omega) hi
    refine ⟨fun k k0 k1 => (a k k0 k1).trans (cL_ask hl ⟨k0, k1⟩ h), b, ?_⟩
    rcases phi8_ask hl h with e | e
    · rcases c with c | ⟨c1, c2⟩
      · exact Or.inl (c.trans e)
      · right
        rw [askd_sh ha (by omega)] at c2
        refine ⟨fun hm => c1 ?_, c2⟩
        rcases sAsk_cs g d with ⟨e, -⟩ | ⟨e, h1, h2, h3⟩
        · rw [e]; exact hm
        · by_cases h8 : (d : Int) = 8
          · rw [h8] at h1; exact absurd hm h1
          · rw [e]
            obtain ⟨i0, i1, i2, i3, i4⟩ := (fFr_bd (g := g) (nxt_bd hl)).resolve_left h3
            rw [sBeg_at ⟨by omega, by omega, by omega, by omega, by omega, by omega, by omega, by omega, by omega⟩]; exact hm
    · exact Or.inr e
theorem phi_all {g : Int → Int} (h : InvS g) : phi (sAll g 9) = phi g ∨ (phi (sAll g 9) ≤ phi g + 400 ∧ g 7665 ≠ 1 ∧ shM g 8 = 2) := by
  obtain ⟨a, b, c⟩ := all_keep 9 g (by omega) h
  have b8 := phi8_bd b
  have b9 := phi8_bd h
  unfold phi
  rw [a 0 (by omega) (by omega), a 1 (by omega) (by omega), a 2 (by omega) (by omega), a 3 (by omega) (by omega), a 4 (by omega) (by omega), a 5 (by omega) (by omega), a 6 (by omega) (by omega), a 7 (by omega) (by omega)]
  rcases c with c | c
  · rw [c]; exact Or.inl rfl
  · right; exact ⟨by omega, c⟩
end PHI
