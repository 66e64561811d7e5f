/-! the trial's frame: acts that lie ahead -/
section TRI
def aK (i : Int) : Int := (37 * i + 11) % 200
theorem aK_bd (i : Int) : 0 ≤ aK i ∧ aK i < 200 := by unfold aK; omega
theorem c_keyAhead {M : fMem} {i : Int} (h0 : 0 ≤ i) (h1 : i ≤ 64) : f_X10_keyAhead i M = some (aK i) := by
  unfold f_X10_keyAhead
  exact it (by omega) (it (by omega) rfl)
theorem e_actsAhead {M : fMem} {g : Int → Int} {T i : Int} (h0 : 0 ≤ i) (h1 : i ≤ 64) (h : Run g T) (hb : 0 ≤ g 7739 ∧ g 7739 ≤ 40) (hT0 : 500000 ≤ T) (hT : T + 1000 < 2000000000) : f_X11_actsAhead i (oset M 419 g) = some (sAll3 g (aK i) 0, oset M 419 (sAct g (aK i) 0)) := by
  unfold f_X11_actsAhead
  exact it (by omega) (it (by omega) (bc (e_acts (k := aK i) h hb (aK_bd i) (by omega) hT0 hT) rfl))
theorem c_actAhead {M0 M : fMem} {g : Int → Int} {T i : Int} (h : RF 72 M0 M g) (hR : Run g T) (hb : 0 ≤ g 7739 ∧ g 7739 ≤ 40) (hT0 : 500000 ≤ T) (hT : T + 1000 < 2000000000) : ∃ M1, f_X0_act 72 (aK i) 0 M = some (sAll3 g (aK i) 0, M1) ∧ RF 72 M0 M1 (sAct g (aK i) 0) :=
  c_act h (Or.inr rfl) hR hb (aK_bd i) (by omega) hT0 hT
theorem c_needActs (a : Int) (M : fMem) : f_X10_needActs a M = some (if 0 ≤ a ∧ a ≤ 64 then 0 else 2) := by
  unfold f_X10_needActs
  by_cases c : 0 ≤ a ∧ a ≤ 64
  · rw [if_pos c]
    exact ie (by omega) (it (by omega) rfl)
  · rw [if_neg c]
    by_cases d : a < 0
    · exact it d rfl
    · exact ie d (ie (by omega) rfl)
theorem St_trial {M M1 : fMem} {n : Int} (h : St M n) (f : frm 72 71 M M1) : St M1 n := by
  refine St_q h ⟨fun x hx => f x (by unfold keep at hx; omega), by rw [f 0 (by omega)], fun x hx => f x (by omega)⟩ (fun z => ?_)
  rw [f 0 (by omega)] at z
  obtain ⟨i1, i2⟩ := h.1.2.2.2.2.2 z
  exact ⟨ixR_cg i1 (fun x x0 x1 => f x (by omega)), by rw [f 2 (by omega)]; exact i2.1, fun j x hx => by rw [f (2 + 2) (by omega)]; exact i2.2 j x hx⟩
theorem C_copy {M : fMem} {n : Int} (h : St M n) : ∃ M1, f_X0_copyFrom 72 1 M = some M1 ∧ RF 72 M M1 (M 419) := by
  refine c_copyFrom h.1.1 (fun l l0 l1 => ?_)
  have q := h.2.1.1.1.1.2.1 l l0 l1
  unfold okM at q
  omega
/-- the state behind i acts that lie ahead -/
noncomputable def sAh (g : Int → Int) : Nat → Int → Int
  | 0 => g
  | i + 1 => sAct (sAh g i) (aK i) 0
theorem sAh_run {g : Int → Int} {T : Int} (h : Run g T) (hb : 0 ≤ g 7739 ∧ g 7739 ≤ 40) (hT0 : 500000 ≤ T) : ∀ i : Nat, T + 1000 * i < 2000000000 → Run (sAh g i) (T + 1000 * i) ∧ sAh g i 7739 = g 7739 := by
  intro i
  induction i with
  | zero => intro _; exact ⟨Run_up h (by omega) (by omega), rfl⟩
  | succ i ih =>
    intro hT
    obtain ⟨a, b⟩ := ih (by omega)
    obtain ⟨s0, -⟩ := sAct_run (k := aK i) (v := 0) a (aK_bd i) (by omega) (by omega) (by omega)
    obtain ⟨v1, v2, v3, v4, v5⟩ := sAct_v (k := aK i) (v := 0) a (aK_bd i) (by omega) (by omega)
    obtain ⟨-, -, -, u⟩ := sA3_run (k := aK i) (v := 0) a (aK_bd i) (by omega) (by omega)
    refine ⟨?_, ?_⟩
    · rw [show T + 1000 * ((i + 1 : Nat) : Int) = T + 1000 * (i : Int) + 1000 by omega]; exact s0
    · show sAct (sAh g i) (aK i) 0 7739 = _
      rw [v5 7739 (by omega) (by omega) (by omega) (by omega), u 7739 (by unfold isU; omega)]; exact b
end TRI
