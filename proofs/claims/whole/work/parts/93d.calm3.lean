/-! isCalm of both sides -/
section CALM3
theorem C_isCalm {M : fMem} {n b : Int} {a : Nat} (h : St M n) (hn : n < 600) (hb : 0 ≤ b ∧ b ≤ 40) (ha : a ≤ 64) : ∃ M1, f_X10_isCalm a b M = some (caN (us (M 419) 7739 b) (M 419 7743) a 0, M1) ∧ St M1 n ∧ ∀ x, 418 ≤ x → M1 x = M x := by
  have hR := h.2.1.1
  have hT0 : 500000 ≤ TT n := h.2.1.2.1
  have hT : TT n + 70000 < 2000000000 := by unfold TT; omega
  have hR2 : Run (us (M 419) 7739 b) (TT n) := Run_us hR (Or.inl rfl) (by unfold rg; omega)
  obtain ⟨A, a1, a2⟩ := C_copy h
  have a3 := rf_ctr (i := 2) (x := 7739) (v := b) a2 (by omega)
  obtain ⟨B, b1', b2⟩ := c_calmL (M0 := M) (c := M 419 7743) hR2 (by rw [us_eq]; exact hb) hT0 hT h.1.1.2.2.2.2.2.2.1 ha a 20000 0 (mset A 72 2 b) (by omega) (by omega) a3
  refine ⟨B, ?_, St_trial h b2, fun x hx => b2 x (by omega)⟩
  unfold f_X10_isCalm
  refine bc a1 (bs fun x ex => ?_)
  rw [ex]
  exact b1'
theorem R_isCalm {Q : fMem} {g : Int → Int} {T b : Int} {a : Nat} (hR : Run g T) (hT0 : 500000 ≤ T) (hT : T + 70000 < 2000000000) (hb : 0 ≤ b ∧ b ≤ 40) (ha : a ≤ 64) (h9 : Q 419 = g) (h0 : ∀ x, 0 ≤ x → x < 7787 → Q 420 x = g x) : f_X11_isCalm a b Q = some (caN (us g 7739 b) (g 7743) a 0, Q) := by
  have hR2 : Run (us g 7739 b) T := Run_us hR (Or.inl rfl) (by unfold rg; omega)
  have hb2 : 0 ≤ us g 7739 b 7739 ∧ us g 7739 b 7739 ≤ 40 := by rw [us_eq]; exact hb
  have e : mset Q 419 7739 b = oset Q 419 (sAh (us g 7739 b) 0) := by rw [mset_os, h9]; rfl
  obtain ⟨j, j0, j1, j2⟩ := r_calmL (N := Q) (c := g 7743) (k := fun (M_6 : fMem) => j_X11_isCalm_47 M_6) hR2 hb2 hT0 hT (h0 7743 (by omega) (by omega)) ha a 20000 0 (by omega) (by omega) (us_ne (by omega))
  have bk : f_X11_comesBack (oset Q 419 (sAh (us g 7739 b) j)) = some (oset (oset Q 419 (sAh (us g 7739 b) j)) 419 g) := e_backTo (fun x x0 x1 => by rw [os_ne (by omega)]; exact h0 x x0 x1) (fun x hx => by rw [os, sAh_out hR2 hb2 hT0 hx j (by omega), us_ne (by omega)])
  have eq : oset (oset Q 419 (sAh (us g 7739 b) j)) 419 g = Q := by
    funext x
    by_cases c : x = 419
    · subst c; rw [os, h9]
    · rw [os_ne c, os_ne c]
  rw [eq] at bk
  unfold f_X11_isCalm
  refine bs fun x ex => ?_
  rw [ex, e]
  refine j1.trans ?_
  show j_X11_isCalm_47 _ = _
  unfold j_X11_isCalm_47
  rw [os, os_ne (a := 420) (by omega), h0 7743 (by omega) (by omega)]
  rcases j2 with ⟨c1, c2⟩ | ⟨c1, c2⟩
  · rw [c2]; exact it c1 (bc bk rfl)
  · rw [c2]; exact ie c1 (bc bk rfl)
end CALM3
