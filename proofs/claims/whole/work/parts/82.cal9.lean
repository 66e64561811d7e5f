/-! entry -/
section CAL9
def enV (g : Int → Int) (l q a : Int) (e : En) : Int := if a = 0 then e.1 else if a = 1 then (if e.2.1 = 0 then (if g (3800 + 200 * q + e.2.2.1) = -1 then 1 else 0) else 2) else if a = 2 then (if e.2.1 = 0 then g (3800 + 200 * q + e.2.2.1) else e.2.2.1 - 2 * (l + 1)) else e.2.2.2
theorem K_entry {M : fMem} {n l r i a : Int} (h : St M n) (hn : n < 600) : thrK (f_X10_entry l r i a) (f_X11_entry l r i a) M n := by
  obtain ⟨-, hv⟩ := C_rel h
  have hst := h.2.1.2.2.2.1
  have hI := h.2.1.1.1.1
  have hrg := hI.2.2.2.2.2
  -- refusals of the reference
  have noR : ¬ (shOK (M 419) l r ∧ (0 ≤ a ∧ a < 4) ∧ 0 ≤ i ∧ i < (E (M 419) (2 * l + r)).length) → ∀ N, St N n → (∀ x, 418 ≤ x → x ≠ 439 → N x = M x) → Rq (f_X11_entry l r i a) N n 1 0 := by
    intro hno N hN hx
    obtain ⟨r1, r2, r3, r4⟩ := R_0 hN
    by_cases hr : rowOK l r
    · have h19 := row19 hr
      obtain ⟨N1, c1, c2, c3, c4, c5, c6, c7⟩ := R_ent r1 (a := 0) (Or.inl rfl)
      have gN : mset N 418 4 0 419 = M 419 := by rw [r3 419 (by omega), hx 419 (by omega) (by omega)]
      rw [gN] at c2
      have e9 : N1 429 (2 * l + r) = (E (M 419) (2 * l + r)).length := by
        have := (c2 _ h19.1 h19.2).1
        unfold eA at this; rw [if_pos rfl] at this; exact this
      have hl := E328 hv hst h19
      have t0 : N1 418 4 = 0 := by rw [c5, r2]
      refine ⟨0, mset N1 418 4 1, ?_, mset_self _ _ _ _, fun z => by omega, by rw [mset_ne (by omega), c6, r3 439 (by omega)], St_rF hN (rF_tr r4 (rF_tr c4 ⟨fun x h1 _ _ => mset_ne h1, mset_slot (by omega), mset_slot (by omega)⟩)) hn⟩
      have no : j_X11_entry_64 l i a (2 * l + r) N1 = some (0, mset N1 418 4 1) := by
        unfold j_X11_entry_64 j_X11_entry_65
        exact si (by omega) (bc (r_right0 t0 (by omega)) (it rfl rfl))
      unfold f_X11_entry
      refine bs fun x e => ?_
      subst e
      refine bc ((r_isRow l r _).1 hr) (bc (r_right1 r2) (ie (by simp) (bc c1 (bc (e_rowAt _ hr.1 (by have := hr.2; have : ER l ≤ 2 * l + 3 := (by have := hr.1; unfold ER; split <;> omega); omega)) (si h19 ?_)))))
      rw [e9]
      refine si (by omega) (bc (r_isIn _ _ _ _) ?_)
      by_cases c : 0 ≤ i ∧ i ≤ ((E (M 419) (2 * l + r)).length : Int) - 1
      · rw [if_pos c]
        refine ie (by omega) (bc (r_isIn _ _ _ _) ?_)
        by_cases c' : 0 ≤ a ∧ a ≤ 3
        · exfalso
          apply hno
          refine ⟨⟨hr, Classical.byContradiction fun z => ?_⟩, by omega, by omega, by omega⟩
          rw [E_no z] at c
          simp at c
          omega
        · rw [if_neg c']; exact it rfl no
      · rw [if_neg c]; exact it rfl no
    · refine R_no hN hn ?_ (by omega)
      unfold f_X11_entry
      refine bs fun x e => ?_
      subst e
      exact bc ((r_isRow l r _).2 hr) (bc (r_right0 r2 (by omega)) (it rfl rfl))
  by_cases hs : shOK (M 419) l r
  · by_cases ha : 0 ≤ a ∧ a < 4
    · have h19 := row19 hs.1
      have hl := E328 hv hst h19
      obtain ⟨M1, a1, a2, a3, a4, a5⟩ := C_refresh h
      have ex := a4.1 _ h19.1 h19.2
      have eln := E_len (r := 2 * l + r) hv hst.1 h19
      have hLn := Ln_eO h19
      have s3 : M1 (4 * psO (2 * l + r).toNat + 151) 3 = (E (M 419) (2 * l + r)).length := ex.1
      by_cases hi : 0 ≤ i ∧ i < (E (M 419) (2 * l + r)).length
      · obtain ⟨v1, v2, v3⟩ := enC_at ex hi
        have hm := gE_mem (L := E (M 419) (2 * l + r)) hi
        have lr := lvR_of hs.1.1 (r := 2 * l + r) ⟨by have := hs.1.2; omega, hs.1.2.2⟩
        have o2 := E_mk hv hst hs.1.1 (r := 2 * l + r) ⟨by have := hs.1.2; omega, hs.1.2.2⟩ _ hm
        have eof := E_of hv hst h19 _ hm
        have okl := (E_ok (r := 2 * l + r) hv hst.1 (Or.inr h19) (fun w => by omega)).2 _ hm
        generalize he : gE (E (M 419) (2 * l + r)) i = e at *
        have ve : vE (M 419) (2 * l + r) e = if e.2.1 = 0 then M 419 (3800 + 200 * (2 * l + r) + e.2.2.1) else e.2.2.1 - 2 * (l + 1) := by
          unfold vE
          by_cases c : e.2.1 = 0
          · rw [if_pos c, if_pos c]
          · rw [if_neg c, if_neg c]
            rcases o2 with z | ⟨z1, z2, z3, z4, z5, z6⟩
            · exact absurd z.1 c
            · have : LO e.2.2.1 = l + 1 := lvR_of (l := l + 1) (by have := hs.1.1; omega) ⟨z4, z5⟩
              rw [this]; rfl
        have ofb : e.2.1 ≠ 0 → 0 ≤ e.2.2.1 ∧ e.2.2.1 < 19 := by
          intro c
          rcases o2 with z | ⟨z1, z2, z3, z4, z5, z6⟩
          · exact absurd z.1 c
          · have hE : ER (l + 1) ≤ 19 := by unfold ER; split <;> omega
            have := hs.1.1; omega
        have plb : -1 ≤ e.2.2.2 ∧ e.2.2.2 < 400 := by
          rcases o2 with z | ⟨z1, z2, z3, z4, z5, z6⟩
          · omega
          · have hE : ER (l + 1) ≤ 19 := by unfold ER; split <;> omega
            have := E328 (r := e.2.2.1) hv hst (by have := hs.1.1; omega)
            omega
        have ky : f_X1_keyAt (4 * psO (2 * l + r).toNat + 151) i M1 = some e.1 := by
          have := c_ekeyAt (i := i) ex h19 eln hi.1
          rw [he] at this; exact this
        have vy : f_X1_valueAt (4 * psO (2 * l + r).toNat + 151) i M1 = some (vE (M 419) (2 * l + r) e) := by
          have l2 : Ln (4 * psO (2 * l + r).toNat + 151 + 2) = rmE (lvR (2 * l + r)).toNat := hLn.2.1
          have w2 : M1 (4 * psO (2 * l + r).toNat + 151 + 2) i = vE (M 419) (2 * l + r) e := v2
          unfold f_X1_valueAt
          rw [s3, l2]
          refine ie (by omega) (ie (by omega) (si (by omega) ?_))
          rw [w2]
        have py : f_X1_placeAt (4 * psO (2 * l + r).toNat + 151) i M1 = some e.2.2.2 := by
          have l2 : Ln (4 * psO (2 * l + r).toNat + 151 + 3) = rmE (lvR (2 * l + r)).toNat := hLn.2.2
          have w2 : M1 (4 * psO (2 * l + r).toNat + 151 + 3) i = e.2.2.2 := v3
          unfold f_X1_placeAt
          rw [s3, l2]
          refine ie (by omega) (ie (by omega) (si (by omega) ?_))
          rw [w2]
        have kd : f_X1_kindAt (4 * psO (2 * l + r).toNat + 151) i M1 = some (enV (M 419) l (2 * l + r) 1 e) := by
          unfold f_X1_kindAt enV
          rw [if_neg (by omega), if_pos rfl]
          refine bc py ?_
          rcases o2 with ⟨z1, z2⟩ | ⟨z1, z2, -⟩
          · rw [if_pos z1]
            refine it z2 (bc vy ?_)
            rw [ve, if_pos z1]
            split <;> rfl
          · rw [if_neg (c := e.2.1 = 0) (by omega)]
            exact ie (by omega) rfl
        have rgv : rg (enV (M 419) l (2 * l + r) a e) := by
          have q1 := hrg (3800 + 200 * (2 * l + r) + e.2.2.1)
          have := hs.1.1
          unfold enV
          by_cases c : e.2.1 = 0
          · unfold rg at q1 ⊢
            repeat' split
            all_goals omega
          · have := ofb c
            unfold rg
            repeat' split
            all_goals omega
        refine thr_join (c := 0) (v := enV (M 419) l (2 * l + r) a e) ⟨M1, ?_, a2, a3⟩ (by omega) rgv (fun N hN hx => ?_)
        · unfold f_X10_entry
          refine bc ((c_needShut h).1 hs) (it rfl (bc (c_needWhat _ _ _) ?_))
          rw [if_pos ha]
          refine it rfl (bc a1 (bc (c_at hs.1) (si h19 (ie (by omega) (it (by rw [s3]; omega) ?_)))))
          by_cases w0 : a = 0
          · have : enV (M 419) l (2 * l + r) a e = e.1 := by unfold enV; rw [if_pos w0]
            rw [this]; exact it w0 (bc ky rfl)
          · refine ie w0 ?_
            by_cases w1 : a = 1
            · rw [w1]; exact it rfl (bc kd rfl)
            · refine ie w1 ?_
              by_cases w2 : a = 2
              · have : enV (M 419) l (2 * l + r) a e = vE (M 419) (2 * l + r) e := by unfold enV; rw [if_neg w0, if_neg w1, if_pos w2, ve]
                rw [this]; exact it w2 (bc vy rfl)
              · have : enV (M 419) l (2 * l + r) a e = e.2.2.2 := by unfold enV; rw [if_neg w0, if_neg w1, if_neg w2]
                rw [this]; exact ie w2 (bc py rfl)
        · obtain ⟨r1, r2, r3, r4⟩ := R_0 hN
          obtain ⟨N1, c1, c2, c3, c4, c5, c6, c7⟩ := R_ent r1 (a := 0) (Or.inl rfl)
          have gN : mset N 418 4 0 419 = M 419 := by rw [r3 419 (by omega), hx 419 (by omega) (by omega)]
          rw [gN] at c2 c7
          have er : enR N1 (2 * l + r) (E (M 419) (2 * l + r)) := by
            have := c2 _ h19.1 h19.2
            unfold eA at this; rw [if_pos rfl] at this; exact this
          obtain ⟨p1, p2, p3, p4⟩ := enR_at er hi
          rw [he] at p1 p2 p3 p4
          have t0 : N1 418 4 = 0 := by rw [c5, r2]
          refine ⟨_, N1, ?_, t0, fun _ => rfl, by rw [c6, r3 439 (by omega)], St_rF hN (rF_tr r4 c4) hn⟩
          unfold f_X11_entry
          refine bs fun x e => ?_
          subst e
          refine bc ((r_isRow l r _).1 hs.1) (bc (r_right1 r2) (ie (by simp) (bc c1 (bc (e_rowAt _ hs.1.1 (by have := hs.1.2; have : ER l ≤ 2 * l + 3 := (by have := hs.1.1; unfold ER; split <;> omega); omega)) (si h19 ?_)))))
          rw [er.1]
          refine si (by omega) (bc (r_isIn _ _ _ _) ?_)
          rw [if_pos (c := 0 ≤ i ∧ i ≤ ((E (M 419) (2 * l + r)).length : Int) - 1) (by omega)]
          refine ie (by omega) (bc (r_isIn _ _ _ _) ?_)
          rw [if_pos (c := 0 ≤ a ∧ a ≤ 3) (by omega)]
          refine ie (by omega) ?_
          unfold j_X11_entry_65
          refine si (by omega) ?_
          rw [r_right1 t0]
          show (if (1 : Int) = 0 then some (0, N1) else (if 0 ≤ (700 * (2 * l + r)) + i ∧ (700 * (2 * l + r)) + i < 13300 then (if (N1 426 ((700 * (2 * l + r)) + i)) = 0 then (if -2147483648 ≤ (700 * (2 * l + r)) + i ∧ (700 * (2 * l + r)) + i < 2147483648 then j_X11_entry_99 l a (2 * l + r) ((700 * (2 * l + r)) + i) 1 N1 else none) else (if -2147483648 ≤ (700 * (2 * l + r)) + i ∧ (700 * (2 * l + r)) + i < 2147483648 then j_X11_entry_99 l a (2 * l + r) ((700 * (2 * l + r)) + i) 0 N1 else none)) else none)) = _
          have hlb := hs.1.1
          rw [p2]
          refine ie (by omega) (si (by omega) ?_)
          by_cases c : e.2.1 = 0
          · have := eof c
            refine it c (si (by omega) ?_)
            unfold j_X11_entry_99
            rw [p3]
            have vv := r_valueAt (M := N1) (r := 2 * l + r) (j := e.2.2.1) h19 (by omega)
            rw [c7] at vv
            refine ie (by omega) (si (by omega) (bc vv ?_))
            unfold j_X11_entry_123 enV
            rw [p1, p4]
            by_cases w0 : a = 0
            · rw [if_pos w0, if_pos w0]; exact si (by omega) rfl
            · rw [if_neg w0, if_neg w0]
              by_cases w1 : a = 1
              · rw [if_pos w1, if_pos w1, if_pos c, if_neg (by omega)]
                split <;> rfl
              · rw [if_neg w1, if_neg w1]
                by_cases w2 : a = 2
                · rw [if_pos w2, if_pos w2, if_pos c, if_neg (by omega)]
                · rw [if_neg w2, if_neg w2]; exact si (by omega) rfl
          · have := ofb c
            refine ie c (si (by omega) ?_)
            unfold j_X11_entry_99
            refine it rfl ?_
            unfold j_X11_entry_123 enV
            rw [p1, p3, p4]
            by_cases w0 : a = 0
            · rw [if_pos w0, if_pos w0]; exact si (by omega) rfl
            · rw [if_neg w0, if_neg w0]
              by_cases w1 : a = 1
              · rw [if_pos w1, if_pos w1, if_neg c, if_pos rfl]
              · rw [if_neg w1, if_neg w1]
                by_cases w2 : a = 2
                · rw [if_pos w2, if_pos w2, if_neg c, if_pos rfl]
                  exact si (by omega) (si (by omega) rfl)
                · rw [if_neg w2, if_neg w2]; exact si (by omega) rfl
      · refine thr_join (c := 1) (v := 0) ⟨M1, ?_, a2, a3⟩ (by omega) ⟨by omega, by omega⟩ (noR (fun z => hi z.2.2))
        unfold f_X10_entry
        refine bc ((c_needShut h).1 hs) (it rfl (bc (c_needWhat _ _ _) ?_))
        rw [if_pos ha]
        refine it rfl (bc a1 (bc (c_at hs.1) (si h19 ?_)))
        rw [s3]
        by_cases c : i < 0
        · exact it c rfl
        · exact ie c (ie (by omega) rfl)
    · refine thr_join (c := 1) (v := 0) ⟨M, ?_, h, fun _ _ => rfl⟩ (by omega) ⟨by omega, by omega⟩ (noR (fun z => ha z.2.1))
      unfold f_X10_entry
      refine bc ((c_needShut h).1 hs) (it rfl (bc (c_needWhat _ _ _) ?_))
      rw [if_neg ha]
      exact ie (by omega) rfl
  · refine thr_join (c := 1) (v := 0) ⟨M, ?_, h, fun _ _ => rfl⟩ (by omega) ⟨by omega, by omega⟩ (noR (fun z => hs z.1))
    unfold f_X10_entry
    exact bc ((c_needShut h).2 hs) (ie (by omega) rfl)
end CAL9
