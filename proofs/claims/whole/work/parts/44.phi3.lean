/-! every step goes nearer -/
section PHI3
theorem sStep_phi {g : Int → Int} {l : Int} (hl : 0 ≤ l ∧ l ≤ 8) (h : Inv g) (hm : g (7657 + l) = 1) (d1 : rg (g (7729 + l) + 1)) (d2 : rg (g 7746 + 1)) (d3 : rg (g 7745 + 1)) (d4 : rg (g 7742 + 1)) (c1 : rg (g (7720 + l) + 1)) (c2 : rg (g 7738 + 1)) : phi (sStep g l) + 1 ≤ phi g := by
  have ok := okS_of hl h.1 hm d1 d2 d3 d4
  have hW := sMv_inv hl h.1 hm d1 d2 d3 d4
  have hp := phi_mv hl h.1 hm d1 d2 d3 d4
  have far : ∀ x, 7619 ≤ x → x < 7702 → sMv g l x = g x := fun x x0 x1 => sMv_far ok (by omega) (by omega) (by omega) (by omega) (by omega) (by omega) (by omega)
  have ag : agK g (sMv g l) := fun x x0 x1 => far x x0 (by omega)
  have hq : ∀ k, 0 ≤ k → k ≤ 8 → quiet (sMv g l) k := by
    intro k k0 k1 h2
    rw [shM_ag ag ⟨k0, k1⟩] at h2
    rcases h.2 k k0 k1 h2 with z | ⟨z1, z2⟩
    · left; rw [far _ (by omega) (by omega)]; exact z
    · right; refine ⟨z1, ?_⟩
      rw [fFr_ag ag ⟨by omega, by omega⟩]; exact z2
  have c1' : rg (sMv g l (7720 + l) + 1) := by rw [sMv_far ok (by omega) (by omega) (by omega) (by omega) (by omega) (by omega) (by omega)]; exact c1
  have c2' : rg (sMv g l 7738 + 1) := by rw [sMv_far ok (by omega) (by omega) (by omega) (by omega) (by omega) (by omega) (by omega)]; exact c2
  have one : (1 : Int) ≤ if l = 7 then 401 else 1 := by split <;> omega
  unfold sStep
  split
  · rename_i hz
    unfold sThr
    obtain ⟨i1, i2, i3⟩ := sThr2_inv hl hW hq c1' c2'
    have e := phi_thr2 hl hW hz
    rcases phi_all i1 with q | ⟨q1, q2, q3⟩
    · omega
    · by_cases h7 : l = 7
      · rw [if_pos h7] at hp; omega
      · exfalso
        obtain ⟨hR, hM, ⟨w0, w1, e1, e2, e3, e4, e5, e6, e7, e8, e9, e11, e12⟩, hO, hI, h8, hrg⟩ := hW
        have h1 := lst_bd l
        have h2 := lst_bd (nxt l)
        have h3 := nxt_cs l
        generalize sMv g l = m at *
        have hy : 0 ≤ m (7684 + l) ∧ m (7684 + l) < 19 := by omega
        have he : 0 ≤ m (7693 + l) ∧ m (7693 + l) < 19 := by omega
        have ht : 0 ≤ m (7675 + l) ∧ m (7675 + l) < 19 := by omega
        have n1 : m (7675 + l) ≠ m (7684 + l) := fun q => by rw [q, e4] at e7; omega
        have n2 : m (7675 + l) ≠ m (7693 + l) := fun q => by rw [q, e5] at e7; omega
        obtain ⟨v1, v2, ⟨v3, v4⟩, ⟨v5, v6⟩, v7, v8⟩ := sThr2_v hl hy he ht n1 n2
        by_cases h88 : l = 8
        · have a : (m (7684 + l) = 16 ∨ m (7684 + l) = 17 ∨ m (7684 + l) = 18) ∧ (m (7693 + l) = 16 ∨ m (7693 + l) = 17 ∨ m (7693 + l) = 18) := by omega
          generalize sThr2 m l = g2 at *
          rw [sh8] at q3
          have x0 : m (7684 + l) = 16 ∨ m (7693 + l) = 16 → g2 7635 = 0 := fun z => z.elim (fun z => by rw [z] at v3; exact v3) (fun z => by rw [z] at v5; exact v5)
          have x1 : m (7684 + l) = 17 ∨ m (7693 + l) = 17 → g2 7636 = 0 := fun z => z.elim (fun z => by rw [z] at v3; exact v3) (fun z => by rw [z] at v5; exact v5)
          have x2 : m (7684 + l) = 18 ∨ m (7693 + l) = 18 → g2 7637 = 0 := fun z => z.elim (fun z => by rw [z] at v3; exact v3) (fun z => by rw [z] at v5; exact v5)
          rcases b1_cs (g2 7635 = 2) with ⟨a0, a1⟩ | ⟨a0, a1⟩ <;> rcases b1_cs (g2 7636 = 2) with ⟨b0, b1'⟩ | ⟨b0, b1'⟩ <;> rcases b1_cs (g2 7637 = 2) with ⟨d0, d1⟩ | ⟨d0, d1⟩ <;> rw [a1, b1', d1] at q3 <;> omega
        · rw [i2 (by omega)] at q3
          rcases hq 8 (by omega) (by omega) q3 with z | z
          · have z2 : m 7665 = 1 := z
            rw [v8 7665 (by omega) (by omega) (by omega) (by omega) (by omega) (by omega) (by omega) (by omega) (by omega)] at q2
            exact q2 z2
          · omega
  · omega
end PHI3
