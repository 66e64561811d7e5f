/-! the start, and all of it -/
section FIN
theorem g00_z {x : Int} (h1 : x ≠ 7739) (h2 : x ≠ 7740) : g00 x = 0 := by
  unfold g00; rw [us_ne h2, us_ne h1]; rfl
theorem g00_a : g00 7739 = 6 := by unfold g00; rw [us_ne (by omega), us_eq]
theorem g00_b : g00 7740 = 4 := by unfold g00; rw [us_eq]
theorem g00_rg : ∀ x, rg (g00 x) := by
  intro x
  unfold g00
  exact us_rg (us_rg (fun _ => (by unfold zf rg; omega)) (by unfold rg; omega)) (by unfold rg; omega) x
theorem g00_clm : clm g00 := by
  have n2 : ∀ r, 0 ≤ r → r < 19 → g00 (7619 + r) ≠ 2 := fun r r0 r1 => by rw [g00_z (by omega) (by omega)]; omega
  refine ⟨⟨fun r r0 r1 z => absurd z (n2 r r0 r1), fun r q r0 r1 _ _ _ z => absurd z (n2 r r0 r1), ?_⟩, fun r r0 r1 _ => ⟨g00_z (by omega) (by omega), g00_z (by omega) (by omega)⟩, fun l l0 l1 => ⟨g00_z (by omega) (by omega), Or.inl (g00_z (by omega) (by omega))⟩, fun r r0 r1 z => absurd z (n2 r r0 r1), g00_rg⟩
  have := sh_one (g := g00) (r := 0) (l := 8) (fun q q0 q1 z => absurd z (n2 q q0 q1)) (by omega)
  omega
theorem g00_inv : Inv g00 := Inv_one (r := 0) g00_clm (fun q q0 q1 z => by rw [g00_z (by omega) (by omega)] at z; omega)
theorem zf_okV (K : Int → Int) (hK : ∀ x, K x = 0) : okV K := by
  have n2 : ∀ r, 0 ≤ r → r < 19 → K (7619 + r) ≠ 2 := fun r _ _ => by rw [hK]; omega
  refine ⟨fun r r0 r1 z => absurd z (n2 r r0 r1), fun r q r0 r1 _ _ _ z => absurd z (n2 r r0 r1), ?_⟩
  have := sh_one (g := K) (r := 0) (l := 8) (fun q q0 q1 z => absurd z (n2 q q0 q1)) (by omega)
  omega
theorem vT_6 (L j : Int) : vT 6 L j = if 0 ≤ j ∧ j < 2 then 1 else 0 := rfl
theorem St_0 {W : fMem} (hlo : ∀ a, a < 418 → W a = V a) (h18 : W 418 = fRe) (h19 : W 419 = g00) (hz : ∀ a, 420 ≤ a → W a = zf) : St (mem 440 W) 0 := by
  have lo : ∀ a, a < 418 → mem 440 W a = V a := fun a ha => by rw [mem_a (by omega), hlo a ha]
  have m19 : mem 440 W 419 = g00 := by rw [mem_a (by omega), h19]
  have m35 : mem 440 W 435 = zf := by rw [mem_a (by omega), hz _ (by omega)]
  have m36 : mem 440 W 436 = zf := by rw [mem_a (by omega), hz _ (by omega)]
  have m21 : mem 440 W 421 = zf := by rw [mem_a (by omega), hz _ (by omega)]
  have m18 : mem 440 W 418 3 = 0 := by rw [mem_a (by omega), h18]; rfl
  have m16 : mem 440 W 418 16 = 0 := by rw [mem_a (by omega), h18]; rfl
  have rw1 : ∀ h : Nat, okSh h → h + 60 ≤ 418 → ∀ r : Int, 0 ≤ r → r < 19 → ∀ j : Int, 2 ≤ j → mem 440 W (h + 3 * r.toNat + 3) j = 0 := fun h hs hh r r0 r1 j hj => by
    have t := (hs.2.2.2.2.2.2.2.2 r.toNat (by omega)).1.1
    rw [lo _ (by omega)]
    unfold V
    rw [t, vT_6, if_neg (by omega)]
  unfold St
  rw [m19, m35, m36, m21, m18, m16]
  have pb := phi_bd g00_inv.1
  refine ⟨⟨⟨fun r r0 r1 => ?_, fun l l0 l1 => ?_, ?_⟩, ?_, ⟨?_, fun j j0 j1 => by omega⟩, ⟨?_, ?_, fun i i0 i1 => ?_⟩, fun v v0 v1 => ⟨?_, ?_⟩, fun z => ?_⟩, ⟨⟨g00_inv, fun x hx => ?_, by unfold TT; omega⟩, by unfold TT; omega, by rw [g00_a]; omega, by rw [g00_b]; omega, by omega, fun j j0 j1 => by omega, fun v v0 v1 => ⟨Or.inl rfl, zf_okV _ (fun _ => rfl), fun r r0 r1 z => ?_⟩, fun x => ?_⟩, by omega, by omega⟩
  · have e := rw1 2 sh_2 (by omega) r r0 r1
    rw [show 2 + 3 * r.toNat + 3 = 1 + 3 * r.toNat + 4 by omega] at e
    have s0 : g00 (7600 + r) = 0 := g00_z (by omega) (by omega)
    have s1 : g00 (7619 + r) = 0 := g00_z (by omega) (by omega)
    have rb := rmR_bd r
    refine ⟨by rw [e 2 (by omega), s1], by rw [e 3 (by omega), s0], ?_, fun z => by omega, by omega, fun j j0 j1 => by omega⟩
    rw [e 4 (by omega), s0]
    rfl
  · have t := (en_1.2.2.2.2.2.2.2 l.toNat (by omega)).1
    have e : mem 440 W (1 + l.toNat + 62) = zf := by rw [lo _ (by omega), V_z (by omega)]
    unfold mrgE
    rw [e]
    refine ⟨?_, ?_, ?_, ?_, ?_, ?_, ?_, ?_, ?_⟩ <;> exact (g00_z (by omega) (by omega)).symm
  · unfold ctrE
    rw [lo 1 (by omega), g00_a, g00_z (x := 7738) (by omega) (by omega), g00_z (x := 7741) (by omega) (by omega), g00_z (x := 7742) (by omega) (by omega), g00_z (x := 7743) (by omega) (by omega), g00_z (x := 7744) (by omega) (by omega), g00_z (x := 7745) (by omega) (by omega), g00_z (x := 7746) (by omega) (by omega)]
    exact ⟨rfl, rfl, rfl, rfl, rfl, rfl, rfl, rfl⟩
  · rw [lo 0 (by omega), g00_b]; rfl
  · rw [lo 145 (by omega)]; rfl
  · rw [lo 147 (by omega), g00_z (x := 7741) (by omega) (by omega)]; rfl
  · rw [lo 147 (by omega), g00_z (x := 7741) (by omega) (by omega)]; rfl
  · rw [lo 148 (by omega), g00_z (x := 7747 + i) (by omega) (by omega), V_z (by decide)]; rfl
  · rw [lo 144 (by omega), V_z (by decide)]
  · have v3 : v = 0 ∨ v = 1 ∨ v = 2 := by omega
    have hs : okSh (60 * v.toNat + 238) := by
      rcases v3 with rfl | rfl | rfl
      · exact sh_238
      · exact sh_298
      · exact sh_358
    have kz : ∀ x, kv zf v x = 0 := fun _ => rfl
    refine ⟨fun r r0 r1 => ?_, fun r r0 r1 z => ?_⟩
    · have e := rw1 _ hs (by omega) r r0 r1 2 (by omega)
      rw [e, kz]
      exact ⟨⟨fun z => by omega, fun z => by omega⟩, fun z => by omega⟩
    · rw [kz] at z; omega
  · rw [lo 0 (by omega)] at z
    exact absurd z (by decide)
  · unfold isC at hx
    rw [g00_z (by omega) (by omega)]
    unfold TT
    omega
  · rw [show kv zf v (7619 + r) = 0 from rfl] at z; omega
  · show rg 0
    unfold rg; omega
theorem fRt_v {t j : Nat} {L : Int} (h : (fRt t j).isSome) (h11 : t ≠ 11) : vT t L j ≠ 0 := by
  unfold fRt at h
  split at h
  all_goals first | exact absurd rfl h11 | (intro z; have z2 : (1 : Int) = 0 := z; omega) | (exact absurd h Bool.false_ne_true)
theorem fRt_re {j : Nat} (h : (fRt 11 j).isSome) : fRe j ≠ 0 := by
  have b : j < 27 := by
    by_cases q : j < 27
    · exact q
    · exfalso
      obtain ⟨n, rfl⟩ : ∃ n, j = n + 27 := ⟨j - 27, by omega⟩
      exact absurd h (by simp [fRt])
  have key : ∀ j : Nat, j < 27 → (fRt 11 j).isSome → fRe j ≠ 0 := by decide +kernel
  exact key j b h
theorem ty_lo : ∀ k : Nat, k < 418 → Ty k ≠ 11 := by decide +kernel
theorem ty_hi : ∀ k : Nat, k < 440 → 419 ≤ k → Ty k = 12 ∨ Ty k = 13 ∨ Ty k = 18 := by decide +kernel
theorem fRt_no {t j : Nat} (h : t = 12 ∨ t = 13 ∨ t = 18) : fRt t j = none := by
  rcases h with rfl | rfl | rfl <;> rfl
theorem fAll_0 {W : fMem} (hlo : ∀ a, a < 418 → W a = V a) (h18 : W 418 = fRe) : fAll (mem 440 W) := by
  refine ⟨rfl, fun k hk j hj => ?_, fun k hk t1 t2 j hj => ?_⟩
  · rw [mem_a (by omega)]
    by_cases q : k < 418
    · rw [hlo k q]
      exact fRt_v hj (ty_lo k q)
    · by_cases q2 : k = 418
      · subst q2
        rw [h18]
        exact fRt_re hj
      · rw [fRt_no (ty_hi k hk (by omega))] at hj
        exact absurd hj (by simp)
  · rw [mem_a (by omega)]
    by_cases q : k < 418
    · rw [hlo k q]
      unfold V vT
      rw [if_neg (by omega), if_neg (by omega), if_neg (by omega), if_neg (by omega), if_neg (by omega), if_neg (by omega), if_pos ⟨t1, t2⟩, if_pos ⟨by omega, by unfold Ln; omega⟩]
      omega
    · by_cases q2 : k = 418
      · subst q2; exact absurd t1 (by decide)
      · have := ty_hi k hk (by omega); omega
theorem pure_num : fPure := by
  intro sc sn rsc s0 s1
  obtain ⟨W1, a1, a2⟩ := i_store
  have lo : ∀ a, a < 418 → W1 a = V a := fun a ha => by
    by_cases q : a = 0
    · subst q; rw [a2.1, fSt_v]
    by_cases q2 : a = 143
    · subst q2; rw [a2.2.1]; rfl
    exact a2.2.2.1 a (by omega) ha q2
  have hz : ∀ a, 418 ≤ a → W1 a = zf := fun a ha => a2.2.2.2 a ha (by omega)
  obtain ⟨W2, b1', b2, b3, b4, b5⟩ := i_ref hz
  have e0 : mnew (fun _ _ => 0) = mem 1 W0 := by
    funext a i
    unfold mnew mem W0 zf
    by_cases q : a = 440
    · rw [if_pos q, if_pos q]
      by_cases q2 : i = 0
      · rw [if_pos q2, if_pos q2]; rfl
      · rw [if_neg q2, if_neg q2]
    · rw [if_neg q, if_neg q]
      split <;> rfl
  have e1 : mnew (mem 418 W1) = mem 419 W1 := mem_new (by omega) (hz _ (by omega))
  have e2 : mnew (mem 439 W2) = mem 440 W2 := mem_new (by omega) (b4 _ (by omega))
  have lo2 : ∀ a, a < 418 → W2 a = V a := fun a ha => by rw [b5 a ha, lo a ha]
  refine ⟨mem 418 W1, mem 439 W2, by rw [e0]; exact a1, rfl, by rw [e1]; exact b1', rfl, by rw [e2]; exact fAll_0 lo2 b2, ?_⟩
  rw [e2]
  exact law_run rsc s1 600 0 0 _ (by omega) s0 (by omega) (by omega) (St_0 lo2 b2 b3 b4)
end FIN
