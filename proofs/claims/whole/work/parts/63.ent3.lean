/-! the class weaves a row's entries; builds all -/
section ENT3
theorem FR_LO {M : fMem} {r : Int} (hr : 0 ≤ r ∧ r < 19) : f_X10_numberOf r M = some (r - FR (LO r)) := by
  have h1 : 0 ≤ LO r ∧ LO r < 9 := by unfold LO; split <;> omega
  have h2 : FR (LO r) ≤ r ∧ 0 ≤ FR (LO r) := by unfold FR LO; split <;> omega
  unfold f_X10_numberOf
  exact si hr (si h1 (si (by omega) rfl))
theorem m3_T1 {n : Nat} {t : En} {T Y Z : List En} (h : hk (t :: T) ≤ hk Y ∧ hk (t :: T) ≤ hk Z) : m3 (n + 1) (t :: T) Y Z = t :: m3 n T Y Z := by
  rw [m3.eq_def]; dsimp only; rw [if_pos h]
theorem m3_Y1 {n : Nat} {y : En} {T Y Z : List En} (h : ¬ (hk T ≤ hk (y :: Y) ∧ hk T ≤ hk Z)) (h2 : hk (y :: Y) ≤ hk Z) : m3 (n + 1) T (y :: Y) Z = y :: m3 n T Y Z := by
  rw [m3.eq_def]; dsimp only; rw [if_neg h, if_pos h2]
theorem m3_Z1 {n : Nat} {z : En} {T Y Z : List En} (h : ¬ (hk T ≤ hk Y ∧ hk T ≤ hk (z :: Z))) (h2 : ¬ hk Y ≤ hk (z :: Z)) : m3 (n + 1) T Y (z :: Z) = z :: m3 n T Y Z := by
  rw [m3.eq_def]; dsimp only; rw [if_neg h, if_neg h2]
/-- the marks that are left of a row -/
def mR (st k y : Int) (L : List En) (p : Int) (n : Nat) : List En := if y = -1 then [] else mks st k y L p n
theorem mR_hd {M : fMem} {g : Int → Int} {st k y p : Int} {L : List En} {n : Nat} (hy : y = -1 ∨ (0 ≤ y ∧ y < 19 ∧ enC M g y L ∧ L.length ≤ rmE (lvR y).toNat)) (h0 : 0 ≤ p) (hst : 2 ≤ st) (hb : y ≠ -1 → (L.length : Int) ≤ p + st * n ∧ p + st * n ≤ L.length + st - 1) : f_X3_keyIn y p M = some (hk (mR st k y L p n)) := by
  unfold f_X3_keyIn mR
  by_cases q : y = -1
  · rw [if_pos q, if_pos q]; rfl
  · rw [if_neg q, if_neg q]
    obtain ⟨y0, y1, y2, y3⟩ := hy.resolve_left q
    refine si ⟨y0, y1⟩ (bc (c_ekeyAt y2 ⟨y0, y1⟩ y3 h0) ?_)
    cases n with
    | zero =>
      rw [mks, hk, gE_out (by have := (hb q).1; simp at this; omega)]
    | succ n => rw [mks, hk]
theorem c_weaveL {g : Int → Int} {p1 : Nat} {r y z st : Int} {Ly Lz : List En} {M0 : fMem} (hr : 0 ≤ r ∧ r < 19) (ho : okR g r) (hst : 2 ≤ st ∧ st ≤ 8) (hk1 : rowK p1 M0 g r) (hp1 : p1 + 2 < 151 ∨ 227 ≤ p1) (hyr : y ≠ r) (hzr : z ≠ r) (hy : y = -1 ∨ (0 ≤ y ∧ y < 19 ∧ enC M0 g y Ly ∧ Ly.length ≤ rmE (lvR y).toNat)) (hz : z = -1 ∨ (0 ≤ z ∧ z < 19 ∧ enC M0 g z Lz ∧ Lz.length ≤ rmE (lvR z).toNat)) (hly : okL Ly) (hlz : okL Lz) :
    ∀ (m n : Nat) (t yp zp all i : Int) (nt ny nz : Nat) (P : List En) (M : fMem), i + m = all → m < n → 0 ≤ t → t + nt = g (7600 + r) → 0 ≤ yp → yp < 2000 → 0 ≤ zp → zp < 2000 → (y ≠ -1 → (Ly.length : Int) ≤ yp + st * ny ∧ yp + st * ny ≤ Ly.length + st - 1) → (z ≠ -1 → (Lz.length : Int) ≤ zp + st * nz ∧ zp + st * nz ≤ Lz.length + st - 1) →
      (thg g r t nt).length + (mR st 0 y Ly yp ny).length + (mR st 1 z Lz zp nz).length = m → P.length + m ≤ rmE (lvR r).toNat → P.length + m < 1000 → enC M g r P → eFr r M0 M → 
      ∃ M1, L_X3_weave_41 (fun M_33 => some M_33) n p1 (eO r) y z st t yp zp all i M = some M1 ∧ enC M1 g r (P ++ m3 m (thg g r t nt) (mR st 0 y Ly yp ny) (mR st 1 z Lz zp nz)) ∧ eFr r M0 M1 := by
  have hrm := rmR_bd r
  have eb := eO_bd hr
  intro m
  induction m with
  | zero =>
    intro n t yp zp all i nt ny nz P M h1 hn t0 t1 y0 y1 z0 z1 hby hbz hlen hP hP2 he hf
    obtain ⟨n, rfl⟩ : ∃ n', n = n' + 1 := ⟨n - 1, by omega⟩
    refine ⟨M, ?_, by rw [m3, List.append_nil]; exact he, hf⟩
    rw [L_X3_weave_41]
    exact it (by omega) rfl
  | succ m ih =>
    intro n t yp zp all i nt ny nz P M h1 hn t0 t1 y0 y1 z0 z1 hby hbz hlen hP hP2 he hf
    obtain ⟨n, rfl⟩ : ∃ n', n = n' + 1 := ⟨n - 1, by omega⟩
    have rk : rowK p1 M g r := ⟨by rw [hf.1 p1 (by omega) (by omega) (by omega) (by omega)]; exact hk1.1, hk1.2.1, hk1.2.2.1, fun j j0 j1 => by rw [hf.1 (p1 + 1) (by omega) (by omega) (by omega) (by omega), hf.1 (p1 + 2) (by omega) (by omega) (by omega) (by omega)]; exact hk1.2.2.2 j j0 j1⟩
    have hy' : y = -1 ∨ (0 ≤ y ∧ y < 19 ∧ enC M g y Ly ∧ Ly.length ≤ rmE (lvR y).toNat) := by
      rcases hy with q | ⟨a, b, c, d⟩
      · exact Or.inl q
      · exact Or.inr ⟨a, b, enC_cg ⟨a, b⟩ hr hyr c hf, d⟩
    have hz' : z = -1 ∨ (0 ≤ z ∧ z < 19 ∧ enC M g z Lz ∧ Lz.length ≤ rmE (lvR z).toNat) := by
      rcases hz with q | ⟨a, b, c, d⟩
      · exact Or.inl q
      · exact Or.inr ⟨a, b, enC_cg ⟨a, b⟩ hr hzr c hf, d⟩
    have kT : f_X6_keyAt p1 t M = some (hk (thg g r t nt)) := by
      rw [k_keyAt rk t0]
      cases nt with
      | zero => rw [if_pos (by simp at t1; omega), thg, hk]
      | succ nt => rw [if_neg (by push_cast at t1; omega), thg, hk]
    have kY := mR_hd (k := 0) (n := ny) hy' y0 hst.1 hby
    have kZ := mR_hd (k := 1) (n := nz) hz' z0 hst.1 hbz
    have oT : okE 0 (thg g r t nt) := thg_ok ho _ _ t0 (by omega)
    have oY : okE 1 (mR st 0 y Ly yp ny) := by
      unfold mR
      split
      · exact ⟨List.Pairwise.nil, fun e he => by simp at he⟩
      · rename_i q; exact mks_ok hst.1 hly.1 hly.2 _ _ y0 (hby q).2
    have oZ : okE 2 (mR st 1 z Lz zp nz) := by
      unfold mR
      split
      · exact ⟨List.Pairwise.nil, fun e he => by simp at he⟩
      · rename_i q; exact mks_ok hst.1 hlz.1 hlz.2 _ _ z0 (hbz q).2
    rw [L_X3_weave_41]
    -- three ways on
    have goT : ∀ nt', nt = nt' + 1 → ∃ M1, ((f_X6_valueAt p1 t M).bind fun r29 => (f_X1_append (eO r) (hk (thg g r t nt)) r29 (-1) M).bind fun r30 => if -2147483648 ≤ t + 1 ∧ t + 1 < 2147483648 then L_X3_weave_41 (fun M_33 => some M_33) n p1 (eO r) y z st (t + 1) yp zp all (i + 1) r30 else none) = some M1 ∧ enC M1 g r (P ++ (g (200 * r + t), 0, t, -1) :: m3 m (thg g r (t + 1) nt') (mR st 0 y Ly yp ny) (mR st 1 z Lz zp nz)) ∧ eFr r M0 M1 := by
      intro nt' e
      subst e
      have vv := k_valueAt (i := t) rk ⟨t0, by push_cast at t1; omega⟩
      obtain ⟨M2, a1, a2, a3⟩ := c_eappend (e := (g (200 * r + t), 0, t, -1)) (v := g (3800 + 200 * r + t)) he hr (by omega) (by omega) (by unfold vE; rw [if_pos rfl])
      obtain ⟨M3, b1, b2, b3⟩ := ih n (t + 1) yp zp all (i + 1) nt' ny nz (P ++ [(g (200 * r + t), 0, t, -1)]) M2 (by push_cast at h1; omega) (by omega) (by omega) (by push_cast at t1; omega) y0 y1 z0 z1 hby hbz (by rw [thg, List.length_cons] at hlen; omega) (by simp; omega) (by simp; omega) a2 (eFr_tr hf a3)
      refine ⟨M3, ?_, by rw [List.append_assoc] at b2; exact b2, b3⟩
      refine bc vv ?_
      rw [show hk (thg g r t (nt' + 1)) = g (200 * r + t) from rfl]
      have hsz := ho.2.1
      exact bc a1 (si (by omega) b1)
    have goY : ∀ ny', ny = ny' + 1 → y ≠ -1 → ∃ M1, ((f_X10_numberOf y M).bind fun r15 => (f_X1_append (eO r) (hk (mR st 0 y Ly yp ny)) r15 yp M).bind fun r16 => if -2147483648 ≤ yp + st ∧ yp + st < 2147483648 then L_X3_weave_41 (fun M_33 => some M_33) n p1 (eO r) y z st t (yp + st) zp all (i + 1) r16 else none) = some M1 ∧ enC M1 g r (P ++ ((gE Ly yp).1, 1 + 0, y, yp) :: m3 m (thg g r t nt) (mR st 0 y Ly (yp + st) ny') (mR st 1 z Lz zp nz)) ∧ eFr r M0 M1 := by
      intro ny' e hq
      subst e
      obtain ⟨w0, w1, w2, w3⟩ := hy'.resolve_left hq
      have hm := mul_s st ny'
      have hmn : 0 ≤ st * (ny' : Int) := Int.mul_nonneg (by omega) (by omega)
      have hrE : rmE (lvR y).toNat ≤ 328 := by unfold rmE; split <;> omega
      have hbb := hby hq
      obtain ⟨M2, a1, a2, a3⟩ := c_eappend (e := ((gE Ly yp).1, 1 + 0, y, yp)) (v := y - FR (LO y)) he hr (by omega) (by omega) (by unfold vE; rw [if_neg (by simp)])
      obtain ⟨M3, b1, b2, b3⟩ := ih n t (yp + st) zp all (i + 1) nt ny' nz (P ++ [((gE Ly yp).1, 1 + 0, y, yp)]) M2 (by push_cast at h1; omega) (by omega) t0 t1 (by omega) (by omega) z0 z1 (fun _ => by omega) hbz (by unfold mR at hlen ⊢; rw [if_neg hq, mks, List.length_cons] at hlen; rw [if_neg hq]; omega) (by simp; omega) (by simp; omega) a2 (eFr_tr hf a3)
      refine ⟨M3, ?_, by rw [List.append_assoc] at b2; exact b2, b3⟩
      refine bc (FR_LO ⟨w0, w1⟩) ?_
      rw [show hk (mR st 0 y Ly yp (ny' + 1)) = (gE Ly yp).1 by unfold mR; rw [if_neg hq]; rfl]
      exact bc a1 (si (by omega) b1)
    have goZ : ∀ nz', nz = nz' + 1 → z ≠ -1 → ∃ M1, ((f_X10_numberOf z M).bind fun r15 => (f_X1_append (eO r) (hk (mR st 1 z Lz zp nz)) r15 zp M).bind fun r16 => if -2147483648 ≤ zp + st ∧ zp + st < 2147483648 then L_X3_weave_41 (fun M_33 => some M_33) n p1 (eO r) y z st t yp (zp + st) all (i + 1) r16 else none) = some M1 ∧ enC M1 g r (P ++ ((gE Lz zp).1, 1 + 1, z, zp) :: m3 m (thg g r t nt) (mR st 0 y Ly yp ny) (mR st 1 z Lz (zp + st) nz')) ∧ eFr r M0 M1 := by
      intro nz' e hq
      subst e
      obtain ⟨w0, w1, w2, w3⟩ := hz'.resolve_left hq
      have hm := mul_s st nz'
      have hmn : 0 ≤ st * (nz' : Int) := Int.mul_nonneg (by omega) (by omega)
      have hrE : rmE (lvR z).toNat ≤ 328 := by unfold rmE; split <;> omega
      have hbb := hbz hq
      obtain ⟨M2, a1, a2, a3⟩ := c_eappend (e := ((gE Lz zp).1, 1 + 1, z, zp)) (v := z - FR (LO z)) he hr (by omega) (by omega) (by unfold vE; rw [if_neg (by simp)])
      obtain ⟨M3, b1, b2, b3⟩ := ih n t yp (zp + st) all (i + 1) nt ny nz' (P ++ [((gE Lz zp).1, 1 + 1, z, zp)]) M2 (by push_cast at h1; omega) (by omega) t0 t1 y0 y1 (by omega) (by omega) hby (fun _ => by omega) (by unfold mR at hlen ⊢; rw [if_neg hq, mks, List.length_cons] at hlen; rw [if_neg hq]; omega) (by simp; omega) (by simp; omega) a2 (eFr_tr hf a3)
      refine ⟨M3, ?_, by rw [List.append_assoc] at b2; exact b2, b3⟩
      refine bc (FR_LO ⟨w0, w1⟩) ?_
      rw [show hk (mR st 1 z Lz zp (nz' + 1)) = (gE Lz zp).1 by unfold mR; rw [if_neg hq]; rfl]
      exact bc a1 (si (by omega) b1)
    by_cases cT : hk (thg g r t nt) ≤ hk (mR st 0 y Ly yp ny) ∧ hk (thg g r t nt) ≤ hk (mR st 1 z Lz zp nz)
    · have : ∃ nt', nt = nt' + 1 := by
        cases nt with
        | zero =>
          exfalso
          rw [thg, hk_n] at cT
          rw [hk_200 oY cT.1, hk_200 oZ cT.2, thg] at hlen
          simp at hlen
        | succ nt' => exact ⟨nt', rfl⟩
      obtain ⟨nt', ent⟩ := this
      obtain ⟨M1, b1, b2, b3⟩ := goT nt' ent
      refine ⟨M1, ?_, ?_, b3⟩
      · exact ie (by push_cast at h1; omega) (bc kT (bc kY (bc kZ (ie (by omega) (ie (by omega) b1)))))
      · subst ent
        have e1 : thg g r t (nt' + 1) = (g (200 * r + t), 0, t, -1) :: thg g r (t + 1) nt' := rfl
        rw [e1] at cT ⊢
        rw [m3_T1 cT]
        exact b2
    · by_cases cY : hk (mR st 0 y Ly yp ny) ≤ hk (mR st 1 z Lz zp nz)
      · have hne : y ≠ -1 ∧ ∃ ny', ny = ny' + 1 := by
          have nn : mR st 0 y Ly yp ny ≠ [] := by
            intro e
            rw [e, hk_n] at cY cT
            have := hk_200 oZ cY
            rw [this, hk_n] at cT
            cases nt with
            | zero => rw [thg, hk_n] at cT; omega
            | succ nt => have := hk_lt (e := (g (200 * r + t), 0, t, -1)) (L := thg g r (t + 1) nt) oT; rw [thg] at cT; omega
          refine ⟨fun q => nn (by unfold mR; rw [if_pos q]), ?_⟩
          cases ny with
          | zero => exact absurd (by unfold mR; split <;> rfl) nn
          | succ ny' => exact ⟨ny', rfl⟩
        obtain ⟨hq, ny', eny⟩ := hne
        obtain ⟨M1, b1, b2, b3⟩ := goY ny' eny hq
        refine ⟨M1, ?_, ?_, b3⟩
        · refine ie (by push_cast at h1; omega) (bc kT (bc kY (bc kZ ?_)))
          by_cases c1 : hk (mR st 0 y Ly yp ny) < hk (thg g r t nt)
          · exact it c1 (ie (by omega) b1)
          · exact ie c1 (it (by omega) (ie (by omega) b1))
        · subst eny
          have e1 : mR st 0 y Ly yp (ny' + 1) = ((gE Ly yp).1, 1 + 0, y, yp) :: mR st 0 y Ly (yp + st) ny' := by unfold mR; rw [if_neg hq, if_neg hq]; rfl
          rw [e1] at cT cY ⊢
          rw [m3_Y1 cT cY]
          exact b2
      · have hne : z ≠ -1 ∧ ∃ nz', nz = nz' + 1 := by
          have nn : mR st 1 z Lz zp nz ≠ [] := by
            intro e
            rw [e, hk_n] at cY
            cases hY : mR st 0 y Ly yp ny with
            | nil => rw [hY, hk_n] at cY; omega
            | cons a K => rw [hY] at oY cY; have := hk_lt oY; omega
          refine ⟨fun q => nn (by unfold mR; rw [if_pos q]), ?_⟩
          cases nz with
          | zero => exact absurd (by unfold mR; split <;> rfl) nn
          | succ nz' => exact ⟨nz', rfl⟩
        obtain ⟨hq, nz', enz⟩ := hne
        obtain ⟨M1, b1, b2, b3⟩ := goZ nz' enz hq
        refine ⟨M1, ?_, ?_, b3⟩
        · refine ie (by push_cast at h1; omega) (bc kT (bc kY (bc kZ ?_)))
          by_cases c1 : hk (mR st 0 y Ly yp ny) < hk (thg g r t nt)
          · exact it c1 (it (by omega) b1)
          · exact ie c1 (it (by omega) (it (by omega) b1))
        · subst enz
          have e1 : mR st 1 z Lz zp (nz' + 1) = ((gE Lz zp).1, 1 + 1, z, zp) :: mR st 1 z Lz (zp + st) nz' := by unfold mR; rw [if_neg hq, if_neg hq]; rfl
          rw [e1] at cT cY ⊢
          rw [m3_Z1 cT cY]
          exact b2
theorem mR_mk {st k y : Int} {L : List En} : mR st k y L (st - 1) (L.length / st.toNat) = mkL st k y L := rfl
theorem div_bd {st : Int} (hst : 2 ≤ st ∧ st ≤ 8) (n : Nat) : (n : Int) ≤ st - 1 + st * ((n / st.toNat : Nat) : Int) ∧ st - 1 + st * ((n / st.toNat : Nat) : Int) ≤ n + st - 1 := by
  have h1 : st.toNat * (n / st.toNat) ≤ n := Nat.mul_div_le _ _
  have h3 : n < st.toNat * (n / st.toNat) + st.toNat := by
    have := Nat.lt_mul_div_succ n (b := st.toNat) (by omega)
    rw [Nat.mul_add, Nat.mul_one] at this
    exact this
  have h2 : ((st.toNat * (n / st.toNat) : Nat) : Int) = st * ((n / st.toNat : Nat) : Int) := by
    rw [Int.natCast_mul, Int.toNat_of_nonneg (by omega)]
  omega
theorem c_marksIn {M : fMem} {g : Int → Int} {st y : Int} {L : List En} (hst : 2 ≤ st ∧ st ≤ 8) (hy : y = -1 ∨ (0 ≤ y ∧ y < 19 ∧ enC M g y L ∧ L.length ≤ rmE (lvR y).toNat)) (k : Int) : f_X3_marksIn y st M = some ((mkL st k y L).length : Int) := by
  unfold f_X3_marksIn mkL
  by_cases q : y = -1
  · rw [if_pos q, if_pos q]; rfl
  · rw [if_neg q, if_neg q, mks_len]
    obtain ⟨y0, y1, y2, y3⟩ := hy.resolve_left q
    have hrE : rmE (lvR y).toNat ≤ 328 := by unfold rmE; split <;> omega
    have e : M (4 * psO y.toNat + 151) 3 = L.length := y2.1
    rw [e]
    have hd : (L.length : Int) / st = ((L.length / st.toNat : Nat) : Int) := by
      rw [Int.natCast_ediv, Int.toNat_of_nonneg (by omega)]
    have hd2 : L.length / st.toNat ≤ L.length := Nat.div_le_self _ _
    rw [hd]
    generalize L.length / st.toNat = dd at *
    exact it (by omega) (si ⟨y0, y1⟩ (si (by omega) (si (by omega) (si (by omega) rfl))))
theorem c_weave {g : Int → Int} {p1 : Nat} {r y z st : Int} {Ly Lz : List En} {M : fMem} (hr : 0 ≤ r ∧ r < 19) (ho : okR g r) (hst : 2 ≤ st ∧ st ≤ 8) (hk1 : rowK p1 M g r) (hp1 : p1 + 2 < 151 ∨ 227 ≤ p1) (hyr : y ≠ r) (hzr : z ≠ r) (hy : y = -1 ∨ (0 ≤ y ∧ y < 19 ∧ enC M g y Ly ∧ Ly.length ≤ rmE (lvR y).toNat)) (hz : z = -1 ∨ (0 ≤ z ∧ z < 19 ∧ enC M g z Lz ∧ Lz.length ≤ rmE (lvR z).toNat)) (hly : okL Ly) (hlz : okL Lz) (he : enC M g r []) (hrm : (eW g r (mkL st 0 y Ly) (mkL st 1 z Lz)).length ≤ rmE (lvR r).toNat) :
    ∃ M1, f_X3_weave p1 (eO r) y z st M = some M1 ∧ enC M1 g r (eW g r (mkL st 0 y Ly) (mkL st 1 z Lz)) ∧ eFr r M M1 := by
  have hrE : rmE (lvR r).toNat ≤ 328 := by unfold rmE; split <;> omega
  have w := (eW_spec ho (mkL_ok (k := 0) (r := y) hst.1 hly.1 hly.2) (mkL_ok (k := 1) (r := z) hst.1 hlz.1 hlz.2)).2.2
  have tl := eT_len (g := g) (r := r) ho.2.1.1
  have hsz := ho.2.1
  obtain ⟨M1, b1, b2, b3⟩ := c_weaveL hr ho hst hk1 hp1 hyr hzr hy hz hly hlz ((eT g r).length + (mkL st 0 y Ly).length + (mkL st 1 z Lz).length) 20000 0 (st - 1) (st - 1) (g (7600 + r) + ((mkL st 0 y Ly).length : Int) + ((mkL st 1 z Lz).length : Int)) 0 (g (7600 + r)).toNat (Ly.length / st.toNat) (Lz.length / st.toNat) [] M (by push_cast; omega) (by omega) (by omega) (by omega) (by omega) (by omega) (by omega) (by omega) (fun _ => div_bd hst _) (fun _ => div_bd hst _) rfl (by simp; omega) (by simp; omega) he (eFr_rf r M)
  refine ⟨M1, ?_, b2, b3⟩
  unfold f_X3_weave
  refine bc (c_marksIn hst hy 0) (bc (c_marksIn hst hz 1) (si (by omega) ?_))
  rw [hk1.1]
  exact si (by omega) b1
end ENT3
