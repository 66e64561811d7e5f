/-! the reference's way -/
section SEA4
noncomputable def bdX (g : Int → Int) (a κ r : Int) : Int × Int := if a = 0 then bdL g κ r (lvR r).toNat else (0, (eP g r).length)
noncomputable def faX (g : Int → Int) (a κ r : Int) : Int × Int := bsr (kf (eA g a r)) κ 40 (bdX g a κ r).1 (bdX g a κ r).2
noncomputable def lkX (g : Int → Int) (a κ r : Int) : Int := (faX g a κ r).2 + (if ((eA g a r).length : Int) ≤ (faX g a κ r).1 then 0 else 1)
noncomputable def fdX (g : Int → Int) (a κ r : Int) : Int := if (faX g a κ r).1 < (eA g a r).length ∧ (gE (eA g a r) (faX g a κ r).1).1 = κ ∧ (gE (eA g a r) (faX g a κ r).1).2.1 = 0 then 1 else 0
noncomputable def viX (g : Int → Int) (a κ : Int) : List Int → List Int
  | [] => []
  | r :: xs => r :: (if fdX g a κ r = 0 then viX g a κ xs else [])
theorem eA_len {g : Int → Int} {a r : Int} (hv : okV g) (hst : 2 ≤ g 7740 ∧ g 7740 ≤ 8) (hr : 0 ≤ r ∧ r < 19) : (eA g a r).length ≤ 328 := by
  unfold eA
  split
  · have := E_len (r := r) hv hst.1 hr
    have : rmE (lvR r).toNat ≤ 328 := by unfold rmE; split <;> omega
    omega
  · have := eP_len (r := r) hv hr; omega
theorem bdX_bd {g : Int → Int} {a κ r : Int} (hv : okV g) (hst : 2 ≤ g 7740 ∧ g 7740 ≤ 8) (hr : 0 ≤ r ∧ r < 19) : (0 ≤ (bdX g a κ r).1 ∧ (bdX g a κ r).1 ≤ (eA g a r).length) ∧ 0 ≤ (bdX g a κ r).2 ∧ (bdX g a κ r).2 ≤ (eA g a r).length := by
  unfold bdX eA
  split
  · exact (bd_bd (κ := κ) hv hst (lvR r).toNat (by have := lv_ex hr; omega)).1 r
  · dsimp only; omega
theorem faX_bd {g : Int → Int} {a κ r : Int} (hv : okV g) (hst : 2 ≤ g 7740 ∧ g 7740 ≤ 8) (hr : 0 ≤ r ∧ r < 19) : (0 ≤ (faX g a κ r).1 ∧ (faX g a κ r).1 ≤ (eA g a r).length) ∧ (0 ≤ (faX g a κ r).2 ∧ (faX g a κ r).2 ≤ 40) ∧ 0 ≤ lkX g a κ r ∧ lkX g a κ r ≤ 41 := by
  have h := bdX_bd (a := a) (κ := κ) hv hst hr
  have b := bsr_bd (f := kf (eA g a r)) (κ := κ) 40 (bdX g a κ r).1 (bdX g a κ r).2 h.1.1
  unfold lkX faX
  refine ⟨by omega, by omega, ?_⟩
  split <;> omega
theorem enR_at {M : fMem} {r i : Int} {L : List En} (h : enR M r L) (hi : 0 ≤ i ∧ i < L.length) : enP M (700 * r + i) (gE L i) := by
  have := h.2 i.toNat (gE L i) (gE_get hi)
  rw [show ((i.toNat : Nat) : Int) = i by omega] at this
  exact this
theorem r_isMark {M : fMem} {ld r i : Int} {L : List En} (h : enR M ld L) (hld : 0 ≤ ld ∧ ld < 19) (hL : L.length ≤ 700) (hi : 0 ≤ i ∧ i < L.length) : (isMk (gE L i) r → f_X11_isMark ld i r M = some 1) ∧ (¬ isMk (gE L i) r → f_X11_isMark ld i r M = some 0) := by
  obtain ⟨a1, a2, a3, a4⟩ := enR_at h hi
  unfold f_X11_isMark isMk
  rw [a2, a3, if_pos (by omega)]
  refine ⟨fun w => ?_, fun w => ?_⟩
  · rw [if_neg (by omega), if_pos w.2]
  · by_cases c : (gE L i).2.1 ≤ 0
    · rw [if_pos c]
    · rw [if_neg c, if_neg (fun z => w ⟨by omega, z⟩)]
/-- slots of the reference's own fields alone change -/
def oF (M M1 : fMem) (S : Int → Prop) : Prop := (∀ x, x ≠ 418 → M1 x = M x) ∧ ∀ i, ¬ S i → M1 418 i = M 418 i
theorem r_bounds {M : fMem} {g : Int → Int} {a κ r ld fell : Int} (hv : okV g) (hst : 2 ≤ g 7740 ∧ g 7740 ≤ 8) (ha : a = 0 ∨ a = 1) (h13 : M 418 13 = a) (he : ∀ q, 0 ≤ q → q < 19 → enR M q (eA g a q)) (hr : 0 ≤ r ∧ r < 19)
    (hl : a = 0 → (lvR r = 0 ∧ ld = -1) ∨ ∃ l : Nat, lvR r = l + 1 ∧ ld = bA g l 0 ∧ (ld ≠ -1 → fell = fLd g κ l)) : ∃ M1, f_X11_bounds r ld fell M = some M1 ∧ M1 418 14 = (bdX g a κ r).1 ∧ M1 418 15 = (bdX g a κ r).2 ∧ oF M M1 (fun i => i = 14 ∨ i = 15) := by
  have h9 : M 429 r = (eA g a r).length := (he r hr.1 hr.2).1
  generalize hN : mset (mset M 418 14 0) 418 15 ((eA g a r).length : Int) = N
  have n14 : N 418 14 = 0 := by rw [← hN, mset_slot (by omega), mset_self]
  have n15 : N 418 15 = (eA g a r).length := by rw [← hN, mset_self]
  have nF : oF M N (fun i => i = 14 ∨ i = 15) := ⟨fun x hx => by rw [← hN, mset_ne hx, mset_ne hx], fun i hi => by rw [← hN, mset_slot (by omega), mset_slot (by omega)]⟩
  have n13 : N 418 13 = a := by rw [nF.2 13 (by omega), h13]
  have start : ∀ (P : Option fMem) M1, P = some M1 → (if ld = -1 then some N else (if N 418 13 = 0 then L_X11_bounds_31 (fun (v1_12 : Int) (v2_12 : Int) (v3_12 : Int) (M_12 : fMem) => (if 0 ≤ v2_12 ∧ v2_12 < 19 then (if -2147483648 ≤ (M_12 429 v2_12) - 1 ∧ (M_12 429 v2_12) - 1 < 2147483648 then L_X11_bounds_83 (fun (M_22 : fMem) => some M_22) 20000 v1_12 v2_12 v3_12 ((M_12 429 v2_12) - 1) M_12 else none) else none)) 20000 r ld fell 0 N else some N)) = P → f_X11_bounds r ld fell M = some M1 := by
    intro P M1 hP h
    unfold f_X11_bounds
    refine bs fun N1 e1 => si hr ?_
    have : N1 429 r = (eA g a r).length := by rw [e1, mset_ne (by omega), h9]
    rw [this]
    refine bs fun N2 e2 => ?_
    rw [e1, hN] at e2
    rw [e2, ← hP]; exact h
  rcases ha with rfl | rfl
  · have eb : bdX g 0 κ r = bdL g κ r (lvR r).toNat := by unfold bdX; rw [if_pos rfl]
    have ea : ∀ q, eA g 0 q = E g q := fun q => by unfold eA; rw [if_pos rfl]
    rw [eb]
    rw [ea] at n15
    rcases hl rfl with ⟨l0, l1⟩ | ⟨l, l0, l1, l2⟩
    · refine ⟨N, start _ N rfl (it l1 rfl), ?_, ?_, nF⟩
      · rw [l0, n14]; rfl
      · rw [l0, n15]; rfl
    · have hlt : (lvR r).toNat = l + 1 := by omega
      have be : bdL g κ r (l + 1) = if bA g l 0 = -1 then (0, ((E g r).length : Int)) else (lowB (E g (bA g l 0)) r (fLd g κ l), higB (E g (bA g l 0)) r (fLd g κ l) (E g r).length) := rfl
      rw [hlt, be]
      by_cases q : ld = -1
      · rw [if_pos (by rw [← l1]; exact q)]
        exact ⟨N, start _ N rfl (it q rfl), n14, n15, nF⟩
      · rw [if_neg (by rw [← l1]; exact q), ← l1, ← l2 q]
        have fe := l2 q
        have x := lv_ex hr
        have hin : 2 * (l : Int) ≤ ld ∧ ld < ER l := by
          rw [l1] at q ⊢
          rcases lv_cs (g := g) (l := (l : Int)) (by omega) hv with ⟨a1, a2, a3, -⟩ | ⟨a1, a2, a3, -⟩ | ⟨a1, a2, a3, -⟩ <;> first | (exact absurd ‹_› q) | omega
        have hEl : ER (l : Int) ≤ 19 := by unfold ER; split <;> omega
        have hld : 0 ≤ ld ∧ ld < 19 := by omega
        have hm := E_mk hv hst (l := (l : Int)) (by omega) hin
        have bb := (bd_bd (κ := κ) hv hst l (by omega)).2
        rw [← l1, ← fe] at bb
        have hlen := eA_len (a := 0) (r := ld) hv hst hld
        rw [ea] at hlen
        generalize hL : E g ld = L at *
        have enL : ∀ K : fMem, (∀ x, x ≠ 418 → K x = M x) → enR K ld L := by
          intro K hK
          have := he ld hld.1 hld.2
          rw [ea, hL] at this
          refine ⟨by rw [hK _ (by omega)]; exact this.1, fun j e hj => ?_⟩
          obtain ⟨c1, c2, c3, c4⟩ := this.2 j e hj
          exact ⟨by rw [hK _ (by omega)]; exact c1, by rw [hK _ (by omega)]; exact c2, by rw [hK _ (by omega)]; exact c3, by rw [hK _ (by omega)]; exact c4⟩
        have pb : ∀ i : Int, 0 ≤ i → i < L.length → isMk (gE L i) r → 0 ≤ (gE L i).2.2.2 ∧ (gE L i).2.2.2 < (E g r).length := by
          intro i i0 i1 hi
          rcases hm _ (gE_mem ⟨i0, i1⟩) with z | ⟨z1, z2, z3, -⟩
          · have := hi.1; omega
          · rw [hi.2] at z3; exact ⟨z2, z3⟩
        have hlr := eA_len (a := 0) (r := r) hv hst hr
        rw [ea] at hlr
        -- up to where it fell
        have up : ∀ (d n i : Nat) (K : fMem) (k : Int → Int → Int → fMem → Option fMem), (i : Int) + d = fell → d < n → oF M K (fun i => i = 14 ∨ i = 15) → K 418 14 = (if lMk L r i = -1 then 0 else lMk L r i + 1) → K 418 15 = (E g r).length → ∃ M1, L_X11_bounds_31 k n r ld fell i K = k r ld fell M1 ∧ oF M M1 (fun i => i = 14 ∨ i = 15) ∧ M1 418 14 = lowB L r fell ∧ M1 418 15 = (E g r).length := by
          intro d
          induction d with
          | zero =>
            intro n i K k h1 hn hF h14 h15
            obtain ⟨n, rfl⟩ : ∃ n', n = n' + 1 := ⟨n - 1, by omega⟩
            refine ⟨K, ?_, hF, ?_, h15⟩
            · rw [L_X11_bounds_31]; exact it (by omega) rfl
            · rw [h14]; unfold lowB; rw [show fell.toNat = i by omega]
          | succ d ih =>
            intro n i K k h1 hn hF h14 h15
            obtain ⟨n, rfl⟩ : ∃ n', n = n' + 1 := ⟨n - 1, by omega⟩
            have im := r_isMark (r := r) (i := (i : Int)) (enL K hF.1) hld (by omega) (by omega)
            have sl : lMk L r (i + 1) = @ite _ (isMk (gE L i) r) (Classical.propDecidable _) (gE L i).2.2.2 (lMk L r i) := rfl
            rw [L_X11_bounds_31, if_neg (by omega)]
            by_cases c : isMk (gE L i) r
            · have pp := pb i (by omega) (by omega) c
              rw [if_pos c] at sl
              obtain ⟨a1, a2, a3, a4⟩ := enR_at (i := (i : Int)) (enL K hF.1) (by omega)
              obtain ⟨M1, b1, b2⟩ := ih n (i + 1) (mset K 418 14 ((gE L i).2.2.2 + 1)) k (by push_cast; omega) (by omega) ⟨fun x hx => by rw [mset_ne hx, hF.1 x hx], fun j hj => by rw [mset_slot (by omega), hF.2 j hj]⟩ (by rw [mset_self, sl, if_neg (by omega)]) (by rw [mset_slot (by omega), h15])
              refine ⟨M1, ?_, b2⟩
              refine bc (im.1 c) (ie (by omega) (si (by omega) ?_))
              rw [a4]
              refine si (by omega) (bs fun x e => ?_)
              subst e
              rw [show (i : Int) + 1 = ((i + 1 : Nat) : Int) by push_cast; rfl]
              exact b1
            · rw [if_neg c] at sl
              obtain ⟨M1, b1, b2⟩ := ih n (i + 1) K k (by push_cast; omega) (by omega) hF (by rw [h14, sl]) h15
              refine ⟨M1, ?_, b2⟩
              refine bc (im.2 c) (it rfl ?_)
              rw [show (i : Int) + 1 = ((i + 1 : Nat) : Int) by push_cast; rfl]
              exact b1
        have dn : ∀ (d n : Nat) (j : Int) (K : fMem), fell ≤ j → j - fell = d → j ≤ L.length → d < n → oF M K (fun i => i = 14 ∨ i = 15) → K 418 14 = lowB L r fell → K 418 15 = (if fMk L r j (L.length - j.toNat) = -1 then ((E g r).length : Int) else fMk L r j (L.length - j.toNat)) → ∃ M1, L_X11_bounds_83 (fun M_22 => some M_22) n r ld fell (j - 1) K = some M1 ∧ oF M M1 (fun i => i = 14 ∨ i = 15) ∧ M1 418 14 = lowB L r fell ∧ M1 418 15 = higB L r fell (E g r).length := by
          intro d
          induction d with
          | zero =>
            intro n j K h1 h2 h3 hn hF h14 h15
            obtain ⟨n, rfl⟩ : ∃ n', n = n' + 1 := ⟨n - 1, by omega⟩
            have : j = fell := by omega
            subst this
            refine ⟨K, ?_, hF, h14, h15⟩
            rw [L_X11_bounds_83]; exact it (by omega) rfl
          | succ d ih =>
            intro n j K h1 h2 h3 hn hF h14 h15
            obtain ⟨n, rfl⟩ : ∃ n', n = n' + 1 := ⟨n - 1, by omega⟩
            have im := r_isMark (r := r) (i := j - 1) (enL K hF.1) hld (by omega) (by omega)
            have sl : fMk L r (j - 1) (L.length - (j - 1).toNat) = @ite _ (isMk (gE L (j - 1)) r) (Classical.propDecidable _) (gE L (j - 1)).2.2.2 (fMk L r j (L.length - j.toNat)) := by
              rw [show L.length - (j - 1).toNat = (L.length - j.toNat) + 1 by omega, fMk, show j - 1 + 1 = j by omega]
            rw [L_X11_bounds_83, if_neg (by omega)]
            by_cases c : isMk (gE L (j - 1)) r
            · have pp := pb (j - 1) (by omega) (by omega) c
              rw [if_pos c] at sl
              obtain ⟨a1, a2, a3, a4⟩ := enR_at (i := j - 1) (enL K hF.1) (by omega)
              obtain ⟨M1, b1, b2⟩ := ih n (j - 1) (mset K 418 15 (gE L (j - 1)).2.2.2) (by omega) (by omega) (by omega) (by omega) ⟨fun x hx => by rw [mset_ne hx, hF.1 x hx], fun i hi => by rw [mset_slot (by omega), hF.2 i hi]⟩ (by rw [mset_slot (by omega), h14]) (by rw [mset_self, sl, if_neg (by omega)])
              refine ⟨M1, ?_, b2⟩
              refine bc (im.1 c) (ie (by omega) (si (by omega) (bs fun x e => ?_)))
              rw [a4] at e
              subst e
              exact si (by omega) b1
            · rw [if_neg c] at sl
              obtain ⟨M1, b1, b2⟩ := ih n (j - 1) K (by omega) (by omega) (by omega) (by omega) hF h14 (by rw [h15, sl])
              refine ⟨M1, ?_, b2⟩
              exact bc (im.2 c) (it rfl (si (by omega) b1))
        obtain ⟨K1, u1, u2, u3, u4⟩ := up fell.toNat 20000 0 N (fun (v1_12 : Int) (v2_12 : Int) (v3_12 : Int) (M_12 : fMem) => (if 0 ≤ v2_12 ∧ v2_12 < 19 then (if -2147483648 ≤ (M_12 429 v2_12) - 1 ∧ (M_12 429 v2_12) - 1 < 2147483648 then L_X11_bounds_83 (fun (M_22 : fMem) => some M_22) 20000 v1_12 v2_12 v3_12 ((M_12 429 v2_12) - 1) M_12 else none) else none)) (by omega) (by omega) nF (by rw [n14]; rfl) n15
        have k9 : K1 429 ld = L.length := (enL K1 u2.1).1
        obtain ⟨M1, w1, w2, w3, w4⟩ := dn (L.length - fell.toNat) 20000 L.length K1 (by omega) (by omega) (by omega) (by omega) u2 u3 (by rw [u4, show L.length - (L.length : Int).toNat = 0 by omega]; rfl)
        refine ⟨M1, start _ M1 w1 ?_, w3, w4, w2⟩
        rw [n13]
        refine ie q (it rfl ?_)
        rw [show ((0 : Nat) : Int) = 0 from rfl] at u1
        rw [u1, if_pos hld, k9, if_pos (by omega)]
  · refine ⟨N, start _ N rfl ?_, ?_, ?_, nF⟩
    · by_cases q : ld = -1
      · exact it q rfl
      · rw [n13]; exact ie q (ie (by omega) rfl)
    · rw [n14]; unfold bdX; rw [if_neg (by omega)]
    · rw [n15]; unfold bdX eA; rw [if_neg (by omega), if_neg (by omega)]
theorem r_fallsIn {M : fMem} {g : Int → Int} {a κ r : Int} (hv : okV g) (hst : 2 ≤ g 7740 ∧ g 7740 ≤ 8) (he : enR M r (eA g a r)) (hr : 0 ≤ r ∧ r < 19) (h14 : M 418 14 = (bdX g a κ r).1) (h15 : M 418 15 = (bdX g a κ r).2) (b16 : 0 ≤ M 418 16 ∧ M 418 16 < 900000) : f_X11_fallsIn r κ M = some ((faX g a κ r).1, mset M 418 16 (M 418 16 + (faX g a κ r).2)) := by
  have bd := bdX_bd (a := a) (κ := κ) hv hst hr
  have hlen := eA_len (a := a) (r := r) hv hst hr
  unfold f_X11_fallsIn
  rw [h14, h15, r_fallsL (f := kf (eA g a r)) hr 40 20000 _ _ M bd.1.1 (by omega) (by omega) (by omega) (by omega) b16.1 (by omega) (fun i i0 i1 => (enR_at he ⟨i0, by omega⟩).1) (by omega)]
  rfl
end SEA4
