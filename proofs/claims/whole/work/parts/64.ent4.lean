/-! the class builds all entries -/
section ENT4
theorem E_eq {g : Int → Int} {l r : Int} (hl : 0 ≤ l ∧ l ≤ 8) (hr : 2 * l ≤ r ∧ r < ER l) : E g r = eN g (8 - l).toNat r := by unfold E; rw [lvR_of hl hr]
theorem E_no {g : Int → Int} {r : Int} (h : g (7619 + r) ≠ 2) : E g r = [] := by
  unfold E
  cases (8 - lvR r).toNat with
  | zero => unfold eN; rw [if_neg h]
  | succ d => unfold eN; rw [if_neg h]
theorem E_tn {g : Int → Int} {l r : Int} (hl : 0 ≤ l ∧ l ≤ 8) (hr : 2 * l ≤ r ∧ r < ER l) (h : g (7619 + r) = 2) (hq : l = 8 ∨ r ≠ bA g l 0) : E g r = eT g r := by
  rw [E_eq hl hr]
  by_cases h8 : l = 8
  · subst h8
    show eN g 0 r = _
    unfold eN; rw [if_pos h]
  · obtain ⟨d, hd⟩ : ∃ d, (8 - l).toNat = d + 1 := ⟨(8 - l).toNat - 1, by omega⟩
    rw [hd]
    unfold eN
    rw [if_pos h, if_neg]
    rw [show (7 : Int) - d = l by omega]
    rcases hq with q | q
    · exact absurd q h8
    · exact q
theorem E_ld {g : Int → Int} {l r : Int} (hv : okV g) (hl : 0 ≤ l ∧ l ≤ 7) (hr : 2 * l ≤ r ∧ r < ER l) (h : g (7619 + r) = 2) (hq : r = bA g l 0) : E g r = eW g r (mkL (g 7740) 0 (bA g (l + 1) 0) (E g (bA g (l + 1) 0))) (mkL (g 7740) 1 (bA g (l + 1) 1) (E g (bA g (l + 1) 1))) := by
  rw [E_eq ⟨hl.1, by omega⟩ hr]
  obtain ⟨d, hd⟩ : ∃ d, (8 - l).toNat = d + 1 := ⟨(8 - l).toNat - 1, by omega⟩
  rw [hd]
  unfold eN
  rw [if_pos h, if_pos (by rw [show (7 : Int) - d = l by omega]; exact hq), show (8 : Int) - d = l + 1 by omega]
  have key : ∀ k a, a = 0 ∨ a = 1 → mkL (g 7740) k (bA g (l + 1) a) (eN g d (bA g (l + 1) a)) = mkL (g 7740) k (bA g (l + 1) a) (E g (bA g (l + 1) a)) := by
    intro k a ha
    by_cases z : bA g (l + 1) a = -1
    · rw [z]; unfold mkL; rw [if_pos rfl, if_pos rfl]
    · have : 2 * (l + 1) ≤ bA g (l + 1) a ∧ bA g (l + 1) a < ER (l + 1) := by
        rcases lv_cs (g := g) (l := l + 1) (by omega) hv with ⟨a1, a2, a3, -⟩ | ⟨a1, a2, a3, -⟩ | ⟨a1, a2, a3, -⟩ <;> rcases ha with rfl | rfl <;> first | (exact absurd ‹_› z) | omega
      rw [E_eq (l := l + 1) (by omega) this, show (8 - (l + 1)).toNat = d by omega]
  rw [key 0 0 (Or.inl rfl), key 1 1 (Or.inr rfl)]
theorem lv_ex {r : Int} (hr : 0 ≤ r ∧ r < 19) : (0 ≤ lvR r ∧ lvR r ≤ 8) ∧ 2 * lvR r ≤ r ∧ r < ER (lvR r) := by
  unfold lvR ER; split
  · simp; omega
  · rw [if_neg (by omega)]; omega
theorem E_len {g : Int → Int} {r : Int} (hv : okV g) (hst : 2 ≤ g 7740) (hr : 0 ≤ r ∧ r < 19) : (E g r).length ≤ rmE (lvR r).toNat := by
  obtain ⟨a, b, c⟩ := lv_ex hr
  have := (eN_len hv hst (8 - lvR r).toNat (by omega) r (by omega) (by rw [show (8 : Int) - ((8 - lvR r).toNat : Int) = lvR r by omega]; exact c)).1
  rw [show 8 - (8 - lvR r).toNat = (lvR r).toNat by omega] at this
  exact this
theorem E_ok {g : Int → Int} {r : Int} (hv : okV g) (hst : 2 ≤ g 7740) (hr : r = -1 ∨ (0 ≤ r ∧ r < 19)) (h1 : r = -1 → g (7619 + r) ≠ 2) : okL (E g r) := by
  by_cases q : 0 ≤ r
  · exact eN_ok hv hst _ r (by have := lv_ex (r := r) (by omega); omega) hr h1
  · have : r = -1 := by omega
    rw [E_no (h1 this)]; exact ⟨List.Pairwise.nil, fun e he => by simp at he⟩
/-- the index holds all entries -/
def ixR (M : fMem) (g : Int → Int) : Prop := ∀ r, 0 ≤ r → r < 19 → enC M g r (E g r)
theorem c_buildR {M : fMem} {g : Int → Int} {l v : Int} (hR : RelV 2 M g) (hv : okV g) (hst : 2 ≤ g 7740 ∧ g 7740 ≤ 8) (hl : 0 ≤ l ∧ l ≤ 8) (h0 : 2 * l ≤ v ∧ v < ER l) (hi : ∀ r, 0 ≤ r → r < 19 → (ER l ≤ r ∨ (2 * l ≤ r ∧ r < v)) → enC M g r (E g r)) {k : Nat → Int → Int → fMem → Option fMem} {n : Nat} :
    ∃ M1, L_X3_build_21 k (n + 1) 2 (g 7740) l (bA g l 0) v M = L_X3_build_21 k n 2 (g 7740) l (bA g l 0) (v + 1) M1 ∧ enC M1 g v (E g v) ∧ eFr v M M1 := by
  have hE : ER l ≤ 19 := by unfold ER; split <;> omega
  have hv19 : 0 ≤ v ∧ v < 19 := by omega
  have eb := eO_bd hv19
  obtain ⟨N, a1, a2, a3⟩ := c_eclear (M := M) (g := g) (r := v)
  have hR1 : RelV 2 N g := RelV_cg hR (fun x x1 x2 => a3.1 x (by omega) (by omega) (by omega) (by omega))
  have hsh : f_X6_isShut (2 + 3 * v.toNat + 3) N = some (if g (7619 + v) = 2 then 1 else 0) := by
    unfold f_X6_isShut
    have := (hR1.1 v hv19.1 hv19.2).1
    by_cases q : g (7619 + v) = 2
    · rw [if_pos (this.mpr q), if_pos q]
    · rw [if_neg (fun z => q (this.mp z)), if_neg q]
  have a1' : f_X1_clear (4 * psO v.toNat + 151) M = some N := a1
  have lr := lvR_of hl h0
  have plain : (l = 8 ∨ v ≠ bA g l 0) → ∃ M1, ((f_X6_isShut (2 + 3 * v.toNat + 3) N).bind fun r12 => (if r12 = 0 then L_X3_build_21 k n 2 (g 7740) l (bA g l 0) (v + 1) N else ((f_X3_weave (2 + 3 * v.toNat + 3) (4 * psO v.toNat + 151) (-1) (-1) (g 7740) N).bind fun r16 => L_X3_build_21 k n 2 (g 7740) l (bA g l 0) (v + 1) r16))) = L_X3_build_21 k n 2 (g 7740) l (bA g l 0) (v + 1) M1 ∧ enC M1 g v (E g v) ∧ eFr v M M1 := by
    intro hq
    rw [hsh]
    by_cases q : g (7619 + v) = 2
    · have et := E_tn hl h0 q hq
      have ho := hv.1 v hv19.1 hv19.2 q
      have nl : ∀ k, mkL (g 7740) k (-1) ([] : List En) = [] := fun k => by unfold mkL; rw [if_pos rfl]
      have hlen := E_len (r := v) hv hst.1 hv19
      obtain ⟨M1, b1, b2, b3⟩ := c_weave (y := -1) (z := -1) (Ly := []) (Lz := []) hv19 ho hst (hR1.2 v hv19.1 hv19.2 q).1 (by omega) (by omega) (by omega) (Or.inl rfl) (Or.inl rfl) ⟨List.Pairwise.nil, fun e he => by simp at he⟩ ⟨List.Pairwise.nil, fun e he => by simp at he⟩ a2 (by rw [nl, nl, eW_nil ho, ← et]; exact hlen)
      rw [nl, nl, eW_nil ho] at b2
      refine ⟨M1, ?_, by rw [et]; exact b2, eFr_tr a3 b3⟩
      rw [if_pos q]
      exact bs fun x e => by subst e; rw [if_neg (by omega)]; exact bc b1 rfl
    · refine ⟨N, ?_, by rw [E_no q]; exact a2, a3⟩
      rw [if_neg q]
      exact bs fun x e => by subst e; rw [if_pos rfl]
  rw [L_X3_build_21, if_pos (by omega), if_neg (by omega), if_pos hv19]
  by_cases hq : v = bA g l 0
  · by_cases h8 : 8 ≤ l
    · obtain ⟨M1, b1, b2, b3⟩ := plain (Or.inl (by omega))
      exact ⟨M1, bc a1' (it hq (it h8 b1)), b2, b3⟩
    · have hsv : g (7619 + v) = 2 := by
        rcases lv_cs (g := g) hl hv with ⟨z1, z2, -⟩ | ⟨z1, z2, z3, z4, -⟩ | ⟨z1, z2, z3, z4, z5, -⟩
        · omega
        · rw [hq]; exact z4
        · rw [hq]; exact z5
      have ho := hv.1 v hv19.1 hv19.2 hsv
      have el := E_ld hv ⟨hl.1, by omega⟩ h0 hsv hq
      have hE1 : ER (l + 1) ≤ 19 := by unfold ER; split <;> omega
      obtain ⟨y0, y1⟩ := yB_bA (g := g) (l := l + 1) (by omega) hv.2.1 hv.2.2
      have er : ER l = 2 * (l + 1) := by rw [ER_n (by omega)]; omega
      have hb : ∀ a, a = 0 ∨ a = 1 → bA g (l + 1) a = -1 ∨ (2 * (l + 1) ≤ bA g (l + 1) a ∧ bA g (l + 1) a < ER (l + 1)) := by
        intro a ha
        rcases lv_cs (g := g) (l := l + 1) (by omega) hv with ⟨a1, a2, a3, -⟩ | ⟨a1, a2, a3, -⟩ | ⟨a1, a2, a3, -⟩ <;> rcases ha with rfl | rfl <;> omega
      have hen : ∀ a, a = 0 ∨ a = 1 → bA g (l + 1) a = -1 ∨ (0 ≤ bA g (l + 1) a ∧ bA g (l + 1) a < 19 ∧ enC N g (bA g (l + 1) a) (E g (bA g (l + 1) a)) ∧ (E g (bA g (l + 1) a)).length ≤ rmE (lvR (bA g (l + 1) a)).toNat) := by
        intro a ha
        rcases hb a ha with z | z
        · exact Or.inl z
        · exact Or.inr ⟨by omega, by omega, enC_cg ⟨by omega, by omega⟩ hv19 (by omega) (hi _ (by omega) (by omega) (Or.inl (by omega))) a3, E_len hv hst.1 ⟨by omega, by omega⟩⟩
      have hok : ∀ a, a = 0 ∨ a = 1 → okL (if bA g (l + 1) a = -1 then [] else E g (bA g (l + 1) a)) := by
        intro a ha
        split
        · exact ⟨List.Pairwise.nil, fun e he => by simp at he⟩
        · rename_i z
          exact E_ok hv hst.1 (by rcases hb a ha with w | w; exact absurd w z; right; omega) (fun w => absurd w z)
      have mke : ∀ k a, mkL (g 7740) k (bA g (l + 1) a) (if bA g (l + 1) a = -1 then [] else E g (bA g (l + 1) a)) = mkL (g 7740) k (bA g (l + 1) a) (E g (bA g (l + 1) a)) := by
        intro k a
        by_cases z : bA g (l + 1) a = -1
        · unfold mkL; rw [if_pos z, if_pos z]
        · rw [if_neg z]
      have hen' : ∀ a, a = 0 ∨ a = 1 → bA g (l + 1) a = -1 ∨ (0 ≤ bA g (l + 1) a ∧ bA g (l + 1) a < 19 ∧ enC N g (bA g (l + 1) a) (if bA g (l + 1) a = -1 then [] else E g (bA g (l + 1) a)) ∧ (if bA g (l + 1) a = -1 then [] else E g (bA g (l + 1) a)).length ≤ rmE (lvR (bA g (l + 1) a)).toNat) := by
        intro a ha
        rcases hen a ha with z | z
        · exact Or.inl z
        · right; rw [if_neg (by omega)]; exact z
      have hlen := E_len (r := v) hv hst.1 hv19
      obtain ⟨M1, b1, b2, b3⟩ := c_weave (y := bA g (l + 1) 0) (z := bA g (l + 1) 1) hv19 ho hst (hR1.2 v hv19.1 hv19.2 hsv).1 (by omega) (by rcases hb 0 (Or.inl rfl) with w | w <;> omega) (by rcases hb 1 (Or.inr rfl) with w | w <;> omega) (hen' 0 (Or.inl rfl)) (hen' 1 (Or.inr rfl)) (hok 0 (Or.inl rfl)) (hok 1 (Or.inr rfl)) a2 (by rw [mke, mke, ← el]; exact hlen)
      rw [mke, mke, ← el] at b2
      refine ⟨M1, ?_, b2, eFr_tr a3 b3⟩
      refine bc a1' (it hq (ie h8 ?_))
      have c1 : f_X7_leadOf 2 (l + 1) N = some (bA g (l + 1) 0) := by
        unfold f_X7_leadOf
        refine bc (c_youngestBut hR1.1 (by omega)) ?_
        rw [y0]
      have c2 : f_X7_youngestBut 2 (l + 1) (bA g (l + 1) 0) N = some (bA g (l + 1) 1) := by
        rw [c_youngestBut hR1.1 (by omega), y1]
      exact bc c1 (bc c2 (bc b1 rfl))
  · obtain ⟨M1, b1, b2, b3⟩ := plain (Or.inr hq)
    exact ⟨M1, bc a1' (ie hq b1), b2, b3⟩
theorem c_buildLv {g : Int → Int} {l : Int} (hv : okV g) (hst : 2 ≤ g 7740 ∧ g 7740 ≤ 8) (hl : 0 ≤ l ∧ l ≤ 8) {k : Nat → Int → Int → fMem → Option fMem} : ∀ (d n : Nat) (v : Int) (M : fMem), 2 * l ≤ v → v + d = ER l → d < n → RelV 2 M g → (∀ r, 0 ≤ r → r < 19 → (ER l ≤ r ∨ (2 * l ≤ r ∧ r < v)) → enC M g r (E g r)) →
    ∃ M1, L_X3_build_21 k n 2 (g 7740) l (bA g l 0) v M = k 2 (g 7740) l M1 ∧ (∀ r, 0 ≤ r → r < 19 → 2 * l ≤ r → enC M1 g r (E g r)) ∧ ∀ x, x < 151 ∨ 227 ≤ x → M1 x = M x := by
  have hE : ER l ≤ 19 := by unfold ER; split <;> omega
  intro d
  induction d with
  | zero =>
    intro n v M v0 v1 hn hR hi
    obtain ⟨n, rfl⟩ : ∃ n', n = n' + 1 := ⟨n - 1, by omega⟩
    refine ⟨M, ?_, fun r r0 r1 r2 => hi r r0 r1 (by omega), fun _ _ => rfl⟩
    rw [L_X3_build_21]
    exact si (by omega) (it (by omega) rfl)
  | succ d ih =>
    intro n v M v0 v1 hn hR hi
    obtain ⟨n, rfl⟩ : ∃ n', n = n' + 1 := ⟨n - 1, by omega⟩
    obtain ⟨N, a1, a2, a3⟩ := c_buildR (k := k) (n := n) hR hv hst hl (v := v) ⟨v0, by omega⟩ hi
    have eb := eO_bd (r := v) (by omega)
    have hf : ∀ x, x < 151 ∨ 227 ≤ x → N x = M x := fun x hx => a3.1 x (by omega) (by omega) (by omega) (by omega)
    obtain ⟨M1, b1, b2, b3⟩ := ih n (v + 1) N (by omega) (by omega) (by omega) (RelV_cg hR (fun x x1 x2 => hf x (by omega))) (fun r r0 r1 hr => by
      by_cases q : r = v
      · subst q; exact a2
      · exact enC_cg ⟨r0, r1⟩ ⟨by omega, by omega⟩ q (hi r r0 r1 (by omega)) a3)
    exact ⟨M1, by rw [a1, b1], b2, fun x hx => by rw [b3 x hx, hf x hx]⟩
theorem c_buildAll {g : Int → Int} (hv : okV g) (hst : 2 ≤ g 7740 ∧ g 7740 ≤ 8) : ∀ (d n : Nat) (v : Int) (M : fMem), v + 1 = d → d ≤ 9 → d < n → RelV 2 M g → (∀ r, 0 ≤ r → r < 19 → 2 * (v + 1) ≤ r → v < 8 → enC M g r (E g r)) →
    ∃ M1, L_X3_build_3 (fun M_34 => some M_34) n 2 (g 7740) v M = some M1 ∧ ixR M1 g ∧ ∀ x, x < 151 ∨ 227 ≤ x → M1 x = M x := by
  intro d
  induction d with
  | zero =>
    intro n v M v0 v1 hn hR hi
    obtain ⟨n, rfl⟩ : ∃ n', n = n' + 1 := ⟨n - 1, by omega⟩
    refine ⟨M, ?_, fun r r0 r1 => hi r r0 r1 (by omega) (by omega), fun _ _ => rfl⟩
    rw [L_X3_build_3]
    exact it (by omega) rfl
  | succ d ih =>
    intro n v M v0 v1 hn hR hi
    obtain ⟨n, rfl⟩ : ∃ n', n = n' + 1 := ⟨n - 1, by omega⟩
    have hl : 0 ≤ v ∧ v ≤ 8 := by omega
    have hE : 2 * v + 2 ≤ ER v ∧ ER v ≤ 2 * v + 3 ∧ ER v ≤ 19 := by unfold ER; split <;> omega
    obtain ⟨y0, y1⟩ := yB_bA (g := g) (l := v) hl hv.2.1 hv.2.2
    obtain ⟨N, a1, a2, a3⟩ := c_buildLv hv hst hl (k := fun w1_32 v2_32 v3_32 M_32 => (if -2147483648 ≤ v3_32 + -1 ∧ v3_32 + -1 < 2147483648 then L_X3_build_3 (fun M_34 => some M_34) n w1_32 v2_32 (v3_32 + -1) M_32 else none)) (ER v - 2 * v).toNat 20000 (2 * v) M (by omega) (by omega) (by omega) hR (fun r r0 r1 hr => by
      rcases hr with hr | hr
      · by_cases h8 : v = 8
        · subst h8; rw [ER_8] at hr; omega
        · exact hi r r0 r1 (by rw [ER_n h8] at hr; omega) (by omega)
      · omega)
    obtain ⟨M1, b1, b2, b3⟩ := ih n (v + -1) N (by omega) (by omega) (by omega) (RelV_cg hR (fun x x1 x2 => a3 x (by omega))) (fun r r0 r1 hr _ => a2 r r0 r1 (by omega))
    refine ⟨M1, ?_, b2, fun x hx => by rw [b3 x hx, a3 x hx]⟩
    rw [L_X3_build_3, if_neg (by omega)]
    have c1 : f_X7_leadOf 2 v M = some (bA g v 0) := by
      unfold f_X7_leadOf
      refine bc (c_youngestBut hR.1 hl) ?_
      rw [y0]
    refine bc c1 ?_
    rw [if_pos (by omega), show FR v = 2 * v from rfl, a1, if_pos (by omega)]
    exact b1
theorem c_build {M : fMem} {g : Int → Int} (hv : okV g) (hst : 2 ≤ g 7740 ∧ g 7740 ≤ 8) (hR : RelV 2 M g) : ∃ M1, f_X3_build 2 (g 7740) M = some M1 ∧ ixR M1 g ∧ ∀ x, x < 151 ∨ 227 ≤ x → M1 x = M x := by
  unfold f_X3_build
  exact c_buildAll hv hst 9 20000 8 M (by omega) (by omega) (by omega) hR (fun r r0 r1 hr h8 => by omega)
/-- the index is fresh -/
def idxR (M : fMem) (g : Int → Int) : Prop := ixR M g ∧ ordAt 2 M 0 (ordL g)
theorem c_refresh {M : fMem} {g : Int → Int} (hv : okV g) (hst : 2 ≤ g 7740 ∧ g 7740 ≤ 8) (hR : RelV 2 M g) (hs : M 0 10 = g 7740) (hi : M 0 11 = 0 → idxR M g) : ∃ M1, f_X10_refresh M = some M1 ∧ idxR M1 g ∧ M1 0 11 = 0 ∧ (∀ i, i ≠ 11 → M1 0 i = M 0 i) ∧ (∀ j, j ≠ 2 → M1 2 j = M 2 j) ∧ ∀ x, x ≠ 0 → x ≠ 2 → x ≠ 4 → (x < 151 ∨ 227 ≤ x) → M1 x = M x := by
  unfold f_X10_refresh
  by_cases q : M 0 11 = 0
  · exact ⟨M, it q rfl, hi q, q, fun _ _ => rfl, fun _ _ => rfl, fun _ _ _ _ _ => rfl⟩
  · obtain ⟨N, a1, a2, a3⟩ := c_arrange hR.1 hv
    have hR1 : RelV 2 N g := RelV_cg hR (fun x x1 x2 => a3.2 x (by omega) (by omega))
    obtain ⟨N2, b1, b2, b3⟩ := c_build hv hst hR1
    refine ⟨mset N2 0 11 0, ?_, ⟨fun r r0 r1 => ?_, ?_⟩, mset_self _ _ _ _, fun i hi => ?_, fun j hj => ?_, fun x x1 x2 x3 x4 => ?_⟩
    · refine ie q (bc a1 ?_)
      dsimp only
      rw [a3.2 0 (by omega) (by omega), hs]
      exact bc b1 rfl
    · have eb := eO_bd (r := r) ⟨r0, r1⟩
      obtain ⟨c1, c2, c3⟩ := b2 r r0 r1
      refine ⟨by rw [mset_ne (by omega)]; exact c1, by rw [mset_ne (by omega)]; exact c2, fun j e he => ?_⟩
      rw [mset_ne (by omega), mset_ne (by omega), mset_ne (by omega)]; exact c3 j e he
    · refine ⟨?_, fun j x hx => ?_⟩
      · rw [mset_ne (by omega), b3 2 (by omega)]; exact a2.1
      · rw [mset_ne (by omega), b3 (2 + 2) (by omega)]; exact a2.2 j x hx
    · rw [mset_slot hi, b3 0 (by omega), a3.2 0 (by omega) (by omega)]
    · rw [mset_ne (by omega), b3 2 (by omega), a3.1 j hj]
    · rw [mset_ne x1, b3 x x4, a3.2 x x2 x3]
end ENT4
