/-! the class's way to a key -/
section SEA2
theorem gE_get {L : List En} {i : Int} (h : 0 ≤ i ∧ i < L.length) : L[i.toNat]? = some (gE L i) := by
  unfold gE
  have : i.toNat < L.length := by omega
  rw [List.getElem?_eq_getElem this]; rfl
theorem enC_at {M : fMem} {g : Int → Int} {r i : Int} {L : List En} (h : enC M g r L) (hi : 0 ≤ i ∧ i < L.length) : M (eO r + 1) i = (gE L i).1 ∧ M (eO r + 2) i = vE g r (gE L i) ∧ M (eO r + 3) i = (gE L i).2.2.2 := by
  have := h.2.2 i.toNat (gE L i) (gE_get hi)
  rw [show ((i.toNat : Nat) : Int) = i by omega] at this
  exact this
theorem num_eq {l r q : Int} (hl : 0 ≤ l ∧ l ≤ 8) (hr : 2 * l ≤ r ∧ r < ER l) (hq : 2 * l ≤ q ∧ q < ER l) : (q - FR (LO q) = r - FR (LO r)) ↔ q = r := by
  have a : LO r = l := lvR_of hl hr
  have b : LO q = l := lvR_of hl hq
  rw [a, b]; constructor <;> intro h <;> omega
theorem mk_iff {M : fMem} {g : Int → Int} {l ld r i : Int} {L : List En} (h : enC M g ld L) (hm : okM2 g l L) (hl : 0 ≤ l ∧ l ≤ 7) (hr : 2 * (l + 1) ≤ r ∧ r < ER (l + 1)) (hi : 0 ≤ i ∧ i < L.length) : (M (eO ld + 3) i ≠ -1 ∧ M (eO ld + 2) i = r - FR (LO r)) ↔ isMk (gE L i) r := by
  obtain ⟨a1, a2, a3⟩ := enC_at h hi
  rw [a2, a3]
  unfold vE isMk
  rcases hm _ (gE_mem hi) with ⟨z1, z2⟩ | ⟨z1, z2, z3, z4, z5, z6⟩
  · constructor
    · intro w; exact absurd z2 w.1
    · intro w; omega
  · rw [if_neg (by omega), num_eq (l := l + 1) (by omega) hr ⟨z4, z5⟩]
    constructor
    · intro w; exact ⟨z1, w.2⟩
    · intro w; exact ⟨by omega, w.2⟩
theorem c_lastMark {M : fMem} {g : Int → Int} {l ld r fell : Int} {L : List En} (h : enC M g ld L) (hm : okM2 g l L) (hl : 0 ≤ l ∧ l ≤ 7) (hr : 2 * (l + 1) ≤ r ∧ r < ER (l + 1)) (hld : 0 ≤ ld ∧ ld < 19) (hL : L.length ≤ rmE (lvR ld).toNat) (hf : 0 ≤ fell ∧ fell ≤ L.length) : f_X1_lastMark (eO ld) (r - FR (LO r)) fell M = some (lMk L r fell.toNat) := by
  obtain ⟨l1, l2, l3⟩ := Ln_eO hld
  have hE : rmE (lvR ld).toNat ≤ 328 := by unfold rmE; split <;> omega
  have key : ∀ (n m : Nat), n ≤ L.length → n < m → L_X1_lastMark_11 (eO ld) M (some (-1)) m (r - FR (LO r)) ((n : Int) - 1) = some (lMk L r n) := by
    intro n
    induction n with
    | zero =>
      intro m hn hmm
      obtain ⟨m, rfl⟩ : ∃ m', m = m' + 1 := ⟨m - 1, by omega⟩
      rw [L_X1_lastMark_11, if_pos (by simp), lMk]
    | succ n ih =>
      intro m hn hmm
      obtain ⟨m, rfl⟩ : ∃ m', m = m' + 1 := ⟨m - 1, by omega⟩
      have e : ((n + 1 : Nat) : Int) - 1 = (n : Int) := by push_cast; omega
      have mi := mk_iff (i := (n : Int)) h hm hl hr (by omega)
      have a3 := (enC_at (i := (n : Int)) h (by omega)).2.2
      have hi := ih m (by omega) (by omega)
      rw [show (n : Int) - 1 = (n : Int) + -1 by omega] at hi
      rw [L_X1_lastMark_11, e, if_neg (by omega), l3, l2, if_pos (by omega), lMk]
      by_cases q : M (eO ld + 3) n = -1
      · rw [if_pos q, hi, if_neg (fun z => (mi.mpr z).1 q)]
      · rw [if_neg q, if_pos (by omega)]
        by_cases q2 : M (eO ld + 2) n = r - FR (LO r)
        · rw [if_pos q2, if_pos (mi.mp ⟨q, q2⟩), a3]
        · rw [if_neg q2, hi, if_neg (fun z => q2 (mi.mpr z).2)]
  unfold f_X1_lastMark
  rw [h.1, show min fell (L.length : Int) = fell by omega]
  refine si (by omega) ?_
  have := key fell.toNat 20000 (by omega) (by omega)
  rw [show ((fell.toNat : Nat) : Int) = fell by omega] at this
  exact this
theorem c_firstMark {M : fMem} {g : Int → Int} {l ld r fell : Int} {L : List En} (h : enC M g ld L) (hm : okM2 g l L) (hl : 0 ≤ l ∧ l ≤ 7) (hr : 2 * (l + 1) ≤ r ∧ r < ER (l + 1)) (hld : 0 ≤ ld ∧ ld < 19) (hL : L.length ≤ rmE (lvR ld).toNat) (hf : 0 ≤ fell ∧ fell ≤ L.length) : f_X1_firstMark (eO ld) (r - FR (LO r)) fell M = some (fMk L r fell (L.length - fell.toNat)) := by
  obtain ⟨l1, l2, l3⟩ := Ln_eO hld
  have hE : rmE (lvR ld).toNat ≤ 328 := by unfold rmE; split <;> omega
  have key : ∀ (d m : Nat) (i : Int), 0 ≤ i → i + d = L.length → d < m → L_X1_firstMark_6 (eO ld) M (some (-1)) m (r - FR (LO r)) i = some (fMk L r i d) := by
    intro d
    induction d with
    | zero =>
      intro m i i0 i1 hmm
      obtain ⟨m, rfl⟩ : ∃ m', m = m' + 1 := ⟨m - 1, by omega⟩
      rw [L_X1_firstMark_6, h.1, if_pos (by omega), fMk]
    | succ d ih =>
      intro m i i0 i1 hmm
      obtain ⟨m, rfl⟩ : ∃ m', m = m' + 1 := ⟨m - 1, by omega⟩
      have mi := mk_iff (i := i) h hm hl hr (by omega)
      have a3 := (enC_at (i := i) h (by omega)).2.2
      have hi := ih m (i + 1) (by omega) (by omega) (by omega)
      rw [L_X1_firstMark_6, h.1, if_neg (by omega), l3, l2, if_pos (by omega), fMk]
      by_cases q : M (eO ld + 3) i = -1
      · rw [if_pos q, hi, if_neg (fun z => (mi.mpr z).1 q)]
      · rw [if_neg q, if_pos (by omega)]
        by_cases q2 : M (eO ld + 2) i = r - FR (LO r)
        · rw [if_pos q2, if_pos (mi.mp ⟨q, q2⟩), a3]
        · rw [if_neg q2, hi, if_neg (fun z => q2 (mi.mpr z).2)]
  unfold f_X1_firstMark
  rw [show max fell 0 = fell by omega]
  exact key (L.length - fell.toNat) 20000 fell hf.1 (by omega) (by omega)
/-- where a key falls in a row, with how many looks; whether it is found there -/
noncomputable def fal (g : Int → Int) (κ r : Int) : Int × Int := bsr (kf (E g r)) κ 40 (bdL g κ r (lvR r).toNat).1 (bdL g κ r (lvR r).toNat).2
noncomputable def lkA (g : Int → Int) (κ r : Int) : Int := (fal g κ r).2 + (if ((E g r).length : Int) ≤ (fal g κ r).1 then 0 else 1)
noncomputable def fdA (g : Int → Int) (κ r : Int) : Int := if (fal g κ r).1 < (E g r).length ∧ (gE (E g r) (fal g κ r).1).1 = κ ∧ (gE (E g r) (fal g κ r).1).2.1 = 0 then 1 else 0
def pth (M : fMem) (g : Int → Int) (κ r : Int) : Prop := M 228 r = (bdL g κ r (lvR r).toNat).1 ∧ M 229 r = (bdL g κ r (lvR r).toNat).2 ∧ M 230 r = (fal g κ r).1 ∧ M 231 r = lkA g κ r
theorem fal_bd {g : Int → Int} {κ r : Int} (hv : okV g) (hst : 2 ≤ g 7740 ∧ g 7740 ≤ 8) (hr : 0 ≤ r ∧ r < 19) : (0 ≤ (fal g κ r).1 ∧ (fal g κ r).1 ≤ (E g r).length) ∧ (0 ≤ (fal g κ r).2 ∧ (fal g κ r).2 ≤ 40) ∧ 0 ≤ lkA g κ r ∧ lkA g κ r ≤ 41 := by
  have a := (bd_bd (κ := κ) hv hst (lvR r).toNat (by have := lv_ex hr; omega)).1 r
  have b := bsr_bd (f := kf (E g r)) (κ := κ) 40 (bdL g κ r (lvR r).toNat).1 (bdL g κ r (lvR r).toNat).2 a.1.1
  unfold lkA fal
  refine ⟨by omega, by omega, ?_⟩
  split <;> omega
theorem c_narrow {M : fMem} {g : Int → Int} {κ r : Int} (hR : RelV 2 M g) (hx : ixR M g) (hv : okV g) (hst : 2 ≤ g 7740 ∧ g 7740 ≤ 8) (hr : 0 ≤ r ∧ r < 19) (hld : ∀ l : Nat, lvR r = l + 1 → bA g l 0 ≠ -1 → M 230 (bA g l 0) = fLd g κ l) : ∃ M1, f_X5_narrow 2 r M = some M1 ∧ M1 228 r = (bdL g κ r (lvR r).toNat).1 ∧ M1 229 r = (bdL g κ r (lvR r).toNat).2 ∧ (∀ q, q ≠ r → M1 228 q = M 228 q ∧ M1 229 q = M 229 q) ∧ ∀ x, x ≠ 228 → x ≠ 229 → M1 x = M x := by
  obtain ⟨x1, x2, x3⟩ := lv_ex hr
  have sz : M (4 * psO r.toNat + 151) 3 = (E g r).length := (hx r hr.1 hr.2).1
  have eb := eO_bd hr
  have eb' : 151 ≤ 4 * psO r.toNat + 151 ∧ 4 * psO r.toNat + 151 + 3 < 227 := eb
  have LOr : LO r = lvR r := rfl
  unfold f_X5_narrow
  generalize hN : mset (mset M 228 r 0) 229 r ((E g r).length : Int) = N
  have n228 : N 228 r = 0 := by rw [← hN, mset_ne (by omega), mset_self]
  have n229 : N 229 r = (E g r).length := by rw [← hN, mset_self]
  have nq : ∀ q, q ≠ r → N 228 q = M 228 q ∧ N 229 q = M 229 q := fun q hq => by
    rw [← hN]; exact ⟨by rw [mset_ne (by omega), mset_slot hq], by rw [mset_slot hq, mset_ne (by omega)]⟩
  have nx : ∀ x, x ≠ 228 → x ≠ 229 → N x = M x := fun x h1 h2 => by rw [← hN, mset_ne h2, mset_ne h1]
  have start : ∀ M1, (if LO r = 0 then j_X5_narrow_46 r (-1) N else (if -2147483648 ≤ (LO r) - 1 ∧ (LO r) - 1 < 2147483648 then ((f_X7_leadOf 2 ((LO r) - 1) N).bind fun (r7 : Int) => j_X5_narrow_46 r r7 N) else none)) = some M1 → f_X5_narrow 2 r M = some M1 := by
    intro M1 h
    unfold f_X5_narrow
    refine si hr (bs fun N1 e1 => ?_)
    have : N1 (4 * psO r.toNat + 151) 3 = (E g r).length := by rw [e1, mset_ne (by omega), sz]
    rw [this]
    refine bs fun N2 e2 => ?_
    rw [e1, hN] at e2
    rw [e2]; exact h
  unfold f_X5_narrow at start
  by_cases h0 : lvR r = 0
  · refine ⟨N, start N ?_, ?_, ?_, nq, nx⟩
    · rw [LOr, if_pos h0]; unfold j_X5_narrow_46; exact it rfl rfl
    · rw [h0, n228]; rfl
    · rw [h0, n229]; rfl
  · obtain ⟨l, hl⟩ : ∃ l : Nat, lvR r = l + 1 := ⟨(lvR r).toNat - 1, by omega⟩
    have hlt : (lvR r).toNat = l + 1 := by omega
    have hRN : RelV 2 N g := RelV_cg hR (fun x h1 h2 => nx x (by omega) (by omega))
    obtain ⟨y0, -⟩ := yB_bA (g := g) (l := (l : Int)) (by omega) hv.2.1 hv.2.2
    have c1 : f_X7_leadOf 2 (LO r - 1) N = some (bA g l 0) := by
      rw [LOr, hl, show (l : Int) + 1 - 1 = l by omega]
      unfold f_X7_leadOf
      refine bc (c_youngestBut hRN.1 (by omega)) ?_
      rw [y0]
    rw [hlt]
    have be : bdL g κ r (l + 1) = if bA g l 0 = -1 then (0, ((E g r).length : Int)) else (lowB (E g (bA g l 0)) r (fLd g κ l), higB (E g (bA g l 0)) r (fLd g κ l) (E g r).length) := rfl
    rw [be]
    by_cases q : bA g l 0 = -1
    · rw [if_pos q]
      refine ⟨N, start N ?_, n228, n229, nq, nx⟩
      rw [if_neg (by rw [LOr]; omega), if_pos (by rw [LOr]; omega)]
      refine bc c1 ?_
      unfold j_X5_narrow_46; exact it q rfl
    · rw [if_neg q]
      have hin : 2 * (l : Int) ≤ bA g l 0 ∧ bA g l 0 < ER l := by
        rcases lv_cs (g := g) (l := (l : Int)) (by omega) hv with ⟨a1, a2, a3, -⟩ | ⟨a1, a2, a3, -⟩ | ⟨a1, a2, a3, -⟩ <;> first | (exact absurd ‹_› q) | omega
      have hEl : ER (l : Int) ≤ 19 := by unfold ER; split <;> omega
      have hld19 : 0 ≤ bA g l 0 ∧ bA g l 0 < 19 := by omega
      have hm := E_mk hv hst (l := (l : Int)) (by omega) hin
      have bb := (bd_bd (κ := κ) hv hst l (by omega)).2
      have fe := hld l hl q
      have eN : enC N g (bA g l 0) (E g (bA g l 0)) := by
        have ebl := eO_bd hld19
        obtain ⟨c1, c2, c3⟩ := hx _ hld19.1 hld19.2
        refine ⟨by rw [nx _ (by omega) (by omega)]; exact c1, by rw [nx _ (by omega) (by omega)]; exact c2, fun j e he => ?_⟩
        rw [nx _ (by omega) (by omega), nx _ (by omega) (by omega), nx _ (by omega) (by omega)]; exact c3 j e he
      have lA := c_lastMark eN hm ⟨by omega, by omega⟩ (r := r) (by rw [← hl]; exact ⟨x2, x3⟩) hld19 (E_len hv hst.1 hld19) bb
      have fA := c_firstMark eN hm ⟨by omega, by omega⟩ (r := r) (by rw [← hl]; exact ⟨x2, x3⟩) hld19 (E_len hv hst.1 hld19) bb
      have lb := lMk_bd (r := r) hm (fLd g κ l).toNat (by omega)
      have hEr : rmE (lvR r).toNat ≤ 328 := by unfold rmE; split <;> omega
      have hlr := E_len (r := r) hv hst.1 hr
      have fn : N 230 (bA g l 0) = fLd g κ l := by rw [nx _ (by omega) (by omega)]; exact fe
      -- the end
      have fin : ∀ lo, lo = lowB (E g (bA g l 0)) r (fLd g κ l) → ∃ M1, j_X5_narrow_126 r (fMk (E g (bA g l 0)) r (fLd g κ l) ((E g (bA g l 0)).length - (fLd g κ l).toNat)) r lo N = some M1 ∧ M1 228 r = lo ∧ M1 229 r = higB (E g (bA g l 0)) r (fLd g κ l) (E g r).length ∧ (∀ q, q ≠ r → M1 228 q = M 228 q ∧ M1 229 q = M 229 q) ∧ ∀ x, x ≠ 228 → x ≠ 229 → M1 x = M x := by
        intro lo hlo
        unfold j_X5_narrow_126 higB
        by_cases c : fMk (E g (bA g l 0)) r (fLd g κ l) ((E g (bA g l 0)).length - (fLd g κ l).toNat) = -1
        · rw [if_pos (c := fMk _ _ _ _ = -1) (t := ((E g r).length : Int)) c]
          refine ⟨mset (mset N 228 r lo) 229 r ((E g r).length : Int), ?_, by rw [mset_ne (by omega), mset_self], by rw [mset_self], fun q hq => ⟨by rw [mset_ne (by omega), mset_slot hq, (nq q hq).1], by rw [mset_slot hq, mset_ne (by omega), (nq q hq).2]⟩, fun x h1 h2 => by rw [mset_ne h2, mset_ne h1, nx x h1 h2]⟩
          refine si hr (bs fun N1 e1 => it c (si hr ?_))
          have : N1 229 r = (E g r).length := by rw [e1, mset_ne (by omega), n229]
          rw [this, e1]; rfl
        · rw [if_neg (c := fMk _ _ _ _ = -1) (t := ((E g r).length : Int)) c]
          refine ⟨mset (mset N 228 r lo) 229 r (fMk (E g (bA g l 0)) r (fLd g κ l) ((E g (bA g l 0)).length - (fLd g κ l).toNat)), ?_, by rw [mset_ne (by omega), mset_self], by rw [mset_self], fun q hq => ⟨by rw [mset_ne (by omega), mset_slot hq, (nq q hq).1], by rw [mset_slot hq, mset_ne (by omega), (nq q hq).2]⟩, fun x h1 h2 => by rw [mset_ne h2, mset_ne h1, nx x h1 h2]⟩
          refine si hr (bs fun N1 e1 => ie c (si hr ?_))
          rw [e1]; rfl
      obtain ⟨M1, f1, f2, f3, f4, f5⟩ := fin _ rfl
      refine ⟨M1, start M1 ?_, f2, f3, f4, f5⟩
      rw [if_neg (by rw [LOr]; omega), if_pos (by rw [LOr]; omega)]
      refine bc c1 ?_
      unfold j_X5_narrow_46
      refine ie q (bc (FR_LO hr) (si hld19 ?_))
      rw [fn]
      refine bc lA (bc fA ?_)
      unfold lowB at f1
      by_cases c : lMk (E g (bA g l 0)) r (fLd g κ l).toNat = -1
      · rw [if_pos (c := lMk _ _ _ = -1) (t := (0 : Int)) c] at f1
        refine it c (si hr ?_)
        rw [n228]; exact f1
      · rw [if_neg (c := lMk _ _ _ = -1) (t := (0 : Int)) c] at f1
        exact ie c (si (by omega) f1)
theorem c_halve {M : fMem} {p : Nat} {f : Int → Int} {r sz κ lo hi : Int} (hr : 0 ≤ r ∧ r < 19) (h1 : M 228 r = lo) (h2 : M 229 r = hi) (hlo : 0 ≤ lo ∧ lo ≤ sz) (hhi : 0 ≤ hi ∧ hi ≤ sz) (hsz : sz ≤ Ln p ∧ sz ≤ 328) (hf : ∀ i, 0 ≤ i → i < sz → M p i = f i) (b4 : 0 ≤ M 227 4 ∧ M 227 4 < 100) (b5 : 0 ≤ M 227 5 ∧ M 227 5 < 100000) : ∃ M1, f_X5_halve r p sz κ M = some M1 ∧ M1 230 r = (bsr f κ 40 lo hi).1 ∧ M1 231 r = (bsr f κ 40 lo hi).2 + (if sz ≤ (bsr f κ 40 lo hi).1 then 0 else 1) ∧ M1 227 4 = M 227 4 + 1 ∧ M1 227 5 = M 227 5 + ((bsr f κ 40 lo hi).2 + (if sz ≤ (bsr f κ 40 lo hi).1 then 0 else 1)) ∧ (∀ q, q ≠ r → M1 230 q = M 230 q ∧ M1 231 q = M 231 q) ∧ ∀ x, x < 227 ∨ 231 < x ∨ x = 228 ∨ x = 229 → M1 x = M x := by
  have bb := bsr_bd (f := f) (κ := κ) 40 lo hi hlo.1
  have eq := bsr_cg (f := M p) (f1 := f) (κ := κ) 40 lo hi hlo.1 (fun i i0 i1 => hf i i0 (by omega))
  unfold f_X5_halve
  rw [h1, h2, show min hi (min sz (Ln p)) = hi by omega]
  have lp := c_halveL (M := M) (w := p) (sz := sz) (κ := κ) (at' := r) (k := fun v1_11 v3_11 v5_11 v7_11 M_11 => j_X5_halve_84 v1_11 v3_11 v5_11 v7_11 M_11) 40 20000 lo hi 0 hlo.1 (by omega) (by omega) (by omega) (by omega) (by omega) (by omega)
  rw [eq] at lp
  generalize bsr f κ 40 lo hi = B at *
  have fin : ∀ x, (x = 0 ∨ x = 1) → x = (if sz ≤ B.1 then 0 else 1) → ∃ M1, j_X5_halve_97 r B.1 (0 + B.2) x M = some M1 ∧ M1 230 r = B.1 ∧ M1 231 r = B.2 + x ∧ M1 227 4 = M 227 4 + 1 ∧ M1 227 5 = M 227 5 + (B.2 + x) ∧ (∀ q, q ≠ r → M1 230 q = M 230 q ∧ M1 231 q = M 231 q) ∧ ∀ y, y < 227 ∨ 231 < y ∨ y = 228 ∨ y = 229 → M1 y = M y := by
    intro x hx _
    refine ⟨mset (mset (mset (mset M 230 r B.1) 231 r (0 + B.2 + x)) 227 5 (M 227 5 + (0 + B.2 + x))) 227 4 (M 227 4 + 1), ?_, ?_, ?_, ?_, ?_, fun q hq => ⟨?_, ?_⟩, fun y hy => ?_⟩
    · unfold j_X5_halve_97
      refine si hr (bs fun N1 e1 => si (by omega) (bs fun N2 e2 => ?_))
      have z5 : N2 227 5 = M 227 5 := by rw [e2, mset_ne (by omega), e1, mset_ne (by omega)]
      have z4 : N2 227 4 = M 227 4 := by rw [e2, mset_ne (by omega), e1, mset_ne (by omega)]
      rw [z5]
      refine si (by omega) (bs fun N3 e3 => ?_)
      have y4 : N3 227 4 = M 227 4 := by rw [e3, mset_slot (by omega), z4]
      rw [y4]
      refine si (by omega) ?_
      rw [e3, e2, e1]; rfl
    · rw [mset_ne (by omega), mset_ne (by omega), mset_ne (by omega), mset_self]
    · rw [mset_ne (by omega), mset_ne (by omega), mset_self]; omega
    · rw [mset_self]
    · rw [mset_slot (by omega), mset_self]; omega
    · rw [mset_ne (by omega), mset_ne (by omega), mset_ne (by omega), mset_slot hq]
    · rw [mset_ne (by omega), mset_ne (by omega), mset_slot hq, mset_ne (by omega)]
    · rw [mset_ne (by omega), mset_ne (by omega), mset_ne (by omega), mset_ne (by omega)]
  by_cases c : sz ≤ B.1
  · rw [if_pos c]
    obtain ⟨M1, f1, f2⟩ := fin 0 (Or.inl rfl) (by rw [if_pos c])
    refine ⟨M1, si hr ?_, f2⟩
    rw [show ((40 : Nat) : Int) = 40 from rfl] at lp
    rw [lp]
    unfold j_X5_halve_84
    exact it c f1
  · rw [if_neg c]
    obtain ⟨M1, f1, f2⟩ := fin 1 (Or.inr rfl) (by rw [if_neg c])
    refine ⟨M1, si hr ?_, f2⟩
    rw [show ((40 : Nat) : Int) = 40 from rfl] at lp
    rw [lp]
    unfold j_X5_halve_84
    exact ie c f1
end SEA2
