/-! numbers, the layout of all objects, the world -/
section FRM2
abbrev rg (x : Int) : Prop := -2147483648 ≤ x ∧ x < 2147483648
abbrev fMem : Type := Nat → Int → Int
def iv (x : Int) : Value := .int (Int32.ofInt x)
theorem iv_bmod {x : Int} (h : rg x) : x.bmod (2 ^ 32) = x := by
  show Int.bmod x 4294967296 = x
  obtain ⟨h1, h2⟩ := h
  unfold Int.bmod
  simp only []
  split <;> omega
theorem iv_toInt {x : Int} (h : rg x) : (Int32.ofInt x).toInt = x := by
  rw [Int32.toInt_ofInt]
  exact iv_bmod h
theorem iv_lt {x y : Int} (hx : rg x) (hy : rg y) : Int32.ofInt x < Int32.ofInt y ↔ x < y := by
  rw [Int32.lt_iff_toInt_lt, iv_toInt hx, iv_toInt hy]
theorem iv_le {x y : Int} (hx : rg x) (hy : rg y) : Int32.ofInt x ≤ Int32.ofInt y ↔ x ≤ y := by
  rw [Int32.le_iff_toInt_le, iv_toInt hx, iv_toInt hy]
theorem iv_eq {x y : Int} (hx : rg x) (hy : rg y) : Int32.ofInt x = Int32.ofInt y ↔ x = y := by
  constructor
  · intro h
    have := congrArg Int32.toInt h
    rwa [iv_toInt hx, iv_toInt hy] at this
  · intro h; rw [h]
theorem iv_of (x : Int32) : Int32.ofInt x.toInt = x := Int32.ofInt_toInt x
theorem rg_of (x : Int32) : rg x.toInt := ⟨by have := Int32.le_toInt x; omega, by have := Int32.toInt_lt x; omega⟩
theorem iv_clamp {i : Int} (h : rg i) : (Int32.ofInt i).toNatClampNeg = i.toNat := by
  rw [show (Int32.ofInt i).toNatClampNeg = (Int32.ofInt i).toInt.toNat from rfl, iv_toInt h]
theorem iv_in {i : Int} {n : Nat} (hr : rg i) (h0 : 0 ≤ i) (h : i < n) : vp_in (Int32.ofInt i) n := by
  rw [vp_in_iff, iv_toInt hr]
  exact ⟨h0, h⟩
/-- how many fields a class has; what a field refers to (none: an int) -/
def fNf : Nat → Nat
  | 0 => 10 | 1 => 5 | 2 => 3 | 3 => 1 | 4 => 9 | 5 => 6 | 6 => 6 | 7 => 3 | 8 => 2 | 9 => 3 | 10 => 12 | 11 => 27 | _ => 0
def fRt : Nat → Nat → Option Nat
  | 0, 0 => some 7
  | 0, 1 => some 15
  | 1, 0 => some 12
  | 1, 1 => some 12
  | 1, 2 => some 12
  | 2, 0 => some 12
  | 2, 1 => some 12
  | 3, 0 => some 14
  | 5, 0 => some 12
  | 5, 1 => some 12
  | 5, 2 => some 12
  | 5, 3 => some 12
  | 6, 0 => some 12
  | 6, 1 => some 12
  | 7, 0 => some 16
  | 7, 1 => some 12
  | 8, 0 => some 12
  | 9, 0 => some 12
  | 10, 0 => some 0
  | 10, 1 => some 0
  | 10, 2 => some 17
  | 10, 3 => some 13
  | 10, 4 => some 8
  | 10, 5 => some 9
  | 10, 6 => some 3
  | 10, 7 => some 5
  | 10, 8 => some 2
  | 10, 9 => some 2
  | 11, 0 => some 12
  | 11, 1 => some 12
  | 11, 2 => some 12
  | 11, 5 => some 12
  | 11, 6 => some 12
  | 11, 7 => some 12
  | 11, 8 => some 12
  | 11, 9 => some 12
  | 11, 10 => some 12
  | 11, 11 => some 12
  | 11, 12 => some 12
  | 11, 17 => some 12
  | 11, 18 => some 12
  | 11, 19 => some 12
  | 11, 20 => some 12
  | 11, 21 => some 12
  | 11, 23 => some 12
  | 11, 24 => some 13
  | 11, 25 => some 12
  | 11, 26 => some 12
  | _, _ => none
/-- what an array of references holds -/
def fEt : Nat → Option Nat
  | 14 => some 1 | 15 => some 4 | 16 => some 6 | 17 => some 7 | _ => none
/-! the layout: 0 RowStore, 1 engine (2 its shelf, 62 its merges), 72 trial, 143 views, 144 taken, 145 tape, 147 tolls, 149 index, 227 path, 232 here, 235 there, 238 298 358 the views' shelves, 418 the reference, 439 the law's row -/
def tySh (d : Nat) : Nat := if d = 0 then 7 else if d = 1 then 16 else if d = 2 then 12 else if d % 3 = 0 then 6 else 12
def tyEn (d : Nat) : Nat := if d = 0 then 0 else if d < 61 then tySh (d - 1) else if d = 61 then 15 else 4
def Ty (k : Nat) : Nat :=
  if k = 0 then 10 else if k < 72 then tyEn (k - 1) else if k < 143 then tyEn (k - 72) else if k = 143 then 17 else if k = 144 then 13 else if k = 145 then 8 else if k = 146 then 12
  else if k = 147 then 9 else if k = 148 then 12 else if k = 149 then 3 else if k = 150 then 14 else if k < 227 then (if (k - 151) % 4 = 0 then 1 else 12) else if k = 227 then 5 else if k < 232 then 12
  else if k = 232 then 2 else if k = 235 then 2 else if k < 238 then 12 else if k < 418 then tySh ((k - 238) % 60) else if k = 418 then 11 else if k = 436 then 13 else if k = 439 then 18 else 12
def lvO (i : Nat) : Nat := if i / 2 < 8 then i / 2 else 8
def rmO (l : Nat) : Nat := if 2 ^ l < 200 then 2 ^ l else 200
def rmE (l : Nat) : Nat := match l with
  | 0 => 16 | 1 => 29 | 2 => 50 | 3 => 84 | 4 => 137 | 5 => 210 | 6 => 292 | 7 => 328 | _ => 200
/-- which comes how early as the index is made -/
def psO (i : Nat) : Nat := if 16 ≤ i then i - 16 else 3 + 2 * (7 - i / 2) + i % 2
def lvP (p : Nat) : Nat := if p < 3 then 8 else 7 - (p - 3) / 2
def lnSh (d : Nat) : Nat := if d < 3 then 19 else rmO (lvO ((d - 3) / 3))
def lnEn (d : Nat) : Nat := if d < 61 then lnSh (d - 1) else 9
def lnM (d : Nat) : Nat := match d with
  | 1 => 7787 | 2 => 7787 | 7 => 13300 | 8 => 13300 | 9 => 13300 | 10 => 13300 | 11 => 19 | 12 => 19 | 13 => 19 | 14 => 19 | 15 => 19 | 16 => 19 | 17 => 22971 | 18 => 3 | 21 => 1 | _ => 200
def Lnn (k : Nat) : Nat :=
  if k < 72 then lnEn (k - 1) else if k < 143 then lnEn (k - 72) else if k = 143 then 3 else if k = 144 then 3 else if k = 146 then 200 else if k = 148 then 40 else if k = 150 then 19
  else if k < 227 then rmE (lvP ((k - 151) / 4)) else if k < 232 then 19 else if k < 238 then 200 else if k < 418 then lnSh ((k - 238) % 60) else lnM (k - 418)
def Ln (k : Nat) : Int := (Lnn k : Int)
def rfR (j : Int) : Nat := if j = 0 then 1 else if j = 1 then 72 else if j = 2 then 143 else if j = 3 then 144 else if j = 4 then 145 else if j = 5 then 147 else if j = 6 then 149 else if j = 7 then 227 else if j = 8 then 232 else 235
def rfM (j : Int) : Nat := if j < 3 then 419 + j.toNat else if j < 13 then 417 + j.toNat else if j < 22 then 413 + j.toNat else 412 + j.toNat
def Rf (k : Nat) (j : Int) : Nat := match Ty k with
  | 0 => if j = 0 then k + 1 else k + 61
  | 1 => k + 1 + j.toNat
  | 2 => k + 1 + j.toNat
  | 3 => k + 1
  | 5 => k + 1 + j.toNat
  | 6 => k + 1 + j.toNat
  | 7 => k + 1 + j.toNat
  | 8 => k + 1
  | 9 => k + 1
  | 10 => rfR j
  | 11 => rfM j
  | 14 => 151 + 4 * psO j.toNat
  | 15 => k + 1 + j.toNat
  | 16 => k + 2 + 3 * j.toNat
  | 17 => 238 + 60 * j.toNat
  | _ => 0
def fTyp (k t : Nat) : Prop := Ty k = t ∧ k < 440
theorem rmO_le (l : Nat) : rmO l ≤ 200 := by unfold rmO; split <;> omega
theorem rmE_le (l : Nat) : rmE l ≤ 328 := by unfold rmE; split <;> omega
theorem lnSh_le (d : Nat) : lnSh d ≤ 200 := by
  have := rmO_le (lvO ((d - 3) / 3))
  unfold lnSh; split <;> omega
theorem lnEn_le (d : Nat) : lnEn d ≤ 200 := by
  have := lnSh_le (d - 1)
  unfold lnEn; split <;> omega
theorem lnM_le (d : Nat) : lnM d ≤ 22971 := by unfold lnM; split <;> omega
theorem Lnn_small (k : Nat) : Lnn k < 30000 := by
  have h1 := lnEn_le (k - 1)
  have h2 := lnEn_le (k - 72)
  have h3 := rmE_le (lvP ((k - 151) / 4))
  have h4 := lnSh_le ((k - 238) % 60)
  have h5 := lnM_le (k - 418)
  unfold Lnn
  repeat' split
  all_goals omega
theorem Ln_small (k : Nat) : Ln k < 30000 := by
  have := Lnn_small k
  unfold Ln
  omega
theorem Ln_nat (k : Nat) : (Lnn k : Int) = Ln k := rfl
def mset (M : fMem) (k : Nat) (j : Int) (v : Int) : fMem := fun a i => if a = k ∧ i = j then v else M a i
def oset (M : fMem) (k : Nat) (f : Int → Int) : fMem := fun a => if a = k then f else M a
theorem mset_self (M : fMem) (k : Nat) (j v : Int) : mset M k j v k j = v := by simp [mset]
theorem mset_slot {M : fMem} {k : Nat} {j i v : Int} (h : i ≠ j) : mset M k j v k i = M k i := by simp [mset, h]
theorem mset_ne {M : fMem} {k a : Nat} {j v : Int} (h : a ≠ k) : mset M k j v a = M a := by funext i; simp [mset, h]
def fR (M : fMem) : Prop := ∀ k i, rg (M k i)
theorem fR_mset {M : fMem} {k : Nat} {j v : Int} (h : fR M) (hv : rg v) : fR (mset M k j v) := by
  intro a i
  unfold mset
  split
  · exact hv
  · exact h a i
/-- launch, classes' numbers, arrays' classes, statics' addresses, first address, whether all is made, the script: its address, its length, what it holds -/
abbrev fG : Type := Launch × va_G × (Nat → ClassId) × (Nat → Nat) × Nat × Bool × Nat × Nat × (Nat → Int32)
def gl (G : fG) : Launch := G.1
def gD (G : fG) : va_G := G.2.1
def gcA (G : fG) : Nat → ClassId := G.2.2.1
def gst (G : fG) : Nat → Nat := G.2.2.2.1
def gb (G : fG) : Nat := G.2.2.2.2.1
def gbt (G : fG) : Bool := G.2.2.2.2.2.1
def gsb (G : fG) : Nat := G.2.2.2.2.2.2.1
def gsn (G : fG) : Nat := G.2.2.2.2.2.2.2.1
def gsx (G : fG) : Nat → Int32 := G.2.2.2.2.2.2.2.2
/-- how many objects there are -/
def gN (G : fG) (M : fMem) : Nat := if gbt G = true then 440 else (M 440 0).toNat
def gRf (G : fG) (M : fMem) (k : Nat) (j : Int) : Option Nat := if gbt G = true ∨ M k j ≠ 0 then some (gb G + Rf k j) else none
def fFv (G : fG) (M : fMem) (k t j : Nat) : Value := match fRt t j with
  | some _ => va_rf (gRf G M k j)
  | none => iv (M k j)
def fFs (G : fG) (M : fMem) (k t : Nat) : List Value := (List.range (fNf t)).map (fFv G M k t)
def fCell (G : fG) (M : fMem) (k : Nat) : va_E :=
  if Ty k < 12 then .inr (Ty k, fFs G M k (Ty k))
  else if Ty k < 14 then .inl (gcA G (Ty k), Lnn k, .inl (fun j => Int32.ofInt (M k j)))
  else if Ty k < 18 then .inl (gcA G (Ty k), Lnn k, .inr (.inr (.inr (.inr (fun j => gRf G M k j)))))
  else .inl (gcA G (Ty k), Lnn k, .inr (.inl (fun j => Int64.ofInt (M k j))))
def fTys (G : fG) : List (ClassId × FieldType) := [(gcA G 12, .int), (gcA G 13, .boolean), (gcA G 14, .object RX1), (gcA G 15, .object RX4), (gcA G 16, .object RX6), (gcA G 17, .object RX7), (gcA G 18, .long)]
theorem fFs_get {G : fG} {M : fMem} {k t j : Nat} (h : j < fNf t) (hr : fRt t j = none) : (fFs G M k t)[j]? = some (iv (M k j)) := by
  simp [fFs, fFv, h, hr]
theorem fFs_getR {G : fG} {M : fMem} {k t j u : Nat} (h : j < fNf t) (hr : fRt t j = some u) : (fFs G M k t)[j]? = some (va_rf (gRf G M k j)) := by
  simp [fFs, fFv, h, hr]
theorem fFs_at {G : fG} {M : fMem} {k t j : Nat} (h : j < fNf t) : (fFs G M k t)[j]? = some (fFv G M k t j) := by
  simp [fFs, h]
theorem fFs_len {G : fG} {M : fMem} {k t : Nat} : (fFs G M k t).length = fNf t := by simp [fFs]
theorem fFs_set {G : fG} {M : fMem} {k t j : Nat} {v : Int} {w : Value} (h : j < fNf t) (hw : fFv G (mset M k j v) k t j = w) : (fFs G M k t).set j w = fFs G (mset M k j v) k t := by
  apply List.ext_getElem?
  intro i
  rw [List.getElem?_set]
  by_cases hij : j = i
  · subst hij
    rw [if_pos rfl, fFs_len, if_pos h, fFs_at h, hw]
  · rw [if_neg hij]
    by_cases hi : i < fNf t
    · rw [fFs_at hi, fFs_at hi]
      have hne : (i : Int) ≠ (j : Int) := by omega
      simp only [fFv, gRf, mset_slot hne]
    · rw [List.getElem?_eq_none (by rw [fFs_len]; omega), List.getElem?_eq_none (by rw [fFs_len]; omega)]
theorem fCell_obj {G : fG} {M : fMem} {k t : Nat} (h : Ty k = t) (ht : t < 12) : fCell G M k = .inr (t, fFs G M k t) := by
  simp [fCell, h, ht]
theorem fCell_int {G : fG} {M : fMem} {k t : Nat} (h : Ty k = t) (h1 : 12 ≤ t) (h2 : t < 14) : fCell G M k = .inl (gcA G t, Lnn k, .inl (fun j => Int32.ofInt (M k j))) := by
  have : ¬ t < 12 := by omega
  simp [fCell, h, this, h2]
theorem fCell_ref {G : fG} {M : fMem} {k t : Nat} (h : Ty k = t) (h2 : 14 ≤ t) (h3 : t < 18) : fCell G M k = .inl (gcA G t, Lnn k, .inr (.inr (.inr (.inr (fun j => gRf G M k j))))) := by
  have h4 : ¬ t < 12 := by omega
  have h5 : ¬ t < 14 := by omega
  simp [fCell, h, h4, h5, h3]
theorem fCell_long {G : fG} {M : fMem} {k : Nat} (h : Ty k = 18) : fCell G M k = .inl (gcA G 18, Lnn k, .inr (.inl (fun j => Int64.ofInt (M k j)))) := by
  simp [fCell, h]
theorem fFs_ne {G : fG} {M : fMem} {a k t : Nat} {j v : Int} (h : a ≠ k) : fFs G (mset M k j v) a t = fFs G M a t := by
  unfold fFs
  apply List.map_congr_left
  intro i _
  simp only [fFv, gRf, mset_ne h]
theorem fCell_ne {G : fG} {M : fMem} {a k : Nat} {j v : Int} (h : a ≠ k) : fCell G (mset M k j v) a = fCell G M a := by
  simp only [fCell, fFs_ne h, gRf, mset_ne h]
theorem fCell_setF {G : fG} {M : fMem} {k t j : Nat} {v : Int} {w : Value} (h : Ty k = t) (ht : t < 12) (hj : j < fNf t) (hw : fFv G (mset M k j v) k t j = w) : va_up (fCell G M) k (.inr (t, (fFs G M k t).set j w)) = fCell G (mset M k j v) := by
  funext a
  by_cases ha : a = k
  · subst ha
    rw [fCell_obj h ht, fFs_set hj hw]
    simp [va_up]
  · simp only [va_up, ha, if_false, fCell_ne ha]
theorem fCell_setA {G : fG} {M : fMem} {k t : Nat} {j v : Int} (h : Ty k = t) (h1 : 12 ≤ t) (h2 : t < 14) (hj : 0 ≤ j) : va_up (fCell G M) k (.inl (gcA G t, Lnn k, .inl (upd (fun i => Int32.ofInt (M k i)) j.toNat (Int32.ofInt v)))) = fCell G (mset M k j v) := by
  funext a
  by_cases ha : a = k
  · subst ha
    rw [fCell_int h h1 h2]
    simp only [va_up, if_true]
    congr 4
    funext i
    simp only [upd, mset]
    by_cases hi : i = j.toNat
    · have : (i : Int) = j := by omega
      rw [if_pos hi, if_pos ⟨trivial, this⟩]
    · have : ¬ (i : Int) = j := by omega
      simp [hi, this]
  · simp only [va_up, ha, if_false, fCell_ne ha]
theorem fCell_setL {G : fG} {M : fMem} {k : Nat} {j v : Int} (h : Ty k = 18) (hj : 0 ≤ j) : va_up (fCell G M) k (.inl (gcA G 18, Lnn k, .inr (.inl (vp_updL (fun i => Int64.ofInt (M k i)) j.toNat (Int64.ofInt v))))) = fCell G (mset M k j v) := by
  funext a
  by_cases ha : a = k
  · subst ha
    rw [fCell_long h]
    simp only [va_up, if_true]
    congr 5
    funext i
    simp only [vp_updL, mset]
    by_cases hi : i = j.toNat
    · have : (i : Int) = j := by omega
      rw [if_pos hi, if_pos ⟨trivial, this⟩]
    · have : ¬ (i : Int) = j := by omega
      simp [hi, this]
  · simp only [va_up, ha, if_false, fCell_ne ha]
def fP (G : fG) (M : fMem) (H : Heap) : Prop := va_P (gD G) vwCl (fWs (gb G) (gN G M) (fCell G M)) H ∧ fR M ∧ gN G M ≤ 440 ∧ (gbt G = false → H.size = gb G + gN G M)
def fK (G : fG) (U : State) : Prop := va_K (gD G) vwCl (fTys G) U
def gA (G : fG) (z : Nat) : Nat → Prop := fA (gb G) 440 z
theorem gA_in {G : fG} {z k : Nat} (h : k < 440) : gA G z (gb G + k) := Or.inl ⟨Nat.le_add_right _ _, Nat.add_lt_add_left h _⟩
theorem gA_new {G : fG} {z q : Nat} (h : z ≤ q) : gA G z q := Or.inr h
theorem gA_mono {G : fG} {z z' q : Nat} (h : z ≤ z') (hq : gA G z' q) : gA G z q := hq.elim Or.inl (fun h2 => Or.inr (Nat.le_trans h h2))
theorem gD_ok {G : fG} {z N : Nat} {f : Nat → va_E} (h : N ≤ 440) : va_D (gA G z) (fWs (gb G) N f) := fD (fun _ h2 => gA_in (Nat.lt_of_lt_of_le h2 h))
theorem gN_mset {G : fG} {M : fMem} {k : Nat} {j v : Int} (h : k ≠ 440) : gN G (mset M k j v) = gN G M := by
  unfold gN
  rw [mset_ne (fun h2 => h h2.symm)]
/-- the static arrays -/
def fStNm : Nat → String | 0 => "FIRST_ROW" | 1 => "END_ROW" | _ => "LEVEL_OF"
def fStN : Nat → Nat | 0 => 9 | 1 => 9 | _ => 19
def FR (i : Int) : Int := 2 * i
def ER (i : Int) : Int := if i = 8 then 19 else 2 * i + 2
def LO (i : Int) : Int := if 16 ≤ i then 8 else i / 2
def SV (j : Nat) (i : Int) : Int := if j = 0 then FR i else if j = 1 then ER i else LO i
/-- words that aren't good ones -/
def fNg : List Cond := [.methodLinkNest "RowStore$Shelf" 28 ⟨"RowStore", "thingRoom", "(I)I"⟩ "RowStore", .methodLinkNest "RowStore$Engine" 49 ⟨"RowStore$Merge", "<init>", "()V"⟩ "RowStore", .methodLinkNest "RowStore" 31 ⟨"RowStore$Tape", "<init>", "()V"⟩ "RowStore", .methodLinkNest "RowStore" 38 ⟨"RowStore$Tolls", "<init>", "()V"⟩ "RowStore", .methodLinkNest "RowStore$Index" 17 ⟨"RowStore", "thingRoom", "(I)I"⟩ "RowStore", .methodLinkNest "RowStore" 52 ⟨"RowStore$Path", "<init>", "()V"⟩ "RowStore", .methodLinkNest "RowStore" 59 ⟨"RowStore$Holdings", "<init>", "()V"⟩ "RowStore", .methodLinkNest "RowStore$Holdings" 54 ⟨"RowStore", "isKey", "(I)Z"⟩ "RowStore", .methodLinkNest "RowStore$Index" 77 ⟨"RowStore", "numberOf", "(I)I"⟩ "RowStore", .methodLinkNest "RowStore$Path" 90 ⟨"RowStore", "numberOf", "(I)I"⟩ "RowStore", .fieldLinkNest "RowStore$Shelf" 25 "RowStore" "LEVEL_OF" "[I" "RowStore", .fieldLinkNest "RowStore$Index" 21 "RowStore" "FIRST_ROW" "[I" "RowStore", .fieldLinkNest "RowStore$Index" 25 "RowStore" "END_ROW" "[I" "RowStore", .fieldLinkNest "RowStore$Shelf" 35 "RowStore" "FIRST_ROW" "[I" "RowStore", .fieldLinkNest "RowStore$Shelf" 38 "RowStore" "END_ROW" "[I" "RowStore", .fieldLinkNest "RowStore$Path" 84 "RowStore" "LEVEL_OF" "[I" "RowStore", .castable "java/util/NoSuchElementException" "java/util/NoSuchElementException", .castable "java/lang/IllegalArgumentException" "java/lang/IllegalArgumentException", .declares ⟨"java/lang/RuntimeException", "<init>", "(Ljava/lang/String;)V"⟩, .declares ⟨"java/lang/Exception", "<init>", "(Ljava/lang/String;)V"⟩, .declares ⟨"java/lang/Throwable", "<init>", "(Ljava/lang/String;)V"⟩]
/-- constant texts that are thrown -/
def fStr : List (Nat × String) := [(157, "no such row on the route"), (181, "no such key is there"), (259, "no such thing"), (274, "no such entry"), (319, "no such act"), (403, "no such view is taken"), (409, "the row is not shut"), (411, "no such key"), (413, "no such level"), (421, "no such row"), (423, "no such what"), (427, "not so many acts ahead")]
def fAO : List String := ["RowStore$Entries", "RowStore$Merge", "RowStore$Row", "RowStore$Shelf"]
def fSF (G : fG) (A : Nat → Prop) (U : State) (H : Heap) : Prop :=
  (∀ j, j < 3 → va_Z RX10 (fStNm j) "[I" (.ref (gst G j)) A U H ∧ va_T .int (gst G j) (fStN j) (fun i => iv (SV j i)) A U H) ∧
  (vx_Zq Bundle.tN "UNASSIGNED_STACK" Bundle.steD A U H ∧ vx_Zq Bundle.tN "SUPPRESSED_SENTINEL" Bundle.listD A U H) ∧
  (∀ w ∈ fNg, va_Nw w U) ∧ (∀ q ∈ fStr, ∃ sa, vk_R RX10 q.1 q.2 sa U) ∧ (∀ C ∈ fAO, va_AO C U) ∧ va_Nc "java/lang/IllegalArgumentException" "java/util/NoSuchElementException" U ∧ va_X (gsb G) (gsn G) (gsx G) U H ∧ gsb G < H.size ∧ ¬ A (gsb G)
theorem fNg_warm {s U : State} (hW : s.WarmedH U.vm) : ∀ w ∈ fNg, va_Nw w s → va_Nw w U := by
  intro w hw h
  simp only [fNg, List.mem_cons, List.not_mem_nil, or_false] at hw
  rcases hw with rfl | rfl | rfl | rfl | rfl | rfl | rfl | rfl | rfl | rfl | rfl | rfl | rfl | rfl | rfl | rfl | rfl | rfl | rfl | rfl | rfl <;> first | exact va_Nw.warmF hW h | exact va_Nw.warmM hW h | exact va_Nw.warmC hW h | exact va_Nw.warmD hW h
theorem fSF.warm {G : fG} {A : Nat → Prop} {s U : State} {H : Heap} (hW : s.WarmedH U.vm) (h : fSF G A s H) : fSF G A U H := by
  obtain ⟨h1, ⟨h2, h3⟩, h4, h5, h7, h8, h9, hA, hB⟩ := h
  refine ⟨fun j hj => ⟨va_Z.moved hW.alike (h1 j hj).1, va_T.moved hW.alike (h1 j hj).2⟩, ⟨vx_Zq.moved hW.alike h2, vx_Zq.moved hW.alike h3⟩, fun w hw => fNg_warm hW w hw (h4 w hw), fun q hq => ?_, fun C hC => va_AO.moved hW.alike (h7 C hC), va_Nc.moved hW.alike h8, va_X.moved hW.alike h9, hA, hB⟩
  obtain ⟨sa, h6⟩ := h5 q hq
  exact ⟨sa, vk_R.warm hW h6⟩
theorem fSF.kept {G : fG} {A : Nat → Prop} {U : State} {H H1 : Heap} (h : fSF G A U H) (hz : H.size ≤ H1.size) (hq : ∀ a : Nat, a < H.size → ¬ A a → H1[a]? = H[a]?) : fSF G A U H1 := by
  obtain ⟨h1, ⟨h2, h3⟩, h4, h5, h7, h8, h9, hA, hB⟩ := h
  exact ⟨fun j hj => ⟨va_Z.kept (h1 j hj).1 hq, va_T.kept (h1 j hj).2 hq⟩, ⟨vx_Zq.kept h2 hq, vx_Zq.kept h3 hq⟩, h4, h5, h7, h8, va_X.kept h9 (hq _ hA hB), Nat.lt_of_lt_of_le hA hz, hB⟩
theorem fSF.narrow {G : fG} {A B : Nat → Prop} {U : State} {H : Heap} (h : fSF G A U H) (hAB : ∀ q, B q → A q) : fSF G B U H := by
  obtain ⟨h1, ⟨h2, h3⟩, h4, h5, h7, h8, h9, hA, hB⟩ := h
  exact ⟨fun j hj => ⟨va_Z.narrow (h1 j hj).1 hAB, va_T.narrow (h1 j hj).2 hAB⟩, ⟨vx_Zq.narrow h2 hAB, vx_Zq.narrow h3 hAB⟩, h4, h5, h7, h8, h9, hA, fun h => hB (hAB _ h)⟩
/-- the good words of the tables -/
def fT : List Cond := lw_tbl.filter goodWord
theorem fM (i : Nat) {w : Cond} (h : lw_tbl[i]? = some w) (g : goodWord w = true) : w ∈ fT := List.mem_filter.mpr ⟨List.mem_of_getElem? h, g⟩
theorem fT_good {w : Cond} (h : w ∈ fT) : (w.onTables && w.keeps) = true ∨ ∃ ty, w = .arrayClass ty := good_of_word (List.mem_filter.mp h).2
end FRM2
