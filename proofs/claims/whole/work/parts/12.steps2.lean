/-! further instructions and calls of the JDK -/
section FRM6
theorem iv_nat (x : Int) : (Int32.ofInt x).toBitVec.toNat = (x % 4294967296).toNat := by
  show (BitVec.ofInt 32 x).toNat = _
  rw [BitVec.toNat_ofInt]
  rfl
theorem iv_and {x : Int} {m : Int32} (k : Nat) (hm : m.toBitVec.toNat = 2 ^ k - 1) (hk : k ≤ 30) : Int32.ofInt x &&& m = Int32.ofInt (x % 2 ^ k) := by
  rw [pk_and _ k hm, iv_nat]
  have h1 : (2 : Int) ^ k ∣ 4294967296 := by
    refine ⟨2 ^ (32 - k), ?_⟩
    rw [← Int.pow_add, show k + (32 - k) = 32 by omega]
    rfl
  have h2 : x % 4294967296 % 2 ^ k = x % 2 ^ k := Int.emod_emod_of_dvd x h1
  have h3 : 0 ≤ x % 4294967296 := Int.emod_nonneg _ (by decide)
  rw [← h2]
  show Int32.ofNat _ = _
  rw [← Int32.ofInt_eq_ofNat]
  congr 1
  rw [Int.natCast_emod, Int.toNat_of_nonneg h3]
  simp
theorem iv_sh : ∀ n : Fin 32, ((Int32.ofInt (n.val : Int) &&& 31).toBitVec.smod 32).toNat = n.val := by decide +kernel
theorem iv_shu : ∀ n : Fin 32, (((Int32.ofInt (n.val : Int)).toUInt32 &&& Int32.toUInt32 31).toBitVec % 32).toNat = n.val := by decide +kernel
variable {G : fG} {mt mc : fMt} {E : fE} {c0 s0 pc : Nat} {ls : List (Option Value)} {st : List Value} {M : fMem}
theorem fW_iand (n : Nat) {x y : Int} (k : Nat) (hm : (Int32.ofInt y).toBitVec.toNat = 2 ^ k - 1) (hk : k ≤ 30) (d : decode mt.2.1 pc = .ok (.iand, 1)) (hn : pc + 1 = n) (kk : fW G mt E c0 s0 n ls (iv (x % 2 ^ k) :: st) M) : fW G mt E c0 s0 pc ls (iv y :: iv x :: st) M := by
  subst hn
  intro p e s m args below meth c H locs la z hC hP hS hL
  have h := kk p e s m args below meth c H locs la z hC hP hS hL
  rw [iv, ← iv_and k hm hk] at h
  exact lv_iand hC.exec hC.bytes d h
theorem iv_shr {x y : Int} (hx : rg x) (hy : 0 ≤ y ∧ y < 32) : Int32.ofInt x >>> (Int32.ofInt y &&& 31) = Int32.ofInt (x / 2 ^ y.toNat) := by
  have h := iv_sh ⟨y.toNat, by omega⟩
  simp only [] at h
  rw [show ((y.toNat : Nat) : Int) = y by omega] at h
  apply Int32.toInt_inj.mp
  rw [pk_shr _ _ y.toNat h, iv_toInt hx, Int.shiftRight_eq_div_pow]
  have h1 : (0 : Int) < 2 ^ y.toNat := Int.pow_pos (by decide)
  have h2 := Int.ediv_mul_le x (Int.ne_of_gt h1)
  rw [iv_toInt]
  · simp
  · constructor
    · have : (-2147483648 : Int) ≤ x / 2 ^ y.toNat := by
        apply (Int.le_ediv_iff_mul_le h1).mpr
        have : (-2147483648 : Int) * 2 ^ y.toNat ≤ -2147483648 * 1 := Int.mul_le_mul_of_nonpos_left (by omega) (by omega)
        omega
      exact this
    · apply (Int.ediv_lt_iff_lt_mul h1).mpr
      have : (2147483648 : Int) * 1 ≤ 2147483648 * 2 ^ y.toNat := Int.mul_le_mul_of_nonneg_left (by omega) (by omega)
      omega
theorem fW_ishr (n : Nat) {x y : Int} (hx : rg x) (hy : 0 ≤ y ∧ y < 32) (d : decode mt.2.1 pc = .ok (.ishr, 1)) (hn : pc + 1 = n) (kk : fW G mt E c0 s0 n ls (iv (x / 2 ^ y.toNat) :: st) M) : fW G mt E c0 s0 pc ls (iv y :: iv x :: st) M := by
  subst hn
  intro p e s m args below meth c H locs la z hC hP hS hL
  have h := kk p e s m args below meth c H locs la z hC hP hS hL
  rw [iv, ← iv_shr hx hy] at h
  exact lv_ishr hC.exec hC.bytes d h
theorem iv_shl {x y : Int} (hy : 0 ≤ y ∧ y < 32) : Int32.ofInt x <<< (Int32.ofInt y &&& 31) = Int32.ofInt (x * 2 ^ y.toNat) := by
  have h := iv_sh ⟨y.toNat, by omega⟩
  simp only [] at h
  rw [show ((y.toNat : Nat) : Int) = y by omega] at h
  apply Int32.toBitVec_inj.mp
  apply BitVec.eq_of_toNat_eq
  rw [pk_shl _ _ y.toNat h, iv_nat, iv_nat]
  have h3 : 0 ≤ x % 4294967296 := Int.emod_nonneg _ (by decide)
  have h4 : (((x % 4294967296).toNat * 2 ^ y.toNat % 2 ^ 32 : Nat) : Int) = x * 2 ^ y.toNat % 4294967296 := by
    rw [Int.natCast_emod, Int.natCast_mul, Int.toNat_of_nonneg h3, Int.natCast_pow]
    show x % 4294967296 * 2 ^ y.toNat % 4294967296 = _
    rw [Int.mul_emod, Int.emod_emod, ← Int.mul_emod]
  omega
theorem fW_ishl (n : Nat) {x y : Int} (hy : 0 ≤ y ∧ y < 32) (d : decode mt.2.1 pc = .ok (.ishl, 1)) (hn : pc + 1 = n) (kk : fW G mt E c0 s0 n ls (iv (x * 2 ^ y.toNat) :: st) M) : fW G mt E c0 s0 pc ls (iv y :: iv x :: st) M := by
  subst hn
  intro p e s m args below meth c H locs la z hC hP hS hL
  have h := kk p e s m args below meth c H locs la z hC hP hS hL
  rw [iv, ← iv_shl hy] at h
  exact lv_ishl hC.exec hC.bytes d h
theorem iv_ushr {x y : Int} (hy : 0 ≤ y ∧ y < 32) : ((Int32.ofInt x).toUInt32 >>> ((Int32.ofInt y).toUInt32 &&& Int32.toUInt32 31)).toInt32 = Int32.ofInt (x % 4294967296 / 2 ^ y.toNat) := by
  have h := iv_shu ⟨y.toNat, by omega⟩
  simp only [] at h
  rw [show ((y.toNat : Nat) : Int) = y by omega] at h
  apply Int32.toBitVec_inj.mp
  apply BitVec.eq_of_toNat_eq
  rw [pk_ushr _ _ y.toNat h, iv_nat, iv_nat]
  have h3 : 0 ≤ x % 4294967296 := Int.emod_nonneg _ (by decide)
  have h5 : x % 4294967296 < 4294967296 := Int.emod_lt_of_pos _ (by decide)
  have h1 : (0 : Int) < 2 ^ y.toNat := Int.pow_pos (by decide)
  have h6 : 0 ≤ x % 4294967296 / 2 ^ y.toNat := Int.ediv_nonneg h3 (Int.le_of_lt h1)
  have h7 : x % 4294967296 / 2 ^ y.toNat ≤ x % 4294967296 := Int.ediv_le_self _ h3
  rw [Int.emod_eq_of_lt h6 (by omega)]
  have h4 : (((x % 4294967296).toNat / 2 ^ y.toNat : Nat) : Int) = x % 4294967296 / 2 ^ y.toNat := by
    rw [Int.natCast_ediv, Int.toNat_of_nonneg h3, Int.natCast_pow]
    rfl
  omega
theorem fW_iushr (n : Nat) {x y : Int} (hy : 0 ≤ y ∧ y < 32) (d : decode mt.2.1 pc = .ok (.iushr, 1)) (hn : pc + 1 = n) (kk : fW G mt E c0 s0 n ls (iv (x % 4294967296 / 2 ^ y.toNat) :: st) M) : fW G mt E c0 s0 pc ls (iv y :: iv x :: st) M := by
  subst hn
  intro p e s m args below meth c H locs la z hC hP hS hL
  have h := kk p e s m args below meth c H locs la z hC hP hS hL
  rw [iv, ← iv_ushr hy] at h
  exact lv_iushr hC.exec hC.bytes d rfl h
theorem fI_SF {n idx : Nat} {as rest : List Value} (mi : fMs mc n) (hl : Cond.methodLink mt.1.cls idx mc.1 ∈ fT) (hr : fRoom mt mc c0 s0) (ha : as.length = n) (hw : (rest.map fun v => v.category).sum ≤ 8) (d : decode mt.2.1 pc = .ok (.invokestatic idx, 3)) :
    fInv G mt mc c0 s0 pc ls (as.reverse ++ rest) rest as M := by
  intro Q X hM p e s m args below meth c H locs la z hC hP hS hL
  exact vx_runS (Ts := fT) (own := mt.1.cls) ⟨hC.exec, hC.bytes, hC.maxL, hC.own, hC.words⟩ (hM H.size) ⟨callB_of n hC.words (fGood (fWm_in mi.1)) rfl rfl rfl (hC.words _ mi.1.2.1) (hC.words _ hl) ⟨mi.1.2.2.1.1, mi.1.2.2.1.2, mi.1.2.2.2⟩ hr.1, hC.words _ mi.2⟩ ⟨fPc_blind, fPc_at hC hP hS⟩ rfl ha hL.size rfl (lv_room hw) d hr.2
theorem fMax : Cond.static Lib.Math.max.name ∈ fT ∧ Cond.initialized "java/lang/Math" ∈ fT ∧ Cond.code Lib.Math.max.name Lib.Math.max.code 2 (some .int) ∈ fT := ⟨fM 145 (by decide +kernel) rfl, fM 93 (by decide +kernel) rfl, fM 146 (by decide +kernel) rfl⟩
theorem fMin : Cond.static Lib.Math.min.name ∈ fT ∧ Cond.initialized "java/lang/Math" ∈ fT ∧ Cond.code Lib.Math.min.name Lib.Math.min.code 2 (some .int) ∈ fT := ⟨fM 138 (by decide +kernel) rfl, fM 93 (by decide +kernel) rfl, fM 139 (by decide +kernel) rfl⟩
theorem fW_mmax (n : Nat) {idx : Nat} {x y : Int} (hx : rg x) (hy : rg y) (hl : Cond.methodLink mt.1.cls idx Lib.Math.max.name ∈ fT) (hf : 1 ≤ mt.2.2.2.2.frames) (hlo : (st.map fun v => v.category).sum + 13 ≤ mt.2.2.2.2.locals) (hc : c0 ≤ mt.2.2.2.2.cells) (hs : s0 ≤ mt.2.2.2.2.slots) (d : decode mt.2.1 pc = .ok (.invokestatic idx, 3)) (hn : pc + 3 = n) (k : fW G mt E c0 s0 n ls (iv (max x y) :: st) M) : fW G mt E c0 s0 pc ls (iv y :: iv x :: st) M := by
  subst hn
  intro p e s m args below meth c H locs la z hC hP hS hL
  have h := k p e s m args below meth c H locs la z hC hP hS hL
  refine va_mmax hC.exec hC.bytes (by rw [hL.size, hC.maxL]) hC.own (hC.words _ hl) (hC.words _ fMax.1) (hC.words _ fMax.2.1) (hC.words _ fMax.2.2) hf hlo hc hs d ?_
  have e1 : (if Int32.ofInt x < Int32.ofInt y then Int32.ofInt y else Int32.ofInt x) = Int32.ofInt (max x y) := by
    by_cases hq : x < y
    · rw [if_pos ((iv_lt hx hy).mpr hq)]; congr 1; omega
    · rw [if_neg (fun h2 => hq ((iv_lt hx hy).mp h2))]; congr 1; omega
  rw [e1]
  exact h
theorem fW_mmin (n : Nat) {idx : Nat} {x y : Int} (hx : rg x) (hy : rg y) (hl : Cond.methodLink mt.1.cls idx Lib.Math.min.name ∈ fT) (hf : 1 ≤ mt.2.2.2.2.frames) (hlo : (st.map fun v => v.category).sum + 13 ≤ mt.2.2.2.2.locals) (hc : c0 ≤ mt.2.2.2.2.cells) (hs : s0 ≤ mt.2.2.2.2.slots) (d : decode mt.2.1 pc = .ok (.invokestatic idx, 3)) (hn : pc + 3 = n) (k : fW G mt E c0 s0 n ls (iv (min x y) :: st) M) : fW G mt E c0 s0 pc ls (iv y :: iv x :: st) M := by
  subst hn
  intro p e s m args below meth c H locs la z hC hP hS hL
  have h := k p e s m args below meth c H locs la z hC hP hS hL
  refine va_mmin hC.exec hC.bytes (by rw [hL.size, hC.maxL]) hC.own (hC.words _ hl) (hC.words _ fMin.1) (hC.words _ fMin.2.1) (hC.words _ fMin.2.2) hf hlo hc hs d ?_
  have e1 : (if Int32.ofInt y < Int32.ofInt x then Int32.ofInt y else Int32.ofInt x) = Int32.ofInt (min x y) := by
    by_cases hq : y < x
    · rw [if_pos ((iv_lt hy hx).mpr hq)]; congr 1; omega
    · rw [if_neg (fun h2 => hq ((iv_lt hy hx).mp h2))]; congr 1; omega
  rw [e1]
  exact h
/-- arraycopy from place 0 to place 0 -/
def acpy (M : fMem) (src dst : Nat) (n : Int) : fMem := fun a i => if a = dst ∧ 0 ≤ i ∧ i < n then M src i else M a i
theorem acpy_ne {M : fMem} {src dst a : Nat} {n : Int} (h : a ≠ dst) : acpy M src dst n a = M a := by funext i; simp [acpy, h]
theorem fR_acpy {M : fMem} {src dst : Nat} {n : Int} (h : fR M) : fR (acpy M src dst n) := by
  intro a i
  unfold acpy
  split
  · exact h src i
  · exact h a i
theorem fCell_cg {G : fG} {M N : fMem} {a : Nat} (h : M a = N a) : fCell G M a = fCell G N a := by
  have h1 : ∀ t, fFs G M a t = fFs G N a t := fun t => by
    unfold fFs
    apply List.map_congr_left
    intro i _
    simp only [fFv, gRf, h]
  simp only [fCell, h1, gRf, h]
theorem fCell_cpy {G : fG} {M : fMem} {src dst : Nat} {n : Int} (h : Ty dst = 12) (hn : 0 ≤ n) : va_up (fCell G M) dst (.inl (gcA G 12, Lnn dst, .inl (va_cpy (fun i => Int32.ofInt (M src i)) (fun i => Int32.ofInt (M dst i)) 0 0 n.toNat))) = fCell G (acpy M src dst n) := by
  funext a
  by_cases ha : a = dst
  · subst ha
    rw [fCell_int h (by omega) (by omega)]
    simp only [va_up, if_true]
    congr 4
    funext i
    by_cases hi : i < n.toNat
    · rw [pk_cpy_in (by omega) (by omega)]
      simp only [acpy]
      rw [if_pos ⟨trivial, by omega, by omega⟩]
      congr 2
      omega
    · rw [pk_cpy_out (by omega)]
      simp only [acpy]
      rw [if_neg (by omega)]
  · simp only [va_up, ha, if_false]
    exact fCell_cg (acpy_ne ha).symm
theorem fCopyW : Cond.native arraycopyName ∈ fT ∧ Cond.static arraycopyName ∈ fT ∧ Cond.initialized "java/lang/System" ∈ fT := ⟨fM 686 (by decide +kernel) rfl, fM 685 (by decide +kernel) rfl, fM 108 (by decide +kernel) rfl⟩
theorem fW_acopy (n : Nat) {idx src dst : Nat} {x : Int} (hg : gbt G = true) (h0 : fTyp src 12) (h1 : fTyp dst 12) (hx : 0 ≤ x ∧ x ≤ Ln src ∧ x ≤ Ln dst) (hl : Cond.methodLink mt.1.cls idx arraycopyName ∈ fT) (hf : 1 ≤ mt.2.2.2.2.frames) (hlo : (st.map fun v => v.category).sum + (nativeFrameWords "java/lang/System" "arraycopy" 5 + 11) ≤ mt.2.2.2.2.locals) (d : decode mt.2.1 pc = .ok (.invokestatic idx, 3)) (hn : pc + 3 = n) (k : fW G mt E c0 s0 n ls st (acpy M src dst x)) : fW G mt E c0 s0 pc ls (iv x :: iv 0 :: .ref (gb G + dst) :: iv 0 :: .ref (gb G + src) :: st) M := by
  subst hn
  intro p e s m args below meth c H locs la z hC hP hS hL
  have hs1 := Ln_small src
  have hs2 := Ln_small dst
  have hr : rg x := ⟨by omega, by omega⟩
  have e0 : (Int32.ofInt 0).toNatClampNeg = 0 := rfl
  have e1 : (Int32.ofInt x).toNatClampNeg = x.toNat := iv_clamp hr
  have i1 := hx.2.1
  have i2 := hx.2.2
  unfold Ln at i1 i2
  refine va_copyi hC.exec hC.bytes (by rw [hL.size, hC.maxL]) hC.own (hC.words _ hl) (hC.words _ fCopyW.1) (hC.words _ fCopyW.2.1) (hC.words _ fCopyW.2.2) hC.K hP.1 (gD_ok hP.2.2.1) hS src dst 0 0 (fAt_int hg h0 (by omega) (by omega)) (fAt_int hg h1 (by omega) (by omega)) rfl rfl rfl (by decide) (by decide) ?_ ?_ ?_ (fun i _ => rfl) hf hlo d (fun H1 locs1 q1 _ q3 => ?_)
  · intro h2
    have := (iv_lt (y := 0) hr ⟨by omega, by omega⟩).mp h2
    omega
  · rw [e0, e1]; omega
  · rw [e0, e1]; omega
  · rw [e0, e1, fWs_set (by rw [gN_bt hg]; exact h1.2), fCell_cpy h1.1 hx.1] at q1
    have hN : gN G (acpy M src dst x) = gN G M := by simp [gN, hg]
    exact k p e s m args below meth c H1 locs1 la z hC ⟨by rw [hN]; exact q1, fR_acpy hP.2.1, by rw [hN]; exact hP.2.2.1, fun h => by rw [hg] at h; cases h⟩ q3 hL
end FRM6
