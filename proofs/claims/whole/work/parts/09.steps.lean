/-! a row an instruction, over the judgement fW -/
section FRM4
variable {G : fG} {mt : fMt} {E : fE} {c0 s0 pc : Nat} {ls : List (Option Value)} {st : List Value} {M : fMem}
abbrev rv (G : fG) (k : Nat) : Value := .ref (gb G + k)
theorem fW_rg (k : fR M → fW G mt E c0 s0 pc ls st M) : fW G mt E c0 s0 pc ls st M := by
  intro p e s m args below meth c H locs la z hC hP hS hL
  exact k hP.2.1 p e s m args below meth c H locs la z hC hP hS hL
theorem fW_sub {ls' : List (Option Value)} (h : fSub ls' ls) (k : fW G mt E c0 s0 pc ls' st M) : fW G mt E c0 s0 pc ls st M := by
  intro p e s m args below meth c H locs la z hC hP hS hL
  exact k p e s m args below meth c H locs la z hC hP hS (hL.sub h)
theorem fW_wide {c1 s1 : Nat} (h1 : c0 ≤ c1) (h2 : s0 ≤ s1) (k : fW G mt E c1 s1 pc ls st M) : fW G mt E c0 s0 pc ls st M := by
  intro p e s m args below meth c H locs la z hC hP hS hL
  exact W.widen h1 h2 (k p e s m args below meth c H locs la z hC hP hS hL)
theorem fS {c : Prop} [Decidable c] {α : Type} {A : Option α} {q : α} (h : (if c then A else none) = some q) : c ∧ A = some q := by
  by_cases hc : c
  · rw [if_pos hc] at h; exact ⟨hc, h⟩
  · rw [if_neg hc] at h; cases h
theorem fTt {c : Prop} [Decidable c] {α : Type} {A B : Option α} {q : α} (h : (if c then A else B) = some q) (hc : c) : A = some q := by rwa [if_pos hc] at h
theorem fFf {c : Prop} [Decidable c] {α : Type} {A B : Option α} {q : α} (h : (if c then A else B) = some q) (hc : ¬ c) : B = some q := by rwa [if_neg hc] at h
theorem fBd {α β : Type} {A : Option α} {f : α → Option β} {q : β} (h : A.bind f = some q) : ∃ y, A = some y ∧ f y = some q := Option.bind_eq_some_iff.mp h

theorem fW_iconst (n : Nat) {v : Int} (d : decode mt.2.1 pc = .ok (.iconst v, 1)) (hn : pc + 1 = n)  (k : fW G mt E c0 s0 n ls (iv v :: st) M) : fW G mt E c0 s0 pc ls (st) M := by
  subst hn
  intro p e s m args below meth c H locs la z hC hP hS hL
  exact lv_iconst hC.exec hC.bytes d rfl (k p e s m args below meth c H locs la z hC hP hS hL)
theorem fW_bipush (n : Nat) {v : Int}  (d : decode mt.2.1 pc = .ok (.bipush v, 2)) (hn : pc + 2 = n) (hv : (Int8.ofInt v).toInt32 = Int32.ofInt v) (k : fW G mt E c0 s0 n ls (iv v :: st) M) : fW G mt E c0 s0 pc ls (st) M := by
  subst hn
  intro p e s m args below meth c H locs la z hC hP hS hL
  exact lv_bipush hC.exec hC.bytes d hv (k p e s m args below meth c H locs la z hC hP hS hL)
theorem fW_sipush (n : Nat) {v : Int}  (d : decode mt.2.1 pc = .ok (.sipush v, 3)) (hn : pc + 3 = n) (hv : (Int16.ofInt v).toInt32 = Int32.ofInt v) (k : fW G mt E c0 s0 n ls (iv v :: st) M) : fW G mt E c0 s0 pc ls (st) M := by
  subst hn
  intro p e s m args below meth c H locs la z hC hP hS hL
  exact lv_sipush hC.exec hC.bytes d hv (k p e s m args below meth c H locs la z hC hP hS hL)
theorem fW_ldc (n : Nat) {i : Nat} {v : Int}  (d : decode mt.2.1 pc = .ok (.ldc i, 2)) (hn : pc + 2 = n) (hw : Cond.constant mt.1.cls i (Int32.ofInt v) ∈ fT) (k : fW G mt E c0 s0 n ls (iv v :: st) M) : fW G mt E c0 s0 pc ls (st) M := by
  subst hn
  intro p e s m args below meth c H locs la z hC hP hS hL
  exact lv_ldc hC.exec hC.bytes hC.own (hC.words _ hw) d (k p e s m args below meth c H locs la z hC hP hS hL)
theorem fW_iload_n (n : Nat) {j : Fin 4} {x : Int}  (d : decode mt.2.1 pc = .ok (.iload_n j, 1)) (hn : pc + 1 = n) (hi : ls[(j : Nat)]? = some (some (iv x))) (k : fW G mt E c0 s0 n ls (iv x :: st) M) : fW G mt E c0 s0 pc ls (st) M := by
  subst hn
  intro p e s m args below meth c H locs la z hC hP hS hL
  exact lv_iload_n hC.exec hC.bytes d rfl (hL.at hi) (k p e s m args below meth c H locs la z hC hP hS hL)
theorem fW_iload (n : Nat) {i : Nat} {x : Int}  (d : decode mt.2.1 pc = .ok (.iload i, 2)) (hn : pc + 2 = n) (hi : ls[i]? = some (some (iv x))) (k : fW G mt E c0 s0 n ls (iv x :: st) M) : fW G mt E c0 s0 pc ls (st) M := by
  subst hn
  intro p e s m args below meth c H locs la z hC hP hS hL
  exact lv_iload hC.exec hC.bytes d (hL.at hi) (k p e s m args below meth c H locs la z hC hP hS hL)
theorem fW_aload_n (n : Nat) {j : Fin 4} {x : Nat}  (d : decode mt.2.1 pc = .ok (.aload_n j, 1)) (hn : pc + 1 = n) (hi : ls[(j : Nat)]? = some (some (.ref x))) (k : fW G mt E c0 s0 n ls (.ref x :: st) M) : fW G mt E c0 s0 pc ls (st) M := by
  subst hn
  intro p e s m args below meth c H locs la z hC hP hS hL
  exact lv_aload_n hC.exec hC.bytes d rfl (hL.at hi) (k p e s m args below meth c H locs la z hC hP hS hL)
theorem fW_aload (n : Nat) {i : Nat} {x : Nat}  (d : decode mt.2.1 pc = .ok (.aload i, 2)) (hn : pc + 2 = n) (hi : ls[i]? = some (some (.ref x))) (k : fW G mt E c0 s0 n ls (.ref x :: st) M) : fW G mt E c0 s0 pc ls (st) M := by
  subst hn
  intro p e s m args below meth c H locs la z hC hP hS hL
  exact lv_aload hC.exec hC.bytes d (hL.at hi) (k p e s m args below meth c H locs la z hC hP hS hL)
theorem fW_istore (n : Nat) {i : Nat} {x : Int} {ls' : List (Option Value)} (d : decode mt.2.1 pc = .ok (.istore i, 2)) (hn : pc + 2 = n)  (hs : ls.set i (some (iv x)) = ls') (hi : i < mt.2.2.1) (k : fW G mt E c0 s0 n ls' st M) : fW G mt E c0 s0 pc ls (iv x :: st) M := by
  subst hs
  subst hn
  intro p e s m args below meth c H locs la z hC hP hS hL
  exact lv_istore hC.exec hC.bytes d hL.1 hi rfl (fun la2 hl2 => k p e s m args below meth c H locs la2 z hC hP hS (fLs.set hL rfl hl2))
theorem fW_istore_n (n : Nat) {j : Fin 4} {i : Nat}  {x : Int} {ls' : List (Option Value)} (d : decode mt.2.1 pc = .ok (.istore_n j, 1)) (hn : pc + 1 = n) (hj : (j : Nat) = i) (hs : ls.set i (some (iv x)) = ls') (hi : i < mt.2.2.1) (k : fW G mt E c0 s0 n ls' st M) : fW G mt E c0 s0 pc ls (iv x :: st) M := by
  subst hs
  subst hn
  intro p e s m args below meth c H locs la z hC hP hS hL
  exact lv_istore_n hC.exec hC.bytes d hj hL.1 hi rfl (fun la2 hl2 => k p e s m args below meth c H locs la2 z hC hP hS (fLs.set hL rfl hl2))
theorem fW_astore (n : Nat) {i : Nat} {x : Nat} {ls' : List (Option Value)} (d : decode mt.2.1 pc = .ok (.astore i, 2)) (hn : pc + 2 = n)  (hs : ls.set i (some (.ref x)) = ls') (hi : i < mt.2.2.1) (k : fW G mt E c0 s0 n ls' st M) : fW G mt E c0 s0 pc ls (.ref x :: st) M := by
  subst hs
  subst hn
  intro p e s m args below meth c H locs la z hC hP hS hL
  exact lv_astore hC.exec hC.bytes d hL.1 hi rfl (fun la2 hl2 => k p e s m args below meth c H locs la2 z hC hP hS (fLs.set hL rfl hl2))
theorem fW_astore_n (n : Nat) {j : Fin 4} {i : Nat}  {x : Nat} {ls' : List (Option Value)} (d : decode mt.2.1 pc = .ok (.astore_n j, 1)) (hn : pc + 1 = n) (hj : (j : Nat) = i) (hs : ls.set i (some (.ref x)) = ls') (hi : i < mt.2.2.1) (k : fW G mt E c0 s0 n ls' st M) : fW G mt E c0 s0 pc ls (.ref x :: st) M := by
  subst hs
  subst hn
  intro p e s m args below meth c H locs la z hC hP hS hL
  exact lv_astore_n hC.exec hC.bytes d hj hL.1 hi rfl (fun la2 hl2 => k p e s m args below meth c H locs la2 z hC hP hS (fLs.set hL rfl hl2))
theorem fW_iinc (n : Nat) {i : Nat} {v x : Int} {ls' : List (Option Value)} (d : decode mt.2.1 pc = .ok (.iinc i v, 3)) (hn : pc + 3 = n) (hx : ls[i]? = some (some (iv x))) (hs : ls.set i (some (iv (x + v))) = ls') (hi : i < mt.2.2.1) (k : fW G mt E c0 s0 n ls' st M) : fW G mt E c0 s0 pc ls st M := by
  subst hs
  subst hn
  intro p e s m args below meth c H locs la z hC hP hS hL
  obtain ⟨j, hj⟩ := List.getElem?_of_mem (fEn_mem.mpr hx)
  exact lv_iinc hC.exec hC.bytes d hL.1 hj (v := Int32.ofInt (x + v)) (by rw [Int32.ofInt_add]) hi rfl (fun la2 hl2 => k p e s m args below meth c H locs la2 z hC hP hS (fLs.set hL rfl hl2))
theorem fW_iadd (n : Nat) {x y : Int} (d : decode mt.2.1 pc = .ok (.iadd, 1)) (hn : pc + 1 = n) (k : fW G mt E c0 s0 n ls (iv (x + y) :: st) M) : fW G mt E c0 s0 pc ls (iv y :: iv x :: st) M := by
  subst hn
  intro p e s m args below meth c H locs la z hC hP hS hL
  have h := k p e s m args below meth c H locs la z hC hP hS hL
  rw [iv, Int32.ofInt_add] at h
  exact lv_iadd hC.exec hC.bytes d h
theorem fW_isub (n : Nat) {x y : Int} (d : decode mt.2.1 pc = .ok (.isub, 1)) (hn : pc + 1 = n) (k : fW G mt E c0 s0 n ls (iv (x - y) :: st) M) : fW G mt E c0 s0 pc ls (iv y :: iv x :: st) M := by
  subst hn
  intro p e s m args below meth c H locs la z hC hP hS hL
  have h := k p e s m args below meth c H locs la z hC hP hS hL
  rw [iv, Int32.ofInt_sub] at h
  exact lv_isub hC.exec hC.bytes d h
theorem fW_imul (n : Nat) {x y : Int} (d : decode mt.2.1 pc = .ok (.imul, 1)) (hn : pc + 1 = n) (k : fW G mt E c0 s0 n ls (iv (x * y) :: st) M) : fW G mt E c0 s0 pc ls (iv y :: iv x :: st) M := by
  subst hn
  intro p e s m args below meth c H locs la z hC hP hS hL
  have h := k p e s m args below meth c H locs la z hC hP hS hL
  rw [iv, Int32.ofInt_mul] at h
  exact lv_imul hC.exec hC.bytes d h
theorem iv_div {x y : Int} (hx : 0 ≤ x ∧ x < 2147483648) (hy : 0 < y ∧ y < 2147483648) : Int32.ofInt x / Int32.ofInt y = Int32.ofInt (x / y) := by
  apply Int32.toInt_inj.mp
  have h1 : 0 ≤ x / y := Int.ediv_nonneg hx.1 (Int.le_of_lt hy.1)
  have h2 : x / y ≤ x := Int.ediv_le_self y hx.1
  rw [Int32.toInt_div, iv_toInt ⟨by omega, by omega⟩, iv_toInt ⟨by omega, by omega⟩, iv_toInt ⟨by omega, by omega⟩, Int.tdiv_eq_ediv_of_nonneg hx.1]
  exact iv_bmod ⟨by omega, by omega⟩
theorem fW_idiv (n : Nat) {x y : Int} (hx : 0 ≤ x ∧ x < 2147483648) (hy : 0 < y ∧ y < 2147483648) (d : decode mt.2.1 pc = .ok (.idiv, 1)) (hn : pc + 1 = n) (k : fW G mt E c0 s0 n ls (iv (x / y) :: st) M) : fW G mt E c0 s0 pc ls (iv y :: iv x :: st) M := by
  subst hn
  intro p e s m args below meth c H locs la z hC hP hS hL
  have h := k p e s m args below meth c H locs la z hC hP hS hL
  rw [iv, ← iv_div hx hy] at h
  refine lv_idiv hC.exec hC.bytes d (fun h0 => ?_) h
  have := (iv_eq (x := y) (y := 0) ⟨by omega, by omega⟩ ⟨by omega, by omega⟩).mp h0
  omega
theorem fW_irem (n : Nat) {x y : Int} (hx : 0 ≤ x ∧ x < 2147483648) (hy : 0 < y ∧ y < 2147483648) (d : decode mt.2.1 pc = .ok (.irem, 1)) (hn : pc + 1 = n) (k : fW G mt E c0 s0 n ls (iv (x % y) :: st) M) : fW G mt E c0 s0 pc ls (iv y :: iv x :: st) M := by
  subst hn
  intro p e s m args below meth c H locs la z hC hP hS hL
  have h := k p e s m args below meth c H locs la z hC hP hS hL
  have e1 : Int32.ofInt (x % y) = Int32.ofInt x - Int32.ofInt x / Int32.ofInt y * Int32.ofInt y := by
    rw [iv_div hx hy, ← Int32.ofInt_mul, ← Int32.ofInt_sub]
    congr 1
    rw [Int.emod_def, Int.mul_comm]
  rw [iv, e1] at h
  refine lv_irem hC.exec hC.bytes d (fun h0 => ?_) h
  have := (iv_eq (x := y) (y := 0) ⟨by omega, by omega⟩ ⟨by omega, by omega⟩).mp h0
  omega
theorem fW_dup (n : Nat) {v : Value}  (d : decode mt.2.1 pc = .ok (.dup, 1)) (hn : pc + 1 = n) (hv : v.category = 1) (k : fW G mt E c0 s0 n ls (v :: v :: st) M) : fW G mt E c0 s0 pc ls (v :: st) M := by
  subst hn
  intro p e s m args below meth c H locs la z hC hP hS hL
  exact lv_dup hC.exec hC.bytes d hv (k p e s m args below meth c H locs la z hC hP hS hL)
theorem fW_pop (n : Nat) {v : Value}  (d : decode mt.2.1 pc = .ok (.pop, 1)) (hn : pc + 1 = n) (hv : v.category = 1) (k : fW G mt E c0 s0 n ls (st) M) : fW G mt E c0 s0 pc ls (v :: st) M := by
  subst hn
  intro p e s m args below meth c H locs la z hC hP hS hL
  exact lv_pop hC.exec hC.bytes d hv (k p e s m args below meth c H locs la z hC hP hS hL)
theorem fW_dup2 (n : Nat) {v w : Value}  (d : decode mt.2.1 pc = .ok (.dup2, 1)) (hn : pc + 1 = n) (hv : v.category = 1) (hw : w.category = 1) (k : fW G mt E c0 s0 n ls (v :: w :: v :: w :: st) M) : fW G mt E c0 s0 pc ls (v :: w :: st) M := by
  subst hn
  intro p e s m args below meth c H locs la z hC hP hS hL
  exact lv_dup2_11 hC.exec hC.bytes d hv hw (k p e s m args below meth c H locs la z hC hP hS hL)
theorem fW_goto (n : Nat) {off : Int} (d : decode mt.2.1 pc = .ok (.goto off, 3)) (hn : (pc : Int) + off = (n : Int)) (k : fW G mt E c0 s0 n ls st M) : fW G mt E c0 s0 pc ls st M := by
  intro p e s m args below meth c H locs la z hC hP hS hL
  exact lv_goto hC.exec hC.bytes d hn (k p e s m args below meth c H locs la z hC hP hS hL)
theorem fW_icmp_eq (n t : Nat) {x y off : Int} (hx : rg x) (hy : rg y) (d : decode mt.2.1 pc = .ok (.if_icmp .eq off, 3)) (hn : pc + 3 = n) (ht : (pc : Int) + off = (t : Int)) (kt : x = y → fW G mt E c0 s0 t ls st M) (kf : ¬ (x = y) → fW G mt E c0 s0 n ls st M) : fW G mt E c0 s0 pc ls (iv y :: iv x :: st) M := by
  subst hn
  intro p e s m args below meth c H locs la z hC hP hS hL
  exact lv_icmp_eq hC.exec hC.bytes d ht (fun h => kt ((iv_eq hx hy).mp h) p e s m args below meth c H locs la z hC hP hS hL) (fun h => kf (fun h2 => h ((iv_eq hx hy).mpr h2)) p e s m args below meth c H locs la z hC hP hS hL)
theorem fW_if_eq (n t : Nat) {x off : Int} (hx : rg x) (d : decode mt.2.1 pc = .ok (.ifCond .eq off, 3)) (hn : pc + 3 = n) (ht : (pc : Int) + off = (t : Int)) (kt : x = 0 → fW G mt E c0 s0 t ls st M) (kf : ¬ (x = 0) → fW G mt E c0 s0 n ls st M) : fW G mt E c0 s0 pc ls (iv x :: st) M := by
  subst hn
  intro p e s m args below meth c H locs la z hC hP hS hL
  have hy : rg 0 := ⟨by omega, by omega⟩
  exact lv_if_eq hC.exec hC.bytes d ht (fun h => kt ((iv_eq (y := 0) hx hy).mp h) p e s m args below meth c H locs la z hC hP hS hL) (fun h => kf (fun h2 => h ((iv_eq (y := 0) hx hy).mpr h2)) p e s m args below meth c H locs la z hC hP hS hL)
theorem fW_icmp_ne (n t : Nat) {x y off : Int} (hx : rg x) (hy : rg y) (d : decode mt.2.1 pc = .ok (.if_icmp .ne off, 3)) (hn : pc + 3 = n) (ht : (pc : Int) + off = (t : Int)) (kt : ¬ x = y → fW G mt E c0 s0 t ls st M) (kf : x = y → fW G mt E c0 s0 n ls st M) : fW G mt E c0 s0 pc ls (iv y :: iv x :: st) M := by
  subst hn
  intro p e s m args below meth c H locs la z hC hP hS hL
  exact lv_icmp_ne hC.exec hC.bytes d ht (fun h => kt (fun h2 => h ((iv_eq hx hy).mpr h2)) p e s m args below meth c H locs la z hC hP hS hL) (fun h => kf ((iv_eq hx hy).mp h) p e s m args below meth c H locs la z hC hP hS hL)
theorem fW_if_ne (n t : Nat) {x off : Int} (hx : rg x) (d : decode mt.2.1 pc = .ok (.ifCond .ne off, 3)) (hn : pc + 3 = n) (ht : (pc : Int) + off = (t : Int)) (kt : ¬ x = 0 → fW G mt E c0 s0 t ls st M) (kf : x = 0 → fW G mt E c0 s0 n ls st M) : fW G mt E c0 s0 pc ls (iv x :: st) M := by
  subst hn
  intro p e s m args below meth c H locs la z hC hP hS hL
  have hy : rg 0 := ⟨by omega, by omega⟩
  exact lv_if_ne hC.exec hC.bytes d ht (fun h => kt (fun h2 => h ((iv_eq (y := 0) hx hy).mpr h2)) p e s m args below meth c H locs la z hC hP hS hL) (fun h => kf ((iv_eq (y := 0) hx hy).mp h) p e s m args below meth c H locs la z hC hP hS hL)
theorem fW_icmp_lt (n t : Nat) {x y off : Int} (hx : rg x) (hy : rg y) (d : decode mt.2.1 pc = .ok (.if_icmp .lt off, 3)) (hn : pc + 3 = n) (ht : (pc : Int) + off = (t : Int)) (kt : x < y → fW G mt E c0 s0 t ls st M) (kf : ¬ (x < y) → fW G mt E c0 s0 n ls st M) : fW G mt E c0 s0 pc ls (iv y :: iv x :: st) M := by
  subst hn
  intro p e s m args below meth c H locs la z hC hP hS hL
  exact lv_icmp_lt hC.exec hC.bytes d ht (fun h => kt ((iv_lt hx hy).mp h) p e s m args below meth c H locs la z hC hP hS hL) (fun h => kf (fun h2 => h ((iv_lt hx hy).mpr h2)) p e s m args below meth c H locs la z hC hP hS hL)
theorem fW_if_lt (n t : Nat) {x off : Int} (hx : rg x) (d : decode mt.2.1 pc = .ok (.ifCond .lt off, 3)) (hn : pc + 3 = n) (ht : (pc : Int) + off = (t : Int)) (kt : x < 0 → fW G mt E c0 s0 t ls st M) (kf : ¬ (x < 0) → fW G mt E c0 s0 n ls st M) : fW G mt E c0 s0 pc ls (iv x :: st) M := by
  subst hn
  intro p e s m args below meth c H locs la z hC hP hS hL
  have hy : rg 0 := ⟨by omega, by omega⟩
  exact lv_if_lt hC.exec hC.bytes d ht (fun h => kt ((iv_lt (y := 0) hx hy).mp h) p e s m args below meth c H locs la z hC hP hS hL) (fun h => kf (fun h2 => h ((iv_lt (y := 0) hx hy).mpr h2)) p e s m args below meth c H locs la z hC hP hS hL)
theorem fW_icmp_ge (n t : Nat) {x y off : Int} (hx : rg x) (hy : rg y) (d : decode mt.2.1 pc = .ok (.if_icmp .ge off, 3)) (hn : pc + 3 = n) (ht : (pc : Int) + off = (t : Int)) (kt : y ≤ x → fW G mt E c0 s0 t ls st M) (kf : ¬ (y ≤ x) → fW G mt E c0 s0 n ls st M) : fW G mt E c0 s0 pc ls (iv y :: iv x :: st) M := by
  subst hn
  intro p e s m args below meth c H locs la z hC hP hS hL
  exact lv_icmp_ge hC.exec hC.bytes d ht (fun h => kt ((iv_le hy hx).mp h) p e s m args below meth c H locs la z hC hP hS hL) (fun h => kf (fun h2 => h ((iv_le hy hx).mpr h2)) p e s m args below meth c H locs la z hC hP hS hL)
theorem fW_if_ge (n t : Nat) {x off : Int} (hx : rg x) (d : decode mt.2.1 pc = .ok (.ifCond .ge off, 3)) (hn : pc + 3 = n) (ht : (pc : Int) + off = (t : Int)) (kt : 0 ≤ x → fW G mt E c0 s0 t ls st M) (kf : ¬ (0 ≤ x) → fW G mt E c0 s0 n ls st M) : fW G mt E c0 s0 pc ls (iv x :: st) M := by
  subst hn
  intro p e s m args below meth c H locs la z hC hP hS hL
  have hy : rg 0 := ⟨by omega, by omega⟩
  exact lv_if_ge hC.exec hC.bytes d ht (fun h => kt ((iv_le (x := 0) hy hx).mp h) p e s m args below meth c H locs la z hC hP hS hL) (fun h => kf (fun h2 => h ((iv_le (x := 0) hy hx).mpr h2)) p e s m args below meth c H locs la z hC hP hS hL)
theorem fW_icmp_gt (n t : Nat) {x y off : Int} (hx : rg x) (hy : rg y) (d : decode mt.2.1 pc = .ok (.if_icmp .gt off, 3)) (hn : pc + 3 = n) (ht : (pc : Int) + off = (t : Int)) (kt : y < x → fW G mt E c0 s0 t ls st M) (kf : ¬ (y < x) → fW G mt E c0 s0 n ls st M) : fW G mt E c0 s0 pc ls (iv y :: iv x :: st) M := by
  subst hn
  intro p e s m args below meth c H locs la z hC hP hS hL
  exact lv_icmp_gt hC.exec hC.bytes d ht (fun h => kt ((iv_lt hy hx).mp h) p e s m args below meth c H locs la z hC hP hS hL) (fun h => kf (fun h2 => h ((iv_lt hy hx).mpr h2)) p e s m args below meth c H locs la z hC hP hS hL)
theorem fW_if_gt (n t : Nat) {x off : Int} (hx : rg x) (d : decode mt.2.1 pc = .ok (.ifCond .gt off, 3)) (hn : pc + 3 = n) (ht : (pc : Int) + off = (t : Int)) (kt : 0 < x → fW G mt E c0 s0 t ls st M) (kf : ¬ (0 < x) → fW G mt E c0 s0 n ls st M) : fW G mt E c0 s0 pc ls (iv x :: st) M := by
  subst hn
  intro p e s m args below meth c H locs la z hC hP hS hL
  have hy : rg 0 := ⟨by omega, by omega⟩
  exact lv_if_gt hC.exec hC.bytes d ht (fun h => kt ((iv_lt (x := 0) hy hx).mp h) p e s m args below meth c H locs la z hC hP hS hL) (fun h => kf (fun h2 => h ((iv_lt (x := 0) hy hx).mpr h2)) p e s m args below meth c H locs la z hC hP hS hL)
theorem fW_icmp_le (n t : Nat) {x y off : Int} (hx : rg x) (hy : rg y) (d : decode mt.2.1 pc = .ok (.if_icmp .le off, 3)) (hn : pc + 3 = n) (ht : (pc : Int) + off = (t : Int)) (kt : x ≤ y → fW G mt E c0 s0 t ls st M) (kf : ¬ (x ≤ y) → fW G mt E c0 s0 n ls st M) : fW G mt E c0 s0 pc ls (iv y :: iv x :: st) M := by
  subst hn
  intro p e s m args below meth c H locs la z hC hP hS hL
  exact lv_icmp_le hC.exec hC.bytes d ht (fun h => kt ((iv_le hx hy).mp h) p e s m args below meth c H locs la z hC hP hS hL) (fun h => kf (fun h2 => h ((iv_le hx hy).mpr h2)) p e s m args below meth c H locs la z hC hP hS hL)
theorem fW_if_le (n t : Nat) {x off : Int} (hx : rg x) (d : decode mt.2.1 pc = .ok (.ifCond .le off, 3)) (hn : pc + 3 = n) (ht : (pc : Int) + off = (t : Int)) (kt : x ≤ 0 → fW G mt E c0 s0 t ls st M) (kf : ¬ (x ≤ 0) → fW G mt E c0 s0 n ls st M) : fW G mt E c0 s0 pc ls (iv x :: st) M := by
  subst hn
  intro p e s m args below meth c H locs la z hC hP hS hL
  have hy : rg 0 := ⟨by omega, by omega⟩
  exact lv_if_le hC.exec hC.bytes d ht (fun h => kt ((iv_le (y := 0) hx hy).mp h) p e s m args below meth c H locs la z hC hP hS hL) (fun h => kf (fun h2 => h ((iv_le (y := 0) hx hy).mpr h2)) p e s m args below meth c H locs la z hC hP hS hL)
theorem fW_tabIn (t : Nat) {x v dflt lo hi off : Int} {offs : Array Int} {len : Nat} (hv : x = v) (hx : rg v) (d : decode mt.2.1 pc = .ok (.tableswitch dflt lo hi offs, len)) (h1 : ¬ v < lo) (h2 : ¬ hi < v) (ho : offs[(v - lo).toNat]? = some off) (ht : (pc : Int) + off = (t : Int)) (k : fW G mt E c0 s0 t ls st M) : fW G mt E c0 s0 pc ls (iv x :: st) M := by
  subst hv
  intro p e s m args below meth c H locs la z hC hP hS hL
  exact lv_tableIn hC.exec hC.bytes d (by rw [iv_toInt hx]; exact h1) (by rw [iv_toInt hx]; exact h2) (by rw [iv_toInt hx]; exact ho) ht (k p e s m args below meth c H locs la z hC hP hS hL)
theorem fW_tabOut (t : Nat) {x dflt lo hi : Int} {offs : Array Int} {len : Nat} (hx : rg x) (d : decode mt.2.1 pc = .ok (.tableswitch dflt lo hi offs, len)) (h1 : x < lo ∨ hi < x) (ht : (pc : Int) + dflt = (t : Int)) (k : fW G mt E c0 s0 t ls st M) : fW G mt E c0 s0 pc ls (iv x :: st) M := by
  intro p e s m args below meth c H locs la z hC hP hS hL
  exact lv_tableOut hC.exec hC.bytes d (by rw [iv_toInt hx]; exact h1) ht (k p e s m args below meth c H locs la z hC hP hS hL)
theorem fW_look (t : Nat) {x dflt off : Int} {ps : Array (Int × Int)} {len : Nat} (hx : rg x) (d : decode mt.2.1 pc = .ok (.lookupswitch dflt ps, len)) (hp : (ps.toList.zip (ps.toList.drop 1)).all (fun (a, next) => a.1 < next.1) = true) (ho : Op.lookupswitch.offset ps.toList dflt x = off) (ht : (pc : Int) + off = (t : Int)) (k : fW G mt E c0 s0 t ls st M) : fW G mt E c0 s0 pc ls (iv x :: st) M := by
  intro p e s m args below meth c H locs la z hC hP hS hL
  exact lv_lookup hC.exec hC.bytes d hp (by rw [iv_toInt hx]; exact ho) ht (k p e s m args below meth c H locs la z hC hP hS hL)
/-! the heap, when all is made -/
theorem gN_bt (hg : gbt G = true) : gN G M = 440 := by simp [gN, hg]
theorem gRf_bt (hg : gbt G = true) {k : Nat} {j : Int} : gRf G M k j = some (gb G + Rf k j) := by simp [gRf, hg]
/-- a class: its number, its name, its fields, their types -/
def fCl (ci : Nat) (C : String) (T : u_T) (N : Nat) (ty : Nat → FieldType) : Prop := vwCl[ci]? = some (C, T, N) ∧ (∀ w ∈ u_ws C T N, w ∈ fT) ∧ (∀ k, k < N → parseFieldDescriptor (T k).2.2.1 = some (ty k)) ∧ (∀ a, a < N → ∀ b, b < N → a ≠ b → (T a).2.1 ≠ (T b).2.1) ∧ fNf ci = N ∧ ci < 12
theorem fAt_obj (hg : gbt G = true) {o t : Nat} (ho : fTyp o t) (ht : t < 12) : (fWs (gb G) (gN G M) (fCell G M))[o]? = some (gb G + o, .inr (t, fFs G M o t)) := by
  rw [fWs_get (by rw [gN_bt hg]; exact ho.2), fCell_obj ho.1 ht]
theorem fAt_int (hg : gbt G = true) {o t : Nat} (ho : fTyp o t) (h1 : 12 ≤ t) (h2 : t < 14) : (fWs (gb G) (gN G M) (fCell G M))[o]? = some (gb G + o, .inl (gcA G t, Lnn o, .inl (fun j => Int32.ofInt (M o j)))) := by
  rw [fWs_get (by rw [gN_bt hg]; exact ho.2), fCell_int ho.1 h1 h2]
theorem fAt_ref (hg : gbt G = true) {o t : Nat} (ho : fTyp o t) (h1 : 14 ≤ t) (h2 : t < 18) : (fWs (gb G) (gN G M) (fCell G M))[o]? = some (gb G + o, .inl (gcA G t, Lnn o, .inr (.inr (.inr (.inr (fun j => gRf G M o j)))))) := by
  rw [fWs_get (by rw [gN_bt hg]; exact ho.2), fCell_ref ho.1 h1 h2]
theorem fAt_long (hg : gbt G = true) {o : Nat} (ho : fTyp o 18) : (fWs (gb G) (gN G M) (fCell G M))[o]? = some (gb G + o, .inl (gcA G 18, Lnn o, .inr (.inl (fun j => Int64.ofInt (M o j))))) := by
  rw [fWs_get (by rw [gN_bt hg]; exact ho.2), fCell_long ho.1]
theorem fW_getI (n : Nat) {C : String} {T : u_T} {N : Nat} {ty : Nat → FieldType} {ci idx o : Nat} (j : Nat) {ji : Int} (hg : gbt G = true) (cl : fCl ci C T N ty) (hji : (j : Int) = ji) (hj : j < N) (hr : fRt ci j = none) (ho : fTyp o ci) (hl : Cond.fieldLink mt.1.cls idx (T j).1 (T j).2.1 (T j).2.2.1 ∈ fT) (d : decode mt.2.1 pc = .ok (.getfield idx, 3)) (hn : pc + 3 = n) (k : fW G mt E c0 s0 n ls (iv (M o ji) :: st) M) : fW G mt E c0 s0 pc ls (.ref (gb G + o) :: st) M := by
  subst hji
  subst hn
  intro p e s m args below meth c H locs la z hC hP hS hL
  exact va_get hC.exec hC.bytes hC.words cl.2.1 hC.own hC.K hP.1 o (fAt_obj hg ho cl.2.2.2.2.2) cl.1 j hj (hC.words _ hl) (fun _ h => h) (fFs_get (by rw [cl.2.2.2.2.1]; exact hj) hr) d (k p e s m args below meth c H locs la z hC hP hS hL)
theorem fW_getR (n : Nat) {C : String} {T : u_T} {N : Nat} {ty : Nat → FieldType} {ci idx o u r : Nat} (j : Nat) (hg : gbt G = true) (cl : fCl ci C T N ty) (hj : j < N) (hr : fRt ci j = some u) (ho : fTyp o ci) (hf : Rf o j = r) (hl : Cond.fieldLink mt.1.cls idx (T j).1 (T j).2.1 (T j).2.2.1 ∈ fT) (d : decode mt.2.1 pc = .ok (.getfield idx, 3)) (hn : pc + 3 = n) (k : fW G mt E c0 s0 n ls (.ref (gb G + r) :: st) M) : fW G mt E c0 s0 pc ls (.ref (gb G + o) :: st) M := by
  subst hf
  subst hn
  intro p e s m args below meth c H locs la z hC hP hS hL
  exact va_get hC.exec hC.bytes hC.words cl.2.1 hC.own hC.K hP.1 o (fAt_obj hg ho cl.2.2.2.2.2) cl.1 j hj (hC.words _ hl) (fun _ h => h) (by rw [fFs_getR (by rw [cl.2.2.2.2.1]; exact hj) hr, gRf_bt hg]; rfl) d (k p e s m args below meth c H locs la z hC hP hS hL)
theorem fP_set (hg : gbt G = true) {o : Nat} {j v : Int} {x : va_E} {H1 : Heap} {q : fMem} (hR : fR M) (ho : o < 440) (hv : rg v) (hx : va_up (fCell G M) o x = fCell G (mset M o j v)) (h1 : va_P (gD G) vwCl ((fWs (gb G) (gN G M) (fCell G M)).set o (gb G + o, x)) H1) : fP G (mset M o j v) H1 := by
  have hN : gN G (mset M o j v) = gN G M := gN_mset (Nat.ne_of_lt ho)
  rw [fWs_set (by rw [gN_bt hg]; exact ho), hx] at h1
  refine ⟨by rw [hN]; exact h1, fR_mset hR hv, by rw [hN, gN_bt hg]; exact Nat.le_refl _, fun h => ?_⟩
  rw [hg] at h
  cases h
theorem fW_putI (n : Nat) {C : String} {T : u_T} {N : Nat} {ty : Nat → FieldType} {ci idx o : Nat} (j : Nat) {ji v : Int} (hg : gbt G = true) (cl : fCl ci C T N ty) (hji : (j : Int) = ji) (hj : j < N) (hr : fRt ci j = none) (hty : ty j = .int) (hfin : (T j).2.2.2 = false) (ho : fTyp o ci) (hv : rg v) (hl : Cond.fieldLink mt.1.cls idx (T j).1 (T j).2.1 (T j).2.2.1 ∈ fT) (d : decode mt.2.1 pc = .ok (.putfield idx, 3)) (hn : pc + 3 = n) (k : fW G mt E c0 s0 n ls st (mset M o ji v)) : fW G mt E c0 s0 pc ls (iv v :: .ref (gb G + o) :: st) M := by
  subst hji
  subst hn
  intro p e s m args below meth c H locs la z hC hP hS hL
  have hjN : j < fNf ci := by rw [cl.2.2.2.2.1]; exact hj
  refine va_put hC.exec hC.bytes hC.words cl.2.1 ty cl.2.2.1 cl.2.2.2.1 hC.own hC.K hP.1 (gD_ok hP.2.2.1) hS o (fAt_obj hg ho cl.2.2.2.2.2) cl.1 j hj (hC.words _ hl) (fun _ h => h) hfin (cl.2.2.1 j hj) (by rw [hty]; rfl) (by rw [hty]; rfl) (by rw [fFs_len]; exact hjN) d (fun H1 locs1 h1 _ h3 => ?_)
  exact k p e s m args below meth c H1 locs1 la z hC (fP_set (q := M) hg hP.2.1 ho.2 hv (fCell_setF ho.1 cl.2.2.2.2.2 hjN (by simp [fFv, hr, mset_self])) h1) h3 hL
theorem iv_z {v : Int} (h : 0 ≤ v ∧ v ≤ 1) : narrow .boolean (iv v) = iv v ∧ fits .boolean (iv v) = true ∧ vp_nar .boolean (Int32.ofInt v) = Int32.ofInt v := by
  have : v = 0 ∨ v = 1 := by omega
  rcases this with rfl | rfl <;> exact ⟨rfl, rfl, rfl⟩
theorem fW_putZ (n : Nat) {C : String} {T : u_T} {N : Nat} {ty : Nat → FieldType} {ci idx o : Nat} (j : Nat) {ji v : Int} (hg : gbt G = true) (cl : fCl ci C T N ty) (hji : (j : Int) = ji) (hj : j < N) (hr : fRt ci j = none) (hty : ty j = .boolean) (hfin : (T j).2.2.2 = false) (ho : fTyp o ci) (hv : 0 ≤ v ∧ v ≤ 1) (hl : Cond.fieldLink mt.1.cls idx (T j).1 (T j).2.1 (T j).2.2.1 ∈ fT) (d : decode mt.2.1 pc = .ok (.putfield idx, 3)) (hn : pc + 3 = n) (k : fW G mt E c0 s0 n ls st (mset M o ji v)) : fW G mt E c0 s0 pc ls (iv v :: .ref (gb G + o) :: st) M := by
  subst hji
  subst hn
  intro p e s m args below meth c H locs la z hC hP hS hL
  have hjN : j < fNf ci := by rw [cl.2.2.2.2.1]; exact hj
  refine va_put hC.exec hC.bytes hC.words cl.2.1 ty cl.2.2.1 cl.2.2.2.1 hC.own hC.K hP.1 (gD_ok hP.2.2.1) hS o (fAt_obj hg ho cl.2.2.2.2.2) cl.1 j hj (hC.words _ hl) (fun _ h => h) hfin (cl.2.2.1 j hj) (by rw [hty]; exact (iv_z hv).1) (by rw [hty]; exact (iv_z hv).2.1) (by rw [fFs_len]; exact hjN) d (fun H1 locs1 h1 _ h3 => ?_)
  exact k p e s m args below meth c H1 locs1 la z hC (fP_set (q := M) hg hP.2.1 ho.2 ⟨by omega, by omega⟩ (fCell_setF ho.1 cl.2.2.2.2.2 hjN (by simp [fFv, hr, mset_self])) h1) h3 hL
theorem fIx {o : Nat} {i : Int} (hi : 0 ≤ i ∧ i < Ln o) : rg i ∧ vp_in (Int32.ofInt i) (Lnn o) ∧ (Int32.ofInt i).toNatClampNeg = i.toNat := by
  have h1 := Ln_small o
  have hr : rg i := ⟨by omega, by omega⟩
  exact ⟨hr, iv_in hr hi.1 hi.2, iv_clamp hr⟩
theorem fW_iald (n : Nat) {o : Nat} {i : Int} (hg : gbt G = true) (ho : fTyp o 12) (hi : 0 ≤ i ∧ i < Ln o) (d : decode mt.2.1 pc = .ok (.iaload, 1)) (hn : pc + 1 = n) (k : fW G mt E c0 s0 n ls (iv (M o i) :: st) M) : fW G mt E c0 s0 pc ls (iv i :: .ref (gb G + o) :: st) M := by
  subst hn
  intro p e s m args below meth c H locs la z hC hP hS hL
  obtain ⟨h1, h2, h3⟩ := fIx hi
  refine va_iald hC.exec hC.bytes hC.K hP.1 o 0 (fAt_int hg ho (by omega) (by omega)) rfl h2 d ?_
  rw [h3, show ((i.toNat : Nat) : Int) = i by omega]
  exact k p e s m args below meth c H locs la z hC hP hS hL
theorem fW_zald (n : Nat) {o : Nat} {i : Int} (hg : gbt G = true) (ho : fTyp o 13) (hi : 0 ≤ i ∧ i < Ln o) (d : decode mt.2.1 pc = .ok (.baload, 1)) (hn : pc + 1 = n) (k : fW G mt E c0 s0 n ls (iv (M o i) :: st) M) : fW G mt E c0 s0 pc ls (iv i :: .ref (gb G + o) :: st) M := by
  subst hn
  intro p e s m args below meth c H locs la z hC hP hS hL
  obtain ⟨h1, h2, h3⟩ := fIx hi
  refine va_zald hC.exec hC.bytes hC.K hP.1 o 1 (fAt_int hg ho (by omega) (by omega)) rfl h2 d ?_
  rw [h3, show ((i.toNat : Nat) : Int) = i by omega]
  exact k p e s m args below meth c H locs la z hC hP hS hL
theorem fW_aald (n : Nat) {o t r : Nat} {i : Int} {C : String} (t0 : Nat) (hg : gbt G = true) (ho : fTyp o t) (h1 : 14 ≤ t) (h2 : t < 18) (hi : 0 ≤ i ∧ i < Ln o) (hf : Rf o i = r) (ht : (fTys G)[t0]? = some (gcA G t, .object C)) (d : decode mt.2.1 pc = .ok (.aaload, 1)) (hn : pc + 1 = n) (k : fW G mt E c0 s0 n ls (.ref (gb G + r) :: st) M) : fW G mt E c0 s0 pc ls (iv i :: .ref (gb G + o) :: st) M := by
  subst hf
  subst hn
  intro p e s m args below meth c H locs la z hC hP hS hL
  obtain ⟨h3, h4, h5⟩ := fIx hi
  refine va_aldq hC.exec hC.bytes hC.K hP.1 o t0 (fAt_ref hg ho h1 h2) ht h4 d ?_
  rw [h5, gRf_bt hg, show ((i.toNat : Nat) : Int) = i by omega]
  exact k p e s m args below meth c H locs la z hC hP hS hL
theorem fW_iast (n : Nat) {o : Nat} {i v : Int} (hg : gbt G = true) (ho : fTyp o 12) (hi : 0 ≤ i ∧ i < Ln o) (hv : rg v) (d : decode mt.2.1 pc = .ok (.iastore, 1)) (hn : pc + 1 = n) (k : fW G mt E c0 s0 n ls st (mset M o i v)) : fW G mt E c0 s0 pc ls (iv v :: iv i :: .ref (gb G + o) :: st) M := by
  subst hn
  intro p e s m args below meth c H locs la z hC hP hS hL
  obtain ⟨h1, h2, h3⟩ := fIx hi
  refine va_iast hC.exec hC.bytes hC.K hP.1 (gD_ok hP.2.2.1) hS o 0 (fAt_int hg ho (by omega) (by omega)) rfl h2 d (fun H1 locs1 e1 _ e3 => ?_)
  rw [h3] at e1
  exact k p e s m args below meth c H1 locs1 la z hC (fP_set (q := M) hg hP.2.1 ho.2 hv (fCell_setA ho.1 (by omega) (by omega) hi.1) e1) e3 hL
theorem fW_zast (n : Nat) {o : Nat} {i v : Int} (hg : gbt G = true) (ho : fTyp o 13) (hi : 0 ≤ i ∧ i < Ln o) (hv : 0 ≤ v ∧ v ≤ 1) (d : decode mt.2.1 pc = .ok (.bastore, 1)) (hn : pc + 1 = n) (k : fW G mt E c0 s0 n ls st (mset M o i v)) : fW G mt E c0 s0 pc ls (iv v :: iv i :: .ref (gb G + o) :: st) M := by
  subst hn
  intro p e s m args below meth c H locs la z hC hP hS hL
  obtain ⟨h1, h2, h3⟩ := fIx hi
  refine va_zast hC.exec hC.bytes hC.K hP.1 (gD_ok hP.2.2.1) hS o 1 (fAt_int hg ho (by omega) (by omega)) rfl h2 d (fun H1 locs1 e1 _ e3 => ?_)
  rw [h3, (iv_z hv).2.2] at e1
  exact k p e s m args below meth c H1 locs1 la z hC (fP_set (q := M) hg hP.2.1 ho.2 ⟨by omega, by omega⟩ (fCell_setA ho.1 (by omega) (by omega) hi.1) e1) e3 hL
theorem fW_alen (n : Nat) {o : Nat} (hg : gbt G = true) (ho : fTyp o 12) (d : decode mt.2.1 pc = .ok (.arraylength, 1)) (hn : pc + 1 = n) (k : fW G mt E c0 s0 n ls (iv (Ln o) :: st) M) : fW G mt E c0 s0 pc ls (.ref (gb G + o) :: st) M := by
  subst hn
  intro p e s m args below meth c H locs la z hC hP hS hL
  exact va_alen hC.exec hC.bytes hC.K hP.1 o 0 (fAt_int hg ho (by omega) (by omega)) rfl rfl d (k p e s m args below meth c H locs la z hC hP hS hL)
theorem fW_gets (n : Nat) {idx : Nat} (j : Nat) (hj : j < 3) (hl : Cond.fieldLink mt.1.cls idx RX10 (fStNm j) "[I" ∈ fT) (d : decode mt.2.1 pc = .ok (.getstatic idx, 3)) (hn : pc + 3 = n) (k : fW G mt E c0 s0 n ls (.ref (gst G j) :: st) M) : fW G mt E c0 s0 pc ls st M := by
  subst hn
  intro p e s m args below meth c H locs la z hC hP hS hL
  exact va_gets hC.exec hC.bytes (hC.SF.1 j hj).1 hS hC.own (hC.words _ hl) (fun _ h => h) d (k p e s m args below meth c H locs la z hC hP hS hL)
theorem fW_getsN (n : Nat) {idx : Nat} {host : String} (j : Nat) (hj : j < 3) (hl : Cond.fieldLinkNest mt.1.cls idx RX10 (fStNm j) "[I" host ∈ fNg) (d : decode mt.2.1 pc = .ok (.getstatic idx, 3)) (hn : pc + 3 = n) (k : fW G mt E c0 s0 n ls (.ref (gst G j) :: st) M) : fW G mt E c0 s0 pc ls st M := by
  subst hn
  intro p e s m args below meth c H locs la z hC hP hS hL
  exact va_getsN hC.exec hC.bytes (hC.SF.1 j hj).1 hS hC.own ((hC.SF.2.2.1 _ hl).use rfl) (fun _ h => h) d (k p e s m args below meth c H locs la z hC hP hS hL)
theorem fW_sald (n : Nat) {i : Int} (j : Nat) (hj : j < 3) (hi : 0 ≤ i ∧ i < fStN j) (d : decode mt.2.1 pc = .ok (.iaload, 1)) (hn : pc + 1 = n) (k : fW G mt E c0 s0 n ls (iv (SV j i) :: st) M) : fW G mt E c0 s0 pc ls (iv i :: .ref (gst G j) :: st) M := by
  subst hn
  intro p e s m args below meth c H locs la z hC hP hS hL
  have hb : fStN j ≤ 19 := by
    match j, hj with
    | 0, _ => decide
    | 1, _ => decide
    | 2, _ => decide
  have hr : rg i := ⟨by omega, by omega⟩
  exact va_ti hC.exec hC.bytes (hC.SF.1 j hj).2 hS (iv_in hr hi.1 hi.2) (v := iv (SV j i)) (by rw [iv_clamp hr, show ((i.toNat : Nat) : Int) = i by omega]) d (k p e s m args below meth c H locs la z hC hP hS hL)
/-! ends -/
theorem fW_iret {Q : fQ} {X : fX} {x : Int} (hr : mt.2.2.2.1 = some .int) (hc : c0 ≤ mt.2.2.2.2.cells) (hs : s0 ≤ mt.2.2.2.2.slots) (d : decode mt.2.1 pc = .ok (.ireturn, 1)) (k : Q (some (iv x)) M) : fW G mt (fEm G mt Q X) c0 s0 pc ls [iv x] M := by
  intro p e s m args below meth c H locs la z hC hP hS hL
  refine W.widen hc hs (vx_ret ?_)
  exact W.iret hC.exec hC.bytes (hC.ret.trans hr) (fun t ht hv => ⟨⟨_, M, rfl, k, by rw [ht]; exact hP⟩, hS.F ht⟩) (fun q hq => hS.2.2 q hq) d hC.locks
theorem fW_zret {Q : fQ} {X : fX} {x : Int} (hr : mt.2.2.2.1 = some .boolean) (hx : 0 ≤ x ∧ x ≤ 1) (hc : c0 ≤ mt.2.2.2.2.cells) (hs : s0 ≤ mt.2.2.2.2.slots) (d : decode mt.2.1 pc = .ok (.ireturn, 1)) (k : Q (some (iv x)) M) : fW G mt (fEm G mt Q X) c0 s0 pc ls [iv x] M := by
  intro p e s m args below meth c H locs la z hC hP hS hL
  refine W.widen hc hs (vx_ret ?_)
  exact W.zret hC.exec hC.bytes (hC.ret.trans hr) (iv_z hx).1 (fun t ht hv => ⟨⟨_, M, rfl, k, by rw [ht]; exact hP⟩, hS.F ht⟩) (fun q hq => hS.2.2 q hq) d hC.locks
theorem fW_vret {Q : fQ} {X : fX} (hr : mt.2.2.2.1 = none) (hc : c0 ≤ mt.2.2.2.2.cells) (hs : s0 ≤ mt.2.2.2.2.slots) (d : decode mt.2.1 pc = .ok (.return_, 1)) (k : Q none M) : fW G mt (fEm G mt Q X) c0 s0 pc ls [] M := by
  intro p e s m args below meth c H locs la z hC hP hS hL
  refine W.widen hc hs (vx_ret ?_)
  exact W.vret hC.exec hC.bytes (hC.ret.trans hr) (fun t ht hv => ⟨⟨_, M, rfl, k, by rw [ht]; exact hP⟩, hS.F ht⟩) (fun q hq => hS.2.2 q hq) d hC.locks
end FRM4
