/-! counts over keys and over rows, on both sides -/
section HOL4
theorem c_has {o : Nat} {M : fMem} {κ : Int} (h : 0 ≤ κ ∧ κ < 200) : f_X2_has o κ M = some (if M (o + 1) κ = -1 then 0 else 1) := by
  unfold f_X2_has f_X10_isKey
  rw [if_neg (by omega), if_neg (by omega)]
  refine bs fun x e => ?_
  subst e
  refine ie (by omega) (si h ?_)
  split <;> rfl
def tH (v : Int → Int) : Int → Int := fun κ => if v κ = -1 then 0 else 1
theorem tH_bd (v : Int → Int) (κ : Int) : 0 ≤ tH v κ ∧ tH v κ ≤ 1 := by unfold tH; split <;> omega
theorem c_keysThere {o : Nat} {M : fMem} {a b : Int} (ha : 0 ≤ a ∧ a < 200) (hb : 0 ≤ b ∧ b < 200) : f_X2_keysThere o a b M = some (kS (tH (M (o + 1))) a (b + 1 - a).toNat) := by
  have key : ∀ (d n : Nat) (c v : Int), (v + d = b + 1 ∨ (d = 0 ∧ b < v)) → 0 ≤ v → d < n → 0 ≤ c → c + d ≤ 1000 → L_X2_keysThere_5 o M (fun v3_8 => some v3_8) n b c v = some (c + kS (tH (M (o + 1))) v d) := by
    intro d
    induction d with
    | zero =>
      intro n c v h1 h2 hn c0 c1
      obtain ⟨n, rfl⟩ : ∃ n', n = n' + 1 := ⟨n - 1, by omega⟩
      rw [L_X2_keysThere_5, if_pos (by omega), kS, Int.add_zero]
    | succ d ih =>
      intro n c v h1 h2 hn c0 c1
      obtain ⟨n, rfl⟩ : ∃ n', n = n' + 1 := ⟨n - 1, by omega⟩
      rw [L_X2_keysThere_5, if_neg (by omega), kS]
      refine bc (c_has ⟨h2, by omega⟩) ?_
      by_cases q : M (o + 1) v = -1
      · rw [if_pos q, if_pos rfl, if_pos (by omega), if_pos (by omega), ih n (c + 0) (v + 1) (by omega) (by omega) (by omega) (by omega) (by omega)]
        rw [show tH (M (o + 1)) v = 0 by unfold tH; rw [if_pos q]]; congr 1; omega
      · rw [if_neg q, if_neg (by omega), if_pos (by omega), if_pos (by omega), ih n (c + 1) (v + 1) (by omega) (by omega) (by omega) (by omega) (by omega)]
        rw [show tH (M (o + 1)) v = 1 by unfold tH; rw [if_neg q]]; congr 1; omega
  unfold f_X2_keysThere
  rw [key (b + 1 - a).toNat 20000 0 a (by omega) (by omega) (by omega) (by omega) (by omega), Int.zero_add]
def tC (c : Int → Int) : Int → Int := fun κ => if c κ ≤ 0 then 0 else 1
def tL (v c : Int → Int) : Int → Int := fun κ => if c κ = 1 ∧ v κ = -1 then 1 else 0
def tX (v w : Int → Int) : Int → Int := fun κ => if v κ = -1 then 0 else if w κ = v κ then 0 else 1
def tM (v w : Int → Int) : Int → Int := fun κ => if v κ = -1 then 0 else if w κ = -1 then 1 else 0
theorem c_heldKeys {o : Nat} {M : fMem} : f_X2_heldKeys o M = some (kS (tC (M (o + 2))) 0 200) := by
  have key : ∀ (d n : Nat) (c v : Int), v + d = 200 → 0 ≤ v → d < n → 0 ≤ c → c + d ≤ 1000 → L_X2_heldKeys_4 o M (fun v1_6 => some v1_6) n c v = some (c + kS (tC (M (o + 2))) v d) := by
    intro d
    induction d with
    | zero =>
      intro n c v h1 h2 hn c0 c1
      obtain ⟨n, rfl⟩ : ∃ n', n = n' + 1 := ⟨n - 1, by omega⟩
      rw [L_X2_heldKeys_4, if_pos (by omega), kS, Int.add_zero]
    | succ d ih =>
      intro n c v h1 h2 hn c0 c1
      obtain ⟨n, rfl⟩ : ∃ n', n = n' + 1 := ⟨n - 1, by omega⟩
      rw [L_X2_heldKeys_4, if_neg (by omega), if_pos (by omega), kS]
      by_cases q : M (o + 2) v ≤ 0
      · rw [if_pos q, if_pos (by omega), ih n (c + 0) (v + 1) (by omega) (by omega) (by omega) (by omega) (by omega)]
        rw [show tC (M (o + 2)) v = 0 by unfold tC; rw [if_pos q]]; congr 1; omega
      · rw [if_neg q, if_pos (by omega), ih n (c + 1) (v + 1) (by omega) (by omega) (by omega) (by omega) (by omega)]
        rw [show tC (M (o + 2)) v = 1 by unfold tC; rw [if_neg q]]; congr 1; omega
  unfold f_X2_heldKeys
  rw [key 200 20000 0 0 (by omega) (by omega) (by omega) (by omega) (by omega), Int.zero_add]
theorem c_loneSigns {o : Nat} {M : fMem} : f_X2_loneSigns o M = some (kS (tL (M (o + 1)) (M (o + 2))) 0 200) := by
  have key : ∀ (d n : Nat) (c v : Int), v + d = 200 → 0 ≤ v → d < n → 0 ≤ c → c + d ≤ 1000 → L_X2_loneSigns_4 o M (fun v1_9 => some v1_9) n c v = some (c + kS (tL (M (o + 1)) (M (o + 2))) v d) := by
    intro d
    induction d with
    | zero =>
      intro n c v h1 h2 hn c0 c1
      obtain ⟨n, rfl⟩ : ∃ n', n = n' + 1 := ⟨n - 1, by omega⟩
      rw [L_X2_loneSigns_4, if_pos (by omega), kS, Int.add_zero]
    | succ d ih =>
      intro n c v h1 h2 hn c0 c1
      obtain ⟨n, rfl⟩ : ∃ n', n = n' + 1 := ⟨n - 1, by omega⟩
      rw [L_X2_loneSigns_4, if_neg (by omega), if_pos (by omega), kS]
      by_cases q : M (o + 2) v = 1
      · rw [if_pos q]
        refine bc (c_has ⟨h2, by omega⟩) ?_
        by_cases q2 : M (o + 1) v = -1
        · rw [if_pos q2, if_pos rfl, if_pos (by omega), ih n (c + 1) (v + 1) (by omega) (by omega) (by omega) (by omega) (by omega)]
          rw [show tL (M (o + 1)) (M (o + 2)) v = 1 by unfold tL; rw [if_pos ⟨q, q2⟩]]; congr 1; omega
        · rw [if_neg q2, if_neg (by omega), if_pos (by omega), ih n (c + 0) (v + 1) (by omega) (by omega) (by omega) (by omega) (by omega)]
          rw [show tL (M (o + 1)) (M (o + 2)) v = 0 by unfold tL; rw [if_neg (fun z => q2 z.2)]]; congr 1; omega
      · rw [if_neg q, if_pos (by omega), ih n (c + 0) (v + 1) (by omega) (by omega) (by omega) (by omega) (by omega)]
        rw [show tL (M (o + 1)) (M (o + 2)) v = 0 by unfold tL; rw [if_neg (fun z => q z.1)]]; congr 1; omega
  unfold f_X2_loneSigns
  rw [key 200 20000 0 0 (by omega) (by omega) (by omega) (by omega) (by omega), Int.zero_add]
theorem c_lostIn {o p : Nat} {M : fMem} : f_X2_lostIn o p M = some (kS (tX (M (o + 1)) (M (p + 1))) 0 200) := by
  have key : ∀ (d n : Nat) (c v : Int), v + d = 200 → 0 ≤ v → d < n → 0 ≤ c → c + d ≤ 1000 → L_X2_lostIn_4 o M (fun v2_9 => some v2_9) n p c v = some (c + kS (tX (M (o + 1)) (M (p + 1))) v d) := by
    intro d
    induction d with
    | zero =>
      intro n c v h1 h2 hn c0 c1
      obtain ⟨n, rfl⟩ : ∃ n', n = n' + 1 := ⟨n - 1, by omega⟩
      rw [L_X2_lostIn_4, if_pos (by omega), kS, Int.add_zero]
    | succ d ih =>
      intro n c v h1 h2 hn c0 c1
      obtain ⟨n, rfl⟩ : ∃ n', n = n' + 1 := ⟨n - 1, by omega⟩
      rw [L_X2_lostIn_4, if_neg (by omega), kS]
      refine bc (c_has ⟨h2, by omega⟩) ?_
      by_cases q : M (o + 1) v = -1
      · rw [if_pos q, if_pos rfl, if_pos (by omega), ih n (c + 0) (v + 1) (by omega) (by omega) (by omega) (by omega) (by omega)]
        rw [show tX (M (o + 1)) (M (p + 1)) v = 0 by unfold tX; rw [if_pos q]]; congr 1; omega
      · rw [if_neg q, if_neg (by omega), if_pos (by omega)]
        by_cases q2 : M (p + 1) v = M (o + 1) v
        · rw [if_pos q2, if_pos (by omega), ih n (c + 0) (v + 1) (by omega) (by omega) (by omega) (by omega) (by omega)]
          rw [show tX (M (o + 1)) (M (p + 1)) v = 0 by unfold tX; rw [if_neg q, if_pos q2]]; congr 1; omega
        · rw [if_neg q2, if_pos (by omega), ih n (c + 1) (v + 1) (by omega) (by omega) (by omega) (by omega) (by omega)]
          rw [show tX (M (o + 1)) (M (p + 1)) v = 1 by unfold tX; rw [if_neg q, if_neg q2]]; congr 1; omega
  unfold f_X2_lostIn
  rw [key 200 20000 0 0 (by omega) (by omega) (by omega) (by omega) (by omega), Int.zero_add]
theorem c_missingIn {o p : Nat} {M : fMem} : f_X2_missingIn o p M = some (kS (tM (M (o + 1)) (M (p + 1))) 0 200) := by
  have key : ∀ (d n : Nat) (c v : Int), v + d = 200 → 0 ≤ v → d < n → 0 ≤ c → c + d ≤ 1000 → L_X2_missingIn_4 o M (fun v2_9 => some v2_9) n p c v = some (c + kS (tM (M (o + 1)) (M (p + 1))) v d) := by
    intro d
    induction d with
    | zero =>
      intro n c v h1 h2 hn c0 c1
      obtain ⟨n, rfl⟩ : ∃ n', n = n' + 1 := ⟨n - 1, by omega⟩
      rw [L_X2_missingIn_4, if_pos (by omega), kS, Int.add_zero]
    | succ d ih =>
      intro n c v h1 h2 hn c0 c1
      obtain ⟨n, rfl⟩ : ∃ n', n = n' + 1 := ⟨n - 1, by omega⟩
      rw [L_X2_missingIn_4, if_neg (by omega), kS]
      refine bc (c_has ⟨h2, by omega⟩) ?_
      by_cases q : M (o + 1) v = -1
      · rw [if_pos q, if_pos rfl, if_pos (by omega), ih n (c + 0) (v + 1) (by omega) (by omega) (by omega) (by omega) (by omega)]
        rw [show tM (M (o + 1)) (M (p + 1)) v = 0 by unfold tM; rw [if_pos q]]; congr 1; omega
      · rw [if_neg q, if_neg (by omega)]
        refine bc (c_has ⟨h2, by omega⟩) ?_
        by_cases q2 : M (p + 1) v = -1
        · rw [if_pos q2, if_pos rfl, if_pos (by omega), ih n (c + 1) (v + 1) (by omega) (by omega) (by omega) (by omega) (by omega)]
          rw [show tM (M (o + 1)) (M (p + 1)) v = 1 by unfold tM; rw [if_neg q, if_pos q2]]; congr 1; omega
        · rw [if_neg q2, if_neg (by omega), if_pos (by omega), ih n (c + 0) (v + 1) (by omega) (by omega) (by omega) (by omega) (by omega)]
          rw [show tM (M (o + 1)) (M (p + 1)) v = 0 by unfold tM; rw [if_neg q, if_neg q2]]; congr 1; omega
  unfold f_X2_missingIn
  rw [key 200 20000 0 0 (by omega) (by omega) (by omega) (by omega) (by omega), Int.zero_add]
/-- the reference's -/
theorem r_thereL {k : Int → fMem → Option (Int × fMem)} {M : fMem} : ∀ (d n : Nat) (c v : Int), v + d = 200 → 0 ≤ v → d < n → 0 ≤ c → c + d ≤ 1000 → L_X11_thereMany_8 k n c v M = k (c + kS (tH (M 422)) v d) M := by
  intro d
  induction d with
  | zero =>
    intro n c v h1 h2 hn c0 c1
    obtain ⟨n, rfl⟩ : ∃ n', n = n' + 1 := ⟨n - 1, by omega⟩
    rw [L_X11_thereMany_8, if_pos (by omega), kS, Int.add_zero]
  | succ d ih =>
    intro n c v h1 h2 hn c0 c1
    obtain ⟨n, rfl⟩ : ∃ n', n = n' + 1 := ⟨n - 1, by omega⟩
    rw [L_X11_thereMany_8, if_neg (by omega), if_pos (by omega), kS]
    by_cases q : M 422 v = -1
    · rw [if_pos q, if_pos (by omega), ih n (c + 0) (v + 1) (by omega) (by omega) (by omega) (by omega) (by omega)]
      rw [show tH (M 422) v = 0 by unfold tH; rw [if_pos q]]; congr 1; omega
    · rw [if_neg q, if_pos (by omega), ih n (c + 1) (v + 1) (by omega) (by omega) (by omega) (by omega) (by omega)]
      rw [show tH (M 422) v = 1 by unfold tH; rw [if_neg q]]; congr 1; omega
theorem r_manyL {k : Int → fMem → Option (Int × fMem)} {M : fMem} {b : Int} (hb : b < 200) : ∀ (d n : Nat) (c v : Int), (v + d = b + 1 ∨ (d = 0 ∧ b < v)) → 0 ≤ v → d < n → 0 ≤ c → c + d ≤ 1000 → L_X11_many_43 k n b c v M = k (c + kS (tH (M 422)) v d) M := by
  intro d
  induction d with
  | zero =>
    intro n c v h1 h2 hn c0 c1
    obtain ⟨n, rfl⟩ : ∃ n', n = n' + 1 := ⟨n - 1, by omega⟩
    rw [L_X11_many_43, if_pos (by omega), kS, Int.add_zero]
  | succ d ih =>
    intro n c v h1 h2 hn c0 c1
    obtain ⟨n, rfl⟩ : ∃ n', n = n' + 1 := ⟨n - 1, by omega⟩
    rw [L_X11_many_43, if_neg (by omega), if_pos (by omega), kS]
    by_cases q : M 422 v = -1
    · rw [if_pos q, if_pos (by omega), if_pos (by omega), ih n (c + 0) (v + 1) (by omega) (by omega) (by omega) (by omega) (by omega)]
      rw [show tH (M 422) v = 0 by unfold tH; rw [if_pos q]]; congr 1; omega
    · rw [if_neg q, if_pos (by omega), if_pos (by omega), ih n (c + 1) (v + 1) (by omega) (by omega) (by omega) (by omega) (by omega)]
      rw [show tH (M 422) v = 1 by unfold tH; rw [if_neg q]]; congr 1; omega
theorem r_wasteL {k : Int → Int → Int → Int → fMem → Option (Int × fMem)} {M : fMem} {a t : Int} : ∀ (d n : Nat) (c e v : Int), v + d = 200 → 0 ≤ v → d < n → 0 ≤ c → c + d ≤ 1000 → 0 ≤ e → e + d ≤ 1000 → L_X11_waste_34 k n a t c e v M = k a t (c + kS (tC (M 424)) v d) (e + kS (tL (M 422) (M 424)) v d) M := by
  intro d
  induction d with
  | zero =>
    intro n c e v h1 h2 hn c0 c1 e0 e1
    obtain ⟨n, rfl⟩ : ∃ n', n = n' + 1 := ⟨n - 1, by omega⟩
    rw [L_X11_waste_34, if_pos (by omega), kS, kS, Int.add_zero, Int.add_zero]
  | succ d ih =>
    intro n c e v h1 h2 hn c0 c1 e0 e1
    obtain ⟨n, rfl⟩ : ∃ n', n = n' + 1 := ⟨n - 1, by omega⟩
    rw [L_X11_waste_34, if_neg (by omega), if_pos (by omega), kS, kS]
    by_cases q : M 424 v ≤ 0
    · rw [if_pos q, if_neg (by omega), if_pos (by omega), if_pos (by omega), ih n (c + 0) (e + 0) (v + 1) (by omega) (by omega) (by omega) (by omega) (by omega) (by omega) (by omega)]
      rw [show tC (M 424) v = 0 by unfold tC; rw [if_pos q], show tL (M 422) (M 424) v = 0 by unfold tL; rw [if_neg (fun z => by omega)]]; congr 1 <;> omega
    · rw [if_neg q]
      by_cases q1 : M 424 v = 1
      · rw [if_pos q1]
        by_cases q2 : M 422 v = -1
        · rw [if_pos q2, if_pos (by omega), if_pos (by omega), ih n (c + 1) (e + 1) (v + 1) (by omega) (by omega) (by omega) (by omega) (by omega) (by omega) (by omega)]
          rw [show tC (M 424) v = 1 by unfold tC; rw [if_neg q], show tL (M 422) (M 424) v = 1 by unfold tL; rw [if_pos ⟨q1, q2⟩]]; congr 1 <;> omega
        · rw [if_neg q2, if_pos (by omega), if_pos (by omega), ih n (c + 1) (e + 0) (v + 1) (by omega) (by omega) (by omega) (by omega) (by omega) (by omega) (by omega)]
          rw [show tC (M 424) v = 1 by unfold tC; rw [if_neg q], show tL (M 422) (M 424) v = 0 by unfold tL; rw [if_neg (fun z => q2 z.2)]]; congr 1 <;> omega
      · rw [if_neg q1, if_pos (by omega), if_pos (by omega), ih n (c + 1) (e + 0) (v + 1) (by omega) (by omega) (by omega) (by omega) (by omega) (by omega) (by omega)]
        rw [show tC (M 424) v = 1 by unfold tC; rw [if_neg q], show tL (M 422) (M 424) v = 0 by unfold tL; rw [if_neg (fun z => q1 z.1)]]; congr 1 <;> omega
/-- the next key that is there -/
def nx (f : Int → Int) : Int → Nat → Int
  | _, 0 => -1
  | v, d + 1 => if f v = -1 then nx f (v + 1) d else v
theorem nx_cg {f f1 : Int → Int} : ∀ (d : Nat) (v : Int), (∀ j, v ≤ j → j < v + d → f j = f1 j) → nx f v d = nx f1 v d := by
  intro d
  induction d with
  | zero => intro v _; rfl
  | succ d ih => intro v h; rw [nx, nx, h v (by omega) (by omega), ih (v + 1) (fun j a b => h j (by omega) (by omega))]
theorem c_nextL {M : fMem} : ∀ (d n : Nat) (v : Int), v + d = 200 → 0 ≤ v → d < n → L_X10_next_27 (fun M_8 => some (0, (-1), M_8)) n v M = some (0, nx (M 233) v d, M) := by
  intro d
  induction d with
  | zero =>
    intro n v h1 h2 hn
    obtain ⟨n, rfl⟩ : ∃ n', n = n' + 1 := ⟨n - 1, by omega⟩
    rw [L_X10_next_27, if_pos (by omega), nx]
  | succ d ih =>
    intro n v h1 h2 hn
    obtain ⟨n, rfl⟩ : ∃ n', n = n' + 1 := ⟨n - 1, by omega⟩
    rw [L_X10_next_27, if_neg (by omega), nx]
    refine bc (c_has ⟨h2, by omega⟩) ?_
    by_cases q : M 233 v = -1
    · rw [if_pos q, if_pos q, if_pos rfl, ih n (v + 1) (by omega) (by omega) (by omega)]
    · rw [if_neg q, if_neg q, if_neg (by omega)]
theorem r_nextL {M : fMem} : ∀ (d n : Nat) (v : Int), v + d = 200 → 0 ≤ v → d < n → L_X11_next_31 (fun M_12 => some ((-1), M_12)) n v M = some (nx (M 422) v d, M) := by
  intro d
  induction d with
  | zero =>
    intro n v h1 h2 hn
    obtain ⟨n, rfl⟩ : ∃ n', n = n' + 1 := ⟨n - 1, by omega⟩
    rw [L_X11_next_31, if_pos (by omega), nx]
  | succ d ih =>
    intro n v h1 h2 hn
    obtain ⟨n, rfl⟩ : ∃ n', n = n' + 1 := ⟨n - 1, by omega⟩
    rw [L_X11_next_31, if_neg (by omega), if_pos (by omega), nx]
    by_cases q : M 422 v = -1
    · rw [if_pos q, if_pos q, ih n (v + 1) (by omega) (by omega) (by omega)]
    · rw [if_neg q, if_neg q]
/-- the i-th key that is there; 200: none -/
def nt (f : Int → Int) : Int → Int → Nat → Int
  | _, _, 0 => 200
  | v, i, d + 1 => if f v = -1 then nt f (v + 1) i d else if i = 0 then v else nt f (v + 1) (i - 1) d
theorem nt_cg {f f1 : Int → Int} : ∀ (d : Nat) (v i : Int), (∀ j, v ≤ j → j < v + d → f j = f1 j) → nt f v i d = nt f1 v i d := by
  intro d
  induction d with
  | zero => intro v i _; rfl
  | succ d ih => intro v i h; rw [nt, nt, h v (by omega) (by omega), ih (v + 1) i (fun j a b => h j (by omega) (by omega)), ih (v + 1) (i - 1) (fun j a b => h j (by omega) (by omega))]
theorem nt_bd {f : Int → Int} : ∀ (d : Nat) (v i : Int), v + d = 200 → v ≤ nt f v i d ∧ nt f v i d ≤ 200 := by
  intro d
  induction d with
  | zero => intro v i h; rw [nt]; omega
  | succ d ih =>
    intro v i h
    have a := ih (v + 1) i (by omega)
    have b := ih (v + 1) (i - 1) (by omega)
    rw [nt]; split
    · omega
    · split <;> omega
theorem c_nthL {M : fMem} : ∀ (d n : Nat) (v i : Int), v + d = 200 → 0 ≤ v → d < n → 0 ≤ i → L_X10_nth_18 (fun M_8 => some (1, 0, M_8)) n i v M = some (if nt (M 233) v i d = 200 then (1, 0, M) else (0, nt (M 233) v i d, M)) := by
  intro d
  induction d with
  | zero =>
    intro n v i h1 h2 hn i0
    obtain ⟨n, rfl⟩ : ∃ n', n = n' + 1 := ⟨n - 1, by omega⟩
    rw [L_X10_nth_18, if_pos (by omega), nt, if_pos rfl]
  | succ d ih =>
    intro n v i h1 h2 hn i0
    obtain ⟨n, rfl⟩ : ∃ n', n = n' + 1 := ⟨n - 1, by omega⟩
    rw [L_X10_nth_18, if_neg (by omega), if_neg (by omega), nt]
    refine bc (c_has ⟨h2, by omega⟩) ?_
    by_cases q : M 233 v = -1
    · rw [if_pos (c := M 233 v = -1) q, if_pos (c := M (232 + 1) v = -1) q, if_pos rfl, ih n (v + 1) i (by omega) (by omega) (by omega) i0]
    · rw [if_neg (c := M 233 v = -1) q, if_neg (c := M (232 + 1) v = -1) q, if_neg (by omega)]
      by_cases q2 : i = 0
      · rw [if_pos q2, if_pos q2, if_neg (by omega)]
      · rw [if_neg q2, if_neg q2, show i + -1 = i - 1 by omega, ih n (v + 1) (i - 1) (by omega) (by omega) (by omega) (by omega)]
theorem r_nthL {M : fMem} {k : fMem → Option (Int × fMem)} {a : Int} (ha : 0 ≤ a) : ∀ (d n : Nat) (v i : Int), v + d = 200 → 0 ≤ v → d < n → 0 ≤ i → i < 2147483648 → L_X11_nth_13 k n a i v M = (if nt (M 422) v i d = 200 then k M else some (nt (M 422) v i d, M)) := by
  intro d
  induction d with
  | zero =>
    intro n v i h1 h2 hn i0 i1
    obtain ⟨n, rfl⟩ : ∃ n', n = n' + 1 := ⟨n - 1, by omega⟩
    rw [L_X11_nth_13, if_pos (by omega), nt, if_pos rfl]
  | succ d ih =>
    intro n v i h1 h2 hn i0 i1
    obtain ⟨n, rfl⟩ : ∃ n', n = n' + 1 := ⟨n - 1, by omega⟩
    rw [L_X11_nth_13, if_neg (by omega), if_neg (by omega), if_pos (by omega), nt]
    by_cases q : M 422 v = -1
    · rw [if_pos q, if_pos q, ih n (v + 1) i (by omega) (by omega) (by omega) i0 i1]
    · rw [if_neg q, if_neg q]
      by_cases q2 : i = 0
      · rw [if_pos q2, if_pos q2, if_neg (by omega)]
      · rw [if_neg q2, if_neg q2, if_pos (by omega), show i + -1 = i - 1 by omega, ih n (v + 1) (i - 1) (by omega) (by omega) (by omega) (by omega) (by omega)]
/-- sums over shut rows -/
def lS (w : Int → Int) : List Int → Int
  | [] => 0
  | r :: xs => w r + lS w xs
theorem lS_app (w : Int → Int) : ∀ xs ys : List Int, lS w (xs ++ ys) = lS w xs + lS w ys := by
  intro xs ys
  induction xs with
  | nil => simp [lS]
  | cons x xs ih => simp only [List.cons_append, lS, ih]; omega
theorem hT_lS (g : Int → Int) : ∀ xs : List Int, hT g xs = lS (fun r => g (7600 + r)) xs := by
  intro xs
  induction xs with
  | nil => rfl
  | cons x xs ih => rw [hT, lS, ih]
theorem len_lS : ∀ xs : List Int, (xs.length : Int) = lS (fun _ => 1) xs := by
  intro xs
  induction xs with
  | nil => rfl
  | cons x xs ih => rw [lS, ← ih, List.length_cons]; push_cast; omega
def wR (g w : Int → Int) : Int → Int := fun r => if g (7619 + r) = 2 then w r else 0
theorem lS_lv {g w : Int → Int} {l : Int} (hl : 0 ≤ l ∧ l ≤ 8) (ho : okV g) : lS w (lvL g l) = wR g w (2 * l) + wR g w (2 * l + 1) + (if l = 8 then wR g w (2 * l + 2) else 0) := by
  have er : ER l = if l = 8 then 19 else 2 * l + 2 := rfl
  have z : ∀ r, g (7619 + r) ≠ 2 → wR g w r = 0 := fun r h => by unfold wR; rw [if_neg h]
  have o : ∀ r, g (7619 + r) = 2 → wR g w r = w r := fun r h => by unfold wR; rw [if_pos h]
  unfold lvL
  rcases lv_cs hl ho with ⟨a1, a2, a3, a4⟩ | ⟨a1, a2, a3, a4, a5⟩ | ⟨a1, a2, a3, a4, a5, a6, a7, a8⟩
  · rw [if_pos a1, lS, z _ (a4 _ (by omega) (by rw [er]; split <;> omega)), z _ (a4 _ (by omega) (by rw [er]; split <;> omega))]
    split
    · rename_i h8; rw [z _ (a4 _ (by omega) (by rw [er, if_pos h8]; omega))]; rfl
    · rfl
  · rw [if_neg (by omega), if_pos a1, lS, lS]
    generalize bA g l 0 = x at *
    rw [← o x a4]
    by_cases h8 : l = 8
    · rw [er, if_pos h8] at a3 a5
      rw [if_pos h8]
      have : x = 2 * l ∨ x = 2 * l + 1 ∨ x = 2 * l + 2 := by omega
      rcases this with rfl | rfl | rfl
      · rw [z (2 * l + 1) (a5 _ (by omega) (by omega) (by omega)), z (2 * l + 2) (a5 _ (by omega) (by omega) (by omega))]; omega
      · rw [z (2 * l) (a5 _ (by omega) (by omega) (by omega)), z (2 * l + 2) (a5 _ (by omega) (by omega) (by omega))]; omega
      · rw [z (2 * l) (a5 _ (by omega) (by omega) (by omega)), z (2 * l + 1) (a5 _ (by omega) (by omega) (by omega))]; omega
    · rw [er, if_neg h8] at a3 a5
      rw [if_neg h8]
      have : x = 2 * l ∨ x = 2 * l + 1 := by omega
      rcases this with rfl | rfl
      · rw [z (2 * l + 1) (a5 _ (by omega) (by omega) (by omega))]; omega
      · rw [z (2 * l) (a5 _ (by omega) (by omega) (by omega))]; omega
  · rw [if_neg (by omega), if_neg (by omega), lS, lS, lS]
    generalize bA g l 0 = x at *
    generalize bA g l 1 = y at *
    rw [← o x a5, ← o y a6]
    by_cases h8 : l = 8
    · rw [er, if_pos h8] at a2 a3 a8
      rw [if_pos h8]
      have : (x = 2 * l ∧ y = 2 * l + 1) ∨ (x = 2 * l + 1 ∧ y = 2 * l) ∨ (x = 2 * l ∧ y = 2 * l + 2) ∨ (x = 2 * l + 2 ∧ y = 2 * l) ∨ (x = 2 * l + 1 ∧ y = 2 * l + 2) ∨ (x = 2 * l + 2 ∧ y = 2 * l + 1) := by omega
      rcases this with ⟨rfl, rfl⟩ | ⟨rfl, rfl⟩ | ⟨rfl, rfl⟩ | ⟨rfl, rfl⟩ | ⟨rfl, rfl⟩ | ⟨rfl, rfl⟩
      · rw [z (2 * l + 2) (a8 _ (by omega) (by omega) (by omega) (by omega))]; omega
      · rw [z (2 * l + 2) (a8 _ (by omega) (by omega) (by omega) (by omega))]; omega
      · rw [z (2 * l + 1) (a8 _ (by omega) (by omega) (by omega) (by omega))]; omega
      · rw [z (2 * l + 1) (a8 _ (by omega) (by omega) (by omega) (by omega))]; omega
      · rw [z (2 * l) (a8 _ (by omega) (by omega) (by omega) (by omega))]; omega
      · rw [z (2 * l) (a8 _ (by omega) (by omega) (by omega) (by omega))]; omega
    · rw [er, if_neg h8] at a2 a3 a8
      rw [if_neg h8]
      have : (x = 2 * l ∧ y = 2 * l + 1) ∨ (x = 2 * l + 1 ∧ y = 2 * l) := by omega
      rcases this with ⟨rfl, rfl⟩ | ⟨rfl, rfl⟩
      · omega
      · omega
theorem lS_ord {g w : Int → Int} (ho : okV g) : lS w (ordL g) = kS (wR g w) 0 19 := by
  have key : ∀ d : Nat, d ≤ 8 → lS w (ordF g (d + 1)) = kS (wR g w) (16 - 2 * d) (2 * d + 3) := by
    intro d
    induction d with
    | zero =>
      intro _
      rw [ordF, ordF, List.append_nil, lS_lv (l := 8 - ((0 : Nat) : Int)) (by omega) ho]
      simp [kS]; omega
    | succ d ih =>
      intro hd
      rw [ordF, lS_app, ih (by omega), lS_lv (l := 8 - ((d + 1 : Nat) : Int)) (by omega) ho, if_neg (by omega)]
      have e : kS (wR g w) (16 - 2 * ((d + 1 : Nat) : Int)) (2 * (d + 1) + 3) = wR g w (16 - 2 * ((d + 1 : Nat) : Int)) + (wR g w (16 - 2 * ((d + 1 : Nat) : Int) + 1) + kS (wR g w) (16 - 2 * ((d + 1 : Nat) : Int) + 1 + 1) (2 * d + 3)) := rfl
      rw [e]
      rw [show (16 : Int) - 2 * ((d + 1 : Nat) : Int) + 1 + 1 = 16 - 2 * (d : Int) by omega]
      rw [show (16 : Int) - 2 * ((d + 1 : Nat) : Int) = 2 * (8 - ((d + 1 : Nat) : Int)) by omega]
      omega
  exact key 8 (by omega)
theorem r_allThings {M : fMem} (hi : ∀ r, 0 ≤ r → r < 19 → M 419 (7619 + r) = 2 → 0 ≤ M 419 (7600 + r) ∧ M 419 (7600 + r) ≤ 200) : f_X11_allThings M = some (kS (wR (M 419) (fun r => M 419 (7600 + r))) 0 19) := by
  have key : ∀ (d n : Nat) (c v : Int), v + d = 19 → 0 ≤ v → d < n → 0 ≤ c → c + 200 * d ≤ 10000 → L_X11_allThings_4 M (fun v1_7 => some v1_7) n c v = some (c + kS (wR (M 419) (fun r => M 419 (7600 + r))) v d) := by
    intro d
    induction d with
    | zero =>
      intro n c v h1 h2 hn c0 c1
      obtain ⟨n, rfl⟩ : ∃ n', n = n' + 1 := ⟨n - 1, by omega⟩
      rw [L_X11_allThings_4, if_pos (by omega), kS, Int.add_zero]
    | succ d ih =>
      intro n c v h1 h2 hn c0 c1
      obtain ⟨n, rfl⟩ : ∃ n', n = n' + 1 := ⟨n - 1, by omega⟩
      rw [L_X11_allThings_4, if_neg (by omega), kS]
      refine bc (r_isShut ⟨h2, by omega⟩) ?_
      by_cases q : M 419 (7619 + v) = 2
      · have := hi v h2 (by omega) q
        rw [show b1 (M 419 (7619 + v) = 2) = 1 by simp [b1, q], if_neg (by omega), if_pos (by omega), if_pos (by omega), ih n _ (v + 1) (by omega) (by omega) (by omega) (by omega) (by omega)]
        rw [show wR (M 419) (fun r => M 419 (7600 + r)) v = M 419 (7600 + v) by unfold wR; rw [if_pos q]]; congr 1; omega
      · rw [show b1 (M 419 (7619 + v) = 2) = 0 by simp [b1, q], if_pos rfl, if_pos (by omega), ih n _ (v + 1) (by omega) (by omega) (by omega) (by omega) (by omega)]
        rw [show wR (M 419) (fun r => M 419 (7600 + r)) v = 0 by unfold wR; rw [if_neg q]]; congr 1; omega
  unfold f_X11_allThings
  rw [key 19 20000 0 0 (by omega) (by omega) (by omega) (by omega) (by omega), Int.zero_add]
theorem r_allShut {M : fMem} : f_X11_allShut M = some (kS (wR (M 419) (fun _ => 1)) 0 19) := by
  have key : ∀ (d n : Nat) (c v : Int), v + d = 19 → 0 ≤ v → d < n → 0 ≤ c → c + d ≤ 10000 → L_X11_allShut_4 M (fun v1_6 => some v1_6) n c v = some (c + kS (wR (M 419) (fun _ => 1)) v d) := by
    intro d
    induction d with
    | zero =>
      intro n c v h1 h2 hn c0 c1
      obtain ⟨n, rfl⟩ : ∃ n', n = n' + 1 := ⟨n - 1, by omega⟩
      rw [L_X11_allShut_4, if_pos (by omega), kS, Int.add_zero]
    | succ d ih =>
      intro n c v h1 h2 hn c0 c1
      obtain ⟨n, rfl⟩ : ∃ n', n = n' + 1 := ⟨n - 1, by omega⟩
      rw [L_X11_allShut_4, if_neg (by omega), kS]
      refine bc (r_isShut ⟨h2, by omega⟩) ?_
      by_cases q : M 419 (7619 + v) = 2
      · rw [show b1 (M 419 (7619 + v) = 2) = 1 by simp [b1, q], if_neg (by omega), if_pos (by omega), ih n _ (v + 1) (by omega) (by omega) (by omega) (by omega) (by omega)]
        rw [show wR (M 419) (fun _ => 1) v = 1 by unfold wR; rw [if_pos q]]; congr 1; omega
      · rw [show b1 (M 419 (7619 + v) = 2) = 0 by simp [b1, q], if_pos rfl, if_pos (by omega), ih n _ (v + 1) (by omega) (by omega) (by omega) (by omega) (by omega)]
        rw [show wR (M 419) (fun _ => 1) v = 0 by unfold wR; rw [if_neg q]]; congr 1; omega
  unfold f_X11_allShut
  rw [key 19 20000 0 0 (by omega) (by omega) (by omega) (by omega) (by omega), Int.zero_add]
end HOL4
