/-! the class arranges its shelf -/
section ORD2
theorem ar_scan {h : Nat} {n : Int} {M : fMem} {g : Int → Int} {k : Int → fMem → Option (Int × fMem)} {l x y : Int} (hs : shK h M g) (hl : 0 ≤ l ∧ l ≤ 8) (hn : 0 ≤ n ∧ n ≤ 17) (hxy : x ≠ y) (hx : 2 * l ≤ x) (hy : 2 * l ≤ y)
    (hiff : ∀ v, 2 * l ≤ v → v < ER l → (g (7619 + v) = 2 ↔ v = x ∨ v = y)) (ho : x < ER l → y < ER l → g (7638 + y) < g (7638 + x)) :
    ∀ (d m : Nat) (v c a b : Int) (M1 : fMem), 2 * l ≤ v → v + d = ER l → d < m → arP h n M M1 c a b →
      ((v ≤ x ∧ v ≤ y ∧ c = 0) ∨ (x < v ∧ v ≤ y ∧ c = 1 ∧ a = x) ∨ (y < v ∧ v ≤ x ∧ c = 1 ∧ a = y) ∨ (x < v ∧ y < v ∧ c = 2 ∧ a = x ∧ b = y)) →
      ∃ M2 c2 a2 b2, L_X7_arrange_24 h k m l n v M1 = k l M2 ∧ arP h n M M2 c2 a2 b2 ∧ ((ER l ≤ x ∧ ER l ≤ y ∧ c2 = 0) ∨ (x < ER l ∧ ER l ≤ y ∧ c2 = 1 ∧ a2 = x) ∨ (y < ER l ∧ ER l ≤ x ∧ c2 = 1 ∧ a2 = y) ∨ (x < ER l ∧ y < ER l ∧ c2 = 2 ∧ a2 = x ∧ b2 = y)) := by
  have hE : ER l ≤ 19 := by unfold ER; split <;> omega
  intro d
  induction d with
  | zero =>
    intro m v c a b M1 v0 v1 hm hp hc
    obtain ⟨m, rfl⟩ : ∃ m', m = m' + 1 := ⟨m - 1, by omega⟩
    refine ⟨M1, c, a, b, ?_, hp, by rw [show ER l = v by omega]; exact hc⟩
    rw [L_X7_arrange_24]
    exact si (by omega) (it (by omega) rfl)
  | succ d ih =>
    intro m v c a b M1 v0 v1 hm hp hc
    obtain ⟨m, rfl⟩ : ∃ m', m = m' + 1 := ⟨m - 1, by omega⟩
    have hsh : M1 (h + 3 * v.toNat + 3) 2 = 2 ↔ g (7619 + v) = 2 := by
      rw [hp.2.2.2.2.2 _ (by omega) (by omega)]; exact (hs v (by omega) (by omega)).1
    have hif := hiff v v0 (by omega)
    by_cases q : v = x ∨ v = y
    · have hv2 := hif.mpr q
      have hsv : f_X6_isShut (h + 3 * v.toNat + 3) M1 = some 1 := by unfold f_X6_isShut; exact it (hsh.mpr hv2) rfl
      have go : ∀ M2, f_X7_insert h v n M1 = some M2 → L_X7_arrange_24 h k (m + 1) l n v M1 = L_X7_arrange_24 h k m l n (v + 1) M2 := by
        intro M2 e
        rw [L_X7_arrange_24]
        exact si (by omega) (ie (by omega) (si (by omega) (bc hsv (ie (by omega) (bc e rfl)))))
      rcases hc with ⟨c1, c2, rfl⟩ | ⟨c1, c2, rfl, rfl⟩ | ⟨c1, c2, rfl, rfl⟩ | ⟨c1, c2, -⟩
      · obtain ⟨M2, e1, e2⟩ := ins0 (v := v) hp (by omega)
        rw [go M2 e1]
        refine ih m (v + 1) 1 v b M2 (by omega) (by omega) (by omega) e2 ?_
        rcases q with q | q
        · exact Or.inr (Or.inl ⟨by omega, by omega, rfl, q⟩)
        · exact Or.inr (Or.inr (Or.inl ⟨by omega, by omega, rfl, q⟩))
      · have qy : v = y := by omega
        have hx2 := (hiff a hx (by omega)).mpr (Or.inl rfl)
        obtain ⟨M2, e1, e2, e3⟩ := ins1 (v := v) hp (by omega) hs ⟨by omega, by omega, hx2⟩ ⟨by omega, by omega, hv2⟩
        rw [go M2 e1]
        have := ho (by omega) (by omega)
        exact ih m (v + 1) 2 a v M2 (by omega) (by omega) (by omega) (e3 (by rw [qy]; omega)) (Or.inr (Or.inr (Or.inr ⟨by omega, by omega, rfl, rfl, qy⟩)))
      · have qx : v = x := by omega
        have hy2 := (hiff a hy (by omega)).mpr (Or.inr rfl)
        obtain ⟨M2, e1, e2, e3⟩ := ins1 (v := v) hp (by omega) hs ⟨by omega, by omega, hy2⟩ ⟨by omega, by omega, hv2⟩
        rw [go M2 e1]
        have := ho (by omega) (by omega)
        exact ih m (v + 1) 2 v a M2 (by omega) (by omega) (by omega) (e2 (by rw [qx]; omega)) (Or.inr (Or.inr (Or.inr ⟨by omega, by omega, rfl, qx, rfl⟩)))
      · omega
    · have hv2 : ¬ g (7619 + v) = 2 := fun z => q (hif.mp z)
      have hsv : f_X6_isShut (h + 3 * v.toNat + 3) M1 = some 0 := by unfold f_X6_isShut; exact ie (fun z => hv2 (hsh.mp z)) rfl
      have go : L_X7_arrange_24 h k (m + 1) l n v M1 = L_X7_arrange_24 h k m l n (v + 1) M1 := by
        rw [L_X7_arrange_24]
        exact si (by omega) (ie (by omega) (si (by omega) (bc hsv (it rfl rfl))))
      rw [go]
      exact ih m (v + 1) c a b M1 (by omega) (by omega) (by omega) hp (by omega)
theorem ar_lv {h : Nat} {n : Int} {M : fMem} {g : Int → Int} {k : Int → fMem → Option (Int × fMem)} {l : Int} {m : Nat} (hs : shK h M g) (hl : 0 ≤ l ∧ l ≤ 8) (hn : 0 ≤ n ∧ n ≤ 17) (hv : okV g) (h0 : M h 2 = n) (hm : 4 ≤ m) : ∃ M1, L_X7_arrange_24 h k m l n (2 * l) M = k l M1 ∧ arP h n M M1 (shM g l) (bA g l 0) (bA g l 1) := by
  have hE : 2 * l + 2 ≤ ER l ∧ ER l ≤ 2 * l + 3 ∧ ER l ≤ 19 := by unfold ER; split <;> omega
  have p0 : ∀ a b, arP h n M M 0 a b := fun a b => ⟨by omega, fun z => by omega, fun z => by omega, fun _ _ => rfl, fun _ _ => rfl, fun _ _ _ => rfl⟩
  rcases lv_cs hl hv with ⟨a1, a2, a3, a4⟩ | ⟨a1, a2, a3, a4, a5⟩ | ⟨a1, a2, a3, a4, a5, a6, a7, a8⟩
  · obtain ⟨M2, c2, x2, y2, e1, e2, e3⟩ := ar_scan (k := k) hs hl hn (x := 100) (y := 101) (by omega) (by omega) (by omega) (fun v v0 v1 => ⟨fun z => absurd z (a4 v v0 v1), fun z => by omega⟩) (fun z => by omega) (ER l - 2 * l).toNat m (2 * l) 0 0 0 M (by omega) (by omega) (by omega) (p0 0 0) (Or.inl ⟨by omega, by omega, rfl⟩)
    refine ⟨M2, e1, ?_⟩
    rw [a1]
    have : c2 = 0 := by omega
    subst this
    obtain ⟨b1, b2, b3, b4, b5, b6⟩ := e2
    exact ⟨b1, fun z => by omega, fun z => by omega, b4, b5, b6⟩
  · obtain ⟨M2, c2, x2, y2, e1, e2, e3⟩ := ar_scan (k := k) hs hl hn (x := bA g l 0) (y := 101) (by omega) (by omega) (by omega) (fun v v0 v1 => ⟨fun z => Classical.byContradiction fun w => a5 v v0 v1 (by omega) z, fun z => by rcases z with z | z; rw [z]; exact a4; omega⟩) (fun z => by omega) (ER l - 2 * l).toNat m (2 * l) 0 0 0 M (by omega) (by omega) (by omega) (p0 0 0) (Or.inl ⟨by omega, by omega, rfl⟩)
    refine ⟨M2, e1, ?_⟩
    rw [a1]
    have : c2 = 1 ∧ x2 = bA g l 0 := by omega
    obtain ⟨rfl, rfl⟩ := this
    obtain ⟨b1, b2, b3, b4, b5, b6⟩ := e2
    exact ⟨b1, b2, fun z => by omega, b4, b5, b6⟩
  · obtain ⟨M2, c2, x2, y2, e1, e2, e3⟩ := ar_scan (k := k) hs hl hn (x := bA g l 0) (y := bA g l 1) a4 (by omega) (by omega) (fun v v0 v1 => ⟨fun z => Classical.byContradiction fun w => a8 v v0 v1 (by omega) (by omega) z, fun z => by rcases z with z | z <;> rw [z] <;> assumption⟩) (fun _ _ => a7) (ER l - 2 * l).toNat m (2 * l) 0 0 0 M (by omega) (by omega) (by omega) (p0 0 0) (Or.inl ⟨by omega, by omega, rfl⟩)
    refine ⟨M2, e1, ?_⟩
    rw [a1]
    have : c2 = 2 ∧ x2 = bA g l 0 ∧ y2 = bA g l 1 := by omega
    obtain ⟨rfl, rfl, rfl⟩ := this
    exact e2
theorem ordAt_cons {h : Nat} {M : fMem} {i x : Int} {xs : List Int} (a : M (h + 2) i = x) (b : ordAt h M (i + 1) xs) : ordAt h M i (x :: xs) := by
  refine ⟨by rw [b.1]; simp; omega, fun j y hy => ?_⟩
  cases j with
  | zero => simp at hy; rw [← hy, ← a]; simp
  | succ j =>
    have := b.2 j y (by simpa using hy)
    rw [← this, show i + ((j + 1 : Nat) : Int) = i + 1 + j by omega]
theorem lvL_len {g : Int → Int} {l : Int} (hl : 0 ≤ l ∧ l ≤ 8) (hv : okV g) : ((lvL g l).length : Int) = shM g l := by
  unfold lvL
  rcases lv_cs hl hv with ⟨a1, -⟩ | ⟨a1, -⟩ | ⟨a1, -⟩ <;> simp [a1]
theorem ar_loop {h : Nat} {g : Int → Int} {k : fMem → Option (Int × fMem)} (hv : okV g) : ∀ (d n : Nat) (M : fMem) (v i : Int), v + d = 9 → d < n → shK h M g → M h 2 = i → 0 ≤ i → i ≤ 2 * v → ∃ M1, L_X7_arrange_7 h k n v M = k M1 ∧ ordAt h M1 i (ordF g d) ∧ (∀ j, j < i → M1 (h + 2) j = M (h + 2) j) ∧ (∀ j, j ≠ 2 → M1 h j = M h j) ∧ ∀ x, x ≠ h → x ≠ h + 2 → M1 x = M x := by
  intro d
  induction d with
  | zero =>
    intro n M v i h1 hn hs h0 i0 i1
    obtain ⟨n, rfl⟩ : ∃ n', n = n' + 1 := ⟨n - 1, by omega⟩
    refine ⟨M, ?_, ⟨by rw [h0]; simp [ordF], fun j y hy => by simp [ordF] at hy⟩, fun _ _ => rfl, fun _ _ => rfl, fun _ _ _ => rfl⟩
    rw [L_X7_arrange_7]
    exact it (by omega) rfl
  | succ d ih =>
    intro n M v i h1 hn hs h0 i0 i1
    obtain ⟨n, rfl⟩ : ∃ n', n = n' + 1 := ⟨n - 1, by omega⟩
    have hl : 0 ≤ v ∧ v ≤ 8 := by omega
    obtain ⟨M1, a1, a2⟩ := ar_lv (k := fun v1_12 M_12 => (if -2147483648 ≤ v1_12 + 1 ∧ v1_12 + 1 < 2147483648 then L_X7_arrange_7 h k n (v1_12 + 1) M_12 else none)) (m := 20000) hs hl (n := i) (by omega) hv h0 (by omega)
    obtain ⟨b1, b2, b3, b4, b5, b6⟩ := a2
    have hsm := lv_cs hl hv
    have hs1 : shK h M1 g := fun r r0 r1 => by rw [b6 _ (by omega) (by omega)]; exact hs r r0 r1
    obtain ⟨M2, c1, c2, c3, c4, c5⟩ := ih n M1 (v + 1) (i + shM g v) (by omega) (by omega) hs1 b1 (by omega) (by omega)
    refine ⟨M2, ?_, ?_, fun j hj => ?_, fun j hj => ?_, fun x x1 x2 => ?_⟩
    · rw [L_X7_arrange_7]
      refine ie (by omega) (si (by omega) ?_)
      rw [h0, show FR v = 2 * v from rfl, a1]
      rw [if_pos (by omega)]
      exact c1
    · rw [ordF, show (8 - (d : Int)) = v by omega]
      unfold lvL
      rcases hsm with ⟨z1, -⟩ | ⟨z1, -⟩ | ⟨z1, -⟩
      · rw [if_pos z1]
        rw [z1, Int.add_zero] at c2
        simpa using c2
      · rw [if_neg (by omega), if_pos z1]
        rw [z1] at c2 c3 b2
        refine ordAt_cons ?_ c2
        rw [c3 i (by omega)]; exact b2 (by omega)
      · rw [if_neg (by omega), if_neg (by omega)]
        rw [z1] at c2 c3 b2 b3
        refine ordAt_cons ?_ (ordAt_cons ?_ ?_)
        · rw [c3 i (by omega)]; exact b2 (by omega)
        · rw [c3 (i + 1) (by omega)]; exact b3 rfl
        · rw [show i + 1 + 1 = i + 2 by omega]; exact c2
    · rw [c3 j (by omega), b4 j hj]
    · rw [c4 j hj, b5 j hj]
    · rw [c5 x x1 x2, b6 x x1 x2]
/-- what arranging leaves as it was -/
def arF (h : Nat) (M M1 : fMem) : Prop := (∀ j, j ≠ 2 → M1 h j = M h j) ∧ ∀ x, x ≠ h → x ≠ h + 2 → M1 x = M x
theorem c_arrange {h : Nat} {M : fMem} {g : Int → Int} (hs : shK h M g) (hv : okV g) : ∃ M1, f_X7_arrange h M = some (((ordL g).length : Int), M1) ∧ ordAt h M1 0 (ordL g) ∧ arF h M M1 := by
  have hs1 : shK h (mset M h 2 0) g := fun r r0 r1 => by rw [mset_ne (by omega)]; exact hs r r0 r1
  obtain ⟨M1, a1, a2, a3, a4, a5⟩ := ar_loop (h := h) (k := fun M_14 => some (M_14 h 2, M_14)) hv 9 20000 (mset M h 2 0) 0 0 (by omega) (by omega) hs1 (mset_self _ _ _ _) (by omega) (by omega)
  refine ⟨M1, ?_, a2, fun j hj => ?_, fun x x1 x2 => ?_⟩
  · unfold f_X7_arrange
    refine bs fun N e => ?_
    subst e
    rw [a1, a2.1, Int.zero_add]; rfl
  · rw [a4 j hj, mset_slot hj]
  · rw [a5 x x1 x2, mset_ne x1]
theorem lvL_mem {g : Int → Int} {l r : Int} (hl : 0 ≤ l ∧ l ≤ 8) (hv : okV g) (h : r ∈ lvL g l) : (2 * l ≤ r ∧ r < ER l) ∧ g (7619 + r) = 2 := by
  unfold lvL at h
  rcases lv_cs hl hv with ⟨a1, -⟩ | ⟨a1, a2, a3, a4, a5⟩ | ⟨a1, a2, a3, a4, a5, a6, a7, a8⟩
  · rw [if_pos a1] at h; simp at h
  · rw [if_neg (by omega), if_pos a1] at h; simp at h; rw [h]; exact ⟨a3, a4⟩
  · rw [if_neg (by omega), if_neg (by omega)] at h; simp at h
    rcases h with h | h <;> rw [h]
    · exact ⟨a2, a5⟩
    · exact ⟨a3, a6⟩
theorem ordF_mem {g : Int → Int} (hv : okV g) : ∀ (d : Nat), d ≤ 9 → ∀ r ∈ ordF g d, (0 ≤ r ∧ r < 19) ∧ g (7619 + r) = 2 := by
  intro d
  induction d with
  | zero => intro _ r h; simp [ordF] at h
  | succ d ih =>
    intro hd r h
    rw [ordF, List.mem_append] at h
    rcases h with h | h
    · have := lvL_mem (l := 8 - d) (by omega) hv h
      have hE : ER (8 - d) ≤ 19 := by unfold ER; split <;> omega
      exact ⟨by omega, this.2⟩
    · exact ih (by omega) r h
end ORD2
