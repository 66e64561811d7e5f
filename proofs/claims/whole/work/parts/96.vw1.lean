/-! views: words, what the reference keeps -/
section VW1
theorem c_isView (a : Int) (M : fMem) : f_X10_isView a M = some (if 0 ≤ a ∧ a < 3 then 1 else 0) := by
  unfold f_X10_isView
  by_cases c : a < 0
  · rw [if_pos c, if_neg (by omega)]
  · rw [if_neg c]
    by_cases d : 3 ≤ a
    · rw [if_pos d, if_neg (by omega)]
    · rw [if_neg d, if_pos (by omega)]
theorem r_isView (a : Int) (M : fMem) : f_X11_isView a M = some (if 0 ≤ a ∧ a < 3 then 1 else 0) := by
  unfold f_X11_isView
  refine bc (r_isIn _ _ _ _) ?_
  by_cases h : 0 ≤ a ∧ a < 3
  · rw [if_pos h, if_pos (by omega)]
  · rw [if_neg h, if_neg (by omega)]
abbrev tkn (tk : Int → Int) (a : Int) : Prop := (0 ≤ a ∧ a < 3) ∧ tk a ≠ 0
theorem c_isTaken (a : Int) (M : fMem) : f_X10_isTaken a M = some (if tkn (M 144) a then 1 else 0) := by
  unfold f_X10_isTaken
  refine bc (c_isView _ _) ?_
  by_cases h : 0 ≤ a ∧ a < 3
  · rw [if_pos h]
    refine ie (by omega) (si h ?_)
    by_cases q : M 144 a = 0
    · rw [if_pos q, if_neg (fun z => z.2 q)]
    · rw [if_neg q, if_pos ⟨h, q⟩]
  · rw [if_neg h]
    refine it rfl ?_
    rw [if_neg (fun z => h z.1)]
theorem c_needTaken (a : Int) (M : fMem) : f_X10_needTaken a M = some (if tkn (M 144) a then 0 else 1) := by
  unfold f_X10_needTaken
  refine bc (c_isTaken _ _) ?_
  by_cases h : tkn (M 144) a
  · rw [if_pos h, if_pos h]; exact ie (by omega) rfl
  · rw [if_neg h, if_neg h]; exact it rfl rfl
theorem r_isTaken (a : Int) (M : fMem) : f_X11_isTakenView a M = some (if tkn (M 436) a then 1 else 0) := by
  unfold f_X11_isTakenView
  refine bc (r_isView _ _) ?_
  by_cases h : 0 ≤ a ∧ a < 3
  · rw [if_pos h]
    refine ie (by omega) (si h ?_)
    by_cases q : M 436 a = 0
    · rw [if_pos q, if_neg (fun z => z.2 q)]
    · rw [if_neg q, if_pos ⟨h, q⟩]
  · rw [if_neg h]
    refine it rfl ?_
    rw [if_neg (fun z => h z.1)]
theorem tkn_iff {M : fMem} {n a : Int} (h : St M n) : tkn (M 144) a ↔ tkn (M 436) a := by
  unfold tkn
  by_cases c : 0 ≤ a ∧ a < 3
  · rw [(h.1.2.2.2.2.1 a c.1 c.2).1]
  · constructor
    · intro z; exact absurd z.1 c
    · intro z; exact absurd z.1 c
theorem r_isKept {M : fMem} {v r : Int} (hv : 0 ≤ v ∧ v < 3) (hr : 0 ≤ r ∧ r < 19) : f_X11_isKept v r M = some (b1 (kv (M 435) v (7619 + r) = 2)) := by
  unfold f_X11_isKept f_X11_viewAt
  refine bc (it (by omega) rfl) (it (by omega) ?_)
  unfold kv b1
  rw [show 7657 * v + 7619 + r = 7657 * v + (7619 + r) by omega]
  split <;> rfl
theorem r_keptMany {M : fMem} {v : Int} (hv : 0 ≤ v ∧ v < 3) : f_X11_keptMany v M = some (kS (wR (kv (M 435) v) (fun _ => 1)) 0 19) := by
  have key : ∀ (d n : Nat) (c i : Int), i + d = 19 → 0 ≤ i → d < n → 0 ≤ c → c + d ≤ 10000 → L_X11_keptMany_4 M (fun v2_6 => some v2_6) n v c i = some (c + kS (wR (kv (M 435) v) (fun _ => 1)) i d) := by
    intro d
    induction d with
    | zero =>
      intro n c i h1 h2 hn c0 c1
      obtain ⟨n, rfl⟩ : ∃ n', n = n' + 1 := ⟨n - 1, by omega⟩
      rw [L_X11_keptMany_4, if_pos (by omega), kS, Int.add_zero]
    | succ d ih =>
      intro n c i h1 h2 hn c0 c1
      obtain ⟨n, rfl⟩ : ∃ n', n = n' + 1 := ⟨n - 1, by omega⟩
      rw [L_X11_keptMany_4, if_neg (by omega), kS]
      refine bc (r_isKept hv ⟨h2, by omega⟩) ?_
      by_cases q : kv (M 435) v (7619 + i) = 2
      · rw [show b1 (kv (M 435) v (7619 + i) = 2) = 1 by simp [b1, q], if_neg (by omega), if_pos (by omega), ih n _ (i + 1) (by omega) (by omega) (by omega) (by omega) (by omega)]
        rw [show wR (kv (M 435) v) (fun _ => 1) i = 1 by unfold wR; rw [if_pos q]]; congr 1; omega
      · rw [show b1 (kv (M 435) v (7619 + i) = 2) = 0 by simp [b1, q], if_pos rfl, if_pos (by omega), ih n _ (i + 1) (by omega) (by omega) (by omega) (by omega) (by omega)]
        rw [show wR (kv (M 435) v) (fun _ => 1) i = 0 by unfold wR; rw [if_neg q]]; congr 1; omega
  unfold f_X11_keptMany
  rw [key 19 20000 0 0 (by omega) (by omega) (by omega) (by omega) (by omega), Int.zero_add]
theorem r_keptL {M : fMem} {v : Int} (hv : 0 ≤ v ∧ v < 3) (ho : okV (kv (M 435) v)) : f_X11_keptMany v M = some ((ordL (kv (M 435) v)).length : Int) := by
  rw [r_keptMany hv, len_lS, lS_ord ho]
/-- a state becomes what a view keeps: its rows, all but the shut ones free -/
def cpV (h g : Int → Int) : Int → Int := fun x => if 0 ≤ x ∧ x < 7657 then h x else g x
def bcF (c : Int → Int) (v : Int) : Int → Int := fun x => if 7619 ≤ x ∧ x < 7619 + v ∧ c x ≠ 2 then 0 else if 7600 ≤ x ∧ x < 7600 + v ∧ c (x + 19) ≠ 2 then 0 else c x
theorem bcF_0 (c : Int → Int) : bcF c 0 = c := by
  funext x
  unfold bcF
  rw [if_neg (by omega), if_neg (by omega)]
theorem bcF_s {c : Int → Int} {v : Int} (hv : 0 ≤ v ∧ v < 19) : bcF c v (7619 + v) = c (7619 + v) := by
  unfold bcF
  rw [if_neg (by omega), if_neg (by omega)]
theorem bcF_shut {c : Int → Int} {v : Int} (hv : 0 ≤ v ∧ v < 19) (h : c (7619 + v) = 2) : bcF c (v + 1) = bcF c v := by
  funext x
  unfold bcF
  by_cases e : x = 7619 + v
  · subst e
    rw [if_neg (fun z => z.2.2 h), if_neg (c := 7600 ≤ 7619 + v ∧ 7619 + v < 7600 + (v + 1) ∧ c (7619 + v + 19) ≠ 2) (by omega), if_neg (fun z => z.2.2 h), if_neg (c := 7600 ≤ 7619 + v ∧ 7619 + v < 7600 + v ∧ c (7619 + v + 19) ≠ 2) (by omega)]
  · by_cases e2 : x = 7600 + v
    · subst e2
      have h3 : c (7600 + v + 19) = 2 := by rw [show 7600 + v + 19 = 7619 + v by omega]; exact h
      rw [if_neg (c := 7619 ≤ 7600 + v ∧ 7600 + v < 7619 + (v + 1) ∧ c (7600 + v) ≠ 2) (by omega), if_neg (fun z => z.2.2 h3), if_neg (c := 7619 ≤ 7600 + v ∧ 7600 + v < 7619 + v ∧ c (7600 + v) ≠ 2) (by omega), if_neg (fun z => z.2.2 h3)]
    · have i1 : (7619 ≤ x ∧ x < 7619 + (v + 1) ∧ c x ≠ 2) ↔ (7619 ≤ x ∧ x < 7619 + v ∧ c x ≠ 2) := by omega
      have i2 : (7600 ≤ x ∧ x < 7600 + (v + 1) ∧ c (x + 19) ≠ 2) ↔ (7600 ≤ x ∧ x < 7600 + v ∧ c (x + 19) ≠ 2) := by omega
      simp only [i1, i2]
theorem bcF_free {c : Int → Int} {v : Int} (hv : 0 ≤ v ∧ v < 19) (h : c (7619 + v) ≠ 2) : sFree (bcF c v) v = bcF c (v + 1) := by
  funext x
  unfold sFree
  by_cases e2 : x = 7600 + v
  · subst e2
    rw [us_eq]
    have h3 : c (7600 + v + 19) ≠ 2 := by rw [show 7600 + v + 19 = 7619 + v by omega]; exact h
    unfold bcF
    rw [if_neg (c := 7619 ≤ 7600 + v ∧ 7600 + v < 7619 + (v + 1) ∧ c (7600 + v) ≠ 2) (by omega), if_pos ⟨by omega, by omega, h3⟩]
  · rw [us_ne e2]
    by_cases e : x = 7619 + v
    · subst e
      rw [us_eq]
      unfold bcF
      rw [if_pos ⟨by omega, by omega, h⟩]
    · rw [us_ne e]
      have i1 : (7619 ≤ x ∧ x < 7619 + (v + 1) ∧ c x ≠ 2) ↔ (7619 ≤ x ∧ x < 7619 + v ∧ c x ≠ 2) := by omega
      have i2 : (7600 ≤ x ∧ x < 7600 + (v + 1) ∧ c (x + 19) ≠ 2) ↔ (7600 ≤ x ∧ x < 7600 + v ∧ c (x + 19) ≠ 2) := by omega
      unfold bcF
      simp only [i1, i2]
theorem l_bec2 {N : fMem} {c : Int → Int} {k : fMem → Option fMem} (m : Nat) : ∀ (fu : Nat) (v : Int), 0 ≤ v → 19 - v = m → m < fu → L_X11_becomes_34 k fu v (oset N 419 (bcF c v)) = k (oset N 419 (bcF c 19)) := by
  induction m with
  | zero =>
    intro fu v v0 hm hf
    obtain ⟨f, rfl⟩ : ∃ f, fu = f + 1 := ⟨fu - 1, by omega⟩
    rw [show v = 19 by omega]
    exact it (by omega) rfl
  | succ m ih =>
    intro fu v v0 hm hf
    obtain ⟨f, rfl⟩ : ∃ f, fu = f + 1 := ⟨fu - 1, by omega⟩
    refine ie (by omega) (bc (r_isShut ⟨v0, by omega⟩) ?_)
    rw [os, bcF_s ⟨v0, by omega⟩]
    by_cases q : c (7619 + v) = 2
    · rw [show b1 (c (7619 + v) = 2) = 1 by simp [b1, q]]
      refine ie (by omega) ?_
      rw [← bcF_shut ⟨v0, by omega⟩ q]
      exact ih f (v + 1) (by omega) (by omega) (by omega)
    · rw [show b1 (c (7619 + v) = 2) = 0 by simp [b1, q]]
      refine it rfl (bc (e_frees ⟨v0, by omega⟩) ?_)
      rw [bcF_free ⟨v0, by omega⟩ q]
      exact ih f (v + 1) (by omega) (by omega) (by omega)
theorem l_bec1 {k : fMem → Option fMem} {w : Int} (hw : 0 ≤ w ∧ w < 3) (m : Nat) : ∀ (fu : Nat) (v : Int) (M : fMem), 0 ≤ v → 7657 - v = m → m < fu → L_X11_becomes_2 k fu w v M = k (oset M 419 (fun x => if v ≤ x ∧ x < 7657 then kv (M 435) w x else M 419 x)) := by
  induction m with
  | zero =>
    intro fu v M v0 hm hf
    obtain ⟨f, rfl⟩ : ∃ f, fu = f + 1 := ⟨fu - 1, by omega⟩
    refine it (by omega) ?_
    have : oset M 419 (fun x => if v ≤ x ∧ x < 7657 then kv (M 435) w x else M 419 x) = M := by
      funext a i
      by_cases ha : a = 419
      · subst ha
        rw [os]
        show (if v ≤ i ∧ i < 7657 then _ else _) = _
        rw [if_neg (c := v ≤ i ∧ i < 7657) (by omega)]
      · rw [os_ne ha]
    rw [this]
  | succ m ih =>
    intro fu v M v0 hm hf
    obtain ⟨f, rfl⟩ : ∃ f, fu = f + 1 := ⟨fu - 1, by omega⟩
    refine ie (by omega) (bc (it (by omega) rfl) (it (by omega) (it (by omega) (bs fun x e => ?_))))
    rw [ih f (v + 1) x (by omega) (by omega) (by omega), e]
    have : oset (mset M 419 v (M 435 (7657 * w + v))) 419 (fun x => if v + 1 ≤ x ∧ x < 7657 then kv (mset M 419 v (M 435 (7657 * w + v)) 435) w x else mset M 419 v (M 435 (7657 * w + v)) 419 x) = oset M 419 (fun x => if v ≤ x ∧ x < 7657 then kv (M 435) w x else M 419 x) := by
      funext a i
      by_cases ha : a = 419
      · subst ha
        rw [os, os, mset_ne (by omega), mset_at]
        by_cases c : i = v
        · subst c
          rw [if_neg (c := i + 1 ≤ i ∧ i < 7657) (by omega), if_pos (c := i ≤ i ∧ i < 7657) (by omega), us_eq]
          rfl
        · by_cases d : v ≤ i ∧ i < 7657
          · rw [if_pos (c := v + 1 ≤ i ∧ i < 7657) (by omega), if_pos d]
          · rw [if_neg (c := v + 1 ≤ i ∧ i < 7657) (by omega), if_neg d, us_ne c]
      · rw [os_ne ha, os_ne ha, mset_ne ha]
    rw [this]
def bec (h g : Int → Int) : Int → Int := bcF (cpV h g) 19
theorem r_becomes {M : fMem} {w : Int} (hw : 0 ≤ w ∧ w < 3) : f_X11_becomes w M = some (oset M 419 (bec (kv (M 435) w) (M 419))) := by
  unfold f_X11_becomes
  rw [l_bec1 hw 7657 20000 0 M (by omega) (by omega) (by omega)]
  show L_X11_becomes_34 _ 20000 0 (oset M 419 (cpV (kv (M 435) w) (M 419))) = _
  have := l_bec2 (N := M) (c := cpV (kv (M 435) w) (M 419)) (k := fun M_12 => some M_12) 19 20000 0 (by omega) (by omega) (by omega)
  rw [bcF_0] at this
  exact this
theorem bec_v {h g : Int → Int} (ho : okV h) : agV h (bec h g) ∧ (∀ r, 0 ≤ r → r < 19 → h (7619 + r) ≠ 2 → bec h g (7619 + r) = 0 ∧ bec h g (7600 + r) = 0) ∧ ∀ x, x < 0 ∨ 7657 ≤ x → bec h g x = g x := by
  have cp : ∀ x, 0 ≤ x → x < 7657 → cpV h g x = h x := fun x x0 x1 => by unfold cpV; rw [if_pos ⟨x0, x1⟩]
  refine ⟨fun r r0 r1 => ?_, fun r r0 r1 z => ?_, fun x hx => ?_⟩
  · have c1 := cp (7619 + r) (by omega) (by omega)
    have e1 : bec h g (7619 + r) = if h (7619 + r) = 2 then 2 else 0 := by
      unfold bec bcF
      rw [c1]
      by_cases q : h (7619 + r) = 2
      · rw [if_neg (fun z => z.2.2 q), if_neg (c := 7600 ≤ 7619 + r ∧ 7619 + r < 7600 + 19 ∧ cpV h g (7619 + r + 19) ≠ 2) (by omega), if_pos q, q]
      · rw [if_pos ⟨by omega, by omega, q⟩, if_neg q]
    refine ⟨?_, fun q => ?_⟩
    · rw [e1]
      by_cases q : h (7619 + r) = 2
      · rw [if_pos q]; exact ⟨fun _ => q, fun _ => rfl⟩
      · rw [if_neg q]; exact ⟨fun z => by omega, fun z => absurd z q⟩
    · have o2 := (ho.1 r r0 r1 q).2.1
      have rb := rmR_bd r
      have far : ∀ x, 0 ≤ x → x < 7657 → (x < 7600 ∨ 7638 ≤ x) → bec h g x = h x := fun x x0 x1 x2 => by
        unfold bec bcF
        rw [if_neg (by omega), if_neg (by omega), cp x x0 x1]
      refine ⟨?_, far _ (by omega) (by omega) (by omega), fun j j0 j1 => ⟨far _ (by omega) (by omega) (by omega), far _ (by omega) (by omega) (by omega)⟩⟩
      unfold bec bcF
      have c3 : cpV h g (7600 + r + 19) = 2 := by rw [show 7600 + r + 19 = 7619 + r by omega, c1, q]
      rw [if_neg (c := 7619 ≤ 7600 + r ∧ 7600 + r < 7619 + 19 ∧ cpV h g (7600 + r) ≠ 2) (by omega), if_neg (fun z => z.2.2 c3), cp _ (by omega) (by omega)]
  · have c1 := cp (7619 + r) (by omega) (by omega)
    have c3 : cpV h g (7600 + r + 19) ≠ 2 := by rw [show 7600 + r + 19 = 7619 + r by omega, c1]; exact z
    constructor
    · unfold bec bcF
      rw [if_pos ⟨by omega, by omega, by rw [c1]; exact z⟩]
    · unfold bec bcF
      rw [if_neg (c := 7619 ≤ 7600 + r ∧ 7600 + r < 7619 + 19 ∧ cpV h g (7600 + r) ≠ 2) (by omega), if_pos ⟨by omega, by omega, c3⟩]
  · unfold bec bcF cpV
    rw [if_neg (by omega), if_neg (by omega), if_neg (by omega)]
theorem bec_rg {h g : Int → Int} (hh : ∀ x, rg (h x)) (hg : ∀ x, rg (g x)) : ∀ x, rg (bec h g x) := by
  have hc : ∀ x, rg (cpV h g x) := fun x => by
    unfold cpV
    split
    · exact hh x
    · exact hg x
  intro x
  have z : rg 0 := by unfold rg; omega
  unfold bec bcF
  split
  · exact z
  · split
    · exact z
    · exact hc x
end VW1
