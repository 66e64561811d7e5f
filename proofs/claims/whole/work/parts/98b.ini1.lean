/-! what is made: words -/
section INI1
def zf : Int → Int := fun _ => 0
/-- n things are made, W says what they hold -/
def mem (n : Nat) (W : fMem) : fMem := fun a i => if a = 440 then (if i = 0 then (n : Int) else 0) else W a i
theorem mem_n (n : Nat) (W : fMem) : mem n W 440 0 = (n : Int) := rfl
theorem mem_a {n : Nat} {W : fMem} {a : Nat} (h : a ≠ 440) : mem n W a = W a := by
  funext i; unfold mem; rw [if_neg h]
theorem us_z (j : Int) : us zf j 0 = zf := by
  funext i; unfold us zf; split <;> rfl
theorem mem_w {n o : Nat} {W : fMem} {j v : Int} (ho : o ≠ 440) : mset (mem n W) o j v = mem n (oset W o (us (W o) j v)) := by
  funext a i
  unfold mset mem oset us
  by_cases h : a = o
  · subst h
    rw [if_neg ho, if_neg ho]
    by_cases q : i = j
    · simp [q]
    · simp [q]
  · simp [h]
theorem mem_w0 {n o : Nat} {W : fMem} {j : Int} (ho : o ≠ 440) (hz : W o j = 0) : mset (mem n W) o j 0 = mem n W := by
  rw [mem_w ho]
  have : us (W o) j 0 = W o := by
    funext i; unfold us; split
    · rename_i h; rw [h, hz]
    · rfl
  rw [this, os_id]
theorem mem_new {n : Nat} {W : fMem} (hn : n < 440) (hz : W n = zf) : mnew (mem n W) = mem (n + 1) W := by
  funext a i
  unfold mnew
  rw [mem_n]
  by_cases h : a = 440
  · subst h
    rw [if_pos rfl]
    unfold mem
    rw [if_pos rfl, if_pos rfl]
    by_cases q : i = 0
    · rw [if_pos q, if_pos q]; omega
    · rw [if_neg q, if_neg q, if_neg q]
  · rw [if_neg h, mem_a h, Int.toNat_natCast]
    by_cases q : a = n
    · subst q; rw [if_pos rfl, mem_a h, hz]; rfl
    · rw [if_neg q, mem_a h]
/-- a field of 0 -/
theorem k0 {β : Type} {n o t : Nat} {W : fMem} {j : Int} {f : fMem → Option β} {q : Option β} (hT : Ty o = t) (ho : o < n) (hn : n ≤ 440) (hz : W o j = 0) (h : f (mem n W) = q) : (if Ty o = t ∧ ((o : Nat) : Int) < mem n W 440 0 then ((some (mset (mem n W) o j 0) : Option fMem).bind f) else none) = q := by
  rw [if_pos ⟨hT, by rw [mem_n]; omega⟩, mem_w0 (by omega) hz]
  exact h
/-- a field of v -/
theorem kv1 {β : Type} {n o t : Nat} {W : fMem} {F : Int → Int} {j v : Int} {f : fMem → Option β} {q : Option β} (hF : W o = F) (hT : Ty o = t) (ho : o < n) (hn : n ≤ 440) (h : f (mem n (oset W o (us F j v))) = q) : (if Ty o = t ∧ ((o : Nat) : Int) < mem n W 440 0 then ((some (mset (mem n W) o j v) : Option fMem).bind f) else none) = q := by
  rw [if_pos ⟨hT, by rw [mem_n]; omega⟩, mem_w (by omega), hF]
  exact h
/-- a new array -/
theorem kn {β : Type} {n t : Nat} {L : Int} {W : fMem} {f : fMem → Option β} {q : Option β} (hz : W n = zf) (hn : n < 440) (hT : Ty n = t) (hL : Ln n = L) (h : f (mem (n + 1) W) = q) : (if 0 ≤ mem n W 440 0 ∧ mem n W 440 0 < 440 ∧ Ty (mem n W 440 0).toNat = t ∧ Ln (mem n W 440 0).toNat = L then ((some (mnew (mem n W)) : Option fMem).bind f) else none) = q := by
  rw [mem_n, Int.toNat_natCast, if_pos ⟨by omega, by omega, hT, hL⟩, mem_new hn hz]
  exact h
theorem knl {β : Type} {n t : Nat} {L R : Int} {W : fMem} {f : fMem → Option β} {q : Option β} (hz : W n = zf) (hn : n < 440) (hT : Ty n = t) (hL : Ln n = L) (hR : L ≤ R) (h : f (mem (n + 1) W) = q) : (if 0 ≤ mem n W 440 0 ∧ mem n W 440 0 < 440 ∧ Ty (mem n W 440 0).toNat = t ∧ Ln (mem n W 440 0).toNat = L then (if L ≤ R then ((some (mnew (mem n W)) : Option fMem).bind f) else none) else none) = q := by
  rw [mem_n, Int.toNat_natCast, if_pos ⟨by omega, by omega, hT, hL⟩, mem_new hn hz, if_pos hR]
  exact h
/-- a new object -/
theorem ko {β : Type} {n t : Nat} {W : fMem} {f : fMem → Option β} {q : Option β} (hz : W n = zf) (hn : n < 440) (hT : Ty n = t) (h : f (mem (n + 1) W) = q) : (if 0 ≤ mem n W 440 0 ∧ mem n W 440 0 < 440 ∧ Ty (mem n W 440 0).toNat = t then ((some (mnew (mem n W)) : Option fMem).bind f) else none) = q := by
  rw [mem_n, Int.toNat_natCast, if_pos ⟨by omega, by omega, hT⟩, mem_new hn hz]
  exact h
/-- a field that refers -/
theorem kr {β : Type} {n m o t : Nat} {W W1 : fMem} {F : Int → Int} {j : Int} {f : fMem → Option β} {q : Option β} (hF : W o = F) (hT : Ty o = t) (ho : o < n) (hn : n ≤ 440) (hr : Rf o j = m) (h : f (mem n (oset W o (us F j 1))) = q) : (if Ty o = t ∧ ((o : Nat) : Int) < mem n W 440 0 then (if Rf o j = (mem m W1 440 0).toNat then ((some (mset (mem n W) o j 1) : Option fMem).bind f) else none) else none) = q := by
  rw [if_pos ⟨hT, by rw [mem_n]; omega⟩, mem_n, Int.toNat_natCast, if_pos hr, mem_w (by omega), hF]
  exact h
/-- what each kind holds when it is made -/
def vT (t : Nat) (L : Int) : Int → Int := fun j =>
  if t = 0 then (if 0 ≤ j ∧ j < 2 then 1 else if j = 2 then 6 else 0) else
  if t = 1 then (if 0 ≤ j ∧ j < 3 then 1 else 0) else
  if t = 2 ∨ t = 6 ∨ t = 7 then (if 0 ≤ j ∧ j < 2 then 1 else 0) else
  if t = 3 ∨ t = 8 ∨ t = 9 then (if j = 0 then 1 else 0) else
  if t = 5 then (if 0 ≤ j ∧ j < 4 then 1 else 0) else
  if t = 10 then (if 0 ≤ j ∧ j < 10 then 1 else if j = 10 then 4 else if j = 11 then 1 else 0) else
  if 14 ≤ t ∧ t < 18 then (if 0 ≤ j ∧ j < L then 1 else 0) else 0
def V (a : Nat) : Int → Int := vT (Ty a) (Ln a)
theorem vT_z {t : Nat} {L : Int} (h : t = 4 ∨ t = 12 ∨ t = 13 ∨ t = 18) : vT t L = zf := by
  funext j
  unfold vT zf
  rw [if_neg (by omega), if_neg (by omega), if_neg (by omega), if_neg (by omega), if_neg (by omega), if_neg (by omega), if_neg (by omega)]
theorem V_z {a : Nat} (h : Ty a = 4 ∨ Ty a = 12 ∨ Ty a = 13 ∨ Ty a = 18) : V a = zf := vT_z h
theorem vT_2 {t : Nat} {L : Int} (h : t = 2 ∨ t = 6 ∨ t = 7) : vT t L = us (us zf 0 1) 1 1 := by
  funext j
  unfold vT us zf
  rw [if_neg (by omega), if_neg (by omega), if_pos h]
  by_cases a : j = 1
  · rw [if_pos a, if_pos (by omega)]
  · rw [if_neg a]
    by_cases b : j = 0
    · rw [if_pos b, if_pos (by omega)]
    · rw [if_neg b, if_neg (by omega)]
theorem vT_1 {t : Nat} {L : Int} (h : t = 3 ∨ t = 8 ∨ t = 9) : vT t L = us zf 0 1 := by
  funext j
  unfold vT us zf
  rw [if_neg (by omega), if_neg (by omega), if_neg (by omega), if_pos h]
theorem vT_3 (L : Int) : vT 1 L = us (us (us zf 0 1) 1 1) 2 1 := by
  funext j
  have e : vT 1 L j = if 0 ≤ j ∧ j < 3 then 1 else 0 := rfl
  rw [e]
  unfold us zf
  by_cases c0 : j = 0
  · subst c0; rfl
  by_cases c1 : j = 1
  · subst c1; rfl
  by_cases c2 : j = 2
  · subst c2; rfl
  rw [if_neg (c := 0 ≤ j ∧ j < 3) (by omega), if_neg c2, if_neg c1, if_neg c0]
theorem vT_4 (L : Int) : vT 5 L = us (us (us (us zf 0 1) 1 1) 2 1) 3 1 := by
  funext j
  have e : vT 5 L j = if 0 ≤ j ∧ j < 4 then 1 else 0 := rfl
  rw [e]
  unfold us zf
  by_cases c0 : j = 0
  · subst c0; rfl
  by_cases c1 : j = 1
  · subst c1; rfl
  by_cases c2 : j = 2
  · subst c2; rfl
  by_cases c3 : j = 3
  · subst c3; rfl
  rw [if_neg (c := 0 ≤ j ∧ j < 4) (by omega), if_neg c3, if_neg c2, if_neg c1, if_neg c0]
theorem vT_0 (L : Int) : vT 0 L = us (us (us zf 0 1) 1 1) 2 6 := by
  funext j
  have e : vT 0 L j = if 0 ≤ j ∧ j < 2 then 1 else if j = 2 then 6 else 0 := rfl
  rw [e]
  unfold us zf
  by_cases c0 : j = 0
  · subst c0; rfl
  by_cases c1 : j = 1
  · subst c1; rfl
  by_cases c2 : j = 2
  · subst c2; rfl
  rw [if_neg (c := 0 ≤ j ∧ j < 2) (by omega), if_neg c2, if_neg c2, if_neg c1, if_neg c0]
theorem vT_ar {t : Nat} (h : 14 ≤ t ∧ t < 18) (v : Int) (hv : 0 ≤ v) : us (vT t v) v 1 = vT t (v + 1) ∧ vT t 0 = zf := by
  have e : ∀ L j, vT t L j = if 0 ≤ j ∧ j < L then 1 else 0 := fun L j => by
    unfold vT
    rw [if_neg (by omega), if_neg (by omega), if_neg (by omega), if_neg (by omega), if_neg (by omega), if_neg (by omega), if_pos h]
  constructor
  · funext j
    unfold us
    rw [e, e]
    by_cases a : j = v
    · rw [if_pos a, if_pos (by omega)]
    · rw [if_neg a]
      by_cases b : 0 ≤ j ∧ j < v
      · rw [if_pos b, if_pos (by omega)]
      · rw [if_neg b, if_neg (by omega)]
  · funext j
    rw [e, if_neg (by omega)]
    rfl
/-- from o on, c things are made -/
def Cn (o c : Nat) (W W1 : fMem) : Prop := (∀ a, o ≤ a → a < o + c → W1 a = V a) ∧ ∀ a, a < o ∨ o + c ≤ a → W1 a = W a
theorem i_row {o : Nat} {L : Int} {W : fMem} (hz : ∀ a, o ≤ a → W a = zf) (ho : o + 3 ≤ 440) (h0 : Ty o = 6) (h1 : Ty (o + 1) = 12) (h2 : Ty (o + 2) = 12) (l1 : Ln (o + 1) = L) (l2 : Ln (o + 2) = L) (hL : 0 ≤ L ∧ L ≤ 200) (r0 : Rf o 0 = o + 1) (r1 : Rf o 1 = o + 2) : ∃ W1, f_X6_init o L (mem (o + 1) W) = some (mem (o + 3) W1) ∧ Cn o 3 W W1 := by
  have z := hz o (by omega)
  have zz : ∀ j, W o j = 0 := fun j => by rw [z]; rfl
  refine ⟨oset (oset W o (us zf 0 1)) o (us (us zf 0 1) 1 1), ?_, fun a a0 a1 => ?_, fun a ha => ?_⟩
  · unfold f_X6_init
    rw [show max L 0 = L by omega]
    refine k0 h0 (by omega) (by omega) (zz _) (k0 h0 (by omega) (by omega) (zz _) (k0 h0 (by omega) (by omega) (zz _) (k0 h0 (by omega) (by omega) (zz _) ?_)))
    refine knl (hz _ (by omega)) (by omega) h1 l1 hL.2 (kr z h0 (by omega) (by omega) r0 ?_)
    refine knl (by rw [os_ne (by omega)]; exact hz _ (by omega)) (by omega) h2 l2 hL.2 (kr (os _ _ _) h0 (by omega) (by omega) r1 rfl)
  · have : a = o ∨ a = o + 1 ∨ a = o + 2 := by omega
    rcases this with rfl | rfl | rfl
    · rw [os]; unfold V; rw [h0, vT_2 (by omega)]
    · rw [os_ne (by omega), os_ne (by omega), hz _ (by omega), V_z (by omega)]
    · rw [os_ne (by omega), os_ne (by omega), hz _ (by omega), V_z (by omega)]
  · rw [os_ne (by omega), os_ne (by omega)]
theorem i_ent {o : Nat} {L : Int} {W : fMem} (hz : ∀ a, o ≤ a → W a = zf) (ho : o + 4 ≤ 440) (h0 : Ty o = 1) (h1 : Ty (o + 1) = 12) (h2 : Ty (o + 2) = 12) (h3 : Ty (o + 3) = 12) (l1 : Ln (o + 1) = L) (l2 : Ln (o + 2) = L) (l3 : Ln (o + 3) = L) (hL : 0 ≤ L ∧ L ≤ 328) (r0 : Rf o 0 = o + 1) (r1 : Rf o 1 = o + 2) (r2 : Rf o 2 = o + 3) : ∃ W1, f_X1_init o L (mem (o + 1) W) = some (mem (o + 4) W1) ∧ Cn o 4 W W1 := by
  have z := hz o (by omega)
  have zz : ∀ j, W o j = 0 := fun j => by rw [z]; rfl
  refine ⟨oset (oset (oset W o (us zf 0 1)) o (us (us zf 0 1) 1 1)) o (us (us (us zf 0 1) 1 1) 2 1), ?_, fun a a0 a1 => ?_, fun a ha => ?_⟩
  · unfold f_X1_init
    rw [show max L 0 = L by omega]
    refine k0 h0 (by omega) (by omega) (zz _) (k0 h0 (by omega) (by omega) (zz _) ?_)
    refine knl (hz _ (by omega)) (by omega) h1 l1 hL.2 (kr z h0 (by omega) (by omega) r0 ?_)
    refine knl (by rw [os_ne (by omega)]; exact hz _ (by omega)) (by omega) h2 l2 hL.2 (kr (os _ _ _) h0 (by omega) (by omega) r1 ?_)
    refine knl (by rw [os_ne (by omega), os_ne (by omega)]; exact hz _ (by omega)) (by omega) h3 l3 hL.2 (kr (os _ _ _) h0 (by omega) (by omega) r2 rfl)
  · have : a = o ∨ a = o + 1 ∨ a = o + 2 ∨ a = o + 3 := by omega
    rcases this with rfl | rfl | rfl | rfl
    · rw [os]; unfold V; rw [h0]
      exact (vT_3 _).symm
    · rw [os_ne (by omega), os_ne (by omega), os_ne (by omega), hz _ (by omega), V_z (by omega)]
    · rw [os_ne (by omega), os_ne (by omega), os_ne (by omega), hz _ (by omega), V_z (by omega)]
    · rw [os_ne (by omega), os_ne (by omega), os_ne (by omega), hz _ (by omega), V_z (by omega)]
  · rw [os_ne (by omega), os_ne (by omega), os_ne (by omega)]
theorem i_mrg {o : Nat} {W : fMem} (hz : ∀ a, o ≤ a → W a = zf) (ho : o + 1 ≤ 440) (h0 : Ty o = 4) : f_X4_init o (mem (o + 1) W) = some (mem (o + 1) W) ∧ W o = V o := by
  have z := hz o (by omega)
  have zz : ∀ j, W o j = 0 := fun j => by rw [z]; rfl
  refine ⟨?_, by rw [z, V_z (by omega)]⟩
  unfold f_X4_init
  exact k0 h0 (by omega) (by omega) (zz _) (k0 h0 (by omega) (by omega) (zz _) (k0 h0 (by omega) (by omega) (zz _) (k0 h0 (by omega) (by omega) (zz _) (k0 h0 (by omega) (by omega) (zz _) (k0 h0 (by omega) (by omega) (zz _) (k0 h0 (by omega) (by omega) (zz _) (k0 h0 (by omega) (by omega) (zz _) (k0 h0 (by omega) (by omega) (zz _) rfl))))))))
end INI1
