/-! numbers alone: words for the walk through the functions -/
section PUR0
theorem si {α : Type} {c : Prop} [Decidable c] {A q : Option α} (hc : c) (h : A = q) : (if c then A else none) = q := by rw [if_pos hc]; exact h
theorem it {α : Type} {c : Prop} [Decidable c] {A B q : Option α} (hc : c) (h : A = q) : (if c then A else B) = q := by rw [if_pos hc]; exact h
theorem ie {α : Type} {c : Prop} [Decidable c] {A B q : Option α} (hc : ¬ c) (h : B = q) : (if c then A else B) = q := by rw [if_neg hc]; exact h
theorem bs {α β : Type} {m : α} {f : α → Option β} {q : Option β} (h : ∀ x, x = m → f x = q) : (some m).bind f = q := h m rfl
theorem bc {α β : Type} {A : Option α} {f : α → Option β} {q : Option β} {r : α} (h1 : A = some r) (h2 : f r = q) : A.bind f = q := by rw [h1]; exact h2
/-- one number in a row changes -/
def us (f : Int → Int) (i v : Int) : Int → Int := fun k => if k = i then v else f k
theorem us_eq (f : Int → Int) (i v : Int) : us f i v i = v := by simp [us]
theorem us_ne {f : Int → Int} {i v k : Int} (h : k ≠ i) : us f i v k = f k := by simp [us, h]
theorem us_if (f : Int → Int) (i v k : Int) : us f i v k = if k = i then v else f k := rfl
theorem os (M : fMem) (k : Nat) (f : Int → Int) : oset M k f k = f := by simp [oset]
theorem os_ne {M : fMem} {k a : Nat} {f : Int → Int} (h : a ≠ k) : oset M k f a = M a := by funext i; simp [oset, h]
theorem os_os (M : fMem) (k : Nat) (f g : Int → Int) : oset (oset M k f) k g = oset M k g := by
  funext a; simp only [oset]; split <;> rfl
theorem os_id (M : fMem) (k : Nat) : oset M k (M k) = M := by
  funext a; simp only [oset]; split
  · rename_i h; rw [h]
  · rfl
theorem mset_os (M : fMem) (k : Nat) (i v : Int) : mset M k i v = oset M k (us (M k) i v) := by
  funext a j
  simp only [mset, oset, us]
  by_cases ha : a = k
  · subst ha; simp [us]
  · simp [ha]
theorem ms (M : fMem) (k : Nat) (f : Int → Int) (i v : Int) : mset (oset M k f) k i v = oset M k (us f i v) := by
  rw [mset_os, os, os_os]
theorem bm {β : Type} {M : fMem} {k : Nat} {g : Int → Int} {i v : Int} {f : fMem → Option β} {q : Option β} (h : ∀ g1, g1 = us g i v → f (oset M k g1) = q) : (some (mset (oset M k g) k i v)).bind f = q := by
  rw [ms]; exact h _ rfl
end PUR0
