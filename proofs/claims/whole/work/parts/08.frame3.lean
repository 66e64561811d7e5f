/-! contracts, and the judgement at a pc -/
section FRM3
/-- a method: its name, its code, its locals, what it returns, its room -/
abbrev fMt : Type := MethodName × ByteArray × Nat × Option FieldType × Room
abbrev fE : Type := Nat → List Frame → Array Value → State → State → Prop
abbrev fQ : Type := Option Value → fMem → Prop
abbrev fX : Type := String → fMem → Prop
def fPc (G : fG) (as : List Value) (z : Nat) (M : fMem) : Array Value → State → Prop := fun v U =>
  v = as.toArray ∧ (gl G).stackTraces = false ∧ U.heap.size = z ∧ fP G M U.heap ∧ fK G U ∧ fSF G (gA G z) U U.heap
def fQc (G : fG) (A : Nat → Prop) (Q : fQ) : Array Value → State → Outcome → State → Prop := fun _ st o t => (∃ v M, o = .returned v ∧ Q v M ∧ fP G M t.heap) ∧ va_F A st t
def fXC (G : fG) (A : Nat → Prop) (X : fX) : String → State → State → Prop := fun E st t => (∃ M, X E M ∧ fP G M t.heap) ∧ va_F A st t
def fWm (mt : fMt) : List Cond := .code mt.1 mt.2.1 mt.2.2.1 mt.2.2.2.1 :: fT
/-- the contract of a method at these arguments and this memory -/
def fSp (G : fG) (mt : fMt) (as : List Value) (M : fMem) (Q : fQ) (X : fX) : Prop :=
  ∀ z, vx_Met (gl G) mt.1 (fWm mt) mt.2.2.2.2 (fPc G as z M) (fQc G (gA G z) Q) (fXC G (gA G z) X) mt.2.2.2.2.cells mt.2.2.2.2.slots (gA G z)
/-- the tables of the law's own methods -/
def fTb (n : String) : List (Nat × Nat × Nat × Nat) := if n = "looks" then [(0, 10, 13, 13)] else if n = "falls" then [(0, 12, 15, 13)] else if n = "bounds" then [(0, 14, 17, 13)] else if n = "route" then [(0, 12, 15, 13)] else if n = "next" then [(0, 9, 12, 13)] else if n = "nth" then [(0, 9, 12, 13)] else if n = "waste" then [(0, 9, 12, 13)] else if n = "many" then [(0, 10, 13, 13)] else if n = "trace" then [(0, 10, 13, 13)] else if n = "level" then [(0, 10, 13, 13)] else if n = "row" then [(0, 12, 15, 13)] else if n = "thing" then [(0, 14, 17, 13)] else if n = "entry" then [(0, 14, 17, 13)] else if n = "count" then [(0, 9, 12, 13)] else if n = "toll" then [(0, 9, 12, 13)] else if n = "ahead" then [(0, 10, 13, 13), (0, 10, 17, 65)] else if n = "calm" then [(0, 9, 12, 65)] else if n = "due" then [(0, 9, 12, 13)] else if n = "seen" then [(0, 10, 13, 13)] else if n = "against" then [(0, 10, 13, 13)] else if n = "between" then [(0, 10, 13, 13)] else []
def fCx (G : fG) (mt : fMt) (p : Program) (s : State) (m : MethodId) (args : Array Value) (meth : Method) (c : Code) (z : Nat) : Prop :=
  p.tables.exec = Jvm.exec ∧ c.code = mt.2.1 ∧ meth.sig.returnType = mt.2.2.2.1 ∧ c.maxLocals = mt.2.2.1 ∧ s.vm.findClass mt.1.cls = some m.cls ∧ (∀ w ∈ fT, w.before args s = true) ∧ meth.locks = false ∧
  ((∀ x ∈ c.exceptionTable.toList, mt.1.cls = RL) ∧ (mt.1.cls = RL → mt.1.name ≠ "law" → c.exceptionTable.toList = tableOf (fTb mt.1.name))) ∧ (gl G).stackTraces = false ∧ s.heap.size = z ∧ fK G s ∧ fSF G (gA G z) s s.heap ∧ (mt.1.name = "<init>" → meth.name = "<init>")
theorem fCx.exec {G : fG} {mt : fMt} {p : Program} {s : State} {m : MethodId} {args : Array Value} {meth : Method} {c : Code} {z : Nat} (h : fCx G mt p s m args meth c z) : p.tables.exec = Jvm.exec := h.1
theorem fCx.bytes {G : fG} {mt : fMt} {p : Program} {s : State} {m : MethodId} {args : Array Value} {meth : Method} {c : Code} {z : Nat} (h : fCx G mt p s m args meth c z) : c.code = mt.2.1 := h.2.1
theorem fCx.ret {G : fG} {mt : fMt} {p : Program} {s : State} {m : MethodId} {args : Array Value} {meth : Method} {c : Code} {z : Nat} (h : fCx G mt p s m args meth c z) : meth.sig.returnType = mt.2.2.2.1 := h.2.2.1
theorem fCx.maxL {G : fG} {mt : fMt} {p : Program} {s : State} {m : MethodId} {args : Array Value} {meth : Method} {c : Code} {z : Nat} (h : fCx G mt p s m args meth c z) : c.maxLocals = mt.2.2.1 := h.2.2.2.1
theorem fCx.own {G : fG} {mt : fMt} {p : Program} {s : State} {m : MethodId} {args : Array Value} {meth : Method} {c : Code} {z : Nat} (h : fCx G mt p s m args meth c z) : s.vm.findClass mt.1.cls = some m.cls := h.2.2.2.2.1
theorem fCx.words {G : fG} {mt : fMt} {p : Program} {s : State} {m : MethodId} {args : Array Value} {meth : Method} {c : Code} {z : Nat} (h : fCx G mt p s m args meth c z) : ∀ w ∈ fT, w.before args s = true := h.2.2.2.2.2.1
theorem fCx.locks {G : fG} {mt : fMt} {p : Program} {s : State} {m : MethodId} {args : Array Value} {meth : Method} {c : Code} {z : Nat} (h : fCx G mt p s m args meth c z) : meth.locks = false := h.2.2.2.2.2.2.1
theorem fCx.tab {G : fG} {mt : fMt} {p : Program} {s : State} {m : MethodId} {args : Array Value} {meth : Method} {c : Code} {z : Nat} (h : fCx G mt p s m args meth c z) : mt.1.cls ≠ RL → ∀ x ∈ c.exceptionTable.toList, False := fun hn x hx => hn (h.2.2.2.2.2.2.2.1.1 x hx)
theorem fCx.table {G : fG} {mt : fMt} {p : Program} {s : State} {m : MethodId} {args : Array Value} {meth : Method} {c : Code} {z : Nat} (h : fCx G mt p s m args meth c z) : mt.1.cls = RL → mt.1.name ≠ "law" → c.exceptionTable.toList = tableOf (fTb mt.1.name) := h.2.2.2.2.2.2.2.1.2
theorem fCx.traces {G : fG} {mt : fMt} {p : Program} {s : State} {m : MethodId} {args : Array Value} {meth : Method} {c : Code} {z : Nat} (h : fCx G mt p s m args meth c z) : (gl G).stackTraces = false := h.2.2.2.2.2.2.2.2.1
theorem fCx.size {G : fG} {mt : fMt} {p : Program} {s : State} {m : MethodId} {args : Array Value} {meth : Method} {c : Code} {z : Nat} (h : fCx G mt p s m args meth c z) : s.heap.size = z := h.2.2.2.2.2.2.2.2.2.1
theorem fCx.K {G : fG} {mt : fMt} {p : Program} {s : State} {m : MethodId} {args : Array Value} {meth : Method} {c : Code} {z : Nat} (h : fCx G mt p s m args meth c z) : fK G s := h.2.2.2.2.2.2.2.2.2.2.1
theorem fCx.SF {G : fG} {mt : fMt} {p : Program} {s : State} {m : MethodId} {args : Array Value} {meth : Method} {c : Code} {z : Nat} (h : fCx G mt p s m args meth c z) : fSF G (gA G z) s s.heap := h.2.2.2.2.2.2.2.2.2.2.2.1
theorem fCx.ini {G : fG} {mt : fMt} {p : Program} {s : State} {m : MethodId} {args : Array Value} {meth : Method} {c : Code} {z : Nat} (h : fCx G mt p s m args meth c z) : mt.1.name = "<init>" → meth.name = "<init>" := h.2.2.2.2.2.2.2.2.2.2.2.2
/-- from here the machine comes to an end as E has it -/
def fW (G : fG) (mt : fMt) (E : fE) (c0 s0 pc : Nat) (ls : List (Option Value)) (st : List Value) (M : fMem) : Prop :=
  ∀ (p : Program) (e : Env) (s : State) (m : MethodId) (args : Array Value) (below : List Frame) (meth : Method) (c : Code) (H : Heap) (locs : List Loc) (la : Array Slot) (z : Nat),
    fCx G mt p s m args meth c z → fP G M H → va_S (gA G z) s.heap H locs → fLs la mt.2.2.1 ls →
    W p (gl G) e mt.2.2.2.2 s m args below meth c H locs c0 s0 (E z below args s) (F0 m pc la st)
/-- a method's end: it returns, with Q, or throws, with X -/
def fEm (G : fG) (mt : fMt) (Q : fQ) (X : fX) : fE := fun z below args s => vx_MQ below (fQc G (gA G z) Q) (fXC G (gA G z) X) args s mt.2.2.2.2.cells mt.2.2.2.2.slots (gA G z)
theorem fSp.mono {G : fG} {mt : fMt} {as : List Value} {M : fMem} {Q Q' : fQ} {X X' : fX} (h : fSp G mt as M Q X) (hq : ∀ v M', Q v M' → Q' v M') (hx : ∀ E M', X E M' → X' E M') : fSp G mt as M Q' X' := by
  intro z p e ha hc hk s m args below hf h1 h2 h3
  obtain ⟨k, o, a1, a2, a3, a4⟩ := h z p e ha hc hk s m args below hf h1 h2 h3
  refine ⟨k, o, a1, a2, a3, ?_⟩
  rcases a4 with ⟨⟨⟨v, M', b1, b2, b3⟩, b4⟩, b5⟩ | ⟨q, b1, E, ce, L, ⟨⟨M', b2, b3⟩, b4⟩, b5⟩
  · exact Or.inl ⟨⟨⟨v, M', b1, hq v M' b2, b3⟩, b4⟩, b5⟩
  · exact Or.inr ⟨q, b1, E, ce, L, ⟨⟨M', hx E M' b2, b3⟩, b4⟩, b5⟩
theorem lg_sl_one : ∀ (vs : List Value), (∀ v ∈ vs, v.category = 1) → lg_sl vs = vs.map Slot.val
  | [], _ => by simp [lg_sl]
  | v :: vs, h => by
    have h1 := h v List.mem_cons_self
    have h2 := lg_sl_one vs (fun w hw => h w (List.mem_cons_of_mem _ hw))
    simp [lg_sl, h1] at h2 ⊢
    exact h2
theorem lv_args_one : ∀ (vs : List Value) (n : Nat), (∀ v ∈ vs, v.category = 1) → ∀ (i : Nat) (v : Value), vs[i]? = some v → (n + i, v) ∈ lv_args n vs
  | [], _, _, i, v, h => by simp at h
  | w :: vs, n, hc, 0, v, h => by
    simp at h
    subst h
    simp [lv_args]
  | w :: vs, n, hc, i + 1, v, h => by
    have h1 := hc w List.mem_cons_self
    have h2 := lv_args_one vs (n + 1) (fun x hx => hc x (List.mem_cons_of_mem _ hx)) i v (by simpa using h)
    simp only [lv_args, h1]
    refine List.mem_cons_of_mem _ ?_
    have : n + 1 + i = n + (i + 1) := by omega
    rw [← this]
    exact h2
/-- a contract out of its body's walk -/
theorem fSp_of {G : fG} {mt : fMt} {as : List Value} {M : fMem} {Q : fQ} {X : fX} (hy : plainName mt.1.cls = true) (hne : mt.1.cls ≠ RL) (hc : ∀ v ∈ as, v.category = 1) (hn : as.length ≤ mt.2.2.1) (h : fW G mt (fEm G mt Q X) 0 0 0 (fIn as mt.2.2.1) [] M) : fSp G mt as M Q X := by
  intro z
  refine vx_ofW (ws' := fT) hy rfl ?_
  intro p e s m args below meth c s₁ B hml hxt hP
  obtain ⟨rfl, hl, hz, hP, hK, hSF⟩ := hP
  have hts := atoms_spec (ws := fWm mt) B.pre
  have hown : s.vm.findClass mt.1.cls = some m.cls := findClass_of_methodNamed B.named
  rw [lg_entry_eq]
  have hlen : (lg_sl as).length ≤ mt.2.2.1 := by rw [lg_sl_one as hc, List.length_map]; exact hn
  have hls := lv_entry as (n := mt.2.2.1) hlen
  refine h p e s m as.toArray below meth c s.heap [] _ z ⟨B.exec, B.bytes, B.returns, hml, hown, fun w hw => hts w (List.mem_cons_of_mem _ hw), B.notSynchronized, ⟨fun x hx => absurd (hxt x hx) id, fun hRL _ => absurd hRL hne⟩, hl, hz, hK, hSF, fun h => (name_of_methodNamed B.named B.method).1.trans h⟩ hP va_S.rf ⟨⟨hls.1, hls.2.1, fun q hq => ?_⟩, ?_, ?_⟩
  · obtain ⟨i, v⟩ := q
    have h1 := fEn_mem.mp hq
    refine hls.2.2 (i, v) ?_
    have h2 : as[i]? = some v := by
      by_cases hi : i < as.length
      · rw [fIn, List.getElem?_append_left (by simpa using hi)] at h1
        simpa using h1
      · rw [fIn, List.getElem?_append_right (by simp; omega)] at h1
        rw [List.getElem?_replicate] at h1
        split at h1 <;> simp at h1
    have h3 := lv_args_one as 0 hc i v h2
    simpa using h3
  · simp [fIn]; omega
  · intro v hv
    simp only [fIn, List.mem_append, List.mem_map, List.mem_replicate] at hv
    rcases hv with ⟨w, h1, h2⟩ | ⟨-, h2⟩
    · cases h2; exact hc v h1
    · cases h2
end FRM3
