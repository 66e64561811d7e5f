/-! calls, over the judgement fW -/
section FRM5
theorem fSF.same {G : fG} {A : Nat → Prop} {U U' : State} {H : Heap} (hv : U.vm = U'.vm) (h : fSF G A U H) : fSF G A U' H := fSF.warm (by rw [← hv]; exact State.WarmedH.refl U) h
theorem fPc_blind {G : fG} {as : List Value} {z : Nat} {M : fMem} : FrameBlind (fPc G as z M) := by
  intro a U g mk h
  obtain ⟨h1, h2, h3, h4, h5, h6⟩ := h
  exact ⟨h1, h2, h3, h4, va_K.moved (u := U) (U := U.calling g mk a) (Vm.Alike.refl U.vm) h5, fSF.same (U := U) (U' := U.calling g mk a) rfl h6⟩
variable {G : fG} {mt mc : fMt} {c0 s0 pc : Nat} {ls : List (Option Value)} {M : fMem}
theorem fPc_at {p : Program} {s : State} {m : MethodId} {args : Array Value} {meth : Method} {c : Code} {z : Nat} {H : Heap} {locs : List Loc} {as : List Value} (hC : fCx G mt p s m args meth c z) (hP : fP G M H) (hS : va_S (gA G z) s.heap H locs) : ∀ U : State, U.heap = H → s.WarmedH U.vm → fPc G as H.size M as.toArray U := by
  intro U hU hW
  have hz : z ≤ H.size := by rw [← hC.size]; exact hS.1
  have h1 : fSF G (gA G z) s H := hC.SF.kept hS.1 (fun a ha hn => hS.2.1 a ha hn)
  exact ⟨rfl, hC.traces, by rw [hU], by rw [hU]; exact hP, va_K.moved hW.alike hC.K, by rw [hU]; exact (fSF.warm hW h1).narrow (fun q hq => gA_mono hz hq)⟩
/-- at this pc, with this stack, mc is called with the arguments as -/
def fInv (G : fG) (mt mc : fMt) (c0 s0 pc : Nat) (ls : List (Option Value)) (stk rest as : List Value) (M : fMem) : Prop :=
  ∀ (Q : fQ) (X : fX), fSp G mc as M Q X → ∀ (p : Program) (e : Env) (s : State) (m : MethodId) (args : Array Value) (below : List Frame) (meth : Method) (c : Code) (H : Heap) (locs : List Loc) (la : Array Slot) (z : Nat),
    fCx G mt p s m args meth c z → fP G M H → va_S (gA G z) s.heap H locs → fLs la mt.2.2.1 ls →
    vx_Run p (gl G) e mt.2.2.2.2 s m args below meth c H locs c0 s0 mc.2.2.2.2.cells mc.2.2.2.2.slots (F0 m pc la stk) rest (fQc G (gA G H.size) Q as.toArray) (fXC G (gA G H.size) X) (gA G H.size)
/-- of a method: its code's words -/
def fMi (mc : fMt) (n : Nat) : Prop := Cond.code mc.1 mc.2.1 mc.2.2.1 mc.2.2.2.1 ∈ fT ∧ Cond.initialized mc.1.cls ∈ fT ∧ (mc.1.cls ≠ "java/lang/invoke/MethodHandle" ∧ mc.1.cls ≠ "java/lang/invoke/VarHandle") ∧ (parseMethodDescriptor mc.1.desc).map (fun d => d.parameters.length) = some n
def fMv (mc : fMt) (n : Nat) : Prop := fMi mc n ∧ Cond.instanceMethod mc.1 ∈ fT ∧ Cond.selects mc.1.cls mc.1 mc.1 ∈ fT
def fMs (mc : fMt) (n : Nat) : Prop := fMi mc n ∧ Cond.static mc.1 ∈ fT
def fMn (mc : fMt) (n : Nat) : Prop := fMi mc n ∧ Cond.instanceMethod mc.1 ∈ fT ∧ mc.1.name = "<init>"
def fRoom (mt mc : fMt) (c0 s0 : Nat) : Prop := (mc.2.2.2.2.frames + 1 ≤ mt.2.2.2.2.frames ∧ 8 + (mc.2.2.1 + 11) + mc.2.2.2.2.locals ≤ mt.2.2.2.2.locals) ∧ c0 + mc.2.2.2.2.cells ≤ mt.2.2.2.2.cells ∧ s0 + mc.2.2.2.2.slots ≤ mt.2.2.2.2.slots
theorem fGood {ws : List Cond} (h : ∀ w ∈ ws, w ∈ fT) : GoodIn fT ws := fun w hw => ⟨h w hw, fT_good (h w hw)⟩
theorem fWm_in {n : Nat} (mi : fMi mc n) : ∀ w ∈ fWm mc, w ∈ fT := fun w hw => by
  rcases List.mem_cons.mp hw with h | h
  · rw [h]; exact mi.1
  · exact h
theorem fI_V {n idx b ci : Nat} {C : String} {T : u_T} {N : Nat} {ty : Nat → FieldType} {as rest : List Value} (mi : fMv mc n) (hg : gbt G = true) (cl : fCl ci C T N ty) (hcl : mc.1.cls = C) (ho : fTyp b ci) (hl : Cond.methodLink mt.1.cls idx mc.1 ∈ fT) (hr : fRoom mt mc c0 s0) (ha : as.length = n) (hw : (rest.map fun v => v.category).sum ≤ 8) (d : decode mt.2.1 pc = .ok (.invokevirtual idx, 3)) :
    fInv G mt mc c0 s0 pc ls (as.reverse ++ .ref (gb G + b) :: rest) rest (.ref (gb G + b) :: as) M := by
  intro Q X hM p e s m args below meth c H locs la z hC hP hS hL
  have hg1 : GoodIn fT (wsV mt.1.cls idx mc.1.cls mc.1 (fWm mc)) := fGood (fun w h => by
    simp only [wsV, List.cons_append, List.nil_append, List.mem_cons] at h
    rcases h with rfl | rfl | rfl | rfl | h
    · exact hl
    · exact mi.2.1
    · exact mi.2.2
    · exact mi.1.2.1
    · exact fWm_in mi.1 w (by simpa using h))
  refine vx_runV (Ts := fT) (own := mt.1.cls) (C := mc.1.cls) ⟨hC.exec, hC.bytes, hC.maxL, hC.own, hC.words⟩ (hM H.size) (cwV n hC.words hg1 rfl rfl rfl ⟨rfl, mi.1.2.2.1.1, mi.1.2.2.1.2, mi.1.2.2.2⟩ hr.1) ⟨fPc_blind, ?_, fPc_at hC hP hS⟩ rfl ha hL.size rfl (lv_room hw) d hr.2
  rw [hcl]
  exact va_recv hC.K hP.1 cl.1 (fAt_obj hg ho cl.2.2.2.2.2)
theorem fI_S {n idx : Nat} {as rest : List Value} (mi : fMs mc n) (hcl : mc.1.cls = mt.1.cls) (hl : Cond.methodLink mt.1.cls idx mc.1 ∈ fT) (hr : fRoom mt mc c0 s0) (ha : as.length = n) (hw : (rest.map fun v => v.category).sum ≤ 8) (d : decode mt.2.1 pc = .ok (.invokestatic idx, 3)) :
    fInv G mt mc c0 s0 pc ls (as.reverse ++ rest) rest as M := by
  intro Q X hM p e s m args below meth c H locs la z hC hP hS hL
  have hg1 : GoodIn fT (wsS mt.1.cls idx mc.1 (fWm mc)) := fGood (fun w h => by
    simp only [wsS, List.cons_append, List.nil_append, List.mem_cons] at h
    rcases h with rfl | rfl | rfl | h
    · exact hl
    · exact mi.2
    · rw [← hcl]; exact mi.1.2.1
    · exact fWm_in mi.1 w (by simpa using h))
  exact vx_runS (Ts := fT) (own := mt.1.cls) ⟨hC.exec, hC.bytes, hC.maxL, hC.own, hC.words⟩ (hM H.size) (cwS n hC.words hg1 rfl rfl rfl ⟨hcl, mi.1.2.2.1.1, mi.1.2.2.1.2, mi.1.2.2.2⟩ hr.1) ⟨fPc_blind, fPc_at hC hP hS⟩ rfl ha hL.size rfl (lv_room hw) d hr.2
theorem fI_SN {n idx : Nat} {host : String} {as rest : List Value} (mi : fMs mc n) (hl : Cond.methodLinkNest mt.1.cls idx mc.1 host ∈ fNg) (hr : fRoom mt mc c0 s0) (ha : as.length = n) (hw : (rest.map fun v => v.category).sum ≤ 8) (d : decode mt.2.1 pc = .ok (.invokestatic idx, 3)) :
    fInv G mt mc c0 s0 pc ls (as.reverse ++ rest) rest as M := by
  intro Q X hM p e s m args below meth c H locs la z hC hP hS hL
  exact vx_runSN (Ts := fT) (own := mt.1.cls) ⟨hC.exec, hC.bytes, hC.maxL, hC.own, hC.words⟩ (hM H.size) ⟨va_cnB n hC.words (fGood (fWm_in mi.1)) rfl rfl rfl (hC.SF.2.2.1 _ hl) (hC.words _ mi.1.2.1) ⟨mi.1.2.2.1.1, mi.1.2.2.1.2, mi.1.2.2.2⟩ hr.1, hC.words _ mi.2, trivial⟩ ⟨fPc_blind, fPc_at hC hP hS⟩ rfl ha hL.size rfl (lv_room hw) d hr.2
def fNo : fX := fun _ _ => False
theorem fW_inv {E : fE} {n : Nat} {stk rest as : List Value} {Q : fQ} (hi : fInv G mt mc c0 s0 pc ls stk rest as M) (hM : fSp G mc as M Q fNo) (hn : pc + 3 = n) (k : ∀ v N, Q v N → fW G mt E (c0 + mc.2.2.2.2.cells) (s0 + mc.2.2.2.2.slots) n ls (v.toList ++ rest) N) : fW G mt E c0 s0 pc ls stk M := by
  subst hn
  intro p e s m args below meth c H locs la z hC hP hS hL T hT X
  have hz : z ≤ H.size := by rw [← hC.size]; exact hS.1
  rcases hi Q fNo hM p e s m args below meth c H locs la z hC hP hS hL T hT X with ⟨v, st₀, t, T', L, h0, X', hLL, e1, e2, ⟨⟨w, N, hv, hq, hp⟩, hF⟩, st⟩ | ⟨q, st₀, t, T', L, En, ce, h0, X', hLL, e1, e2, ⟨⟨N, hq, hp⟩, hF⟩, hce, hcv, hcl, st⟩
  · cases hv
    obtain ⟨k1, k2, k3⟩ := vx_keep h0 e1 hS (fun q _ h => gA_mono hz h) (fun q h => gA_mono hz h) hLL hF
    obtain ⟨t2, a1, b1⟩ := k v N hq p e s m args below meth c T'.heap (locs ++ L) la z hC (by rw [e1]; exact hp) k3 hL T' rfl X'
    exact ⟨t2, st t2 a1, b1⟩
  · exact absurd hq id
theorem fW_invX {Q0 : fQ} {X0 : fX} {n : Nat} {stk rest as : List Value} {Q : fQ} {X : fX} (hne : mt.1.cls ≠ RL) (hi : fInv G mt mc c0 s0 pc ls stk rest as M) (hM : fSp G mc as M Q X) (hn : pc + 3 = n) (hc : c0 + mc.2.2.2.2.cells ≤ mt.2.2.2.2.cells) (hs : s0 + mc.2.2.2.2.slots ≤ mt.2.2.2.2.slots) (kx : ∀ En N, X En N → X0 En N) (k : ∀ v N, Q v N → fW G mt (fEm G mt Q0 X0) (c0 + mc.2.2.2.2.cells) (s0 + mc.2.2.2.2.slots) n ls (v.toList ++ rest) N) : fW G mt (fEm G mt Q0 X0) c0 s0 pc ls stk M := by
  subst hn
  intro p e s m args below meth c H locs la z hC hP hS hL T hT X9
  have hz : z ≤ H.size := by rw [← hC.size]; exact hS.1
  rcases hi Q X hM p e s m args below meth c H locs la z hC hP hS hL T hT X9 with ⟨v, st₀, t, T', L, h0, X', hLL, e1, e2, ⟨⟨w, N, hv, hq, hp⟩, hF⟩, st⟩ | ⟨q, st₀, t, T', L, En, ce, h0, X', hLL, e1, e2, ⟨⟨N, hq, hp⟩, hF⟩, hce, hcv, hcl, st⟩
  · cases hv
    obtain ⟨k1, k2, k3⟩ := vx_keep h0 e1 hS (fun q _ h => gA_mono hz h) (fun q h => gA_mono hz h) hLL hF
    obtain ⟨t2, a1, b1⟩ := k v N hq p e s m args below meth c T'.heap (locs ++ L) la z hC (by rw [e1]; exact hp) k3 hL T' rfl X'
    exact ⟨t2, st t2 a1, b1⟩
  · obtain ⟨k1, k2, k3⟩ := vx_keep h0 e1 hS (fun q _ h => gA_mono hz h) (fun q h => gA_mono hz h) hLL hF
    have hw : vx_W p (gl G) e mt.2.2.2.2 s m args below meth c T'.heap (locs ++ L) (c0 + mc.2.2.2.2.cells) (s0 + mc.2.2.2.2.slots) (fEm G mt Q0 X0 z below args s) (F0 m pc la rest) q :=
      vx_out (fun x hx => absurd (hC.tab hne x hx) id) hC.locks (by rw [e1]; exact hce) hcv hcl (fun t9 ht9 _ => ⟨⟨N, kx En N hq, by rw [ht9, e1]; exact hp⟩, k3.F ht9⟩) (fun z hz => k3.2.2 z hz) hc hs
    obtain ⟨t2, a1, b1⟩ := hw T' rfl X'
    exact ⟨t2, st.trans a1, b1⟩
/-! what a method answers: a value, nothing, a value and the memory behind it; by which it throws -/
def rP (M : fMem) (r : Int) : fQ := fun v N => v = some (iv r) ∧ N = M ∧ rg r
def rB (M : fMem) (r : Int) : fQ := fun v N => v = some (iv r) ∧ N = M ∧ 0 ≤ r ∧ r ≤ 1
def rV (N0 : fMem) : fQ := fun v N => v = none ∧ N = N0
def rT (q : Int × Int × fMem) : fQ := fun v N => q.1 = 0 ∧ v = some (iv q.2.1) ∧ N = q.2.2 ∧ rg q.2.1
def rU (M : fMem) (x : Int) : fQ := fun v N => x = 0 ∧ v = none ∧ N = M
def exN (x : Int) : String := if x = 1 then "java/util/NoSuchElementException" else "java/lang/IllegalArgumentException"
def xT (x : Int) (M : fMem) : fX := fun En N => x ≠ 0 ∧ En = exN x ∧ N = M
theorem fW_cP {E : fE} {n : Nat} {stk rest as : List Value} {r : Int} {N : fMem} (hi : fInv G mt mc c0 s0 pc ls stk rest as M) (hM : fSp G mc as M (rP N r) fNo) (hn : pc + 3 = n) (hc : mc.2.2.2.2.cells = 0) (hs : mc.2.2.2.2.slots = 0) (k : rg r → fW G mt E c0 s0 n ls (iv r :: rest) N) : fW G mt E c0 s0 pc ls stk M := by
  refine fW_inv hi hM hn (fun v N1 h => ?_)
  obtain ⟨rfl, rfl, h⟩ := h
  rw [hc, hs]
  exact k h
theorem fW_cB {E : fE} {n : Nat} {stk rest as : List Value} {r : Int} {N : fMem} (hi : fInv G mt mc c0 s0 pc ls stk rest as M) (hM : fSp G mc as M (rB N r) fNo) (hn : pc + 3 = n) (hc : mc.2.2.2.2.cells = 0) (hs : mc.2.2.2.2.slots = 0) (k : 0 ≤ r ∧ r ≤ 1 → fW G mt E c0 s0 n ls (iv r :: rest) N) : fW G mt E c0 s0 pc ls stk M := by
  refine fW_inv hi hM hn (fun v N1 h => ?_)
  obtain ⟨rfl, rfl, h⟩ := h
  rw [hc, hs]
  exact k h
theorem fW_cV {E : fE} {n : Nat} {stk rest as : List Value} {N : fMem} (hi : fInv G mt mc c0 s0 pc ls stk rest as M) (hM : fSp G mc as M (rV N) fNo) (hn : pc + 3 = n) (hc : mc.2.2.2.2.cells = 0) (hs : mc.2.2.2.2.slots = 0) (k : fW G mt E c0 s0 n ls rest N) : fW G mt E c0 s0 pc ls stk M := by
  refine fW_inv hi hM hn (fun v N1 h => ?_)
  obtain ⟨rfl, rfl⟩ := h
  rw [hc, hs]
  exact k
/-- a call that may throw: of one that answers nothing -/
theorem fW_cU {Q0 : fQ} {X0 : fX} {n : Nat} {stk rest as : List Value} {x : Int} {N : fMem} (c1 s1 : Nat) (hne : mt.1.cls ≠ RL) (hi : fInv G mt mc c0 s0 pc ls stk rest as M) (hM : fSp G mc as M (rU N x) (xT x N)) (hn : pc + 3 = n) (hc1 : c0 + mc.2.2.2.2.cells = c1) (hs1 : s0 + mc.2.2.2.2.slots = s1) (hc : c1 ≤ mt.2.2.2.2.cells) (hs : s1 ≤ mt.2.2.2.2.slots) (kx : ¬ x = 0 → X0 (exN x) N) (k : x = 0 → fW G mt (fEm G mt Q0 X0) c1 s1 n ls rest N) : fW G mt (fEm G mt Q0 X0) c0 s0 pc ls stk M := by
  subst hc1 hs1
  refine fW_invX hne hi hM hn hc hs (fun En N1 h => ?_) (fun v N1 h => ?_)
  · obtain ⟨h1, rfl, rfl⟩ := h
    exact kx h1
  · obtain ⟨h1, rfl, rfl⟩ := h
    exact k h1
/-- a new exception with a text is thrown -/
theorem fNg_on : ∀ w ∈ fNg, w.onTables = true := by decide +kernel
theorem fP_grow {H H1 : Heap} (hg : gbt G = true) (hP : fP G M H) (h : ∀ q : Nat, q < H.size → H1[q]? = H[q]?) : fP G M H1 := by
  refine ⟨hP.1.kept (fun k q hk => h q.1 (vx_lt hP.1 hk)), hP.2.1, hP.2.2.1, fun h2 => ?_⟩
  rw [hg] at h2
  cases h2
abbrev nmX : List String := ["java/lang/RuntimeException", "java/lang/Exception"]
def fThr (cls : String) (ik ic ix : Nat) (rx : ByteArray) : Prop := Bundle.fit cls = true ∧ Cond.classLink RX10 ik cls ∈ fT ∧ Cond.initialized cls ∈ fT ∧ (∀ w ∈ (fx_at RX10 ic cls ix rx nmX).filter goodWord, w ∈ lw_tbl) ∧ (∀ w ∈ (fx_at RX10 ic cls ix rx nmX).filter (fun w => !goodWord w), w ∈ fNg) ∧ (∀ w ∈ Cond.classLink RX10 ik cls :: Cond.initialized cls :: fx_at RX10 ic cls ix rx nmX, vx_ot w = true) ∧
  decode rx 0 = .ok (.aload_n 0, 1) ∧ decode rx 1 = .ok (.aload_n 1, 1) ∧ decode rx 2 = .ok (.invokespecial ix, 3) ∧ decode rx 5 = .ok (.return_, 1)
theorem fThr_at {cls : String} {ik ic ix : Nat} {rx : ByteArray} (h : fThr cls ik ic ix rx) {args : Array Value} {s : State} (h1 : ∀ w ∈ fT, w.before args s = true) (h2 : ∀ w ∈ fNg, va_Nw w s) : ∀ w ∈ fx_at RX10 ic cls ix rx nmX, w.before args s = true :=
  vx_hat (B := fNg) (fun w hw => h1 w (List.mem_filter.mpr ⟨h.2.2.2.1 w hw, (List.mem_filter.mp hw).2⟩)) h.2.2.2.2.1 (fun w hw => (h2 w hw).use (fNg_on w hw))
theorem fW_throwW {Q0 : fQ} {X0 : fX} {st : List Value} {cls text : String} {ik is ic ix : Nat} {rx : ByteArray} (hg : gbt G = true) (hown : mt.1.cls = RX10) (ht : fThr cls ik ic ix rx) (hstr : (is, text) ∈ fStr)
    (d0 : decode mt.2.1 pc = .ok (.new ik, 3)) (d3 : decode mt.2.1 (pc + 3) = .ok (.dup, 1)) (d4 : decode mt.2.1 (pc + 4) = .ok (.ldc_w is, 3)) (d7 : decode mt.2.1 (pc + 7) = .ok (.invokespecial ic, 3)) (d10 : decode mt.2.1 (pc + 10) = .ok (.athrow, 1))
    (hf : nmX.length + 3 < mt.2.2.2.2.frames) (hl : (st.map fun v => v.category).sum + (13 * (nmX.length + 1) + 43) ≤ mt.2.2.2.2.locals) (hc : c0 + 1 ≤ mt.2.2.2.2.cells) (hs : s0 + 6 ≤ mt.2.2.2.2.slots) (hx : X0 cls M) : fW G mt (fEm G mt Q0 X0) c0 s0 pc ls st M := by
  intro p e s m args below meth c H locs la z hC hP hS hL
  obtain ⟨sa, hsa⟩ := hC.SF.2.2.2.1 _ hstr
  obtain ⟨x0, x1, x2, x5⟩ := ht.2.2.2.2.2.2
  have hne : mt.1.cls ≠ RL := by rw [hown]; decide +kernel
  refine fx_makeW (names := nmX) hC.exec hC.bytes hC.traces x0 x1 x2 x5 (hown ▸ hC.own) ht.1 (by decide +kernel) (hC.words _ ht.2.1) (hC.words _ ht.2.2.1) hsa (fThr_at ht hC.words hC.SF.2.2.1) ht.2.2.2.2.2.1 hC.SF.2.1.1 hC.SF.2.1.2 hS (by rw [hL.size, hC.maxL]) d0 d3 d4 d7 hf hl hc hs (fun q ce H1 k1 k2 k3 k4 k5 k6 => ?_)
  exact vx_athrow hC.exec hC.bytes d10 (vx_out (fun x hx => absurd (hC.tab hne x hx) id) hC.locks k1 k2 k3 (fun t ht9 _ => ⟨⟨M, hx, by rw [ht9]; exact fP_grow hg hP k5⟩, k6.F ht9⟩) (fun z hz => k6.2.2 z hz) hc hs)
theorem fW_throw {Q0 : fQ} {X0 : fX} {st : List Value} {cls text : String} {ik is ic ix : Nat} {rx : ByteArray} (hg : gbt G = true) (hown : mt.1.cls = RX10) (ht : fThr cls ik ic ix rx) (hstr : (is, text) ∈ fStr)
    (d0 : decode mt.2.1 pc = .ok (.new ik, 3)) (d3 : decode mt.2.1 (pc + 3) = .ok (.dup, 1)) (d4 : decode mt.2.1 (pc + 4) = .ok (.ldc is, 2)) (d7 : decode mt.2.1 (pc + 6) = .ok (.invokespecial ic, 3)) (d10 : decode mt.2.1 (pc + 9) = .ok (.athrow, 1))
    (hf : nmX.length + 3 < mt.2.2.2.2.frames) (hl : (st.map fun v => v.category).sum + (13 * (nmX.length + 1) + 43) ≤ mt.2.2.2.2.locals) (hc : c0 + 1 ≤ mt.2.2.2.2.cells) (hs : s0 + 6 ≤ mt.2.2.2.2.slots) (hx : X0 cls M) : fW G mt (fEm G mt Q0 X0) c0 s0 pc ls st M := by
  intro p e s m args below meth c H locs la z hC hP hS hL
  obtain ⟨sa, hsa⟩ := hC.SF.2.2.2.1 _ hstr
  obtain ⟨x0, x1, x2, x5⟩ := ht.2.2.2.2.2.2
  have hne : mt.1.cls ≠ RL := by rw [hown]; decide +kernel
  refine fx_make (names := nmX) hC.exec hC.bytes hC.traces x0 x1 x2 x5 (hown ▸ hC.own) ht.1 (by decide +kernel) (hC.words _ ht.2.1) (hC.words _ ht.2.2.1) hsa (fThr_at ht hC.words hC.SF.2.2.1) ht.2.2.2.2.2.1 hC.SF.2.1.1 hC.SF.2.1.2 hS (by rw [hL.size, hC.maxL]) d0 d3 d4 d7 hf hl hc hs (fun q ce H1 k1 k2 k3 k4 k5 k6 => ?_)
  exact vx_athrow hC.exec hC.bytes d10 (vx_out (fun x hx => absurd (hC.tab hne x hx) id) hC.locks k1 k2 k3 (fun t ht9 _ => ⟨⟨M, hx, by rw [ht9]; exact fP_grow hg hP k5⟩, k6.F ht9⟩) (fun z hz => k6.2.2 z hz) hc hs)
end FRM5
