/-! the law's own methods: they catch -/
section FRM8
variable {G : fG} {mt mc : fMt} {E : fE} {c0 s0 pc : Nat} {ls : List (Option Value)} {st : List Value} {M : fMem}
def fWh (mt : fMt) : List Cond := .codeWith mt.1 mt.2.1 mt.2.2.1 mt.2.2.2.1 (fTb mt.1.name) :: fT
def fSpH (G : fG) (mt : fMt) (as : List Value) (M : fMem) (Q : fQ) : Prop :=
  ∀ z, vx_Met (gl G) mt.1 (fWh mt) mt.2.2.2.2 (fPc G as z M) (fQc G (gA G z) Q) (fXC G (gA G z) fNo) mt.2.2.2.2.cells mt.2.2.2.2.slots (gA G z)
theorem fSpH_of {as : List Value} {Q : fQ} (hy : plainName mt.1.cls = true) (hRL : mt.1.cls = RL) (hni : mt.1.name ≠ "<init>") (hc : ∀ v ∈ as, v.category = 1) (hn : as.length ≤ mt.2.2.1) (h : fW G mt (fEm G mt Q fNo) 0 0 0 (fIn as mt.2.2.1) [] M) : fSpH G mt as M Q := by
  intro z
  refine vx_ofWH (ws' := fT) hy rfl ?_
  intro p e s m args below meth c s₁ B hml hP
  obtain ⟨rfl, hl, hz, hP, hK, hSF⟩ := hP
  have hts := atoms_spec (ws := fWh mt) B.pre
  have hown : s.vm.findClass mt.1.cls = some m.cls := findClass_of_methodNamed B.named
  rw [lg_entry_eq]
  have hlen : (lg_sl as).length ≤ mt.2.2.1 := by rw [lg_sl_one as hc, List.length_map]; exact hn
  have hls := lv_entry as (n := mt.2.2.1) hlen
  refine h p e s m as.toArray below meth c s.heap [] _ z ⟨B.exec, B.bytes, B.returns, hml, hown, fun w hw => hts w (List.mem_cons_of_mem _ hw), B.notSynchronized, ⟨fun _ _ => hRL, fun _ _ => vx_table (x := mt.1) B (hts _ List.mem_cons_self)⟩, hl, hz, hK, hSF, fun h => absurd h hni⟩ hP va_S.rf ⟨⟨hls.1, hls.2.1, fun q hq => ?_⟩, ?_, ?_⟩
  · obtain ⟨i, v⟩ := q
    have h1 := fEn_mem.mp hq
    refine hls.2.2 (i, v) ?_
    have h2 : as[i]? = some v := by
      by_cases hi : i < as.length
      · rw [fIn, List.getElem?_append_left (by simpa using hi)] at h1
        simpa using h1
      · rw [fIn, List.getElem?_append_right (by simp; omega)] at h1
        rw [List.getElem?_replicate] at h1
        split at h1 <;> simp at h1
    have h3 := lv_args_one as 0 hc i v h2
    simpa using h3
  · simp [fIn]; omega
  · intro v hv
    simp only [fIn, List.mem_append, List.mem_map, List.mem_replicate] at hv
    rcases hv with ⟨w, h1, h2⟩ | ⟨-, h2⟩
    · cases h2; exact hc v h1
    · cases h2
/-- what is thrown is caught here -/
def fCat (mt : fMt) (pc hp : Nat) (En : String) : Prop := ∃ (pre : List ExceptionTableEntry) (x : ExceptionTableEntry) (suf : List ExceptionTableEntry), tableOf (fTb mt.1.name) = pre ++ x :: suf ∧ (∀ z ∈ pre, z.catchType ≠ 0 ∧ Cond.classLink RL z.catchType "java/util/NoSuchElementException" ∈ fT ∧ En = "java/lang/IllegalArgumentException") ∧ covers x pc = true ∧ x.catchType ≠ 0 ∧ Cond.classLink RL x.catchType En ∈ fT ∧ Cond.castable En En ∈ fNg ∧ x.handlerPc = hp
theorem fW_invC {n : Nat} {stk rest as : List Value} {Q : fQ} {X : fX} (hRL : mt.1.cls = RL) (hnl : mt.1.name ≠ "law") (hi : fInv G mt mc c0 s0 pc ls stk rest as M) (hM : fSp G mc as M Q X) (hn : pc + 3 = n) (kx : ∀ En N, X En N → ∃ hp, fCat mt pc hp En ∧ ∀ q : Nat, fW G mt E (c0 + mc.2.2.2.2.cells) (s0 + mc.2.2.2.2.slots) hp ls [.ref q] N) (k : ∀ v N, Q v N → fW G mt E (c0 + mc.2.2.2.2.cells) (s0 + mc.2.2.2.2.slots) n ls (v.toList ++ rest) N) : fW G mt E c0 s0 pc ls stk M := by
  subst hn
  intro p e s m args below meth c H locs la z hC hP hS hL T hT X9
  have hz : z ≤ H.size := by rw [← hC.size]; exact hS.1
  rcases hi Q X hM p e s m args below meth c H locs la z hC hP hS hL T hT X9 with ⟨v, st₀, t, T', L, h0, X', hLL, e1, e2, ⟨⟨w, N, hv, hq, hp⟩, hF⟩, st⟩ | ⟨q, st₀, t, T', L, En, ce, h0, X', hLL, e1, e2, ⟨⟨N, hq, hp⟩, hF⟩, hce, hcv, hcl, st⟩
  · cases hv
    obtain ⟨k1, k2, k3⟩ := vx_keep h0 e1 hS (fun q _ h => gA_mono hz h) (fun q h => gA_mono hz h) hLL hF
    obtain ⟨t2, a1, b1⟩ := k v N hq p e s m args below meth c T'.heap (locs ++ L) la z hC (by rw [e1]; exact hp) k3 hL T' rfl X'
    exact ⟨t2, st t2 a1, b1⟩
  · obtain ⟨k1, k2, k3⟩ := vx_keep h0 e1 hS (fun q _ h => gA_mono hz h) (fun q h => gA_mono hz h) hLL hF
    obtain ⟨hp9, ⟨pre, x, suf, q1, q2, q3, q4, q5, q6, q7⟩, hk⟩ := kx En N hq
    subst q7
    have hw : vx_W p (gl G) e mt.2.2.2.2 s m args below meth c T'.heap (locs ++ L) (c0 + mc.2.2.2.2.cells) (s0 + mc.2.2.2.2.slots) (E z below args s) (F0 m pc la rest) q :=
      vx_catch (hRL ▸ hC.own) pre x suf ((hC.table hRL hnl).trans q1) (fun z hz => Or.inr ⟨(q2 z hz).1, _, hC.words _ (q2 z hz).2.1, by rw [(q2 z hz).2.2]; exact hC.SF.2.2.2.2.2.1⟩) q3 q4 (hC.words _ q5) ((hC.SF.2.2.1 _ q6).use (fNg_on _ q6)) (by rw [e1]; exact hce) hcv hcl (hk q p e s m args below meth c T'.heap (locs ++ L) la z hC (by rw [e1]; exact hp) k3 hL)
    obtain ⟨t2, a1, b1⟩ := hw T' rfl X'
    exact ⟨t2, st.trans a1, b1⟩
theorem iv_l {x : Int} (h : rg x) : (Int32.ofInt x).toInt64 = Int64.ofInt x := by
  apply Int64.toInt_inj.mp
  rw [Int32.toInt_toInt64, iv_toInt h, Int64.toInt_ofInt]
  show x = Int.bmod x 18446744073709551616
  obtain ⟨h1, h2⟩ := h
  unfold Int.bmod
  simp only []
  split <;> omega
def lvv (x : Int) : Value := .long (Int64.ofInt x)
theorem fW_i2l (n : Nat) {x : Int} (hx : rg x) (d : decode mt.2.1 pc = .ok (.i2l, 1)) (hn : pc + 1 = n) (k : fW G mt E c0 s0 n ls (lvv x :: st) M) : fW G mt E c0 s0 pc ls (iv x :: st) M := by
  subst hn
  intro p e s m args below meth c H locs la z hC hP hS hL
  exact lv_i2l hC.exec hC.bytes d (iv_l hx) (k p e s m args below meth c H locs la z hC hP hS hL)
theorem fW_last (n : Nat) {o : Nat} {i v : Int} (hg : gbt G = true) (ho : fTyp o 18) (hi : 0 ≤ i ∧ i < Ln o) (hv : rg v) (d : decode mt.2.1 pc = .ok (.lastore, 1)) (hn : pc + 1 = n) (k : fW G mt E c0 s0 n ls st (mset M o i v)) : fW G mt E c0 s0 pc ls (lvv v :: iv i :: .ref (gb G + o) :: st) M := by
  subst hn
  intro p e s m args below meth c H locs la z hC hP hS hL
  obtain ⟨h1, h2, h3⟩ := fIx hi
  refine va_last hC.exec hC.bytes hC.K hP.1 (gD_ok hP.2.2.1) hS o 6 (fAt_long hg ho) rfl h2 d (fun H1 locs1 e1 _ e3 => ?_)
  rw [h3] at e1
  exact k p e s m args below meth c H1 locs1 la z hC (fP_set (q := M) hg hP.2.1 ho.2 hv (fCell_setL ho.1 hi.1) e1) e3 hL
theorem fW_lald (n : Nat) {o : Nat} {i : Int} (hg : gbt G = true) (ho : fTyp o 18) (hi : 0 ≤ i ∧ i < Ln o) (d : decode mt.2.1 pc = .ok (.laload, 1)) (hn : pc + 1 = n) (k : fW G mt E c0 s0 n ls (lvv (M o i) :: st) M) : fW G mt E c0 s0 pc ls (iv i :: .ref (gb G + o) :: st) M := by
  subst hn
  intro p e s m args below meth c H locs la z hC hP hS hL
  obtain ⟨h1, h2, h3⟩ := fIx hi
  refine va_lald hC.exec hC.bytes hC.K hP.1 o 6 (fAt_long hg ho) rfl h2 d ?_
  rw [h3, show ((i.toNat : Nat) : Int) = i by omega]
  exact k p e s m args below meth c H locs la z hC hP hS hL
theorem lvv_toInt {x : Int} (h : rg x) : (Int64.ofInt x).toInt = x := by
  rw [Int64.toInt_ofInt]
  show Int.bmod x 18446744073709551616 = x
  obtain ⟨h1, h2⟩ := h
  unfold Int.bmod
  simp only []
  split <;> omega
def cmpI (x y : Int) : Int := if x < y then -1 else if x = y then 0 else 1
theorem fW_lcmp (n : Nat) {x y : Int} (hx : rg x) (hy : rg y) (d : decode mt.2.1 pc = .ok (.lcmp, 1)) (hn : pc + 1 = n) (k : fW G mt E c0 s0 n ls (iv (cmpI x y) :: st) M) : fW G mt E c0 s0 pc ls (lvv y :: lvv x :: st) M := by
  subst hn
  intro p e s m args below meth c H locs la z hC hP hS hL
  refine W.lcmp hC.exec hC.bytes d ?_
  have e1 : lg_cmp (Int64.ofInt x) (Int64.ofInt y) = Int32.ofInt (cmpI x y) := by
    have hl : Int64.ofInt x < Int64.ofInt y ↔ x < y := by rw [Int64.lt_iff_toInt_lt, lvv_toInt hx, lvv_toInt hy]
    have hq : Int64.ofInt x = Int64.ofInt y ↔ x = y := by
      constructor
      · intro h
        have := congrArg Int64.toInt h
        rwa [lvv_toInt hx, lvv_toInt hy] at this
      · intro h; rw [h]
    have hg2 : Int64.ofInt y < Int64.ofInt x ↔ y < x := by rw [Int64.lt_iff_toInt_lt, lvv_toInt hx, lvv_toInt hy]
    unfold lg_cmp cmpI
    show (if Int64.ofInt y < Int64.ofInt x then (1 : Int32) else if Int64.ofInt x = Int64.ofInt y then 0 else -1) = _
    by_cases h1 : x < y
    · rw [if_neg (fun h => by have := hg2.mp h; omega), if_neg (fun h => by have := hq.mp h; omega), if_pos h1]
      rfl
    · by_cases h2 : x = y
      · rw [if_neg (fun h => by have := hg2.mp h; omega), if_pos (hq.mpr h2), if_neg h1, if_pos h2]
        rfl
      · rw [if_pos (hg2.mpr (by omega)), if_neg h1, if_neg h2]
        rfl
  rw [e1]
  exact k p e s m args below meth c H locs la z hC hP hS hL
/-- the script -/
theorem fW_slen (n : Nat) (hL3 : gsn G ≤ 3072) (d : decode mt.2.1 pc = .ok (.arraylength, 1)) (hn : pc + 1 = n) (k : fW G mt E c0 s0 n ls (iv (gsn G : Int) :: st) M) : fW G mt E c0 s0 pc ls (.ref (gsb G) :: st) M := by
  subst hn
  intro p e s m args below meth c H locs la z hC hP hS hL
  obtain ⟨h1, h2, h3⟩ := hC.SF.2.2.2.2.2.2
  exact va_slen hC.exec hC.bytes h1 h2 h3 hS d (k p e s m args below meth c H locs la z hC hP hS hL)
def scr (G : fG) (i : Int) : Int := (gsx G i.toNat).toInt
theorem fW_sld (n : Nat) {i : Int} (hL3 : gsn G ≤ 3072) (hi : 0 ≤ i ∧ i < gsn G) (d : decode mt.2.1 pc = .ok (.iaload, 1)) (hn : pc + 1 = n) (k : fW G mt E c0 s0 n ls (iv (scr G i) :: st) M) : fW G mt E c0 s0 pc ls (iv i :: .ref (gsb G) :: st) M := by
  subst hn
  intro p e s m args below meth c H locs la z hC hP hS hL
  obtain ⟨h1, h2, h3⟩ := hC.SF.2.2.2.2.2.2
  have hr : rg i := ⟨by omega, by omega⟩
  have h := k p e s m args below meth c H locs la z hC hP hS hL
  refine va_sld hC.exec hC.bytes h1 h2 h3 hS (iv_in hr hi.1 hi.2) d ?_
  rw [iv_clamp hr]
  rw [iv, scr, iv_of] at h
  exact h
theorem rg_scr (G : fG) (i : Int) : rg (scr G i) := rg_of _
/-- the law calls one of its own methods -/
theorem fW_invH {E : fE} {n idx na : Nat} {as rest : List Value} {Q : fQ} (mi : Cond.codeWith mc.1 mc.2.1 mc.2.2.1 mc.2.2.2.1 (fTb mc.1.name) ∈ fT ∧ Cond.initialized mc.1.cls ∈ fT ∧ (mc.1.cls ≠ "java/lang/invoke/MethodHandle" ∧ mc.1.cls ≠ "java/lang/invoke/VarHandle") ∧ (parseMethodDescriptor mc.1.desc).map (fun d => d.parameters.length) = some na ∧ Cond.static mc.1 ∈ fT) (hl : Cond.methodLink mt.1.cls idx mc.1 ∈ fT) (hr : fRoom mt mc c0 s0) (ha : as.length = na) (hw : (rest.map fun v => v.category).sum ≤ 8) (d : decode mt.2.1 pc = .ok (.invokestatic idx, 3)) (hM : fSpH G mc as M Q) (hn : pc + 3 = n) (k : ∀ v N, Q v N → fW G mt E (c0 + mc.2.2.2.2.cells) (s0 + mc.2.2.2.2.slots) n ls (v.toList ++ rest) N) : fW G mt E c0 s0 pc ls (as.reverse ++ rest) M := by
  subst hn
  intro p e s m args below meth c H locs la z hC hP hS hL T hT X9
  have hz : z ≤ H.size := by rw [← hC.size]; exact hS.1
  have hin : ∀ w ∈ fWh mc, w ∈ fT := fun w hw => by
    rcases List.mem_cons.mp hw with h | h
    · rw [h]; exact mi.1
    · exact h
  have hrun := vx_runSX (Ts := fT) (own := mt.1.cls) (p := p) (e := e) (below := below) (meth := meth) (locs := locs) (cells := c0) (slots := s0) (g := F0 m pc la (as.reverse ++ rest)) (rest := rest) ⟨hC.exec, hC.bytes, hC.maxL, hC.own, hC.words⟩ (hM H.size) (vx_cwSW na hC.words (fGood (fun w h => by
      simp only [va_wsS, List.cons_append, List.nil_append, List.mem_cons] at h
      rcases h with rfl | rfl | rfl | h
      · exact hl
      · exact mi.2.2.2.2
      · exact mi.2.1
      · exact hin w (by simpa using h))) rfl rfl rfl ⟨mi.2.2.1.1, mi.2.2.1.2, mi.2.2.2.1⟩ hr.1) ⟨fPc_blind, fPc_at hC hP hS⟩ rfl ha hL.size rfl (lv_room hw) d hr.2
  rcases hrun T hT X9 with ⟨v, st₀, t, T', L, h0, X', hLL, e1, e2, ⟨⟨w, N, hv, hq, hp⟩, hF⟩, st⟩ | ⟨q, st₀, t, T', L, En, ce, h0, X', hLL, e1, e2, ⟨⟨N, hq, hp⟩, hF⟩, hce, hcv, hcl, st⟩
  · cases hv
    obtain ⟨k1, k2, k3⟩ := vx_keep h0 e1 hS (fun q _ h => gA_mono hz h) (fun q h => gA_mono hz h) hLL hF
    obtain ⟨t2, a1, b1⟩ := k v N hq p e s m args below meth c T'.heap (locs ++ L) la z hC (by rw [e1]; exact hp) k3 hL T' rfl X'
    exact ⟨t2, st t2 a1, b1⟩
  · exact absurd hq id
end FRM8
