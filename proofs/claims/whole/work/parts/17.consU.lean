/-! while things are made: rows over the judgement fW, with the heap's size -/
section FRM7
variable {G : fG} {mt mc : fMt} {E : fE} {c0 s0 pc : Nat} {ls : List (Option Value)} {st : List Value} {M : fMem}
/-- one more thing there is, all whose places hold 0 -/
def mnew (M : fMem) : fMem := fun a i => if a = 440 then (if i = 0 then M 440 0 + 1 else M a i) else if a = (M 440 0).toNat then 0 else M a i
theorem gN_un (hg : gbt G = false) : gN G M = (M 440 0).toNat := by simp [gN, hg]
theorem gRf_un (hg : gbt G = false) {k : Nat} {j : Int} (h : M k j ≠ 0) : gRf G M k j = some (gb G + Rf k j) := by simp [gRf, h]
theorem gRf_no (hg : gbt G = false) {k : Nat} {j : Int} (h : M k j = 0) : gRf G M k j = none := by simp [gRf, h, hg]
/-- there is such a thing -/
def fEx (M : fMem) (o t : Nat) : Prop := Ty o = t ∧ (o : Int) < M 440 0
theorem fEx.lt {o t : Nat} (hg : gbt G = false) (h : fEx M o t) : o < gN G M := by
  have := h.2
  rw [gN_un hg]
  omega
theorem fUt_obj (hg : gbt G = false) {o t : Nat} (ho : fEx M o t) (ht : t < 12) : (fWs (gb G) (gN G M) (fCell G M))[o]? = some (gb G + o, .inr (t, fFs G M o t)) := by
  rw [fWs_get (ho.lt hg), fCell_obj ho.1 ht]
theorem fUt_int (hg : gbt G = false) {o t : Nat} (ho : fEx M o t) (h1 : 12 ≤ t) (h2 : t < 14) : (fWs (gb G) (gN G M) (fCell G M))[o]? = some (gb G + o, .inl (gcA G t, Lnn o, .inl (fun j => Int32.ofInt (M o j)))) := by
  rw [fWs_get (ho.lt hg), fCell_int ho.1 h1 h2]
theorem fUt_ref (hg : gbt G = false) {o t : Nat} (ho : fEx M o t) (h1 : 14 ≤ t) (h2 : t < 18) : (fWs (gb G) (gN G M) (fCell G M))[o]? = some (gb G + o, .inl (gcA G t, Lnn o, .inr (.inr (.inr (.inr (fun j => gRf G M o j)))))) := by
  rw [fWs_get (ho.lt hg), fCell_ref ho.1 h1 h2]
theorem fU_getR (n : Nat) {C : String} {T : u_T} {N : Nat} {ty : Nat → FieldType} {ci idx o u r : Nat} (j : Nat) {ji : Int} (hg : gbt G = false) (cl : fCl ci C T N ty) (hji : (j : Int) = ji) (hj : j < N) (hr : fRt ci j = some u) (ho : fEx M o ci) (hs : M o ji ≠ 0) (hf : Rf o ji = r) (hl : Cond.fieldLink mt.1.cls idx (T j).1 (T j).2.1 (T j).2.2.1 ∈ fT) (d : decode mt.2.1 pc = .ok (.getfield idx, 3)) (hn : pc + 3 = n) (k : fW G mt E c0 s0 n ls (.ref (gb G + r) :: st) M) : fW G mt E c0 s0 pc ls (.ref (gb G + o) :: st) M := by
  subst hf hji hn
  intro p e s m args below meth c H locs la z hC hP hS hL
  exact va_get hC.exec hC.bytes hC.words cl.2.1 hC.own hC.K hP.1 o (fUt_obj hg ho cl.2.2.2.2.2) cl.1 j hj (hC.words _ hl) (fun _ h => h) (by rw [fFs_getR (by rw [cl.2.2.2.2.1]; exact hj) hr, gRf_un hg hs]; rfl) d (k p e s m args below meth c H locs la z hC hP hS hL)
theorem fU_set (hg : gbt G = false) {o : Nat} {j v : Int} {x : va_E} {H H1 : Heap} (hP : fP G M H) (ho : o < gN G M) (hv : rg v) (hx : va_up (fCell G M) o x = fCell G (mset M o j v)) (hz : H1.size = H.size) (h1 : va_P (gD G) vwCl ((fWs (gb G) (gN G M) (fCell G M)).set o (gb G + o, x)) H1) : fP G (mset M o j v) H1 := by
  have ho4 : o < 440 := Nat.lt_of_lt_of_le ho hP.2.2.1
  have hN : gN G (mset M o j v) = gN G M := gN_mset (Nat.ne_of_lt ho4)
  rw [fWs_set ho, hx] at h1
  refine ⟨by rw [hN]; exact h1, fR_mset hP.2.1 hv, by rw [hN]; exact hP.2.2.1, fun h => ?_⟩
  rw [hz, hN]
  exact hP.2.2.2 h
/-- a field is written, in a constructor: v as the memory has it -/
theorem fU_put (n : Nat) {C : String} {T : u_T} {N : Nat} {ty : Nat → FieldType} {ci idx o : Nat} (j : Nat) {ji v : Int} {w : Value} (hg : gbt G = false) (cl : fCl ci C T N ty) (hji : (j : Int) = ji) (hj : j < N) (hnar : narrow (ty j) w = w) (hfit : fits (ty j) w = true) (hw : ∀ M' : fMem, M' o ji = v → fFv G M' o ci j = w) (hmn : mt.1.name = "<init>") (hdc : (T j).1 = mt.1.cls) (ho : fEx M o ci) (hv : rg v) (hl : Cond.fieldLink mt.1.cls idx (T j).1 (T j).2.1 (T j).2.2.1 ∈ fT) (d : decode mt.2.1 pc = .ok (.putfield idx, 3)) (hn : pc + 3 = n) (k : fW G mt E c0 s0 n ls st (mset M o ji v)) : fW G mt E c0 s0 pc ls (w :: .ref (gb G + o) :: st) M := by
  subst hji hn
  intro p e s m args below meth c H locs la z hC hP hS hL
  have hjN : j < fNf ci := by rw [cl.2.2.2.2.1]; exact hj
  have he := fUt_obj (G := G) hg ho cl.2.2.2.2.2
  have hfw : fFv G (mset M o j v) o ci j = w := hw _ (mset_self M o j v)
  have hK := hC.K
  have hD : va_D (gA G z) (fWs (gb G) (gN G M) (fCell G M)) := gD_ok hP.2.2.1
  have hap := va_apart (own := mt.1.cls) hC.words cl.2.1 ty cl.2.2.1 cl.2.2.2.1 hK cl.1
  obtain ⟨r, h1, cell, q1, q2, q3, q4⟩ := hP.1 o _ he
  have hr : r = (C, T, N) := Option.some.inj (h1.symm.trans cl.1)
  subst hr
  obtain ⟨hSl, hfc, kC, hkC, hkind⟩ := hK.1 ci _ cl.1
  obtain ⟨cf, kf, fi, f, hi, hsl⟩ := hSl j hj
  have hlay := hC.words _ (cl.2.1 _ (u_in_lay hj))
  have hst := (u_facts hfc hkC (u_lays hC.words cl.2.1 hj) hi).1
  have hlen : j < (fFs G M o ci).length := by rw [fFs_len]; exact hjN
  unfold u_lay at hlay
  by_cases hfin : (T j).2.2.2 = true
  · rw [if_pos hfin] at hlay
    have hcf : m.cls = cf := by
      obtain ⟨_, _, c', _, _, _, -, -, hf', -, -, -, hown2, -⟩ := Cond.laysFinal_spec hlay
      have e1 : c' = cf := by have := hi.symm.trans hf'; simp at this; exact this.1.symm
      rw [hdc] at hown2
      rw [← e1]; exact Option.some.inj (hC.own.symm.trans hown2)
    have h6 := u_fits hfc hkC hkind (Or.inr hlay) hi (cl.2.2.1 j hj) hnar hfit
    refine W.putFinK hC.exec hC.bytes hC.own (hC.words _ hl) hi hst hcf (hC.ini hmn) (by rw [q2]; exact h6) q1 q3 (by rw [hsl]; exact k2_hasslot (q4 j hj)) rfl rfl d fun H' e1 e2 e3 => ?_
    rw [hsl] at e1 ⊢
    exact k p e s m args below meth c H' _ la z hC (fU_set hg hP (ho.lt hg) hv (fCell_setF ho.1 cl.2.2.2.2.2 hjN hfw) e2 (hP.1.set hD he ⟨_, cl.1, t_OB.to (V := updV (vp_V (fFs G M o ci)) j w) ⟨_, e1, q2, q3, t_set q4 hap hj w⟩ (fun j2 _ => vp_updV_set hlen w j2)⟩ e3)) (hS.put e2 e3 (hD.2 o _ he)) hL
  · rw [if_neg hfin] at hlay
    have h6 := u_store hfc hkC hkind hlay hi (cl.2.2.1 j hj) hnar hfit
    refine W.putK hC.exec hC.bytes (f := f) ⟨hC.own, hC.words _ hl, ⟨_, _, _, hi⟩, hst⟩ (by rw [q2]; exact h6) q1 q3 (by rw [hsl]; exact k2_hasslot (q4 j hj)) rfl rfl d fun H' e1 e2 e3 => ?_
    rw [hsl] at e1 ⊢
    exact k p e s m args below meth c H' _ la z hC (fU_set hg hP (ho.lt hg) hv (fCell_setF ho.1 cl.2.2.2.2.2 hjN hfw) e2 (hP.1.set hD he ⟨_, cl.1, t_OB.to (V := updV (vp_V (fFs G M o ci)) j w) ⟨_, e1, q2, q3, t_set q4 hap hj w⟩ (fun j2 _ => vp_updV_set hlen w j2)⟩ e3)) (hS.put e2 e3 (hD.2 o _ he)) hL
theorem fW_iastU (n : Nat) {o : Nat} {i v : Int} (hg : gbt G = false) (ho : fEx M o 12) (hi : 0 ≤ i ∧ i < Ln o) (hv : rg v) (d : decode mt.2.1 pc = .ok (.iastore, 1)) (hn : pc + 1 = n) (k : fW G mt E c0 s0 n ls st (mset M o i v)) : fW G mt E c0 s0 pc ls (iv v :: iv i :: .ref (gb G + o) :: st) M := by
  subst hn
  intro p e s m args below meth c H locs la z hC hP hS hL
  obtain ⟨h1, h2, h3⟩ := fIx hi
  have hD : va_D (gA G z) (fWs (gb G) (gN G M) (fCell G M)) := gD_ok hP.2.2.1
  have ha := fUt_int (G := G) hg ho (by omega) (by omega)
  refine W.iast hC.exec hC.bytes (hP.1 o _ ha) ((hC.K.2 0 _ rfl).1 (Lnn o) (fun j => .int (Int32.ofInt (M o j)))) (fun q => by cases q) (by show ¬ (Int32.ofInt i < 0 ∨ (arrV _ _ _).slots.size ≤ _); rw [arrV_size]; exact h2) rfl rfl d fun H1 e9 z9 oq => ?_
  refine k p e s m args below meth c H1 _ la z hC (fU_set hg hP (ho.lt hg) hv (fCell_setA ho.1 (by omega) (by omega) hi.1) z9 (hP.1.set hD ha ?_ oq)) (hS.put z9 oq (hD.2 o _ ha)) hL
  show H1[gb G + o]? = some (vp_cell _ _)
  rw [e9]
  show some ((vp_cell _ _).setSlot _ _) = _
  rw [vp_cell_i, vp_cell_i, arrV_store, h3]
  congr 2
  funext q
  by_cases hq : q = i.toNat
  · subst hq
    simp [updV, upd]
  · simp [updV, upd, hq]
theorem fU_aast (n : Nat) {o t r u : Nat} {i : Int} {rr : vw_C} (t0 : Nat) (hg : gbt G = false) (ho : fEx M o t) (h14 : 14 ≤ t) (h18 : t < 18) (hi : 0 ≤ i ∧ i < Ln o) (hr : fEx M r u) (hu : u < 12) (hc : vwCl[u]? = some rr) (hf : Rf o i = r) (ht : (fTys G)[t0]? = some (gcA G t, .object rr.1)) (d : decode mt.2.1 pc = .ok (.aastore, 1)) (hn : pc + 1 = n) (k : fW G mt E c0 s0 n ls st (mset M o i 1)) : fW G mt E c0 s0 pc ls (.ref (gb G + r) :: iv i :: .ref (gb G + o) :: st) M := by
  subst hn
  intro p e s m args below meth c H locs la z hC hP hS hL
  obtain ⟨h1, h2, h3⟩ := fIx hi
  have hD : va_D (gA G z) (fWs (gb G) (gN G M) (fCell G M)) := gD_ok hP.2.2.1
  have ha := fUt_ref (G := G) hg ho h14 h18
  have hv := fUt_obj (G := G) hg hr hu
  obtain ⟨r', hr', cellV, g1, g2, g3, -⟩ := hP.1 r _ hv
  have hcls := (hC.K.1 u rr hc).2
  obtain ⟨kA, comp, k1, k2, k3, -⟩ := (hC.K.2 t0 _ ht).2
  have hcomp : comp = (gD G).1 u := Option.some.inj (k3.symm.trans hcls.1)
  subst hcomp
  obtain ⟨kC, hkC, -⟩ := hcls.2
  have hlt : (Int32.ofInt i).toNatClampNeg < Lnn o := Nat.not_le.mp fun q => h2 (Or.inr q)
  refine W.aast hC.exec hC.bytes (hP.1 o _ ha) (fun q h => by cases h) (fun h => by cases h) k1 k2 rfl hkC ⟨fun q => h2 (Or.inl q), by show _ < (arrV _ _ _).slots.size; rw [arrV_size]; exact hlt⟩ g1 (fun q h => by rw [g3] at h; cases h) (by rw [g2]; exact hkC) (by rw [g2]; exact va_assign hcls) rfl rfl d fun H1 e9 z9 oq => ?_
  have hx : va_up (fCell G M) o (.inl (gcA G t, Lnn o, .inr (.inr (.inr (.inr (va_up (fun j => gRf G M o j) i.toNat (some (gb G + r)))))))) = fCell G (mset M o i 1) := by
    funext a
    by_cases ha : a = o
    · subst ha
      rw [fCell_ref ho.1 h14 h18]
      simp only [va_up, if_true]
      congr 8
      funext j
      by_cases hj : j = i.toNat
      · have hji : (j : Int) = i := by omega
        simp [hj, gRf, mset, va_up]
        try rw [show max i 0 = i by omega]
        simp [hf]
      · have hji : ¬ (j : Int) = i := by omega
        simp [hj, gRf, mset, hji, va_up]
    · simp only [va_up, ha, if_false, fCell_ne ha]
  refine k p e s m args below meth c H1 _ la z hC (fU_set hg hP (ho.lt hg) ⟨by decide, by decide⟩ hx z9 (hP.1.set hD ha ?_ oq)) (hS.put z9 oq (hD.2 o _ ha)) hL
  show H1[gb G + o]? = some (vp_cell _ _)
  rw [e9]
  show some ((vp_cell _ _).setSlot _ _) = _
  rw [vp_cell_q, vp_cell_q, arrV_store, h3]
  congr 2
  funext q
  by_cases hq : q = i.toNat
  · subst hq
    simp [updV, va_up, va_rf]
  · simp [updV, va_up, hq]
/-- the world with one thing more -/
theorem fP_new (hg : gbt G = false) {H H1 : Heap} (hP : fP G M H) (h0 : 0 ≤ M 440 0) (h4 : M 440 0 < 440) (hz : H1.size = H.size + 1) (ho : ∀ q, q < H.size → H1[q]? = H[q]?) (hc : va_at (gD G) vwCl (H.size, fCell G (mnew M) (M 440 0).toNat) H1) : fP G (mnew M) H1 := by
  have hN : gN G M = (M 440 0).toNat := gN_un hg
  have hN1 : gN G (mnew M) = (M 440 0).toNat + 1 := by
    rw [gN_un hg]
    simp [mnew]
    omega
  have hsz := hP.2.2.2 hg
  refine ⟨?_, ?_, by omega, fun _ => by omega⟩
  · intro k q hk
    obtain ⟨hk1, rfl⟩ := fWs_inv hk
    rw [hN1] at hk1
    by_cases hkn : k = (M 440 0).toNat
    · subst hkn
      rw [show gb G + (M 440 0).toNat = H.size by omega]
      exact hc
    · have hk2 : k < gN G M := by omega
      have h9 := hP.1 k _ (fWs_get hk2)
      have hcell : fCell G (mnew M) k = fCell G M k := fCell_cg (by
        funext i
        simp only [mnew]
        rw [if_neg (by omega), if_neg hkn])
      rw [hcell]
      exact h9.kept (ho _ (by show gb G + k < H.size; omega))
  · intro a i
    simp only [mnew]
    split
    · split
      · constructor <;> omega
      · exact hP.2.1 a i
    · split
      · constructor <;> omega
      · exact hP.2.1 a i
theorem mnew_at {i : Int} (h4 : M 440 0 < 440) (h0 : 0 ≤ M 440 0) : mnew M (M 440 0).toNat i = 0 := by
  simp only [mnew]
  rw [if_neg (by omega)]
  simp
theorem fU_new (n : Nat) {C : String} {T : u_T} {N : Nat} {ty : Nat → FieldType} {ci idx : Nat} (hg : gbt G = false) (cl : fCl ci C T N ty) (hdef : ∀ j, j < N → defaultValue (ty j) = if (fRt ci j).isSome then .null else .int 0) (h0 : 0 ≤ M 440 0) (h4 : M 440 0 < 440) (hty : Ty (M 440 0).toNat = ci) (hcl : Cond.classLink mt.1.cls idx C ∈ fT) (hinst : Cond.instantiable C N ∈ fT) (hini : Cond.initialized C ∈ fT) (hc : c0 + 1 ≤ mt.2.2.2.2.cells) (hs : s0 + N ≤ mt.2.2.2.2.slots) (d : decode mt.2.1 pc = .ok (.new idx, 3)) (hn : pc + 3 = n) (k : fW G mt E (c0 + 1) (s0 + N) n ls (.ref (gb G + (M 440 0).toNat) :: st) (mnew M)) : fW G mt E c0 s0 pc ls st M := by
  subst hn
  intro p e s m args below meth c H locs la z hC hP hS hL
  have hKn := hC.K.1 ci _ cl.1
  refine W.newcK hC.exec hC.bytes hC.own (hC.words _ hcl) (hC.words _ hinst) (hC.words _ hini) rfl d hc hs hKn.2.1 rfl fun H1 kC hkC e1 z1 o1 => ?_
  have hsz := hP.2.2.2 hg
  rw [gN_un hg] at hsz
  have hP1 : fP G (mnew M) H1 := by
    refine fP_new hg hP h0 h4 z1 o1 ?_
    rw [fCell_obj hty cl.2.2.2.2.2]
    refine ⟨_, cl.1, (u_born ty hC.words cl.2.1 hKn hkC e1 cl.2.2.1).to (fun j hj => ?_)⟩
    have hjn : j < fNf ci := by rw [cl.2.2.2.2.1]; exact hj
    rw [hdef j hj, vp_V, List.getD_eq_getElem?_getD, fFs_at hjn]
    simp only [fFv, Option.getD_some]
    cases hr : fRt ci j with
    | none => simp [mnew_at h4 h0, iv]
    | some u => rw [gRf_no hg (mnew_at h4 h0)]; rfl
  have hk := k p e s m args below meth c H1 locs la z hC hP1 ⟨Nat.le_trans hS.1 (by omega), fun x h1 h2 => (o1 x (Nat.lt_of_lt_of_le h1 hS.1)).trans (hS.2.1 x h1 h2), hS.2.2⟩ hL
  rw [show gb G + (M 440 0).toNat = H.size by omega] at hk
  exact hk
theorem fU_newa (n : Nat) {t t0 : Nat} {x : Int} {atype : ArrayType} {fty : FieldType} (hty0 : newarray.typeOf atype = fty) (hg : gbt G = false) (ht : t = 12 ∧ fty = .int ∧ t0 = 0 ∨ t = 13 ∧ fty = .boolean ∧ t0 = 1 ∨ t = 18 ∧ fty = .long ∧ t0 = 6) (h0 : 0 ≤ M 440 0) (h4 : M 440 0 < 440) (hty : Ty (M 440 0).toNat = t) (hln : Ln (M 440 0).toNat = x) (hx : rg x) (harr : Cond.arrayClass fty ∈ fT) (hc : c0 + 1 ≤ mt.2.2.2.2.cells) {sx : Nat} (hsx : x ≤ (sx : Int)) (hs : s0 + sx ≤ mt.2.2.2.2.slots) (d : decode mt.2.1 pc = .ok (.newarray atype, 2)) (hn : pc + 2 = n) (k : fW G mt E (c0 + 1) (s0 + sx) n ls (.ref (gb G + (M 440 0).toNat) :: st) (mnew M)) : fW G mt E c0 s0 pc ls (iv x :: st) M := by
  subst hn hty0
  intro p e s m args below meth c H locs la z hC hP hS hL
  have hx0 : 0 ≤ x := by rw [← hln]; unfold Ln; omega
  have hxl : x.toNat = Lnn (M 440 0).toNat := by rw [← hln]; unfold Ln; simp
  have hsm := Lnn_small (M 440 0).toNat
  have hcb : componentBytes (newarray.typeOf atype) ≤ 8 := by cases atype <;> decide
  refine va_newaK hC.exec hC.bytes (hC.words _ harr) rfl d rfl (fun hq => ?_) (iv_clamp hx) (Nat.le_trans (Nat.mul_le_mul (Nat.le_of_lt (by omega : x.toNat < 30000)) hcb) (by decide)) hc (by omega) rfl fun H1 cA e1 z1 o1 hAr hNm => ?_
  · have := (iv_lt (y := 0) hx ⟨by omega, by omega⟩).mp hq
    omega
  have hsz := hP.2.2.2 hg
  rw [gN_un hg] at hsz
  have hcA : cA = gcA G t ∧ va_at (gD G) vwCl (H.size, fCell G (mnew M) (M 440 0).toNat) H1 := by
    rcases ht with ⟨rfl, ht1, rfl⟩ | ⟨rfl, ht1, rfl⟩ | ⟨rfl, ht1, rfl⟩
    · have h9 := (hC.K.2 0 _ rfl).2
      rw [ht1] at hNm e1
      have h8 : cA = gcA G 12 := Option.some.inj (hNm.symm.trans h9)
      refine ⟨h8, ?_⟩
      rw [fCell_int hty (by omega) (by omega)]
      show H1[H.size]? = some (vp_cell _ _)
      rw [e1, vp_cell_i, h8, hxl]
      simp only [mnew_at h4 h0]
      rfl
    · have h9 := (hC.K.2 1 _ rfl).2
      rw [ht1] at hNm e1
      have h8 : cA = gcA G 13 := Option.some.inj (hNm.symm.trans h9)
      refine ⟨h8, ?_⟩
      rw [fCell_int hty (by omega) (by omega)]
      show H1[H.size]? = some (vp_cell _ _)
      rw [e1, vp_cell_i, h8, hxl]
      simp only [mnew_at h4 h0]
      rfl
    · have h9 := (hC.K.2 6 _ rfl).2
      rw [ht1] at hNm e1
      have h8 : cA = gcA G 18 := Option.some.inj (hNm.symm.trans h9)
      refine ⟨h8, ?_⟩
      rw [fCell_long hty]
      show H1[H.size]? = some (vp_cell _ _)
      rw [e1, h8, hxl]
      simp only [mnew_at h4 h0]
      rfl
  have hk := k p e s m args below meth c H1 locs la z hC (fP_new hg hP h0 h4 z1 o1 hcA.2) ⟨Nat.le_trans hS.1 (by omega), fun x h1 h2 => (o1 x (Nat.lt_of_lt_of_le h1 hS.1)).trans (hS.2.1 x h1 h2), hS.2.2⟩ hL
  rw [show gb G + (M 440 0).toNat = H.size by omega] at hk
  exact W.widen (Nat.le_refl _) (by omega) hk
theorem fU_anew (n : Nat) {t t0 idx : Nat} {x : Int} {C : String} (hg : gbt G = false) (h14 : 14 ≤ t) (h18 : t < 18) (ht0 : (fTys G)[t0]? = some (gcA G t, .object C)) (h0 : 0 ≤ M 440 0) (h4 : M 440 0 < 440) (hty : Ty (M 440 0).toNat = t) (hln : Ln (M 440 0).toNat = x) (hx : rg x) (hcl : Cond.classLink mt.1.cls idx C ∈ fT) (hao : C ∈ fAO) (hc : c0 + 1 ≤ mt.2.2.2.2.cells) {sx : Nat} (hsx : x ≤ (sx : Int)) (hs : s0 + sx ≤ mt.2.2.2.2.slots) (d : decode mt.2.1 pc = .ok (.anewarray idx, 3)) (hn : pc + 3 = n) (k : fW G mt E (c0 + 1) (s0 + sx) n ls (.ref (gb G + (M 440 0).toNat) :: st) (mnew M)) : fW G mt E c0 s0 pc ls (iv x :: st) M := by
  subst hn
  intro p e s m args below meth c H locs la z hC hP hS hL
  have hx0 : 0 ≤ x := by rw [← hln]; unfold Ln; omega
  have hxl : x.toNat = Lnn (M 440 0).toNat := by rw [← hln]; unfold Ln; simp
  have hsm := Lnn_small (M 440 0).toNat
  have hcl9 := iv_clamp hx
  refine W.anew hC.exec hC.bytes hC.own (hC.words _ hcl) (va_AO.use (hC.SF.2.2.2.2.1 C hao)) rfl d rfl (fun hq => ?_) (by rw [hcl9]; omega) hc (by rw [hcl9]; omega) fun cA kA comp f1 f2 f3 f4 => ?_
  · have := (iv_lt (y := 0) hx ⟨by omega, by omega⟩).mp hq
    omega
  generalize hH1 : H.push ({ cls := cA, slots := Array.replicate (Int32.ofInt x).toNatClampNeg .null, vm := .none } : Cell) = H1
  have z1 : H1.size = H.size + 1 := by rw [← hH1, Array.size_push]
  have e1 : H1[H.size]? = some (arrV cA (Int32.ofInt x).toNatClampNeg (fun _ => .null)) := by rw [← hH1, Array.getElem?_push_size, ← arrV_new]
  have o1 : ∀ q : Nat, q < H.size → H1[q]? = H[q]? := fun q hq => by rw [← hH1, Array.getElem?_push, if_neg (Nat.ne_of_lt hq)]
  have hsz := hP.2.2.2 hg
  rw [gN_un hg] at hsz
  obtain ⟨kA9, comp9, k1, k2, k3, k4⟩ := (hC.K.2 t0 _ ht0).2
  have h8 : cA = gcA G t := Option.some.inj (f1.symm.trans k4)
  have hcA : va_at (gD G) vwCl (H.size, fCell G (mnew M) (M 440 0).toNat) H1 := by
    rw [fCell_ref hty h14 h18]
    show H1[H.size]? = some (vp_cell _ _)
    rw [e1, vp_cell_q, h8, hcl9, hxl]
    congr 2
    funext j
    rw [gRf_no hg (mnew_at h4 h0)]
    rfl
  have hk := k p e s m args below meth c H1 locs la z hC (fP_new hg hP h0 h4 z1 o1 hcA) ⟨Nat.le_trans hS.1 (by omega), fun x h1 h2 => (o1 x (Nat.lt_of_lt_of_le h1 hS.1)).trans (hS.2.1 x h1 h2), hS.2.2⟩ hL
  rw [show gb G + (M 440 0).toNat = H.size by omega] at hk
  exact W.widen (Nat.le_refl _) (by rw [hcl9]; omega) hk
/-- Object's constructor -/
theorem fObj : Cond.instanceMethod Lib.objectInit ∈ fT ∧ Cond.code Lib.objectInit ⟨#[0xb1]⟩ 1 none ∈ fT := ⟨fM 115 (by decide +kernel) rfl, fM 116 (by decide +kernel) rfl⟩
theorem fU_obj (n : Nat) {idx a : Nat} (hl : Cond.methodLink mt.1.cls idx Lib.objectInit ∈ fT) (hf : 1 ≤ mt.2.2.2.2.frames) (hlo : (st.map fun v => v.category).sum + 12 ≤ mt.2.2.2.2.locals) (d : decode mt.2.1 pc = .ok (.invokespecial idx, 3)) (hn : pc + 3 = n) (k : fW G mt E c0 s0 n ls st M) : fW G mt E c0 s0 pc ls (.ref a :: st) M := by
  subst hn
  intro p e s m args below meth c H locs la z hC hP hS hL
  exact W.objInit hC.exec hC.bytes hC.own (hC.words _ hl) (hC.words _ fObj.1) (hC.words _ fObj.2) rfl (by rw [hL.size, hC.maxL]) rfl d hf (by show 2 * (F0 m pc la (.ref a :: st)).monitorRoom + _ + 12 ≤ _; simp only [JFrame.monitorRoom]; simpa using hlo) (k p e s m args below meth c H locs la z hC hP hS hL)
theorem fI_I {n idx b : Nat} {as rest : List Value} (mi : fMn mc n) (hret : mc.2.2.2.1 = none) (hl : Cond.methodLink mt.1.cls idx mc.1 ∈ fT) (hr : fRoom mt mc c0 s0) (ha : as.length = n) (hw : (rest.map fun v => v.category).sum ≤ 8) (d : decode mt.2.1 pc = .ok (.invokespecial idx, 3)) :
    fInv G mt mc c0 s0 pc ls (as.reverse ++ .ref b :: rest) rest (.ref b :: as) M := by
  intro Q X hM p e s m args below meth c H locs la z hC hP hS hL
  exact vx_runI (Ts := fT) (own := mt.1.cls) (bytes := mc.2.1) (maxL := mc.2.2.1) ⟨hC.exec, hC.bytes, hC.maxL, hC.own, hC.words⟩ (hM H.size) ⟨callB_of n hC.words (fGood (fWm_in mi.1)) (by rw [fWm, hret]) rfl rfl (hC.words _ mi.1.2.1) (hC.words _ hl) ⟨mi.1.2.2.1.1, mi.1.2.2.1.2, mi.1.2.2.2⟩ hr.1, mi.2.2, hC.words _ mi.2.1⟩ ⟨fPc_blind, fPc_at hC hP hS⟩ rfl ha hL.size rfl (lv_room hw) d hr.2
theorem fI_IN {n idx b : Nat} {host : String} {as rest : List Value} (mi : fMn mc n) (hret : mc.2.2.2.1 = none) (hl : Cond.methodLinkNest mt.1.cls idx mc.1 host ∈ fNg) (hr : fRoom mt mc c0 s0) (ha : as.length = n) (hw : (rest.map fun v => v.category).sum ≤ 8) (d : decode mt.2.1 pc = .ok (.invokespecial idx, 3)) :
    fInv G mt mc c0 s0 pc ls (as.reverse ++ .ref b :: rest) rest (.ref b :: as) M := by
  intro Q X hM p e s m args below meth c H locs la z hC hP hS hL
  exact vx_runIN (Ts := fT) (own := mt.1.cls) (bytes := mc.2.1) (maxL := mc.2.2.1) ⟨hC.exec, hC.bytes, hC.maxL, hC.own, hC.words⟩ (hM H.size) ⟨va_cnB n hC.words (fGood (fWm_in mi.1)) (by rw [fWm, hret]) rfl rfl (hC.SF.2.2.1 _ hl) (hC.words _ mi.1.2.1) ⟨mi.1.2.2.1.1, mi.1.2.2.1.2, mi.1.2.2.2⟩ hr.1, mi.2.2, hC.words _ mi.2.1⟩ ⟨fPc_blind, fPc_at hC hP hS⟩ rfl ha hL.size rfl (lv_room hw) d hr.2
/-- a constructor is called: cells and slots count -/
theorem fU_cV {n : Nat} {stk rest as : List Value} {N : fMem} (c1 s1 : Nat) (hi : fInv G mt mc c0 s0 pc ls stk rest as M) (hM : fSp G mc as M (rV N) fNo) (hn : pc + 3 = n) (hc : c0 + mc.2.2.2.2.cells = c1) (hs : s0 + mc.2.2.2.2.slots = s1) (k : fW G mt E c1 s1 n ls rest N) : fW G mt E c0 s0 pc ls stk M := by
  subst hc hs
  refine fW_inv hi hM hn (fun v N1 h => ?_)
  obtain ⟨rfl, rfl⟩ := h
  exact k
end FRM7
