section STA
abbrev fFl : List Cond := flatC (Jvm.Cond.and given_1 narrow_1)
theorem fl_FIRST_ROW_r : Cond.isRef (.static "RowStore" "FIRST_ROW" "[I") ∈ fFl ∧ Cond.arrayOf (.static "RowStore" "FIRST_ROW" "[I") .int ∈ fFl ∧ Cond.eq (.length (.static "RowStore" "FIRST_ROW" "[I")) (.int 9) ∈ fFl := ⟨by decide +kernel, by decide +kernel, by decide +kernel⟩
theorem fl_FIRST_ROW_0 : Cond.eq (.elem (.static "RowStore" "FIRST_ROW" "[I") (.int 0)) (.int 0) ∈ fFl := by decide +kernel
theorem fl_FIRST_ROW_1 : Cond.eq (.elem (.static "RowStore" "FIRST_ROW" "[I") (.int 1)) (.int 2) ∈ fFl := by decide +kernel
theorem fl_FIRST_ROW_2 : Cond.eq (.elem (.static "RowStore" "FIRST_ROW" "[I") (.int 2)) (.int 4) ∈ fFl := by decide +kernel
theorem fl_FIRST_ROW_3 : Cond.eq (.elem (.static "RowStore" "FIRST_ROW" "[I") (.int 3)) (.int 6) ∈ fFl := by decide +kernel
theorem fl_FIRST_ROW_4 : Cond.eq (.elem (.static "RowStore" "FIRST_ROW" "[I") (.int 4)) (.int 8) ∈ fFl := by decide +kernel
theorem fl_FIRST_ROW_5 : Cond.eq (.elem (.static "RowStore" "FIRST_ROW" "[I") (.int 5)) (.int 10) ∈ fFl := by decide +kernel
theorem fl_FIRST_ROW_6 : Cond.eq (.elem (.static "RowStore" "FIRST_ROW" "[I") (.int 6)) (.int 12) ∈ fFl := by decide +kernel
theorem fl_FIRST_ROW_7 : Cond.eq (.elem (.static "RowStore" "FIRST_ROW" "[I") (.int 7)) (.int 14) ∈ fFl := by decide +kernel
theorem fl_FIRST_ROW_8 : Cond.eq (.elem (.static "RowStore" "FIRST_ROW" "[I") (.int 8)) (.int 16) ∈ fFl := by decide +kernel
theorem fl_END_ROW_r : Cond.isRef (.static "RowStore" "END_ROW" "[I") ∈ fFl ∧ Cond.arrayOf (.static "RowStore" "END_ROW" "[I") .int ∈ fFl ∧ Cond.eq (.length (.static "RowStore" "END_ROW" "[I")) (.int 9) ∈ fFl := ⟨by decide +kernel, by decide +kernel, by decide +kernel⟩
theorem fl_END_ROW_0 : Cond.eq (.elem (.static "RowStore" "END_ROW" "[I") (.int 0)) (.int 2) ∈ fFl := by decide +kernel
theorem fl_END_ROW_1 : Cond.eq (.elem (.static "RowStore" "END_ROW" "[I") (.int 1)) (.int 4) ∈ fFl := by decide +kernel
theorem fl_END_ROW_2 : Cond.eq (.elem (.static "RowStore" "END_ROW" "[I") (.int 2)) (.int 6) ∈ fFl := by decide +kernel
theorem fl_END_ROW_3 : Cond.eq (.elem (.static "RowStore" "END_ROW" "[I") (.int 3)) (.int 8) ∈ fFl := by decide +kernel
theorem fl_END_ROW_4 : Cond.eq (.elem (.static "RowStore" "END_ROW" "[I") (.int 4)) (.int 10) ∈ fFl := by decide +kernel
theorem fl_END_ROW_5 : Cond.eq (.elem (.static "RowStore" "END_ROW" "[I") (.int 5)) (.int 12) ∈ fFl := by decide +kernel
theorem fl_END_ROW_6 : Cond.eq (.elem (.static "RowStore" "END_ROW" "[I") (.int 6)) (.int 14) ∈ fFl := by decide +kernel
theorem fl_END_ROW_7 : Cond.eq (.elem (.static "RowStore" "END_ROW" "[I") (.int 7)) (.int 16) ∈ fFl := by decide +kernel
theorem fl_END_ROW_8 : Cond.eq (.elem (.static "RowStore" "END_ROW" "[I") (.int 8)) (.int 19) ∈ fFl := by decide +kernel
theorem fl_LEVEL_OF_r : Cond.isRef (.static "RowStore" "LEVEL_OF" "[I") ∈ fFl ∧ Cond.arrayOf (.static "RowStore" "LEVEL_OF" "[I") .int ∈ fFl ∧ Cond.eq (.length (.static "RowStore" "LEVEL_OF" "[I")) (.int 19) ∈ fFl := ⟨by decide +kernel, by decide +kernel, by decide +kernel⟩
theorem fl_LEVEL_OF_0 : Cond.eq (.elem (.static "RowStore" "LEVEL_OF" "[I") (.int 0)) (.int 0) ∈ fFl := by decide +kernel
theorem fl_LEVEL_OF_1 : Cond.eq (.elem (.static "RowStore" "LEVEL_OF" "[I") (.int 1)) (.int 0) ∈ fFl := by decide +kernel
theorem fl_LEVEL_OF_2 : Cond.eq (.elem (.static "RowStore" "LEVEL_OF" "[I") (.int 2)) (.int 1) ∈ fFl := by decide +kernel
theorem fl_LEVEL_OF_3 : Cond.eq (.elem (.static "RowStore" "LEVEL_OF" "[I") (.int 3)) (.int 1) ∈ fFl := by decide +kernel
theorem fl_LEVEL_OF_4 : Cond.eq (.elem (.static "RowStore" "LEVEL_OF" "[I") (.int 4)) (.int 2) ∈ fFl := by decide +kernel
theorem fl_LEVEL_OF_5 : Cond.eq (.elem (.static "RowStore" "LEVEL_OF" "[I") (.int 5)) (.int 2) ∈ fFl := by decide +kernel
theorem fl_LEVEL_OF_6 : Cond.eq (.elem (.static "RowStore" "LEVEL_OF" "[I") (.int 6)) (.int 3) ∈ fFl := by decide +kernel
theorem fl_LEVEL_OF_7 : Cond.eq (.elem (.static "RowStore" "LEVEL_OF" "[I") (.int 7)) (.int 3) ∈ fFl := by decide +kernel
theorem fl_LEVEL_OF_8 : Cond.eq (.elem (.static "RowStore" "LEVEL_OF" "[I") (.int 8)) (.int 4) ∈ fFl := by decide +kernel
theorem fl_LEVEL_OF_9 : Cond.eq (.elem (.static "RowStore" "LEVEL_OF" "[I") (.int 9)) (.int 4) ∈ fFl := by decide +kernel
theorem fl_LEVEL_OF_10 : Cond.eq (.elem (.static "RowStore" "LEVEL_OF" "[I") (.int 10)) (.int 5) ∈ fFl := by decide +kernel
theorem fl_LEVEL_OF_11 : Cond.eq (.elem (.static "RowStore" "LEVEL_OF" "[I") (.int 11)) (.int 5) ∈ fFl := by decide +kernel
theorem fl_LEVEL_OF_12 : Cond.eq (.elem (.static "RowStore" "LEVEL_OF" "[I") (.int 12)) (.int 6) ∈ fFl := by decide +kernel
theorem fl_LEVEL_OF_13 : Cond.eq (.elem (.static "RowStore" "LEVEL_OF" "[I") (.int 13)) (.int 6) ∈ fFl := by decide +kernel
theorem fl_LEVEL_OF_14 : Cond.eq (.elem (.static "RowStore" "LEVEL_OF" "[I") (.int 14)) (.int 7) ∈ fFl := by decide +kernel
theorem fl_LEVEL_OF_15 : Cond.eq (.elem (.static "RowStore" "LEVEL_OF" "[I") (.int 15)) (.int 7) ∈ fFl := by decide +kernel
theorem fl_LEVEL_OF_16 : Cond.eq (.elem (.static "RowStore" "LEVEL_OF" "[I") (.int 16)) (.int 8) ∈ fFl := by decide +kernel
theorem fl_LEVEL_OF_17 : Cond.eq (.elem (.static "RowStore" "LEVEL_OF" "[I") (.int 17)) (.int 8) ∈ fFl := by decide +kernel
theorem fl_LEVEL_OF_18 : Cond.eq (.elem (.static "RowStore" "LEVEL_OF" "[I") (.int 18)) (.int 8) ∈ fFl := by decide +kernel
theorem fl_UNASSIGNED_STACK : Cond.isRef (.static Bundle.tN "UNASSIGNED_STACK" Bundle.steD) ∈ fFl := by decide +kernel
theorem fl_SUPPRESSED_SENTINEL : Cond.isRef (.static Bundle.tN "SUPPRESSED_SENTINEL" Bundle.listD) ∈ fFl := by decide +kernel
theorem fl_nc : Cond.not (.castable "java/lang/IllegalArgumentException" "java/util/NoSuchElementException") ∈ fFl := by decide +kernel
theorem fl_s157 : Cond.exactly (.string "RowStore" 157) "java/lang/String" ∈ fFl := by decide +kernel
theorem fl_s181 : Cond.exactly (.string "RowStore" 181) "java/lang/String" ∈ fFl := by decide +kernel
theorem fl_s259 : Cond.exactly (.string "RowStore" 259) "java/lang/String" ∈ fFl := by decide +kernel
theorem fl_s274 : Cond.exactly (.string "RowStore" 274) "java/lang/String" ∈ fFl := by decide +kernel
theorem fl_s319 : Cond.exactly (.string "RowStore" 319) "java/lang/String" ∈ fFl := by decide +kernel
theorem fl_s403 : Cond.exactly (.string "RowStore" 403) "java/lang/String" ∈ fFl := by decide +kernel
theorem fl_s409 : Cond.exactly (.string "RowStore" 409) "java/lang/String" ∈ fFl := by decide +kernel
theorem fl_s411 : Cond.exactly (.string "RowStore" 411) "java/lang/String" ∈ fFl := by decide +kernel
theorem fl_s413 : Cond.exactly (.string "RowStore" 413) "java/lang/String" ∈ fFl := by decide +kernel
theorem fl_s421 : Cond.exactly (.string "RowStore" 421) "java/lang/String" ∈ fFl := by decide +kernel
theorem fl_s423 : Cond.exactly (.string "RowStore" 423) "java/lang/String" ∈ fFl := by decide +kernel
theorem fl_s427 : Cond.exactly (.string "RowStore" 427) "java/lang/String" ∈ fFl := by decide +kernel
theorem tb_ls : Cond.laysStatic "RowStore" "FIRST_ROW" "[I" ∈ lw_tbl ∧ Cond.laysStatic "RowStore" "END_ROW" "[I" ∈ lw_tbl ∧ Cond.laysStatic "RowStore" "LEVEL_OF" "[I" ∈ lw_tbl ∧ Cond.laysStatic Bundle.tN "UNASSIGNED_STACK" Bundle.steD ∈ lw_tbl ∧ Cond.laysStatic Bundle.tN "SUPPRESSED_SENTINEL" Bundle.listD ∈ lw_tbl ∧ Cond.initialized Bundle.tN ∈ lw_tbl ∧ Cond.initialized "RowStore" ∈ lw_tbl := ⟨List.mem_of_getElem? (i := 331) (by decide +kernel), List.mem_of_getElem? (i := 333) (by decide +kernel), List.mem_of_getElem? (i := 133) (by decide +kernel), List.mem_of_getElem? (i := 738) (by decide +kernel), List.mem_of_getElem? (i := 740) (by decide +kernel), List.mem_of_getElem? (i := 102) (by decide +kernel), List.mem_of_getElem? (i := 89) (by decide +kernel)⟩
theorem tb_ao_Entries : Cond.arrayOver (.object "RowStore$Entries") ∈ lw_tbl := List.mem_of_getElem? (i := 328) (by decide +kernel)
theorem tb_ao_Merge : Cond.arrayOver (.object "RowStore$Merge") ∈ lw_tbl := List.mem_of_getElem? (i := 200) (by decide +kernel)
theorem tb_ao_Row : Cond.arrayOver (.object "RowStore$Row") ∈ lw_tbl := List.mem_of_getElem? (i := 130) (by decide +kernel)
theorem tb_ao_Shelf : Cond.arrayOver (.object "RowStore$Shelf") ∈ lw_tbl := List.mem_of_getElem? (i := 288) (by decide +kernel)
theorem tb_ng : ∀ w ∈ fNg, w ∈ lw_tbl := by decide +kernel
theorem tb_s157 : Cond.stringRef "RowStore" 157 "no such row on the route" ∈ lw_tbl := List.mem_of_getElem? (i := 914) (by decide +kernel)
theorem tb_s181 : Cond.stringRef "RowStore" 181 "no such key is there" ∈ lw_tbl := List.mem_of_getElem? (i := 930) (by decide +kernel)
theorem tb_s259 : Cond.stringRef "RowStore" 259 "no such thing" ∈ lw_tbl := List.mem_of_getElem? (i := 1005) (by decide +kernel)
theorem tb_s274 : Cond.stringRef "RowStore" 274 "no such entry" ∈ lw_tbl := List.mem_of_getElem? (i := 1015) (by decide +kernel)
theorem tb_s319 : Cond.stringRef "RowStore" 319 "no such act" ∈ lw_tbl := List.mem_of_getElem? (i := 1065) (by decide +kernel)
theorem tb_s403 : Cond.stringRef "RowStore" 403 "no such view is taken" ∈ lw_tbl := List.mem_of_getElem? (i := 1141) (by decide +kernel)
theorem tb_s409 : Cond.stringRef "RowStore" 409 "the row is not shut" ∈ lw_tbl := List.mem_of_getElem? (i := 891) (by decide +kernel)
theorem tb_s411 : Cond.stringRef "RowStore" 411 "no such key" ∈ lw_tbl := List.mem_of_getElem? (i := 751) (by decide +kernel)
theorem tb_s413 : Cond.stringRef "RowStore" 413 "no such level" ∈ lw_tbl := List.mem_of_getElem? (i := 887) (by decide +kernel)
theorem tb_s421 : Cond.stringRef "RowStore" 421 "no such row" ∈ lw_tbl := List.mem_of_getElem? (i := 889) (by decide +kernel)
theorem tb_s423 : Cond.stringRef "RowStore" 423 "no such what" ∈ lw_tbl := List.mem_of_getElem? (i := 913) (by decide +kernel)
theorem tb_s427 : Cond.stringRef "RowStore" 427 "not so many acts ahead" ∈ lw_tbl := List.mem_of_getElem? (i := 1090) (by decide +kernel)
theorem fArr {s : State} {args : Array Value} {ty : FieldType} (h : (Cond.arrayClass ty).before args s = true) : ∃ c : ClassId, ArrOfT s c ty ∧ s.vm.findClass ("[" ++ ty.toString) = some c := by
  obtain ⟨c, k, comp, h1, h2, h3⟩ := Cond.arrayClass_spec h
  exact ⟨c, fun N z => ⟨(fun k h => by cases h), k, h2, comp, h3⟩, h1⟩
theorem fArrO {s : State} {args : Array Value} {C : String} (h : (Cond.arrayOver (.object C)).before args s = true) : ∃ c : ClassId, ArrOfT s c (.object C) ∧ va_RA s c (.object C) := by
  obtain ⟨comp, c, k, h1, h2, h3, h4, h5⟩ := Cond.arrayOver_spec h
  exact ⟨c, fun N z => ⟨(fun k h => by cases h), k, h3, comp, h4⟩, k, comp, h3, h4, h1, h5⟩
theorem fStat {s : State} {args : Array Value} {n : String} {N : Nat} {f : Nat → Value} {A : Nat → Prop} (hA : ∀ a : Nat, a < s.heap.size → ¬ A a) (hN : N < 2 ^ 31) (hl : (Cond.laysStatic "RowStore" n "[I").before args s = true) (hi : (Cond.initialized "RowStore").before args s = true) (ha : (Cond.arrayOf (.static "RowStore" n "[I") .int).before args s = true) (hlen : (Cond.eq (.length (.static "RowStore" n "[I")) (.int (Int32.ofNat N))).before args s = true) (hel : ∀ j : Nat, j < N → (Term.elem (.static "RowStore" n "[I") (.int (Int32.ofNat j))).eval args s none [] s = some (f j)) : ∃ t : Nat, va_Z "RowStore" n "[I" (.ref t) A s s.heap ∧ va_T .int t N f A s s.heap := by
  obtain ⟨t, h1, h2⟩ := va_Tof (f := f) hN ha (va_eqt hlen) hel hA
  exact ⟨t, va_Zof hl hi h1 hA, h2⟩
set_option maxRecDepth 100000 in
set_option maxHeartbeats 4000000 in
theorem fStart {p : Program} {s : State} {m : MethodId} {meth : Method} {c : Code} (l : Launch) (hflags : l.flags = flags0) {b L : Nat} {xs : Nat → Int32} (C0 : lw_At p s m meth c b L xs) : ∃ G : fG, gl G = l ∧ gb G = s.heap.size ∧ gbt G = false ∧ gsb G = b ∧ gsn G = L ∧ gsx G = xs ∧ fCx G mL_law p s m #[Value.ref b] meth c s.heap.size := by
  obtain ⟨hx, hb, hr, hml, hown, hts, hX, hbl, hlocks, hgv⟩ := C0
  have hs := flat_of_before _ hgv
  have hT : ∀ w ∈ fT, w.before #[Value.ref b] s = true := fun w hw => hts w (List.mem_filter.mp hw).1
  obtain ⟨c0, i0, k0⟩ := u_known (C := RX0) (T := TX0) (N := 10) (n := 10) hT clX0.2.1 (hT _ wi_0)
  obtain ⟨c1, i1, k1⟩ := u_known (C := RX1) (T := TX1) (N := 5) (n := 5) hT clX1.2.1 (hT _ wi_1)
  obtain ⟨c2, i2, k2⟩ := u_known (C := RX2) (T := TX2) (N := 3) (n := 3) hT clX2.2.1 (hT _ wi_2)
  obtain ⟨c3, i3, k3⟩ := u_known (C := RX3) (T := TX3) (N := 1) (n := 1) hT clX3.2.1 (hT _ wi_3)
  obtain ⟨c4, i4, k4⟩ := u_known (C := RX4) (T := TX4) (N := 9) (n := 9) hT clX4.2.1 (hT _ wi_4)
  obtain ⟨c5, i5, k5⟩ := u_known (C := RX5) (T := TX5) (N := 6) (n := 6) hT clX5.2.1 (hT _ wi_5)
  obtain ⟨c6, i6, k6⟩ := u_known (C := RX6) (T := TX6) (N := 6) (n := 6) hT clX6.2.1 (hT _ wi_6)
  obtain ⟨c7, i7, k7⟩ := u_known (C := RX7) (T := TX7) (N := 3) (n := 3) hT clX7.2.1 (hT _ wi_7)
  obtain ⟨c8, i8, k8⟩ := u_known (C := RX8) (T := TX8) (N := 2) (n := 2) hT clX8.2.1 (hT _ wi_8)
  obtain ⟨c9, i9, k9⟩ := u_known (C := RX9) (T := TX9) (N := 3) (n := 3) hT clX9.2.1 (hT _ wi_9)
  obtain ⟨c10, i10, k10⟩ := u_known (C := RX10) (T := TX10) (N := 12) (n := 12) hT clX10.2.1 (hT _ wi_10)
  obtain ⟨c11, i11, k11⟩ := u_known (C := RX11) (T := TX11) (N := 27) (n := 27) hT clX11.2.1 (hT _ wi_11)
  obtain ⟨a12, r12, q12⟩ := fArr (hT _ wa_12)
  obtain ⟨a13, r13, q13⟩ := fArr (hT _ wa_13)
  obtain ⟨a18, r18, q18⟩ := fArr (hT _ wa_18)
  obtain ⟨a14, r14, q14⟩ := fArrO (hts _ tb_ao_Entries)
  obtain ⟨a15, r15, q15⟩ := fArrO (hts _ tb_ao_Merge)
  obtain ⟨a16, r16, q16⟩ := fArrO (hts _ tb_ao_Row)
  obtain ⟨a17, r17, q17⟩ := fArrO (hts _ tb_ao_Shelf)
  have hAA : ∀ a : Nat, a < s.heap.size → ¬ fA s.heap.size 440 s.heap.size a := fun a ha h => by
    rcases h with h | h
    · exact absurd h.1 (by omega)
    · omega
  obtain ⟨t0, z0, y0⟩ := fStat (f := fun i => iv (SV 0 i)) (N := 9) hAA (by decide) (hts _ tb_ls.1) (hts _ tb_ls.2.2.2.2.2.2) (hs _ fl_FIRST_ROW_r.2.1) (hs _ fl_FIRST_ROW_r.2.2) (fun j hj => by
    match j, hj with
    | 0, _ => exact va_eqt (hs _ fl_FIRST_ROW_0)
    | 1, _ => exact va_eqt (hs _ fl_FIRST_ROW_1)
    | 2, _ => exact va_eqt (hs _ fl_FIRST_ROW_2)
    | 3, _ => exact va_eqt (hs _ fl_FIRST_ROW_3)
    | 4, _ => exact va_eqt (hs _ fl_FIRST_ROW_4)
    | 5, _ => exact va_eqt (hs _ fl_FIRST_ROW_5)
    | 6, _ => exact va_eqt (hs _ fl_FIRST_ROW_6)
    | 7, _ => exact va_eqt (hs _ fl_FIRST_ROW_7)
    | 8, _ => exact va_eqt (hs _ fl_FIRST_ROW_8)
    | j + 9, hj => omega)
  obtain ⟨t1, z1, y1⟩ := fStat (f := fun i => iv (SV 1 i)) (N := 9) hAA (by decide) (hts _ tb_ls.2.1) (hts _ tb_ls.2.2.2.2.2.2) (hs _ fl_END_ROW_r.2.1) (hs _ fl_END_ROW_r.2.2) (fun j hj => by
    match j, hj with
    | 0, _ => exact va_eqt (hs _ fl_END_ROW_0)
    | 1, _ => exact va_eqt (hs _ fl_END_ROW_1)
    | 2, _ => exact va_eqt (hs _ fl_END_ROW_2)
    | 3, _ => exact va_eqt (hs _ fl_END_ROW_3)
    | 4, _ => exact va_eqt (hs _ fl_END_ROW_4)
    | 5, _ => exact va_eqt (hs _ fl_END_ROW_5)
    | 6, _ => exact va_eqt (hs _ fl_END_ROW_6)
    | 7, _ => exact va_eqt (hs _ fl_END_ROW_7)
    | 8, _ => exact va_eqt (hs _ fl_END_ROW_8)
    | j + 9, hj => omega)
  obtain ⟨t2, z2, y2⟩ := fStat (f := fun i => iv (SV 2 i)) (N := 19) hAA (by decide) (hts _ tb_ls.2.2.1) (hts _ tb_ls.2.2.2.2.2.2) (hs _ fl_LEVEL_OF_r.2.1) (hs _ fl_LEVEL_OF_r.2.2) (fun j hj => by
    match j, hj with
    | 0, _ => exact va_eqt (hs _ fl_LEVEL_OF_0)
    | 1, _ => exact va_eqt (hs _ fl_LEVEL_OF_1)
    | 2, _ => exact va_eqt (hs _ fl_LEVEL_OF_2)
    | 3, _ => exact va_eqt (hs _ fl_LEVEL_OF_3)
    | 4, _ => exact va_eqt (hs _ fl_LEVEL_OF_4)
    | 5, _ => exact va_eqt (hs _ fl_LEVEL_OF_5)
    | 6, _ => exact va_eqt (hs _ fl_LEVEL_OF_6)
    | 7, _ => exact va_eqt (hs _ fl_LEVEL_OF_7)
    | 8, _ => exact va_eqt (hs _ fl_LEVEL_OF_8)
    | 9, _ => exact va_eqt (hs _ fl_LEVEL_OF_9)
    | 10, _ => exact va_eqt (hs _ fl_LEVEL_OF_10)
    | 11, _ => exact va_eqt (hs _ fl_LEVEL_OF_11)
    | 12, _ => exact va_eqt (hs _ fl_LEVEL_OF_12)
    | 13, _ => exact va_eqt (hs _ fl_LEVEL_OF_13)
    | 14, _ => exact va_eqt (hs _ fl_LEVEL_OF_14)
    | 15, _ => exact va_eqt (hs _ fl_LEVEL_OF_15)
    | 16, _ => exact va_eqt (hs _ fl_LEVEL_OF_16)
    | 17, _ => exact va_eqt (hs _ fl_LEVEL_OF_17)
    | 18, _ => exact va_eqt (hs _ fl_LEVEL_OF_18)
    | j + 19, hj => omega)
  refine ⟨(l, ((fun k => if k = 0 then c0 else if k = 1 then c1 else if k = 2 then c2 else if k = 3 then c3 else if k = 4 then c4 else if k = 5 then c5 else if k = 6 then c6 else if k = 7 then c7 else if k = 8 then c8 else if k = 9 then c9 else if k = 10 then c10 else c11, fun k => if k = 0 then i0 else if k = 1 then i1 else if k = 2 then i2 else if k = 3 then i3 else if k = 4 then i4 else if k = 5 then i5 else if k = 6 then i6 else if k = 7 then i7 else if k = 8 then i8 else if k = 9 then i9 else if k = 10 then i10 else i11) : va_G), fun k => if k = 12 then a12 else if k = 13 then a13 else if k = 14 then a14 else if k = 15 then a15 else if k = 16 then a16 else if k = 17 then a17 else a18, (fun k => if k = 0 then t0 else if k = 1 then t1 else t2), s.heap.size, false, b, L, xs), rfl, rfl, rfl, rfl, rfl, rfl, ?_⟩
  have hst : l.stackTraces = false := by
    unfold Launch.stackTraces
    rw [hflags]
    decide +kernel
  refine ⟨hx, hb, hr, hml, hown, hT, hlocks, ⟨fun _ _ => rfl, fun _ h => absurd rfl h⟩, hst, rfl, ⟨?_, ?_⟩, ⟨?_, ⟨?_, ?_⟩, ?_, ?_, ?_, ?_, ?_, ?_, ?_⟩, fun h => absurd h (by decide +kernel)⟩
  · intro k q hq
    match k, hq with
    | 0, hq => cases hq; exact k0
    | 1, hq => cases hq; exact k1
    | 2, hq => cases hq; exact k2
    | 3, hq => cases hq; exact k3
    | 4, hq => cases hq; exact k4
    | 5, hq => cases hq; exact k5
    | 6, hq => cases hq; exact k6
    | 7, hq => cases hq; exact k7
    | 8, hq => cases hq; exact k8
    | 9, hq => cases hq; exact k9
    | 10, hq => cases hq; exact k10
    | 11, hq => cases hq; exact k11
    | k + 12, hq => simp [vwCl] at hq
  · intro k q hq
    match k, hq with
    | 0, hq => cases hq; exact ⟨r12, q12⟩
    | 1, hq => cases hq; exact ⟨r13, q13⟩
    | 2, hq => cases hq; exact ⟨r14, q14⟩
    | 3, hq => cases hq; exact ⟨r15, q15⟩
    | 4, hq => cases hq; exact ⟨r16, q16⟩
    | 5, hq => cases hq; exact ⟨r17, q17⟩
    | 6, hq => cases hq; exact ⟨r18, q18⟩
    | k + 7, hq => simp [fTys] at hq
  · intro j hj
    match j, hj with
    | 0, _ => exact ⟨z0, y0⟩
    | 1, _ => exact ⟨z1, y1⟩
    | 2, _ => exact ⟨z2, y2⟩
    | j + 3, hj => omega
  · exact vx_Zqof (hts _ tb_ls.2.2.2.1) (hts _ tb_ls.2.2.2.2.2.1) (hs _ fl_UNASSIGNED_STACK) hAA
  · exact vx_Zqof (hts _ tb_ls.2.2.2.2.1) (hts _ tb_ls.2.2.2.2.2.1) (hs _ fl_SUPPRESSED_SENTINEL) hAA
  · exact fun w hw => va_Nw.of (fNg_on w hw) (hts w (tb_ng w hw))
  · intro q hq
    simp only [fStr, List.mem_cons, List.not_mem_nil, or_false] at hq
    rcases hq with rfl | rfl | rfl | rfl | rfl | rfl | rfl | rfl | rfl | rfl | rfl | rfl
    · obtain ⟨sa, _, _, _, h9, _⟩ := Cond.exactly_spec (hs _ fl_s157)
      exact ⟨sa, vk_R.of (hts _ tb_s157) h9⟩
    · obtain ⟨sa, _, _, _, h9, _⟩ := Cond.exactly_spec (hs _ fl_s181)
      exact ⟨sa, vk_R.of (hts _ tb_s181) h9⟩
    · obtain ⟨sa, _, _, _, h9, _⟩ := Cond.exactly_spec (hs _ fl_s259)
      exact ⟨sa, vk_R.of (hts _ tb_s259) h9⟩
    · obtain ⟨sa, _, _, _, h9, _⟩ := Cond.exactly_spec (hs _ fl_s274)
      exact ⟨sa, vk_R.of (hts _ tb_s274) h9⟩
    · obtain ⟨sa, _, _, _, h9, _⟩ := Cond.exactly_spec (hs _ fl_s319)
      exact ⟨sa, vk_R.of (hts _ tb_s319) h9⟩
    · obtain ⟨sa, _, _, _, h9, _⟩ := Cond.exactly_spec (hs _ fl_s403)
      exact ⟨sa, vk_R.of (hts _ tb_s403) h9⟩
    · obtain ⟨sa, _, _, _, h9, _⟩ := Cond.exactly_spec (hs _ fl_s409)
      exact ⟨sa, vk_R.of (hts _ tb_s409) h9⟩
    · obtain ⟨sa, _, _, _, h9, _⟩ := Cond.exactly_spec (hs _ fl_s411)
      exact ⟨sa, vk_R.of (hts _ tb_s411) h9⟩
    · obtain ⟨sa, _, _, _, h9, _⟩ := Cond.exactly_spec (hs _ fl_s413)
      exact ⟨sa, vk_R.of (hts _ tb_s413) h9⟩
    · obtain ⟨sa, _, _, _, h9, _⟩ := Cond.exactly_spec (hs _ fl_s421)
      exact ⟨sa, vk_R.of (hts _ tb_s421) h9⟩
    · obtain ⟨sa, _, _, _, h9, _⟩ := Cond.exactly_spec (hs _ fl_s423)
      exact ⟨sa, vk_R.of (hts _ tb_s423) h9⟩
    · obtain ⟨sa, _, _, _, h9, _⟩ := Cond.exactly_spec (hs _ fl_s427)
      exact ⟨sa, vk_R.of (hts _ tb_s427) h9⟩
  · intro C hC
    simp only [fAO, List.mem_cons, List.not_mem_nil, or_false] at hC
    rcases hC with rfl | rfl | rfl | rfl
    · exact va_AO.of (hts _ tb_ao_Entries)
    · exact va_AO.of (hts _ tb_ao_Merge)
    · exact va_AO.of (hts _ tb_ao_Row)
    · exact va_AO.of (hts _ tb_ao_Shelf)
  · exact va_Nc.of (hs _ fl_nc)
  · exact hX
  · exact hbl
  · exact hAA b hbl
/-- what is left: a fact of numbers -/
def fPure : Prop := ∀ (sc : Int → Int) (sn : Int), (∀ i, rg (sc i)) → 0 ≤ sn → sn ≤ 3072 → ∃ M2 M4 : fMem, f_X10_init 0 (mnew (fun _ _ => 0)) = some M2 ∧ M2 440 0 = 418 ∧ f_X11_init 418 (mnew M2) = some M4 ∧ M4 440 0 = 439 ∧ fAll (mnew M4) ∧ L_law sc sn 600 0 (mnew M4) = some 1
set_option maxHeartbeats 4000000 in
theorem start_of (hp : fPure) {p : Program} {e : Env} {s : State} {m : MethodId} {below : List Frame} {meth : Method} {c : Code} (l : Launch) (hflags : l.flags = flags0) {b L : Nat} {xs : Nat → Int32} (hL : L ≤ 3072) (C0 : lw_At p s m meth c b L xs) : W p l e room_1 s m #[Value.ref b] below meth c s.heap [] 0 0 (lw_Z below #[Value.ref b] s) (entryFrame m ([Value.ref b] : List Value).toArray 7) := by
  obtain ⟨G, rfl, h2, h3, rfl, rfl, h6, hC⟩ := fStart l hflags C0
  obtain ⟨M2, M4, p1, p2, p3, p4, p5, p6⟩ := hp (scr G) (gsn G) (rg_scr G) (by omega) (by omega)
  have hk : fW (gBt G) mL_law (fEL (gBt G)) 604 183005 23 [some (.ref (gsb G)), some (rv G 0), some (rv G 418), some (rv G 439), some (iv 0), none, none] [] (mnew M4) :=
    l_law (G := gBt G) rfl hL (sc := scr G) (sn := gsn G) rfl rfl (rg_scr G) 600 (by omega) 0 (mnew M4) (by omega) (by omega) p6
  have hW : fW G mL_law (fEL G) 0 0 0 [some (.ref (gsb G)), none, none, none, none, none, none] [] (fun _ _ => 0) := t_pro h3 rfl p1 p2 p3 p4 (fW_build h3 p5 hk)
  rw [lg_entry_eq]
  have hls := lv_entry ([Value.ref (gsb G)] : List Value) (n := 7) (Nat.le_of_ble_eq_true rfl)
  have hfl : fLs (lg_sl ([Value.ref (gsb G)] : List Value) ++ List.replicate (7 - (lg_sl ([Value.ref (gsb G)] : List Value)).length) Slot.unset).toArray 7 [some (.ref (gsb G)), none, none, none, none, none, none] := by
    refine ⟨⟨hls.1, hls.2.1, fun q hq => ?_⟩, rfl, fun v hv => ?_⟩
    · obtain ⟨i, v⟩ := q
      have h1 := fEn_mem.mp hq
      refine hls.2.2 (i, v) ?_
      match i, h1 with
      | 0, h1 => simp at h1; subst h1; simp [lv_args]
      | 1, h1 => simp at h1
      | 2, h1 => simp at h1
      | 3, h1 => simp at h1
      | 4, h1 => simp at h1
      | 5, h1 => simp at h1
      | 6, h1 => simp at h1
      | i + 7, h1 => simp at h1
    · simp at hv
      subst hv
      rfl
  have hP : fP G (fun _ _ => 0) s.heap := by
    have hN : gN G (fun _ _ => 0) = 0 := by rw [gN_un h3]; rfl
    refine ⟨fun k q hq => ?_, fun _ _ => show rg 0 by decide, by omega, fun _ => by omega⟩
    obtain ⟨h9, -⟩ := fWs_inv hq
    omega
  have h9 := hW p e s m #[Value.ref (gsb G)] below meth c s.heap [] _ s.heap.size hC hP va_S.rf hfl
  intro T hT X
  obtain ⟨t, a1, a2⟩ := h9 T hT X
  exact ⟨t, a1, a2 ⟨rfl, h2.symm⟩⟩
end STA
