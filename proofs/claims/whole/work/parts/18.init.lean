section INI
theorem fFv_ref {G : fG} {M : fMem} {o ci j u r : Nat} (hr : fRt ci j = some u) (h : M o (j : Int) = 1) (c : Rf o (j : Int) = r) : fFv G M o ci j = .ref (gb G + r) := by
  simp [fFv, hr, gRf, h, c, va_rf]
theorem wc_109 : Cond.classLink RL 8 "RowStore" ∈ fT := fM 109 (by decide +kernel) rfl
theorem wc_117 : Cond.classLink RX10 7 "RowStore$Engine" ∈ fT := fM 117 (by decide +kernel) rfl
theorem wc_123 : Cond.classLink RX0 9 "RowStore$Shelf" ∈ fT := fM 123 (by decide +kernel) rfl
theorem wc_129 : Cond.classLink RX7 9 "RowStore$Row" ∈ fT := fM 129 (by decide +kernel) rfl
theorem wc_199 : Cond.classLink RX0 18 "RowStore$Merge" ∈ fT := fM 199 (by decide +kernel) rfl
theorem wc_287 : Cond.classLink RX10 19 "RowStore$Shelf" ∈ fT := fM 287 (by decide +kernel) rfl
theorem wc_289 : Cond.classLink RX10 29 "RowStore$Tape" ∈ fT := fM 289 (by decide +kernel) rfl
theorem wc_304 : Cond.classLink RX10 36 "RowStore$Tolls" ∈ fT := fM 304 (by decide +kernel) rfl
theorem wc_321 : Cond.classLink RX10 43 "RowStore$Index" ∈ fT := fM 321 (by decide +kernel) rfl
theorem wc_327 : Cond.classLink RX3 9 "RowStore$Entries" ∈ fT := fM 327 (by decide +kernel) rfl
theorem wc_367 : Cond.classLink RX10 50 "RowStore$Path" ∈ fT := fM 367 (by decide +kernel) rfl
theorem wc_398 : Cond.classLink RX10 57 "RowStore$Holdings" ∈ fT := fM 398 (by decide +kernel) rfl
theorem wc_703 : Cond.classLink RL 13 "java/util/NoSuchElementException" ∈ fT := fM 703 (by decide +kernel) rfl
theorem wc_711 : Cond.classLink RX10 155 "java/util/NoSuchElementException" ∈ fT := fM 711 (by decide +kernel) rfl
theorem wc_1073 : Cond.classLink RL 65 "java/lang/IllegalArgumentException" ∈ fT := fM 1073 (by decide +kernel) rfl
theorem wc_1081 : Cond.classLink RX10 425 "java/lang/IllegalArgumentException" ∈ fT := fM 1081 (by decide +kernel) rfl
theorem wc_1168 : Cond.classLink RL 83 "RowStoreModel" ∈ fT := fM 1168 (by decide +kernel) rfl
theorem wi_0 : Cond.instantiable RX0 10 ∈ fT := fM 118 (by decide +kernel) rfl
theorem wn_0 : Cond.initialized RX0 ∈ fT := fM 90 (by decide +kernel) rfl
theorem dfX0 : ∀ j, j < 10 → defaultValue (tyX0 j) = if (fRt 0 j).isSome then .null else .int 0 := by decide +kernel
theorem wi_1 : Cond.instantiable RX1 5 ∈ fT := fM 334 (by decide +kernel) rfl
theorem wn_1 : Cond.initialized RX1 ∈ fT := fM 98 (by decide +kernel) rfl
theorem dfX1 : ∀ j, j < 5 → defaultValue (tyX1 j) = if (fRt 1 j).isSome then .null else .int 0 := by decide +kernel
theorem wi_2 : Cond.instantiable RX2 3 ∈ fT := fM 399 (by decide +kernel) rfl
theorem wn_2 : Cond.initialized RX2 ∈ fT := fM 100 (by decide +kernel) rfl
theorem dfX2 : ∀ j, j < 3 → defaultValue (tyX2 j) = if (fRt 2 j).isSome then .null else .int 0 := by decide +kernel
theorem wi_3 : Cond.instantiable RX3 1 ∈ fT := fM 322 (by decide +kernel) rfl
theorem wn_3 : Cond.initialized RX3 ∈ fT := fM 97 (by decide +kernel) rfl
theorem dfX3 : ∀ j, j < 1 → defaultValue (tyX3 j) = if (fRt 3 j).isSome then .null else .int 0 := by decide +kernel
theorem wi_4 : Cond.instantiable RX4 9 ∈ fT := fM 201 (by decide +kernel) rfl
theorem wn_4 : Cond.initialized RX4 ∈ fT := fM 94 (by decide +kernel) rfl
theorem dfX4 : ∀ j, j < 9 → defaultValue (tyX4 j) = if (fRt 4 j).isSome then .null else .int 0 := by decide +kernel
theorem wi_5 : Cond.instantiable RX5 6 ∈ fT := fM 368 (by decide +kernel) rfl
theorem wn_5 : Cond.initialized RX5 ∈ fT := fM 99 (by decide +kernel) rfl
theorem dfX5 : ∀ j, j < 6 → defaultValue (tyX5 j) = if (fRt 5 j).isSome then .null else .int 0 := by decide +kernel
theorem wi_6 : Cond.instantiable RX6 6 ∈ fT := fM 131 (by decide +kernel) rfl
theorem wn_6 : Cond.initialized RX6 ∈ fT := fM 92 (by decide +kernel) rfl
theorem dfX6 : ∀ j, j < 6 → defaultValue (tyX6 j) = if (fRt 6 j).isSome then .null else .int 0 := by decide +kernel
theorem wi_7 : Cond.instantiable RX7 3 ∈ fT := fM 124 (by decide +kernel) rfl
theorem wn_7 : Cond.initialized RX7 ∈ fT := fM 91 (by decide +kernel) rfl
theorem dfX7 : ∀ j, j < 3 → defaultValue (tyX7 j) = if (fRt 7 j).isSome then .null else .int 0 := by decide +kernel
theorem wi_8 : Cond.instantiable RX8 2 ∈ fT := fM 290 (by decide +kernel) rfl
theorem wn_8 : Cond.initialized RX8 ∈ fT := fM 95 (by decide +kernel) rfl
theorem dfX8 : ∀ j, j < 2 → defaultValue (tyX8 j) = if (fRt 8 j).isSome then .null else .int 0 := by decide +kernel
theorem wi_9 : Cond.instantiable RX9 3 ∈ fT := fM 305 (by decide +kernel) rfl
theorem wn_9 : Cond.initialized RX9 ∈ fT := fM 96 (by decide +kernel) rfl
theorem dfX9 : ∀ j, j < 3 → defaultValue (tyX9 j) = if (fRt 9 j).isSome then .null else .int 0 := by decide +kernel
theorem wi_10 : Cond.instantiable RX10 12 ∈ fT := fM 110 (by decide +kernel) rfl
theorem wn_10 : Cond.initialized RX10 ∈ fT := fM 89 (by decide +kernel) rfl
theorem dfX10 : ∀ j, j < 12 → defaultValue (tyX10 j) = if (fRt 10 j).isSome then .null else .int 0 := by decide +kernel
theorem wi_11 : Cond.instantiable RX11 27 ∈ fT := fM 1169 (by decide +kernel) rfl
theorem wn_11 : Cond.initialized RX11 ∈ fT := fM 101 (by decide +kernel) rfl
theorem dfX11 : ∀ j, j < 27 → defaultValue (tyX11 j) = if (fRt 11 j).isSome then .null else .int 0 := by decide +kernel
theorem wa_12 : Cond.arrayClass .int ∈ fT := fM 179 (by decide +kernel) rfl
theorem wa_13 : Cond.arrayClass .boolean ∈ fT := fM 303 (by decide +kernel) rfl
theorem wa_18 : Cond.arrayClass .long ∈ fT := fM 1652 (by decide +kernel) rfl
def mX6_init : fMt := (yX6_init, cX6_init, 2, none, { frames := 1, cells := 2, slots := 400, locals := 40 })
theorem miX6_init : fMn mX6_init 1 := ⟨⟨fM 142 (by decide +kernel) rfl, fM 92 (by decide +kernel) rfl, ⟨by decide +kernel, by decide +kernel⟩, by decide +kernel⟩, fM 141 (by decide +kernel) rfl, rfl⟩
def f_X6_init (o : Nat) (a1 : Int) (M : fMem) : Option fMem := (if Ty o = 6 ∧ ((o : Nat) : Int) < M 440 0 then ((some (mset M o 2 0) : Option fMem).bind fun (M2 : fMem) => (if Ty o = 6 ∧ ((o : Nat) : Int) < M2 440 0 then ((some (mset M2 o 3 0) : Option fMem).bind fun (M4 : fMem) => (if Ty o = 6 ∧ ((o : Nat) : Int) < M4 440 0 then ((some (mset M4 o 4 0) : Option fMem).bind fun (M6 : fMem) => (if Ty o = 6 ∧ ((o : Nat) : Int) < M6 440 0 then ((some (mset M6 o 5 0) : Option fMem).bind fun (M8 : fMem) => (if 0 ≤ M8 440 0 ∧ M8 440 0 < 440 ∧ Ty (M8 440 0).toNat = 12 ∧ Ln (M8 440 0).toNat = max a1 0 then (if max a1 0 ≤ 200 then ((some (mnew M8) : Option fMem).bind fun (M11 : fMem) => (if Ty o = 6 ∧ ((o : Nat) : Int) < M11 440 0 then (if Rf o 0 = (M8 440 0).toNat then ((some (mset M11 o 0 1) : Option fMem).bind fun (M14 : fMem) => (if 0 ≤ M14 440 0 ∧ M14 440 0 < 440 ∧ Ty (M14 440 0).toNat = 12 ∧ Ln (M14 440 0).toNat = max a1 0 then (if max a1 0 ≤ 200 then ((some (mnew M14) : Option fMem).bind fun (M17 : fMem) => (if Ty o = 6 ∧ ((o : Nat) : Int) < M17 440 0 then (if Rf o 1 = (M14 440 0).toNat then ((some (mset M17 o 1 1) : Option fMem).bind fun (M20 : fMem) => some M20) else none) else none)) else none) else none)) else none) else none)) else none) else none)) else none)) else none)) else none)) else none)
set_option maxRecDepth 100000 in
set_option maxHeartbeats 4000000 in
theorem s_X6_init {G : fG} (hg : gbt G = false) {o : Nat} {a1 : Int} (ga1 : rg a1) {M : fMem} {q : fMem} (h : f_X6_init o a1 M = some q) : fSp G mX6_init [rv G o, iv a1] M (rV q) fNo := by
  refine fSp_of (by decide +kernel) (by decide +kernel) (fC1 rfl (fC1 rfl fC0)) (Nat.le_of_ble_eq_true rfl) ?_
  show fW G mX6_init (fEm G mX6_init (rV q) fNo) 0 0 0 [some (rv G o), some (iv a1)] [] M
  rw [f_X6_init] at h
  refine fW_rg (fun hR => ?_)
  refine fW_aload_n 1 dX6_init_0 rfl rfl ?_
  refine fU_obj 4 wd_143 (by decide) (Nat.le_of_ble_eq_true rfl) dX6_init_1 rfl ?_
  refine fW_aload_n 5 dX6_init_4 rfl rfl ?_
  refine fW_iconst 6 dX6_init_5 rfl ?_
  obtain ⟨c1, h⟩ := fS h
  refine fU_put 9 2 (ji := 2) (v := 0) (w := iv 0) hg clX6 rfl (by decide) (by first | rfl | exact (iv_z (by decide)).1) (by first | rfl | exact (iv_z (by decide)).2.1) (fun M' h => congrArg iv h) rfl rfl c1 (by decide) wd_150 dX6_init_6 rfl ?_
  obtain ⟨M2, e2, h⟩ := fBd h
  replace e2 := Option.some.inj e2
  rw [e2]
  refine fW_rg (fun hRM2 => ?_)
  refine fW_aload_n 10 dX6_init_9 rfl rfl ?_
  refine fW_iconst 11 dX6_init_10 rfl ?_
  obtain ⟨c3, h⟩ := fS h
  refine fU_put 14 3 (ji := 3) (v := 0) (w := iv 0) hg clX6 rfl (by decide) (by first | rfl | exact (iv_z (by decide)).1) (by first | rfl | exact (iv_z (by decide)).2.1) (fun M' h => congrArg iv h) rfl rfl c3 (by decide) wd_154 dX6_init_11 rfl ?_
  obtain ⟨M4, e4, h⟩ := fBd h
  replace e4 := Option.some.inj e4
  rw [e4]
  refine fW_rg (fun hRM4 => ?_)
  refine fW_aload_n 15 dX6_init_14 rfl rfl ?_
  refine fW_iconst 16 dX6_init_15 rfl ?_
  obtain ⟨c5, h⟩ := fS h
  refine fU_put 19 4 (ji := 4) (v := 0) (w := iv 0) hg clX6 rfl (by decide) (by first | rfl | exact (iv_z (by decide)).1) (by first | rfl | exact (iv_z (by decide)).2.1) (fun M' h => congrArg iv h) rfl rfl c5 (by decide) wd_161 dX6_init_16 rfl ?_
  obtain ⟨M6, e6, h⟩ := fBd h
  replace e6 := Option.some.inj e6
  rw [e6]
  refine fW_rg (fun hRM6 => ?_)
  refine fW_aload_n 20 dX6_init_19 rfl rfl ?_
  refine fW_iconst 21 dX6_init_20 rfl ?_
  obtain ⟨c7, h⟩ := fS h
  refine fU_put 24 5 (ji := 5) (v := 0) (w := iv 0) hg clX6 rfl (by decide) (by first | rfl | exact (iv_z (by decide)).1) (by first | rfl | exact (iv_z (by decide)).2.1) (fun M' h => congrArg iv h) rfl rfl c7 (by decide) wd_163 dX6_init_21 rfl ?_
  obtain ⟨M8, e8, h⟩ := fBd h
  replace e8 := Option.some.inj e8
  rw [e8]
  refine fW_rg (fun hRM8 => ?_)
  refine fW_aload_n 25 dX6_init_24 rfl rfl ?_
  refine fW_iload_n 26 dX6_init_25 rfl rfl ?_
  refine fW_iconst 27 dX6_init_26 rfl ?_
  refine fW_mmax 30 ga1 (by decide) wd_144 (by decide) (Nat.le_of_ble_eq_true rfl) (by decide) (by decide) dX6_init_27 rfl ?_
  obtain ⟨c9, h⟩ := fS h
  obtain ⟨c10, h⟩ := fS h
  refine fU_newa 32 (atype := .int) rfl hg (Or.inl ⟨rfl, rfl, rfl⟩) c9.1 c9.2.1 c9.2.2.1 c9.2.2.2 (rg_max ga1 (by decide)) wa_12 (by decide) (sx := 200) c10 (by decide) dX6_init_30 rfl ?_
  obtain ⟨M11, e11, h⟩ := fBd h
  replace e11 := Option.some.inj e11
  rw [e11]
  refine fW_rg (fun hRM11 => ?_)
  obtain ⟨c12, h⟩ := fS h
  obtain ⟨c13, h⟩ := fS h
  refine fU_put 35 0 (ji := 0) (v := 1) (w := rv G ((M8 440 0).toNat)) hg clX6 rfl (by decide) rfl rfl (fun M' h => fFv_ref (G := G) (M := M') (u := 12) rfl h c13) rfl rfl c12 (by decide) wd_147 dX6_init_32 rfl ?_
  obtain ⟨M14, e14, h⟩ := fBd h
  replace e14 := Option.some.inj e14
  rw [e14]
  refine fW_rg (fun hRM14 => ?_)
  refine fW_aload_n 36 dX6_init_35 rfl rfl ?_
  refine fW_iload_n 37 dX6_init_36 rfl rfl ?_
  refine fW_iconst 38 dX6_init_37 rfl ?_
  refine fW_mmax 41 ga1 (by decide) wd_144 (by decide) (Nat.le_of_ble_eq_true rfl) (by decide) (by decide) dX6_init_38 rfl ?_
  obtain ⟨c15, h⟩ := fS h
  obtain ⟨c16, h⟩ := fS h
  refine fU_newa 43 (atype := .int) rfl hg (Or.inl ⟨rfl, rfl, rfl⟩) c15.1 c15.2.1 c15.2.2.1 c15.2.2.2 (rg_max ga1 (by decide)) wa_12 (by decide) (sx := 200) c16 (by decide) dX6_init_41 rfl ?_
  obtain ⟨M17, e17, h⟩ := fBd h
  replace e17 := Option.some.inj e17
  rw [e17]
  refine fW_rg (fun hRM17 => ?_)
  obtain ⟨c18, h⟩ := fS h
  obtain ⟨c19, h⟩ := fS h
  refine fU_put 46 1 (ji := 1) (v := 1) (w := rv G ((M14 440 0).toNat)) hg clX6 rfl (by decide) rfl rfl (fun M' h => fFv_ref (G := G) (M := M') (u := 12) rfl h c19) rfl rfl c18 (by decide) wd_149 dX6_init_43 rfl ?_
  obtain ⟨M20, e20, h⟩ := fBd h
  replace e20 := Option.some.inj e20
  rw [e20]
  refine fW_rg (fun hRM20 => ?_)
  exact fW_vret rfl (by decide) (by decide) dX6_init_46 (rV_i h)
def mX1_init : fMt := (yX1_init, cX1_init, 2, none, { frames := 1, cells := 3, slots := 984, locals := 40 })
theorem miX1_init : fMn mX1_init 1 := ⟨⟨fM 337 (by decide +kernel) rfl, fM 98 (by decide +kernel) rfl, ⟨by decide +kernel, by decide +kernel⟩, by decide +kernel⟩, fM 336 (by decide +kernel) rfl, rfl⟩
def f_X1_init (o : Nat) (a1 : Int) (M : fMem) : Option fMem := (if Ty o = 1 ∧ ((o : Nat) : Int) < M 440 0 then ((some (mset M o 3 0) : Option fMem).bind fun (M2 : fMem) => (if Ty o = 1 ∧ ((o : Nat) : Int) < M2 440 0 then ((some (mset M2 o 4 0) : Option fMem).bind fun (M4 : fMem) => (if 0 ≤ M4 440 0 ∧ M4 440 0 < 440 ∧ Ty (M4 440 0).toNat = 12 ∧ Ln (M4 440 0).toNat = max a1 0 then (if max a1 0 ≤ 328 then ((some (mnew M4) : Option fMem).bind fun (M7 : fMem) => (if Ty o = 1 ∧ ((o : Nat) : Int) < M7 440 0 then (if Rf o 0 = (M4 440 0).toNat then ((some (mset M7 o 0 1) : Option fMem).bind fun (M10 : fMem) => (if 0 ≤ M10 440 0 ∧ M10 440 0 < 440 ∧ Ty (M10 440 0).toNat = 12 ∧ Ln (M10 440 0).toNat = max a1 0 then (if max a1 0 ≤ 328 then ((some (mnew M10) : Option fMem).bind fun (M13 : fMem) => (if Ty o = 1 ∧ ((o : Nat) : Int) < M13 440 0 then (if Rf o 1 = (M10 440 0).toNat then ((some (mset M13 o 1 1) : Option fMem).bind fun (M16 : fMem) => (if 0 ≤ M16 440 0 ∧ M16 440 0 < 440 ∧ Ty (M16 440 0).toNat = 12 ∧ Ln (M16 440 0).toNat = max a1 0 then (if max a1 0 ≤ 328 then ((some (mnew M16) : Option fMem).bind fun (M19 : fMem) => (if Ty o = 1 ∧ ((o : Nat) : Int) < M19 440 0 then (if Rf o 2 = (M16 440 0).toNat then ((some (mset M19 o 2 1) : Option fMem).bind fun (M22 : fMem) => some M22) else none) else none)) else none) else none)) else none) else none)) else none) else none)) else none) else none)) else none) else none)) else none)) else none)
set_option maxRecDepth 100000 in
set_option maxHeartbeats 4000000 in
theorem s_X1_init {G : fG} (hg : gbt G = false) {o : Nat} {a1 : Int} (ga1 : rg a1) {M : fMem} {q : fMem} (h : f_X1_init o a1 M = some q) : fSp G mX1_init [rv G o, iv a1] M (rV q) fNo := by
  refine fSp_of (by decide +kernel) (by decide +kernel) (fC1 rfl (fC1 rfl fC0)) (Nat.le_of_ble_eq_true rfl) ?_
  show fW G mX1_init (fEm G mX1_init (rV q) fNo) 0 0 0 [some (rv G o), some (iv a1)] [] M
  rw [f_X1_init] at h
  refine fW_rg (fun hR => ?_)
  refine fW_aload_n 1 dX1_init_0 rfl rfl ?_
  refine fU_obj 4 wd_338 (by decide) (Nat.le_of_ble_eq_true rfl) dX1_init_1 rfl ?_
  refine fW_aload_n 5 dX1_init_4 rfl rfl ?_
  refine fW_iconst 6 dX1_init_5 rfl ?_
  obtain ⟨c1, h⟩ := fS h
  refine fU_put 9 3 (ji := 3) (v := 0) (w := iv 0) hg clX1 rfl (by decide) (by first | rfl | exact (iv_z (by decide)).1) (by first | rfl | exact (iv_z (by decide)).2.1) (fun M' h => congrArg iv h) rfl rfl c1 (by decide) wd_344 dX1_init_6 rfl ?_
  obtain ⟨M2, e2, h⟩ := fBd h
  replace e2 := Option.some.inj e2
  rw [e2]
  refine fW_rg (fun hRM2 => ?_)
  refine fW_aload_n 10 dX1_init_9 rfl rfl ?_
  refine fW_iconst 11 dX1_init_10 rfl ?_
  obtain ⟨c3, h⟩ := fS h
  refine fU_put 14 4 (ji := 4) (v := 0) (w := iv 0) hg clX1 rfl (by decide) (by first | rfl | exact (iv_z (by decide)).1) (by first | rfl | exact (iv_z (by decide)).2.1) (fun M' h => congrArg iv h) rfl rfl c3 (by decide) wd_348 dX1_init_11 rfl ?_
  obtain ⟨M4, e4, h⟩ := fBd h
  replace e4 := Option.some.inj e4
  rw [e4]
  refine fW_rg (fun hRM4 => ?_)
  refine fW_aload_n 15 dX1_init_14 rfl rfl ?_
  refine fW_iload_n 16 dX1_init_15 rfl rfl ?_
  refine fW_iconst 17 dX1_init_16 rfl ?_
  refine fW_mmax 20 ga1 (by decide) wd_339 (by decide) (Nat.le_of_ble_eq_true rfl) (by decide) (by decide) dX1_init_17 rfl ?_
  obtain ⟨c5, h⟩ := fS h
  obtain ⟨c6, h⟩ := fS h
  refine fU_newa 22 (atype := .int) rfl hg (Or.inl ⟨rfl, rfl, rfl⟩) c5.1 c5.2.1 c5.2.2.1 c5.2.2.2 (rg_max ga1 (by decide)) wa_12 (by decide) (sx := 328) c6 (by decide) dX1_init_20 rfl ?_
  obtain ⟨M7, e7, h⟩ := fBd h
  replace e7 := Option.some.inj e7
  rw [e7]
  refine fW_rg (fun hRM7 => ?_)
  obtain ⟨c8, h⟩ := fS h
  obtain ⟨c9, h⟩ := fS h
  refine fU_put 25 0 (ji := 0) (v := 1) (w := rv G ((M4 440 0).toNat)) hg clX1 rfl (by decide) rfl rfl (fun M' h => fFv_ref (G := G) (M := M') (u := 12) rfl h c9) rfl rfl c8 (by decide) wd_340 dX1_init_22 rfl ?_
  obtain ⟨M10, e10, h⟩ := fBd h
  replace e10 := Option.some.inj e10
  rw [e10]
  refine fW_rg (fun hRM10 => ?_)
  refine fW_aload_n 26 dX1_init_25 rfl rfl ?_
  refine fW_iload_n 27 dX1_init_26 rfl rfl ?_
  refine fW_iconst 28 dX1_init_27 rfl ?_
  refine fW_mmax 31 ga1 (by decide) wd_339 (by decide) (Nat.le_of_ble_eq_true rfl) (by decide) (by decide) dX1_init_28 rfl ?_
  obtain ⟨c11, h⟩ := fS h
  obtain ⟨c12, h⟩ := fS h
  refine fU_newa 33 (atype := .int) rfl hg (Or.inl ⟨rfl, rfl, rfl⟩) c11.1 c11.2.1 c11.2.2.1 c11.2.2.2 (rg_max ga1 (by decide)) wa_12 (by decide) (sx := 328) c12 (by decide) dX1_init_31 rfl ?_
  obtain ⟨M13, e13, h⟩ := fBd h
  replace e13 := Option.some.inj e13
  rw [e13]
  refine fW_rg (fun hRM13 => ?_)
  obtain ⟨c14, h⟩ := fS h
  obtain ⟨c15, h⟩ := fS h
  refine fU_put 36 1 (ji := 1) (v := 1) (w := rv G ((M10 440 0).toNat)) hg clX1 rfl (by decide) rfl rfl (fun M' h => fFv_ref (G := G) (M := M') (u := 12) rfl h c15) rfl rfl c14 (by decide) wd_342 dX1_init_33 rfl ?_
  obtain ⟨M16, e16, h⟩ := fBd h
  replace e16 := Option.some.inj e16
  rw [e16]
  refine fW_rg (fun hRM16 => ?_)
  refine fW_aload_n 37 dX1_init_36 rfl rfl ?_
  refine fW_iload_n 38 dX1_init_37 rfl rfl ?_
  refine fW_iconst 39 dX1_init_38 rfl ?_
  refine fW_mmax 42 ga1 (by decide) wd_339 (by decide) (Nat.le_of_ble_eq_true rfl) (by decide) (by decide) dX1_init_39 rfl ?_
  obtain ⟨c17, h⟩ := fS h
  obtain ⟨c18, h⟩ := fS h
  refine fU_newa 44 (atype := .int) rfl hg (Or.inl ⟨rfl, rfl, rfl⟩) c17.1 c17.2.1 c17.2.2.1 c17.2.2.2 (rg_max ga1 (by decide)) wa_12 (by decide) (sx := 328) c18 (by decide) dX1_init_42 rfl ?_
  obtain ⟨M19, e19, h⟩ := fBd h
  replace e19 := Option.some.inj e19
  rw [e19]
  refine fW_rg (fun hRM19 => ?_)
  obtain ⟨c20, h⟩ := fS h
  obtain ⟨c21, h⟩ := fS h
  refine fU_put 47 2 (ji := 2) (v := 1) (w := rv G ((M16 440 0).toNat)) hg clX1 rfl (by decide) rfl rfl (fun M' h => fFv_ref (G := G) (M := M') (u := 12) rfl h c21) rfl rfl c20 (by decide) wd_343 dX1_init_44 rfl ?_
  obtain ⟨M22, e22, h⟩ := fBd h
  replace e22 := Option.some.inj e22
  rw [e22]
  refine fW_rg (fun hRM22 => ?_)
  exact fW_vret rfl (by decide) (by decide) dX1_init_47 (rV_i h)
def mX4_init : fMt := (yX4_init, cX4_init, 1, none, { frames := 1, cells := 0, slots := 0, locals := 40 })
theorem miX4_init : fMn mX4_init 0 := ⟨⟨fM 204 (by decide +kernel) rfl, fM 94 (by decide +kernel) rfl, ⟨by decide +kernel, by decide +kernel⟩, by decide +kernel⟩, fM 203 (by decide +kernel) rfl, rfl⟩
def f_X4_init (o : Nat)  (M : fMem) : Option fMem := (if Ty o = 4 ∧ ((o : Nat) : Int) < M 440 0 then ((some (mset M o 0 0) : Option fMem).bind fun (M2 : fMem) => (if Ty o = 4 ∧ ((o : Nat) : Int) < M2 440 0 then ((some (mset M2 o 1 0) : Option fMem).bind fun (M4 : fMem) => (if Ty o = 4 ∧ ((o : Nat) : Int) < M4 440 0 then ((some (mset M4 o 2 0) : Option fMem).bind fun (M6 : fMem) => (if Ty o = 4 ∧ ((o : Nat) : Int) < M6 440 0 then ((some (mset M6 o 3 0) : Option fMem).bind fun (M8 : fMem) => (if Ty o = 4 ∧ ((o : Nat) : Int) < M8 440 0 then ((some (mset M8 o 4 0) : Option fMem).bind fun (M10 : fMem) => (if Ty o = 4 ∧ ((o : Nat) : Int) < M10 440 0 then ((some (mset M10 o 5 0) : Option fMem).bind fun (M12 : fMem) => (if Ty o = 4 ∧ ((o : Nat) : Int) < M12 440 0 then ((some (mset M12 o 6 0) : Option fMem).bind fun (M14 : fMem) => (if Ty o = 4 ∧ ((o : Nat) : Int) < M14 440 0 then ((some (mset M14 o 7 0) : Option fMem).bind fun (M16 : fMem) => (if Ty o = 4 ∧ ((o : Nat) : Int) < M16 440 0 then ((some (mset M16 o 8 0) : Option fMem).bind fun (M18 : fMem) => some M18) else none)) else none)) else none)) else none)) else none)) else none)) else none)) else none)) else none)
set_option maxRecDepth 100000 in
set_option maxHeartbeats 4000000 in
theorem s_X4_init {G : fG} (hg : gbt G = false) {o : Nat}  {M : fMem} {q : fMem} (h : f_X4_init o  M = some q) : fSp G mX4_init [rv G o] M (rV q) fNo := by
  refine fSp_of (by decide +kernel) (by decide +kernel) (fC1 rfl fC0) (Nat.le_of_ble_eq_true rfl) ?_
  show fW G mX4_init (fEm G mX4_init (rV q) fNo) 0 0 0 [some (rv G o)] [] M
  rw [f_X4_init] at h
  refine fW_rg (fun hR => ?_)
  refine fW_aload_n 1 dX4_init_0 rfl rfl ?_
  refine fU_obj 4 wd_205 (by decide) (Nat.le_of_ble_eq_true rfl) dX4_init_1 rfl ?_
  refine fW_aload_n 5 dX4_init_4 rfl rfl ?_
  refine fW_iconst 6 dX4_init_5 rfl ?_
  obtain ⟨c1, h⟩ := fS h
  refine fU_put 9 0 (ji := 0) (v := 0) (w := iv 0) hg clX4 rfl (by decide) (by first | rfl | exact (iv_z (by decide)).1) (by first | rfl | exact (iv_z (by decide)).2.1) (fun M' h => congrArg iv h) rfl rfl c1 (by decide) wd_206 dX4_init_6 rfl ?_
  obtain ⟨M2, e2, h⟩ := fBd h
  replace e2 := Option.some.inj e2
  rw [e2]
  refine fW_rg (fun hRM2 => ?_)
  refine fW_aload_n 10 dX4_init_9 rfl rfl ?_
  refine fW_iconst 11 dX4_init_10 rfl ?_
  obtain ⟨c3, h⟩ := fS h
  refine fU_put 14 1 (ji := 1) (v := 0) (w := iv 0) hg clX4 rfl (by decide) (by first | rfl | exact (iv_z (by decide)).1) (by first | rfl | exact (iv_z (by decide)).2.1) (fun M' h => congrArg iv h) rfl rfl c3 (by decide) wd_209 dX4_init_11 rfl ?_
  obtain ⟨M4, e4, h⟩ := fBd h
  replace e4 := Option.some.inj e4
  rw [e4]
  refine fW_rg (fun hRM4 => ?_)
  refine fW_aload_n 15 dX4_init_14 rfl rfl ?_
  refine fW_iconst 16 dX4_init_15 rfl ?_
  obtain ⟨c5, h⟩ := fS h
  refine fU_put 19 2 (ji := 2) (v := 0) (w := iv 0) hg clX4 rfl (by decide) (by first | rfl | exact (iv_z (by decide)).1) (by first | rfl | exact (iv_z (by decide)).2.1) (fun M' h => congrArg iv h) rfl rfl c5 (by decide) wd_212 dX4_init_16 rfl ?_
  obtain ⟨M6, e6, h⟩ := fBd h
  replace e6 := Option.some.inj e6
  rw [e6]
  refine fW_rg (fun hRM6 => ?_)
  refine fW_aload_n 20 dX4_init_19 rfl rfl ?_
  refine fW_iconst 21 dX4_init_20 rfl ?_
  obtain ⟨c7, h⟩ := fS h
  refine fU_put 24 3 (ji := 3) (v := 0) (w := iv 0) hg clX4 rfl (by decide) (by first | rfl | exact (iv_z (by decide)).1) (by first | rfl | exact (iv_z (by decide)).2.1) (fun M' h => congrArg iv h) rfl rfl c7 (by decide) wd_214 dX4_init_21 rfl ?_
  obtain ⟨M8, e8, h⟩ := fBd h
  replace e8 := Option.some.inj e8
  rw [e8]
  refine fW_rg (fun hRM8 => ?_)
  refine fW_aload_n 25 dX4_init_24 rfl rfl ?_
  refine fW_iconst 26 dX4_init_25 rfl ?_
  obtain ⟨c9, h⟩ := fS h
  refine fU_put 29 4 (ji := 4) (v := 0) (w := iv 0) hg clX4 rfl (by decide) (by first | rfl | exact (iv_z (by decide)).1) (by first | rfl | exact (iv_z (by decide)).2.1) (fun M' h => congrArg iv h) rfl rfl c9 (by decide) wd_216 dX4_init_26 rfl ?_
  obtain ⟨M10, e10, h⟩ := fBd h
  replace e10 := Option.some.inj e10
  rw [e10]
  refine fW_rg (fun hRM10 => ?_)
  refine fW_aload_n 30 dX4_init_29 rfl rfl ?_
  refine fW_iconst 31 dX4_init_30 rfl ?_
  obtain ⟨c11, h⟩ := fS h
  refine fU_put 34 5 (ji := 5) (v := 0) (w := iv 0) hg clX4 rfl (by decide) (by first | rfl | exact (iv_z (by decide)).1) (by first | rfl | exact (iv_z (by decide)).2.1) (fun M' h => congrArg iv h) rfl rfl c11 (by decide) wd_218 dX4_init_31 rfl ?_
  obtain ⟨M12, e12, h⟩ := fBd h
  replace e12 := Option.some.inj e12
  rw [e12]
  refine fW_rg (fun hRM12 => ?_)
  refine fW_aload_n 35 dX4_init_34 rfl rfl ?_
  refine fW_iconst 36 dX4_init_35 rfl ?_
  obtain ⟨c13, h⟩ := fS h
  refine fU_put 39 6 (ji := 6) (v := 0) (w := iv 0) hg clX4 rfl (by decide) (by first | rfl | exact (iv_z (by decide)).1) (by first | rfl | exact (iv_z (by decide)).2.1) (fun M' h => congrArg iv h) rfl rfl c13 (by decide) wd_220 dX4_init_36 rfl ?_
  obtain ⟨M14, e14, h⟩ := fBd h
  replace e14 := Option.some.inj e14
  rw [e14]
  refine fW_rg (fun hRM14 => ?_)
  refine fW_aload_n 40 dX4_init_39 rfl rfl ?_
  refine fW_iconst 41 dX4_init_40 rfl ?_
  obtain ⟨c15, h⟩ := fS h
  refine fU_put 44 7 (ji := 7) (v := 0) (w := iv 0) hg clX4 rfl (by decide) (by first | rfl | exact (iv_z (by decide)).1) (by first | rfl | exact (iv_z (by decide)).2.1) (fun M' h => congrArg iv h) rfl rfl c15 (by decide) wd_222 dX4_init_41 rfl ?_
  obtain ⟨M16, e16, h⟩ := fBd h
  replace e16 := Option.some.inj e16
  rw [e16]
  refine fW_rg (fun hRM16 => ?_)
  refine fW_aload_n 45 dX4_init_44 rfl rfl ?_
  refine fW_iconst 46 dX4_init_45 rfl ?_
  obtain ⟨c17, h⟩ := fS h
  refine fU_put 49 8 (ji := 8) (v := 0) (w := iv 0) hg clX4 rfl (by decide) (by first | rfl | exact (iv_z (by decide)).1) (by first | rfl | exact (iv_z (by decide)).2.1) (fun M' h => congrArg iv h) rfl rfl c17 (by decide) wd_225 dX4_init_46 rfl ?_
  obtain ⟨M18, e18, h⟩ := fBd h
  replace e18 := Option.some.inj e18
  rw [e18]
  refine fW_rg (fun hRM18 => ?_)
  exact fW_vret rfl (by decide) (by decide) dX4_init_49 (rV_i h)
def mX8_init : fMt := (yX8_init, cX8_init, 1, none, { frames := 1, cells := 1, slots := 200, locals := 40 })
theorem miX8_init : fMn mX8_init 0 := ⟨⟨fM 293 (by decide +kernel) rfl, fM 95 (by decide +kernel) rfl, ⟨by decide +kernel, by decide +kernel⟩, by decide +kernel⟩, fM 292 (by decide +kernel) rfl, rfl⟩
def f_X8_init (o : Nat)  (M : fMem) : Option fMem := (if 0 ≤ M 440 0 ∧ M 440 0 < 440 ∧ Ty (M 440 0).toNat = 12 ∧ Ln (M 440 0).toNat = 200 then ((some (mnew M) : Option fMem).bind fun (M2 : fMem) => (if Ty o = 8 ∧ ((o : Nat) : Int) < M2 440 0 then (if Rf o 0 = (M 440 0).toNat then ((some (mset M2 o 0 1) : Option fMem).bind fun (M5 : fMem) => (if Ty o = 8 ∧ ((o : Nat) : Int) < M5 440 0 then ((some (mset M5 o 1 0) : Option fMem).bind fun (M7 : fMem) => some M7) else none)) else none) else none)) else none)
set_option maxRecDepth 100000 in
set_option maxHeartbeats 4000000 in
theorem s_X8_init {G : fG} (hg : gbt G = false) {o : Nat}  {M : fMem} {q : fMem} (h : f_X8_init o  M = some q) : fSp G mX8_init [rv G o] M (rV q) fNo := by
  refine fSp_of (by decide +kernel) (by decide +kernel) (fC1 rfl fC0) (Nat.le_of_ble_eq_true rfl) ?_
  show fW G mX8_init (fEm G mX8_init (rV q) fNo) 0 0 0 [some (rv G o)] [] M
  rw [f_X8_init] at h
  refine fW_rg (fun hR => ?_)
  refine fW_aload_n 1 dX8_init_0 rfl rfl ?_
  refine fU_obj 4 wd_294 (by decide) (Nat.le_of_ble_eq_true rfl) dX8_init_1 rfl ?_
  refine fW_aload_n 5 dX8_init_4 rfl rfl ?_
  refine fW_sipush 8 dX8_init_5 rfl (by decide) ?_
  obtain ⟨c1, h⟩ := fS h
  refine fU_newa 10 (atype := .int) rfl hg (Or.inl ⟨rfl, rfl, rfl⟩) c1.1 c1.2.1 c1.2.2.1 c1.2.2.2 (by decide) wa_12 (by decide) (sx := 200) (by decide) (by decide) dX8_init_8 rfl ?_
  obtain ⟨M2, e2, h⟩ := fBd h
  replace e2 := Option.some.inj e2
  rw [e2]
  refine fW_rg (fun hRM2 => ?_)
  obtain ⟨c3, h⟩ := fS h
  obtain ⟨c4, h⟩ := fS h
  refine fU_put 13 0 (ji := 0) (v := 1) (w := rv G ((M 440 0).toNat)) hg clX8 rfl (by decide) rfl rfl (fun M' h => fFv_ref (G := G) (M := M') (u := 12) rfl h c4) rfl rfl c3 (by decide) wd_295 dX8_init_10 rfl ?_
  obtain ⟨M5, e5, h⟩ := fBd h
  replace e5 := Option.some.inj e5
  rw [e5]
  refine fW_rg (fun hRM5 => ?_)
  refine fW_aload_n 14 dX8_init_13 rfl rfl ?_
  refine fW_iconst 15 dX8_init_14 rfl ?_
  obtain ⟨c6, h⟩ := fS h
  refine fU_put 18 1 (ji := 1) (v := 0) (w := iv 0) hg clX8 rfl (by decide) (by first | rfl | exact (iv_z (by decide)).1) (by first | rfl | exact (iv_z (by decide)).2.1) (fun M' h => congrArg iv h) rfl rfl c6 (by decide) wd_296 dX8_init_15 rfl ?_
  obtain ⟨M7, e7, h⟩ := fBd h
  replace e7 := Option.some.inj e7
  rw [e7]
  refine fW_rg (fun hRM7 => ?_)
  exact fW_vret rfl (by decide) (by decide) dX8_init_18 (rV_i h)
def mX9_init : fMt := (yX9_init, cX9_init, 1, none, { frames := 1, cells := 1, slots := 40, locals := 40 })
theorem miX9_init : fMn mX9_init 0 := ⟨⟨fM 308 (by decide +kernel) rfl, fM 96 (by decide +kernel) rfl, ⟨by decide +kernel, by decide +kernel⟩, by decide +kernel⟩, fM 307 (by decide +kernel) rfl, rfl⟩
def f_X9_init (o : Nat)  (M : fMem) : Option fMem := (if 0 ≤ M 440 0 ∧ M 440 0 < 440 ∧ Ty (M 440 0).toNat = 12 ∧ Ln (M 440 0).toNat = 40 then ((some (mnew M) : Option fMem).bind fun (M2 : fMem) => (if Ty o = 9 ∧ ((o : Nat) : Int) < M2 440 0 then (if Rf o 0 = (M 440 0).toNat then ((some (mset M2 o 0 1) : Option fMem).bind fun (M5 : fMem) => (if Ty o = 9 ∧ ((o : Nat) : Int) < M5 440 0 then ((some (mset M5 o 1 0) : Option fMem).bind fun (M7 : fMem) => (if Ty o = 9 ∧ ((o : Nat) : Int) < M7 440 0 then ((some (mset M7 o 2 0) : Option fMem).bind fun (M9 : fMem) => some M9) else none)) else none)) else none) else none)) else none)
set_option maxRecDepth 100000 in
set_option maxHeartbeats 4000000 in
theorem s_X9_init {G : fG} (hg : gbt G = false) {o : Nat}  {M : fMem} {q : fMem} (h : f_X9_init o  M = some q) : fSp G mX9_init [rv G o] M (rV q) fNo := by
  refine fSp_of (by decide +kernel) (by decide +kernel) (fC1 rfl fC0) (Nat.le_of_ble_eq_true rfl) ?_
  show fW G mX9_init (fEm G mX9_init (rV q) fNo) 0 0 0 [some (rv G o)] [] M
  rw [f_X9_init] at h
  refine fW_rg (fun hR => ?_)
  refine fW_aload_n 1 dX9_init_0 rfl rfl ?_
  refine fU_obj 4 wd_309 (by decide) (Nat.le_of_ble_eq_true rfl) dX9_init_1 rfl ?_
  refine fW_aload_n 5 dX9_init_4 rfl rfl ?_
  refine fW_bipush 7 dX9_init_5 rfl (by decide) ?_
  obtain ⟨c1, h⟩ := fS h
  refine fU_newa 9 (atype := .int) rfl hg (Or.inl ⟨rfl, rfl, rfl⟩) c1.1 c1.2.1 c1.2.2.1 c1.2.2.2 (by decide) wa_12 (by decide) (sx := 40) (by decide) (by decide) dX9_init_7 rfl ?_
  obtain ⟨M2, e2, h⟩ := fBd h
  replace e2 := Option.some.inj e2
  rw [e2]
  refine fW_rg (fun hRM2 => ?_)
  obtain ⟨c3, h⟩ := fS h
  obtain ⟨c4, h⟩ := fS h
  refine fU_put 12 0 (ji := 0) (v := 1) (w := rv G ((M 440 0).toNat)) hg clX9 rfl (by decide) rfl rfl (fun M' h => fFv_ref (G := G) (M := M') (u := 12) rfl h c4) rfl rfl c3 (by decide) wd_310 dX9_init_9 rfl ?_
  obtain ⟨M5, e5, h⟩ := fBd h
  replace e5 := Option.some.inj e5
  rw [e5]
  refine fW_rg (fun hRM5 => ?_)
  refine fW_aload_n 13 dX9_init_12 rfl rfl ?_
  refine fW_iconst 14 dX9_init_13 rfl ?_
  obtain ⟨c6, h⟩ := fS h
  refine fU_put 17 1 (ji := 1) (v := 0) (w := iv 0) hg clX9 rfl (by decide) (by first | rfl | exact (iv_z (by decide)).1) (by first | rfl | exact (iv_z (by decide)).2.1) (fun M' h => congrArg iv h) rfl rfl c6 (by decide) wd_311 dX9_init_14 rfl ?_
  obtain ⟨M7, e7, h⟩ := fBd h
  replace e7 := Option.some.inj e7
  rw [e7]
  refine fW_rg (fun hRM7 => ?_)
  refine fW_aload_n 18 dX9_init_17 rfl rfl ?_
  refine fW_iconst 19 dX9_init_18 rfl ?_
  obtain ⟨c8, h⟩ := fS h
  refine fU_put 22 2 (ji := 2) (v := 0) (w := iv 0) hg clX9 rfl (by decide) (by first | rfl | exact (iv_z (by decide)).1) (by first | rfl | exact (iv_z (by decide)).2.1) (fun M' h => congrArg iv h) rfl rfl c8 (by decide) wd_312 dX9_init_19 rfl ?_
  obtain ⟨M9, e9, h⟩ := fBd h
  replace e9 := Option.some.inj e9
  rw [e9]
  refine fW_rg (fun hRM9 => ?_)
  exact fW_vret rfl (by decide) (by decide) dX9_init_22 (rV_i h)
def mX5_init : fMt := (yX5_init, cX5_init, 1, none, { frames := 1, cells := 4, slots := 76, locals := 40 })
theorem miX5_init : fMn mX5_init 0 := ⟨⟨fM 371 (by decide +kernel) rfl, fM 99 (by decide +kernel) rfl, ⟨by decide +kernel, by decide +kernel⟩, by decide +kernel⟩, fM 370 (by decide +kernel) rfl, rfl⟩
def f_X5_init (o : Nat)  (M : fMem) : Option fMem := (if 0 ≤ M 440 0 ∧ M 440 0 < 440 ∧ Ty (M 440 0).toNat = 12 ∧ Ln (M 440 0).toNat = 19 then ((some (mnew M) : Option fMem).bind fun (M2 : fMem) => (if Ty o = 5 ∧ ((o : Nat) : Int) < M2 440 0 then (if Rf o 0 = (M 440 0).toNat then ((some (mset M2 o 0 1) : Option fMem).bind fun (M5 : fMem) => (if 0 ≤ M5 440 0 ∧ M5 440 0 < 440 ∧ Ty (M5 440 0).toNat = 12 ∧ Ln (M5 440 0).toNat = 19 then ((some (mnew M5) : Option fMem).bind fun (M7 : fMem) => (if Ty o = 5 ∧ ((o : Nat) : Int) < M7 440 0 then (if Rf o 1 = (M5 440 0).toNat then ((some (mset M7 o 1 1) : Option fMem).bind fun (M10 : fMem) => (if 0 ≤ M10 440 0 ∧ M10 440 0 < 440 ∧ Ty (M10 440 0).toNat = 12 ∧ Ln (M10 440 0).toNat = 19 then ((some (mnew M10) : Option fMem).bind fun (M12 : fMem) => (if Ty o = 5 ∧ ((o : Nat) : Int) < M12 440 0 then (if Rf o 2 = (M10 440 0).toNat then ((some (mset M12 o 2 1) : Option fMem).bind fun (M15 : fMem) => (if 0 ≤ M15 440 0 ∧ M15 440 0 < 440 ∧ Ty (M15 440 0).toNat = 12 ∧ Ln (M15 440 0).toNat = 19 then ((some (mnew M15) : Option fMem).bind fun (M17 : fMem) => (if Ty o = 5 ∧ ((o : Nat) : Int) < M17 440 0 then (if Rf o 3 = (M15 440 0).toNat then ((some (mset M17 o 3 1) : Option fMem).bind fun (M20 : fMem) => (if Ty o = 5 ∧ ((o : Nat) : Int) < M20 440 0 then ((some (mset M20 o 4 0) : Option fMem).bind fun (M22 : fMem) => (if Ty o = 5 ∧ ((o : Nat) : Int) < M22 440 0 then ((some (mset M22 o 5 0) : Option fMem).bind fun (M24 : fMem) => some M24) else none)) else none)) else none) else none)) else none)) else none) else none)) else none)) else none) else none)) else none)) else none) else none)) else none)
set_option maxRecDepth 100000 in
set_option maxHeartbeats 4000000 in
theorem s_X5_init {G : fG} (hg : gbt G = false) {o : Nat}  {M : fMem} {q : fMem} (h : f_X5_init o  M = some q) : fSp G mX5_init [rv G o] M (rV q) fNo := by
  refine fSp_of (by decide +kernel) (by decide +kernel) (fC1 rfl fC0) (Nat.le_of_ble_eq_true rfl) ?_
  show fW G mX5_init (fEm G mX5_init (rV q) fNo) 0 0 0 [some (rv G o)] [] M
  rw [f_X5_init] at h
  refine fW_rg (fun hR => ?_)
  refine fW_aload_n 1 dX5_init_0 rfl rfl ?_
  refine fU_obj 4 wd_372 (by decide) (Nat.le_of_ble_eq_true rfl) dX5_init_1 rfl ?_
  refine fW_aload_n 5 dX5_init_4 rfl rfl ?_
  refine fW_bipush 7 dX5_init_5 rfl (by decide) ?_
  obtain ⟨c1, h⟩ := fS h
  refine fU_newa 9 (atype := .int) rfl hg (Or.inl ⟨rfl, rfl, rfl⟩) c1.1 c1.2.1 c1.2.2.1 c1.2.2.2 (by decide) wa_12 (by decide) (sx := 19) (by decide) (by decide) dX5_init_7 rfl ?_
  obtain ⟨M2, e2, h⟩ := fBd h
  replace e2 := Option.some.inj e2
  rw [e2]
  refine fW_rg (fun hRM2 => ?_)
  obtain ⟨c3, h⟩ := fS h
  obtain ⟨c4, h⟩ := fS h
  refine fU_put 12 0 (ji := 0) (v := 1) (w := rv G ((M 440 0).toNat)) hg clX5 rfl (by decide) rfl rfl (fun M' h => fFv_ref (G := G) (M := M') (u := 12) rfl h c4) rfl rfl c3 (by decide) wd_373 dX5_init_9 rfl ?_
  obtain ⟨M5, e5, h⟩ := fBd h
  replace e5 := Option.some.inj e5
  rw [e5]
  refine fW_rg (fun hRM5 => ?_)
  refine fW_aload_n 13 dX5_init_12 rfl rfl ?_
  refine fW_bipush 15 dX5_init_13 rfl (by decide) ?_
  obtain ⟨c6, h⟩ := fS h
  refine fU_newa 17 (atype := .int) rfl hg (Or.inl ⟨rfl, rfl, rfl⟩) c6.1 c6.2.1 c6.2.2.1 c6.2.2.2 (by decide) wa_12 (by decide) (sx := 19) (by decide) (by decide) dX5_init_15 rfl ?_
  obtain ⟨M7, e7, h⟩ := fBd h
  replace e7 := Option.some.inj e7
  rw [e7]
  refine fW_rg (fun hRM7 => ?_)
  obtain ⟨c8, h⟩ := fS h
  obtain ⟨c9, h⟩ := fS h
  refine fU_put 20 1 (ji := 1) (v := 1) (w := rv G ((M5 440 0).toNat)) hg clX5 rfl (by decide) rfl rfl (fun M' h => fFv_ref (G := G) (M := M') (u := 12) rfl h c9) rfl rfl c8 (by decide) wd_375 dX5_init_17 rfl ?_
  obtain ⟨M10, e10, h⟩ := fBd h
  replace e10 := Option.some.inj e10
  rw [e10]
  refine fW_rg (fun hRM10 => ?_)
  refine fW_aload_n 21 dX5_init_20 rfl rfl ?_
  refine fW_bipush 23 dX5_init_21 rfl (by decide) ?_
  obtain ⟨c11, h⟩ := fS h
  refine fU_newa 25 (atype := .int) rfl hg (Or.inl ⟨rfl, rfl, rfl⟩) c11.1 c11.2.1 c11.2.2.1 c11.2.2.2 (by decide) wa_12 (by decide) (sx := 19) (by decide) (by decide) dX5_init_23 rfl ?_
  obtain ⟨M12, e12, h⟩ := fBd h
  replace e12 := Option.some.inj e12
  rw [e12]
  refine fW_rg (fun hRM12 => ?_)
  obtain ⟨c13, h⟩ := fS h
  obtain ⟨c14, h⟩ := fS h
  refine fU_put 28 2 (ji := 2) (v := 1) (w := rv G ((M10 440 0).toNat)) hg clX5 rfl (by decide) rfl rfl (fun M' h => fFv_ref (G := G) (M := M') (u := 12) rfl h c14) rfl rfl c13 (by decide) wd_377 dX5_init_25 rfl ?_
  obtain ⟨M15, e15, h⟩ := fBd h
  replace e15 := Option.some.inj e15
  rw [e15]
  refine fW_rg (fun hRM15 => ?_)
  refine fW_aload_n 29 dX5_init_28 rfl rfl ?_
  refine fW_bipush 31 dX5_init_29 rfl (by decide) ?_
  obtain ⟨c16, h⟩ := fS h
  refine fU_newa 33 (atype := .int) rfl hg (Or.inl ⟨rfl, rfl, rfl⟩) c16.1 c16.2.1 c16.2.2.1 c16.2.2.2 (by decide) wa_12 (by decide) (sx := 19) (by decide) (by decide) dX5_init_31 rfl ?_
  obtain ⟨M17, e17, h⟩ := fBd h
  replace e17 := Option.some.inj e17
  rw [e17]
  refine fW_rg (fun hRM17 => ?_)
  obtain ⟨c18, h⟩ := fS h
  obtain ⟨c19, h⟩ := fS h
  refine fU_put 36 3 (ji := 3) (v := 1) (w := rv G ((M15 440 0).toNat)) hg clX5 rfl (by decide) rfl rfl (fun M' h => fFv_ref (G := G) (M := M') (u := 12) rfl h c19) rfl rfl c18 (by decide) wd_379 dX5_init_33 rfl ?_
  obtain ⟨M20, e20, h⟩ := fBd h
  replace e20 := Option.some.inj e20
  rw [e20]
  refine fW_rg (fun hRM20 => ?_)
  refine fW_aload_n 37 dX5_init_36 rfl rfl ?_
  refine fW_iconst 38 dX5_init_37 rfl ?_
  obtain ⟨c21, h⟩ := fS h
  refine fU_put 41 4 (ji := 4) (v := 0) (w := iv 0) hg clX5 rfl (by decide) (by first | rfl | exact (iv_z (by decide)).1) (by first | rfl | exact (iv_z (by decide)).2.1) (fun M' h => congrArg iv h) rfl rfl c21 (by decide) wd_381 dX5_init_38 rfl ?_
  obtain ⟨M22, e22, h⟩ := fBd h
  replace e22 := Option.some.inj e22
  rw [e22]
  refine fW_rg (fun hRM22 => ?_)
  refine fW_aload_n 42 dX5_init_41 rfl rfl ?_
  refine fW_iconst 43 dX5_init_42 rfl ?_
  obtain ⟨c23, h⟩ := fS h
  refine fU_put 46 5 (ji := 5) (v := 0) (w := iv 0) hg clX5 rfl (by decide) (by first | rfl | exact (iv_z (by decide)).1) (by first | rfl | exact (iv_z (by decide)).2.1) (fun M' h => congrArg iv h) rfl rfl c23 (by decide) wd_383 dX5_init_43 rfl ?_
  obtain ⟨M24, e24, h⟩ := fBd h
  replace e24 := Option.some.inj e24
  rw [e24]
  refine fW_rg (fun hRM24 => ?_)
  exact fW_vret rfl (by decide) (by decide) dX5_init_46 (rV_i h)
def mX2_init : fMt := (yX2_init, cX2_init, 1, none, { frames := 1, cells := 2, slots := 400, locals := 40 })
theorem miX2_init : fMn mX2_init 0 := ⟨⟨fM 402 (by decide +kernel) rfl, fM 100 (by decide +kernel) rfl, ⟨by decide +kernel, by decide +kernel⟩, by decide +kernel⟩, fM 401 (by decide +kernel) rfl, rfl⟩
def f_X2_init (o : Nat)  (M : fMem) : Option fMem := (if 0 ≤ M 440 0 ∧ M 440 0 < 440 ∧ Ty (M 440 0).toNat = 12 ∧ Ln (M 440 0).toNat = 200 then ((some (mnew M) : Option fMem).bind fun (M2 : fMem) => (if Ty o = 2 ∧ ((o : Nat) : Int) < M2 440 0 then (if Rf o 0 = (M 440 0).toNat then ((some (mset M2 o 0 1) : Option fMem).bind fun (M5 : fMem) => (if 0 ≤ M5 440 0 ∧ M5 440 0 < 440 ∧ Ty (M5 440 0).toNat = 12 ∧ Ln (M5 440 0).toNat = 200 then ((some (mnew M5) : Option fMem).bind fun (M7 : fMem) => (if Ty o = 2 ∧ ((o : Nat) : Int) < M7 440 0 then (if Rf o 1 = (M5 440 0).toNat then ((some (mset M7 o 1 1) : Option fMem).bind fun (M10 : fMem) => (if Ty o = 2 ∧ ((o : Nat) : Int) < M10 440 0 then ((some (mset M10 o 2 0) : Option fMem).bind fun (M12 : fMem) => some M12) else none)) else none) else none)) else none)) else none) else none)) else none)
set_option maxRecDepth 100000 in
set_option maxHeartbeats 4000000 in
theorem s_X2_init {G : fG} (hg : gbt G = false) {o : Nat}  {M : fMem} {q : fMem} (h : f_X2_init o  M = some q) : fSp G mX2_init [rv G o] M (rV q) fNo := by
  refine fSp_of (by decide +kernel) (by decide +kernel) (fC1 rfl fC0) (Nat.le_of_ble_eq_true rfl) ?_
  show fW G mX2_init (fEm G mX2_init (rV q) fNo) 0 0 0 [some (rv G o)] [] M
  rw [f_X2_init] at h
  refine fW_rg (fun hR => ?_)
  refine fW_aload_n 1 dX2_init_0 rfl rfl ?_
  refine fU_obj 4 wd_403 (by decide) (Nat.le_of_ble_eq_true rfl) dX2_init_1 rfl ?_
  refine fW_aload_n 5 dX2_init_4 rfl rfl ?_
  refine fW_sipush 8 dX2_init_5 rfl (by decide) ?_
  obtain ⟨c1, h⟩ := fS h
  refine fU_newa 10 (atype := .int) rfl hg (Or.inl ⟨rfl, rfl, rfl⟩) c1.1 c1.2.1 c1.2.2.1 c1.2.2.2 (by decide) wa_12 (by decide) (sx := 200) (by decide) (by decide) dX2_init_8 rfl ?_
  obtain ⟨M2, e2, h⟩ := fBd h
  replace e2 := Option.some.inj e2
  rw [e2]
  refine fW_rg (fun hRM2 => ?_)
  obtain ⟨c3, h⟩ := fS h
  obtain ⟨c4, h⟩ := fS h
  refine fU_put 13 0 (ji := 0) (v := 1) (w := rv G ((M 440 0).toNat)) hg clX2 rfl (by decide) rfl rfl (fun M' h => fFv_ref (G := G) (M := M') (u := 12) rfl h c4) rfl rfl c3 (by decide) wd_404 dX2_init_10 rfl ?_
  obtain ⟨M5, e5, h⟩ := fBd h
  replace e5 := Option.some.inj e5
  rw [e5]
  refine fW_rg (fun hRM5 => ?_)
  refine fW_aload_n 14 dX2_init_13 rfl rfl ?_
  refine fW_sipush 17 dX2_init_14 rfl (by decide) ?_
  obtain ⟨c6, h⟩ := fS h
  refine fU_newa 19 (atype := .int) rfl hg (Or.inl ⟨rfl, rfl, rfl⟩) c6.1 c6.2.1 c6.2.2.1 c6.2.2.2 (by decide) wa_12 (by decide) (sx := 200) (by decide) (by decide) dX2_init_17 rfl ?_
  obtain ⟨M7, e7, h⟩ := fBd h
  replace e7 := Option.some.inj e7
  rw [e7]
  refine fW_rg (fun hRM7 => ?_)
  obtain ⟨c8, h⟩ := fS h
  obtain ⟨c9, h⟩ := fS h
  refine fU_put 22 1 (ji := 1) (v := 1) (w := rv G ((M5 440 0).toNat)) hg clX2 rfl (by decide) rfl rfl (fun M' h => fFv_ref (G := G) (M := M') (u := 12) rfl h c9) rfl rfl c8 (by decide) wd_406 dX2_init_19 rfl ?_
  obtain ⟨M10, e10, h⟩ := fBd h
  replace e10 := Option.some.inj e10
  rw [e10]
  refine fW_rg (fun hRM10 => ?_)
  refine fW_aload_n 23 dX2_init_22 rfl rfl ?_
  refine fW_iconst 24 dX2_init_23 rfl ?_
  obtain ⟨c11, h⟩ := fS h
  refine fU_put 27 2 (ji := 2) (v := 0) (w := iv 0) hg clX2 rfl (by decide) (by first | rfl | exact (iv_z (by decide)).1) (by first | rfl | exact (iv_z (by decide)).2.1) (fun M' h => congrArg iv h) rfl rfl c11 (by decide) wd_407 dX2_init_24 rfl ?_
  obtain ⟨M12, e12, h⟩ := fBd h
  replace e12 := Option.some.inj e12
  rw [e12]
  refine fW_rg (fun hRM12 => ?_)
  exact fW_vret rfl (by decide) (by decide) dX2_init_27 (rV_i h)
def mX7_init : fMt := (yX7_init, cX7_init, 2, none, { frames := 2, cells := 62, slots := 8158, locals := 80 })
theorem miX7_init : fMn mX7_init 0 := ⟨⟨fM 127 (by decide +kernel) rfl, fM 91 (by decide +kernel) rfl, ⟨by decide +kernel, by decide +kernel⟩, by decide +kernel⟩, fM 126 (by decide +kernel) rfl, rfl⟩
def L_X7_init_28 (o : Nat) (k : fMem → Option fMem) : Nat → Int → fMem → Option fMem
  | 0, _, _ => none
  | n + 1, v1, M => (if 19 ≤ v1 then k  M else (if Ty o = 7 ∧ ((o : Nat) : Int) < M 440 0 then (if M o 0 ≠ 0 then (if 0 ≤ M 440 0 ∧ M 440 0 < 440 ∧ Ty (M 440 0).toNat = 6 then ((some (mnew M) : Option fMem).bind fun (M17 : fMem) => (if 0 ≤ v1 ∧ v1 < 19 then ((f_X10_thingRoom (LO v1) M17).bind fun (r19 : Int) => ((f_X6_init ((M 440 0).toNat) r19 M17).bind fun (M20 : fMem) => (if Ty (Rf o 0) = 16 ∧ ((Rf o 0 : Nat) : Int) < M20 440 0 then (if 0 ≤ v1 ∧ v1 < Ln (Rf o 0) then (if Ty ((M 440 0).toNat) = 6 ∧ (((M 440 0).toNat : Nat) : Int) < M20 440 0 then (if Rf (Rf o 0) v1 = (M 440 0).toNat then ((some (mset M20 (Rf o 0) v1 1) : Option fMem).bind fun (M25 : fMem) => L_X7_init_28 o k n (v1 + 1) M25) else none) else none) else none) else none))) else none)) else none) else none) else none))
set_option maxRecDepth 100000 in
set_option maxHeartbeats 4000000 in
theorem l_X7_init_28 {G : fG} (hg : gbt G = false) {o : Nat} {q : fMem} {k : fMem → Option fMem} {cb sb : Nat} (hcb : cb + 20 * 3 ≤ 62) (hsb : sb + 20 * 406 ≤ 8158) (hk : ∀  (M : fMem), k  M = some q → fW G mX7_init (fEm G mX7_init (rV q) fNo) (cb + 20 * 3) (sb + 20 * 406) 61 [some (rv G o), none] [] M) : ∀ (n : Nat), n ≤ 20 → ∀ (v1 : Int) (M : fMem), rg v1 → L_X7_init_28 o k n v1 M = some q → fW G mX7_init (fEm G mX7_init (rV q) fNo) (cb + (20 - n) * 3) (sb + (20 - n) * 406) 28 [some (rv G o), some (iv v1)] [] M := by
  intro n
  induction n with
  | zero =>
    intro hnF v1 M gv1 h
    rw [L_X7_init_28] at h
    exact absurd h (by simp)
  | succ n ih =>
    intro hnF v1 M gv1 h
    rw [L_X7_init_28] at h
    refine fW_rg (fun hR => ?_)
    refine fW_iload_n 29 dX7_init_28 rfl rfl ?_
    refine fW_bipush 31 dX7_init_29 rfl (by decide) ?_
    refine fW_icmp_ge 34 61 gv1 (by decide) dX7_init_31 rfl rfl (fun c13 => ?_) (fun c13 => ?_)
    · replace h := fTt h c13
      refine fW_wide (c1 := cb + 20 * 3) (s1 := sb + 20 * 406) (by omega) (by omega) ?_
      exact fW_sb (hk  M  h) ⟨rfl, trivial⟩
    · replace h := fFf h c13
      refine fW_aload_n 35 dX7_init_34 rfl rfl ?_
      obtain ⟨c14, h⟩ := fS h
      obtain ⟨c15, h⟩ := fS h
      refine fU_getR 38 (r := Rf o 0) 0 (ji := 0) hg clX7 rfl (by decide) rfl c14 c15 rfl wd_180 dX7_init_35 rfl ?_
      refine fW_iload_n 39 dX7_init_38 rfl rfl ?_
      obtain ⟨c16, h⟩ := fS h
      refine fU_new 42 hg clX6 dfX6 c16.1 c16.2.1 c16.2.2 wc_129 wi_6 (wn_6) (by have := hcb; have := hsb; show _ ≤ _; simp only [mX7_init]; omega) (by have := hcb; have := hsb; show _ ≤ _; simp only [mX7_init]; omega) dX7_init_39 rfl ?_
      obtain ⟨M17, e17, h⟩ := fBd h
      replace e17 := Option.some.inj e17
      rw [e17]
      refine fW_rg (fun hRM17 => ?_)
      refine fW_dup 43 dX7_init_42 rfl rfl ?_
      refine fW_getsN 46 (host := "RowStore") 2 (by decide) (by decide +kernel) dX7_init_43 rfl ?_
      refine fW_iload_n 47 dX7_init_46 rfl rfl ?_
      obtain ⟨c18, h⟩ := fS h
      refine fW_sald 48 2 (by decide) c18 dX7_init_47 rfl ?_
      rw [show SV 2 v1 = LO v1 from rfl]
      obtain ⟨r19, e19, h⟩ := fBd h
      refine fW_cP (fI_SN (host := "RowStore") (as := [iv (LO v1)]) (rest := [rv G ((M 440 0).toNat), rv G ((M 440 0).toNat), iv v1, rv G (Rf o 0)]) miX10_thingRoom (by decide +kernel) ⟨⟨by decide, by decide⟩, (by have := hcb; have := hsb; show _ ≤ _; simp only [mX7_init, mX10_thingRoom]; omega), (by have := hcb; have := hsb; show _ ≤ _; simp only [mX7_init, mX10_thingRoom]; omega)⟩ rfl (Nat.le_of_ble_eq_true rfl) dX7_init_48) (s_X10_thingRoom (rg_LO c18) e19) rfl rfl rfl (fun g19 => ?_)
      obtain ⟨M20, e20, h⟩ := fBd h
      refine fU_cV (cb + (20 - (n + 1)) * 3 + 3) (sb + (20 - (n + 1)) * 406 + 406) (fI_I (as := [iv r19]) (rest := [rv G ((M 440 0).toNat), iv v1, rv G (Rf o 0)]) miX6_init rfl wd_140 ⟨⟨by decide, by decide⟩, (by have := hcb; have := hsb; show _ ≤ _; simp only [mX7_init, mX6_init]; omega), (by have := hcb; have := hsb; show _ ≤ _; simp only [mX7_init, mX6_init]; omega)⟩ rfl (Nat.le_of_ble_eq_true rfl) dX7_init_51) (s_X6_init hg g19 e20) rfl rfl rfl ?_
      refine fW_rg (fun hRM20 => ?_)
      obtain ⟨c21, h⟩ := fS h
      obtain ⟨c22, h⟩ := fS h
      obtain ⟨c23, h⟩ := fS h
      obtain ⟨c24, h⟩ := fS h
      refine fU_aast 55 (rr := (RX6, TX6, 6)) 4 hg c21 (by decide) (by decide) c22 c23 (by decide) rfl c24 rfl dX7_init_54 rfl ?_
      obtain ⟨M25, e25, h⟩ := fBd h
      replace e25 := Option.some.inj e25
      rw [e25]
      refine fW_rg (fun hRM25 => ?_)
      refine fW_iinc 58 (ls' := [some (rv G o), some (iv (v1 + 1))]) dX7_init_55 rfl rfl rfl (by decide) ?_
      refine fW_goto 28 dX7_init_58 rfl ?_
      refine fW_wide (c1 := cb + (20 - n) * 3) (s1 := sb + (20 - n) * 406) (by omega) (by omega) ?_
      exact fW_sb (ih (by omega) (v1 + 1) M25 (rg_succ' gv1 (by decide) c13) h) ⟨rfl, rfl, trivial⟩
def f_X7_init (o : Nat)  (M : fMem) : Option fMem := (if 0 ≤ M 440 0 ∧ M 440 0 < 440 ∧ Ty (M 440 0).toNat = 16 ∧ Ln (M 440 0).toNat = 19 then ((some (mnew M) : Option fMem).bind fun (M2 : fMem) => (if Ty o = 7 ∧ ((o : Nat) : Int) < M2 440 0 then (if Rf o 0 = (M 440 0).toNat then ((some (mset M2 o 0 1) : Option fMem).bind fun (M5 : fMem) => (if 0 ≤ M5 440 0 ∧ M5 440 0 < 440 ∧ Ty (M5 440 0).toNat = 12 ∧ Ln (M5 440 0).toNat = 19 then ((some (mnew M5) : Option fMem).bind fun (M7 : fMem) => (if Ty o = 7 ∧ ((o : Nat) : Int) < M7 440 0 then (if Rf o 1 = (M5 440 0).toNat then ((some (mset M7 o 1 1) : Option fMem).bind fun (M10 : fMem) => (if Ty o = 7 ∧ ((o : Nat) : Int) < M10 440 0 then ((some (mset M10 o 2 0) : Option fMem).bind fun (M12 : fMem) => (L_X7_init_28 o (fun  (N26 : fMem) => some N26) 20 0 M12)) else none)) else none) else none)) else none)) else none) else none)) else none)
set_option maxRecDepth 100000 in
set_option maxHeartbeats 4000000 in
theorem s_X7_init {G : fG} (hg : gbt G = false) {o : Nat}  {M : fMem} {q : fMem} (h : f_X7_init o  M = some q) : fSp G mX7_init [rv G o] M (rV q) fNo := by
  refine fSp_of (by decide +kernel) (by decide +kernel) (fC1 rfl fC0) (Nat.le_of_ble_eq_true rfl) ?_
  show fW G mX7_init (fEm G mX7_init (rV q) fNo) 0 0 0 [some (rv G o), none] [] M
  rw [f_X7_init] at h
  refine fW_rg (fun hR => ?_)
  refine fW_aload_n 1 dX7_init_0 rfl rfl ?_
  refine fU_obj 4 wd_128 (by decide) (Nat.le_of_ble_eq_true rfl) dX7_init_1 rfl ?_
  refine fW_aload_n 5 dX7_init_4 rfl rfl ?_
  refine fW_bipush 7 dX7_init_5 rfl (by decide) ?_
  obtain ⟨c1, h⟩ := fS h
  refine fU_anew 10 (t0 := 4) (C := "RowStore$Row") hg (by decide) (by decide) rfl c1.1 c1.2.1 c1.2.2.1 c1.2.2.2 (by decide) wc_129 (by decide +kernel) (by decide) (sx := 19) (by decide) (by decide) dX7_init_7 rfl ?_
  obtain ⟨M2, e2, h⟩ := fBd h
  replace e2 := Option.some.inj e2
  rw [e2]
  refine fW_rg (fun hRM2 => ?_)
  obtain ⟨c3, h⟩ := fS h
  obtain ⟨c4, h⟩ := fS h
  refine fU_put 13 0 (ji := 0) (v := 1) (w := rv G ((M 440 0).toNat)) hg clX7 rfl (by decide) rfl rfl (fun M' h => fFv_ref (G := G) (M := M') (u := 16) rfl h c4) rfl rfl c3 (by decide) wd_180 dX7_init_10 rfl ?_
  obtain ⟨M5, e5, h⟩ := fBd h
  replace e5 := Option.some.inj e5
  rw [e5]
  refine fW_rg (fun hRM5 => ?_)
  refine fW_aload_n 14 dX7_init_13 rfl rfl ?_
  refine fW_bipush 16 dX7_init_14 rfl (by decide) ?_
  obtain ⟨c6, h⟩ := fS h
  refine fU_newa 18 (atype := .int) rfl hg (Or.inl ⟨rfl, rfl, rfl⟩) c6.1 c6.2.1 c6.2.2.1 c6.2.2.2 (by decide) wa_12 (by decide) (sx := 19) (by decide) (by decide) dX7_init_16 rfl ?_
  obtain ⟨M7, e7, h⟩ := fBd h
  replace e7 := Option.some.inj e7
  rw [e7]
  refine fW_rg (fun hRM7 => ?_)
  obtain ⟨c8, h⟩ := fS h
  obtain ⟨c9, h⟩ := fS h
  refine fU_put 21 1 (ji := 1) (v := 1) (w := rv G ((M5 440 0).toNat)) hg clX7 rfl (by decide) rfl rfl (fun M' h => fFv_ref (G := G) (M := M') (u := 12) rfl h c9) rfl rfl c8 (by decide) wd_186 dX7_init_18 rfl ?_
  obtain ⟨M10, e10, h⟩ := fBd h
  replace e10 := Option.some.inj e10
  rw [e10]
  refine fW_rg (fun hRM10 => ?_)
  refine fW_aload_n 22 dX7_init_21 rfl rfl ?_
  refine fW_iconst 23 dX7_init_22 rfl ?_
  obtain ⟨c11, h⟩ := fS h
  refine fU_put 26 2 (ji := 2) (v := 0) (w := iv 0) hg clX7 rfl (by decide) (by first | rfl | exact (iv_z (by decide)).1) (by first | rfl | exact (iv_z (by decide)).2.1) (fun M' h => congrArg iv h) rfl rfl c11 (by decide) wd_190 dX7_init_23 rfl ?_
  obtain ⟨M12, e12, h⟩ := fBd h
  replace e12 := Option.some.inj e12
  rw [e12]
  refine fW_rg (fun hRM12 => ?_)
  refine fW_iconst 27 dX7_init_26 rfl ?_
  refine fW_istore_n 28 (ls' := [some (rv G o), some (iv 0)]) dX7_init_27 rfl rfl rfl (by decide) ?_
  refine fW_sb (l_X7_init_28 hg (cb := 2) (sb := 38) (by decide) (by decide) ?_ 20 (by omega) 0 M12 (by decide) h) ⟨rfl, rfl, trivial⟩
  intro  N26  h
  refine fW_rg (fun hRN26 => ?_)
  exact fW_vret rfl (by decide) (by decide) dX7_init_61 (rV_i h)
def mX0_init : fMt := (yX0_init, cX0_init, 2, none, { frames := 3, cells := 74, slots := 8260, locals := 120 })
theorem miX0_init : fMn mX0_init 0 := ⟨⟨fM 121 (by decide +kernel) rfl, fM 90 (by decide +kernel) rfl, ⟨by decide +kernel, by decide +kernel⟩, by decide +kernel⟩, fM 120 (by decide +kernel) rfl, rfl⟩
def L_X0_init_67 (o : Nat) (k : fMem → Option fMem) : Nat → Int → fMem → Option fMem
  | 0, _, _ => none
  | n + 1, v1, M => (if 9 ≤ v1 then k  M else (if Ty o = 0 ∧ ((o : Nat) : Int) < M 440 0 then (if M o 1 ≠ 0 then (if 0 ≤ M 440 0 ∧ M 440 0 < 440 ∧ Ty (M 440 0).toNat = 4 then ((some (mnew M) : Option fMem).bind fun (M32 : fMem) => ((f_X4_init ((M 440 0).toNat) M32).bind fun (M33 : fMem) => (if Ty (Rf o 1) = 15 ∧ ((Rf o 1 : Nat) : Int) < M33 440 0 then (if 0 ≤ v1 ∧ v1 < Ln (Rf o 1) then (if Ty ((M 440 0).toNat) = 4 ∧ (((M 440 0).toNat : Nat) : Int) < M33 440 0 then (if Rf (Rf o 1) v1 = (M 440 0).toNat then ((some (mset M33 (Rf o 1) v1 1) : Option fMem).bind fun (M38 : fMem) => L_X0_init_67 o k n (v1 + 1) M38) else none) else none) else none) else none))) else none) else none) else none))
set_option maxRecDepth 100000 in
set_option maxHeartbeats 4000000 in
theorem l_X0_init_67 {G : fG} (hg : gbt G = false) {o : Nat} {q : fMem} {k : fMem → Option fMem} {cb sb : Nat} (hcb : cb + 10 * 1 ≤ 74) (hsb : sb + 10 * 9 ≤ 8260) (hk : ∀  (M : fMem), k  M = some q → fW G mX0_init (fEm G mX0_init (rV q) fNo) (cb + 10 * 1) (sb + 10 * 9) 92 [some (rv G o), none] [] M) : ∀ (n : Nat), n ≤ 10 → ∀ (v1 : Int) (M : fMem), rg v1 → L_X0_init_67 o k n v1 M = some q → fW G mX0_init (fEm G mX0_init (rV q) fNo) (cb + (10 - n) * 1) (sb + (10 - n) * 9) 67 [some (rv G o), some (iv v1)] [] M := by
  intro n
  induction n with
  | zero =>
    intro hnF v1 M gv1 h
    rw [L_X0_init_67] at h
    exact absurd h (by simp)
  | succ n ih =>
    intro hnF v1 M gv1 h
    rw [L_X0_init_67] at h
    refine fW_rg (fun hR => ?_)
    refine fW_iload_n 68 dX0_init_67 rfl rfl ?_
    refine fW_bipush 70 dX0_init_68 rfl (by decide) ?_
    refine fW_icmp_ge 73 92 gv1 (by decide) dX0_init_70 rfl rfl (fun c28 => ?_) (fun c28 => ?_)
    · replace h := fTt h c28
      refine fW_wide (c1 := cb + 10 * 1) (s1 := sb + 10 * 9) (by omega) (by omega) ?_
      exact fW_sb (hk  M  h) ⟨rfl, trivial⟩
    · replace h := fFf h c28
      refine fW_aload_n 74 dX0_init_73 rfl rfl ?_
      obtain ⟨c29, h⟩ := fS h
      obtain ⟨c30, h⟩ := fS h
      refine fU_getR 77 (r := Rf o 1) 1 (ji := 1) hg clX0 rfl (by decide) rfl c29 c30 rfl wd_249 dX0_init_74 rfl ?_
      refine fW_iload_n 78 dX0_init_77 rfl rfl ?_
      obtain ⟨c31, h⟩ := fS h
      refine fU_new 81 hg clX4 dfX4 c31.1 c31.2.1 c31.2.2 wc_199 wi_4 (wn_4) (by have := hcb; have := hsb; show _ ≤ _; simp only [mX0_init]; omega) (by have := hcb; have := hsb; show _ ≤ _; simp only [mX0_init]; omega) dX0_init_78 rfl ?_
      obtain ⟨M32, e32, h⟩ := fBd h
      replace e32 := Option.some.inj e32
      rw [e32]
      refine fW_rg (fun hRM32 => ?_)
      refine fW_dup 82 dX0_init_81 rfl rfl ?_
      obtain ⟨M33, e33, h⟩ := fBd h
      refine fU_cV (cb + (10 - (n + 1)) * 1 + 1) (sb + (10 - (n + 1)) * 9 + 9) (fI_IN (host := "RowStore") (as := []) (rest := [rv G ((M 440 0).toNat), iv v1, rv G (Rf o 1)]) miX4_init rfl (by decide +kernel) ⟨⟨by decide, by decide⟩, (by have := hcb; have := hsb; show _ ≤ _; simp only [mX0_init, mX4_init]; omega), (by have := hcb; have := hsb; show _ ≤ _; simp only [mX0_init, mX4_init]; omega)⟩ rfl (Nat.le_of_ble_eq_true rfl) dX0_init_82) (s_X4_init hg  e33) rfl rfl rfl ?_
      refine fW_rg (fun hRM33 => ?_)
      obtain ⟨c34, h⟩ := fS h
      obtain ⟨c35, h⟩ := fS h
      obtain ⟨c36, h⟩ := fS h
      obtain ⟨c37, h⟩ := fS h
      refine fU_aast 86 (rr := (RX4, TX4, 9)) 3 hg c34 (by decide) (by decide) c35 c36 (by decide) rfl c37 rfl dX0_init_85 rfl ?_
      obtain ⟨M38, e38, h⟩ := fBd h
      replace e38 := Option.some.inj e38
      rw [e38]
      refine fW_rg (fun hRM38 => ?_)
      refine fW_iinc 89 (ls' := [some (rv G o), some (iv (v1 + 1))]) dX0_init_86 rfl rfl rfl (by decide) ?_
      refine fW_goto 67 dX0_init_89 rfl ?_
      refine fW_wide (c1 := cb + (10 - n) * 1) (s1 := sb + (10 - n) * 9) (by omega) (by omega) ?_
      exact fW_sb (ih (by omega) (v1 + 1) M38 (rg_succ' gv1 (by decide) c28) h) ⟨rfl, rfl, trivial⟩
def f_X0_init (o : Nat)  (M : fMem) : Option fMem := (if 0 ≤ M 440 0 ∧ M 440 0 < 440 ∧ Ty (M 440 0).toNat = 7 then ((some (mnew M) : Option fMem).bind fun (M2 : fMem) => ((f_X7_init ((M 440 0).toNat) M2).bind fun (M3 : fMem) => (if Ty o = 0 ∧ ((o : Nat) : Int) < M3 440 0 then (if Rf o 0 = (M 440 0).toNat then ((some (mset M3 o 0 1) : Option fMem).bind fun (M6 : fMem) => (if 0 ≤ M6 440 0 ∧ M6 440 0 < 440 ∧ Ty (M6 440 0).toNat = 15 ∧ Ln (M6 440 0).toNat = 9 then ((some (mnew M6) : Option fMem).bind fun (M8 : fMem) => (if Ty o = 0 ∧ ((o : Nat) : Int) < M8 440 0 then (if Rf o 1 = (M6 440 0).toNat then ((some (mset M8 o 1 1) : Option fMem).bind fun (M11 : fMem) => (if Ty o = 0 ∧ ((o : Nat) : Int) < M11 440 0 then ((some (mset M11 o 2 6) : Option fMem).bind fun (M13 : fMem) => (if Ty o = 0 ∧ ((o : Nat) : Int) < M13 440 0 then ((some (mset M13 o 3 0) : Option fMem).bind fun (M15 : fMem) => (if Ty o = 0 ∧ ((o : Nat) : Int) < M15 440 0 then ((some (mset M15 o 4 0) : Option fMem).bind fun (M17 : fMem) => (if Ty o = 0 ∧ ((o : Nat) : Int) < M17 440 0 then ((some (mset M17 o 5 0) : Option fMem).bind fun (M19 : fMem) => (if Ty o = 0 ∧ ((o : Nat) : Int) < M19 440 0 then ((some (mset M19 o 6 0) : Option fMem).bind fun (M21 : fMem) => (if Ty o = 0 ∧ ((o : Nat) : Int) < M21 440 0 then ((some (mset M21 o 7 0) : Option fMem).bind fun (M23 : fMem) => (if Ty o = 0 ∧ ((o : Nat) : Int) < M23 440 0 then ((some (mset M23 o 8 0) : Option fMem).bind fun (M25 : fMem) => (if Ty o = 0 ∧ ((o : Nat) : Int) < M25 440 0 then ((some (mset M25 o 9 0) : Option fMem).bind fun (M27 : fMem) => (L_X0_init_67 o (fun  (N39 : fMem) => some N39) 10 0 M27)) else none)) else none)) else none)) else none)) else none)) else none)) else none)) else none)) else none) else none)) else none)) else none) else none))) else none)
set_option maxRecDepth 100000 in
set_option maxHeartbeats 4000000 in
theorem s_X0_init {G : fG} (hg : gbt G = false) {o : Nat}  {M : fMem} {q : fMem} (h : f_X0_init o  M = some q) : fSp G mX0_init [rv G o] M (rV q) fNo := by
  refine fSp_of (by decide +kernel) (by decide +kernel) (fC1 rfl fC0) (Nat.le_of_ble_eq_true rfl) ?_
  show fW G mX0_init (fEm G mX0_init (rV q) fNo) 0 0 0 [some (rv G o), none] [] M
  rw [f_X0_init] at h
  refine fW_rg (fun hR => ?_)
  refine fW_aload_n 1 dX0_init_0 rfl rfl ?_
  refine fU_obj 4 wd_122 (by decide) (Nat.le_of_ble_eq_true rfl) dX0_init_1 rfl ?_
  refine fW_aload_n 5 dX0_init_4 rfl rfl ?_
  obtain ⟨c1, h⟩ := fS h
  refine fU_new 8 hg clX7 dfX7 c1.1 c1.2.1 c1.2.2 wc_123 wi_7 (wn_7) (by decide) (by decide) dX0_init_5 rfl ?_
  obtain ⟨M2, e2, h⟩ := fBd h
  replace e2 := Option.some.inj e2
  rw [e2]
  refine fW_rg (fun hRM2 => ?_)
  refine fW_dup 9 dX0_init_8 rfl rfl ?_
  obtain ⟨M3, e3, h⟩ := fBd h
  refine fU_cV (63) (8161) (fI_I (as := []) (rest := [rv G ((M 440 0).toNat), rv G o]) miX7_init rfl wd_125 (fRoom_of rfl) rfl (Nat.le_of_ble_eq_true rfl) dX0_init_9) (s_X7_init hg  e3) rfl rfl rfl ?_
  refine fW_rg (fun hRM3 => ?_)
  obtain ⟨c4, h⟩ := fS h
  obtain ⟨c5, h⟩ := fS h
  refine fU_put 15 0 (ji := 0) (v := 1) (w := rv G ((M 440 0).toNat)) hg clX0 rfl (by decide) rfl rfl (fun M' h => fFv_ref (G := G) (M := M') (u := 7) rfl h c5) rfl rfl c4 (by decide) wd_247 dX0_init_12 rfl ?_
  obtain ⟨M6, e6, h⟩ := fBd h
  replace e6 := Option.some.inj e6
  rw [e6]
  refine fW_rg (fun hRM6 => ?_)
  refine fW_aload_n 16 dX0_init_15 rfl rfl ?_
  refine fW_bipush 18 dX0_init_16 rfl (by decide) ?_
  obtain ⟨c7, h⟩ := fS h
  refine fU_anew 21 (t0 := 3) (C := "RowStore$Merge") hg (by decide) (by decide) rfl c7.1 c7.2.1 c7.2.2.1 c7.2.2.2 (by decide) wc_199 (by decide +kernel) (by decide) (sx := 9) (by decide) (by decide) dX0_init_18 rfl ?_
  obtain ⟨M8, e8, h⟩ := fBd h
  replace e8 := Option.some.inj e8
  rw [e8]
  refine fW_rg (fun hRM8 => ?_)
  obtain ⟨c9, h⟩ := fS h
  obtain ⟨c10, h⟩ := fS h
  refine fU_put 24 1 (ji := 1) (v := 1) (w := rv G ((M6 440 0).toNat)) hg clX0 rfl (by decide) rfl rfl (fun M' h => fFv_ref (G := G) (M := M') (u := 15) rfl h c10) rfl rfl c9 (by decide) wd_249 dX0_init_21 rfl ?_
  obtain ⟨M11, e11, h⟩ := fBd h
  replace e11 := Option.some.inj e11
  rw [e11]
  refine fW_rg (fun hRM11 => ?_)
  refine fW_aload_n 25 dX0_init_24 rfl rfl ?_
  refine fW_bipush 27 dX0_init_25 rfl (by decide) ?_
  obtain ⟨c12, h⟩ := fS h
  refine fU_put 30 2 (ji := 2) (v := 6) (w := iv 6) hg clX0 rfl (by decide) (by first | rfl | exact (iv_z (by decide)).1) (by first | rfl | exact (iv_z (by decide)).2.1) (fun M' h => congrArg iv h) rfl rfl c12 (by decide) wd_251 dX0_init_27 rfl ?_
  obtain ⟨M13, e13, h⟩ := fBd h
  replace e13 := Option.some.inj e13
  rw [e13]
  refine fW_rg (fun hRM13 => ?_)
  refine fW_aload_n 31 dX0_init_30 rfl rfl ?_
  refine fW_iconst 32 dX0_init_31 rfl ?_
  obtain ⟨c14, h⟩ := fS h
  refine fU_put 35 3 (ji := 3) (v := 0) (w := iv 0) hg clX0 rfl (by decide) (by first | rfl | exact (iv_z (by decide)).1) (by first | rfl | exact (iv_z (by decide)).2.1) (fun M' h => congrArg iv h) rfl rfl c14 (by decide) wd_253 dX0_init_32 rfl ?_
  obtain ⟨M15, e15, h⟩ := fBd h
  replace e15 := Option.some.inj e15
  rw [e15]
  refine fW_rg (fun hRM15 => ?_)
  refine fW_aload_n 36 dX0_init_35 rfl rfl ?_
  refine fW_iconst 37 dX0_init_36 rfl ?_
  obtain ⟨c16, h⟩ := fS h
  refine fU_put 40 4 (ji := 4) (v := 0) (w := iv 0) hg clX0 rfl (by decide) (by first | rfl | exact (iv_z (by decide)).1) (by first | rfl | exact (iv_z (by decide)).2.1) (fun M' h => congrArg iv h) rfl rfl c16 (by decide) wd_254 dX0_init_37 rfl ?_
  obtain ⟨M17, e17, h⟩ := fBd h
  replace e17 := Option.some.inj e17
  rw [e17]
  refine fW_rg (fun hRM17 => ?_)
  refine fW_aload_n 41 dX0_init_40 rfl rfl ?_
  refine fW_iconst 42 dX0_init_41 rfl ?_
  obtain ⟨c18, h⟩ := fS h
  refine fU_put 45 5 (ji := 5) (v := 0) (w := iv 0) hg clX0 rfl (by decide) (by first | rfl | exact (iv_z (by decide)).1) (by first | rfl | exact (iv_z (by decide)).2.1) (fun M' h => congrArg iv h) rfl rfl c18 (by decide) wd_256 dX0_init_42 rfl ?_
  obtain ⟨M19, e19, h⟩ := fBd h
  replace e19 := Option.some.inj e19
  rw [e19]
  refine fW_rg (fun hRM19 => ?_)
  refine fW_aload_n 46 dX0_init_45 rfl rfl ?_
  refine fW_iconst 47 dX0_init_46 rfl ?_
  obtain ⟨c20, h⟩ := fS h
  refine fU_put 50 6 (ji := 6) (v := 0) (w := iv 0) hg clX0 rfl (by decide) (by first | rfl | exact (iv_z (by decide)).1) (by first | rfl | exact (iv_z (by decide)).2.1) (fun M' h => congrArg iv h) rfl rfl c20 (by decide) wd_258 dX0_init_47 rfl ?_
  obtain ⟨M21, e21, h⟩ := fBd h
  replace e21 := Option.some.inj e21
  rw [e21]
  refine fW_rg (fun hRM21 => ?_)
  refine fW_aload_n 51 dX0_init_50 rfl rfl ?_
  refine fW_iconst 52 dX0_init_51 rfl ?_
  obtain ⟨c22, h⟩ := fS h
  refine fU_put 55 7 (ji := 7) (v := 0) (w := iv 0) hg clX0 rfl (by decide) (by first | rfl | exact (iv_z (by decide)).1) (by first | rfl | exact (iv_z (by decide)).2.1) (fun M' h => congrArg iv h) rfl rfl c22 (by decide) wd_260 dX0_init_52 rfl ?_
  obtain ⟨M23, e23, h⟩ := fBd h
  replace e23 := Option.some.inj e23
  rw [e23]
  refine fW_rg (fun hRM23 => ?_)
  refine fW_aload_n 56 dX0_init_55 rfl rfl ?_
  refine fW_iconst 57 dX0_init_56 rfl ?_
  obtain ⟨c24, h⟩ := fS h
  refine fU_put 60 8 (ji := 8) (v := 0) (w := iv 0) hg clX0 rfl (by decide) (by first | rfl | exact (iv_z (by decide)).1) (by first | rfl | exact (iv_z (by decide)).2.1) (fun M' h => congrArg iv h) rfl rfl c24 (by decide) wd_262 dX0_init_57 rfl ?_
  obtain ⟨M25, e25, h⟩ := fBd h
  replace e25 := Option.some.inj e25
  rw [e25]
  refine fW_rg (fun hRM25 => ?_)
  refine fW_aload_n 61 dX0_init_60 rfl rfl ?_
  refine fW_iconst 62 dX0_init_61 rfl ?_
  obtain ⟨c26, h⟩ := fS h
  refine fU_put 65 9 (ji := 9) (v := 0) (w := iv 0) hg clX0 rfl (by decide) (by first | rfl | exact (iv_z (by decide)).1) (by first | rfl | exact (iv_z (by decide)).2.1) (fun M' h => congrArg iv h) rfl rfl c26 (by decide) wd_264 dX0_init_62 rfl ?_
  obtain ⟨M27, e27, h⟩ := fBd h
  replace e27 := Option.some.inj e27
  rw [e27]
  refine fW_rg (fun hRM27 => ?_)
  refine fW_iconst 66 dX0_init_65 rfl ?_
  refine fW_istore_n 67 (ls' := [some (rv G o), some (iv 0)]) dX0_init_66 rfl rfl rfl (by decide) ?_
  refine fW_sb (l_X0_init_67 hg (cb := 64) (sb := 8170) (by decide) (by decide) ?_ 10 (by omega) 0 M27 (by decide) h) ⟨rfl, rfl, trivial⟩
  intro  N39  h
  refine fW_rg (fun hRN39 => ?_)
  exact fW_vret rfl (by decide) (by decide) dX0_init_92 (rV_i h)
def mX3_init : fMt := (yX3_init, cX3_init, 5, none, { frames := 2, cells := 161, slots := 39579, locals := 80 })
theorem miX3_init : fMn mX3_init 0 := ⟨⟨fM 325 (by decide +kernel) rfl, fM 97 (by decide +kernel) rfl, ⟨by decide +kernel, by decide +kernel⟩, by decide +kernel⟩, fM 324 (by decide +kernel) rfl, rfl⟩
def L_X3_init_49 (o : Nat) (k : Int → Int → Int → fMem → Option fMem) : Nat → Int → Int → Int → Int → fMem → Option fMem
  | 0, _, _, _, _, _ => none
  | n + 1, v1, v2, v3, v4, M => (if 0 ≤ v3 ∧ v3 < 9 then (if (ER v3) ≤ v4 then k v1 v2 v3 M else (if Ty o = 3 ∧ ((o : Nat) : Int) < M 440 0 then (if M o 0 ≠ 0 then (if 0 ≤ M 440 0 ∧ M 440 0 < 440 ∧ Ty (M 440 0).toNat = 1 then ((some (mnew M) : Option fMem).bind fun (M17 : fMem) => ((f_X1_init ((M 440 0).toNat) v1 M17).bind fun (M18 : fMem) => (if Ty (Rf o 0) = 14 ∧ ((Rf o 0 : Nat) : Int) < M18 440 0 then (if 0 ≤ v4 ∧ v4 < Ln (Rf o 0) then (if Ty ((M 440 0).toNat) = 1 ∧ (((M 440 0).toNat : Nat) : Int) < M18 440 0 then (if Rf (Rf o 0) v4 = (M 440 0).toNat then ((some (mset M18 (Rf o 0) v4 1) : Option fMem).bind fun (M23 : fMem) => L_X3_init_49 o k n v1 v2 v3 (v4 + 1) M23) else none) else none) else none) else none))) else none) else none) else none)) else none)
set_option maxRecDepth 100000 in
set_option maxHeartbeats 4000000 in
theorem l_X3_init_49 {G : fG} (hg : gbt G = false) {o : Nat} {q : fMem} {k : Int → Int → Int → fMem → Option fMem} {cb sb : Nat} (hcb : cb + 4 * 4 ≤ 161) (hsb : sb + 4 * 989 ≤ 39579) (hk : ∀ (v1 : Int) (v2 : Int) (v3 : Int) (M : fMem), rg v1 → rg v2 → rg v3 → k v1 v2 v3 M = some q → fW G mX3_init (fEm G mX3_init (rV q) fNo) (cb + 4 * 4) (sb + 4 * 989) 80 [some (rv G o), some (iv v1), some (iv v2), some (iv v3), none] [] M) : ∀ (n : Nat), n ≤ 4 → ∀ (v1 : Int) (v2 : Int) (v3 : Int) (v4 : Int) (M : fMem), rg v1 → rg v2 → rg v3 → rg v4 → L_X3_init_49 o k n v1 v2 v3 v4 M = some q → fW G mX3_init (fEm G mX3_init (rV q) fNo) (cb + (4 - n) * 4) (sb + (4 - n) * 989) 49 [some (rv G o), some (iv v1), some (iv v2), some (iv v3), some (iv v4)] [] M := by
  intro n
  induction n with
  | zero =>
    intro hnF v1 v2 v3 v4 M gv1 gv2 gv3 gv4 h
    rw [L_X3_init_49] at h
    exact absurd h (by simp)
  | succ n ih =>
    intro hnF v1 v2 v3 v4 M gv1 gv2 gv3 gv4 h
    rw [L_X3_init_49] at h
    refine fW_rg (fun hR => ?_)
    refine fW_iload 51 dX3_init_49 rfl rfl ?_
    refine fW_getsN 54 (host := "RowStore") 1 (by decide) (by decide +kernel) dX3_init_51 rfl ?_
    refine fW_iload_n 55 dX3_init_54 rfl rfl ?_
    obtain ⟨c12, h⟩ := fS h
    refine fW_sald 56 1 (by decide) c12 dX3_init_55 rfl ?_
    rw [show SV 1 v3 = ER v3 from rfl]
    refine fW_icmp_ge 59 80 gv4 (rg_ER c12) dX3_init_56 rfl rfl (fun c13 => ?_) (fun c13 => ?_)
    · replace h := fTt h c13
      refine fW_wide (c1 := cb + 4 * 4) (s1 := sb + 4 * 989) (by omega) (by omega) ?_
      exact fW_sb (hk v1 v2 v3 M gv1 gv2 gv3 h) ⟨rfl, rfl, rfl, rfl, trivial⟩
    · replace h := fFf h c13
      refine fW_aload_n 60 dX3_init_59 rfl rfl ?_
      obtain ⟨c14, h⟩ := fS h
      obtain ⟨c15, h⟩ := fS h
      refine fU_getR 63 (r := Rf o 0) 0 (ji := 0) hg clX3 rfl (by decide) rfl c14 c15 rfl wd_361 dX3_init_60 rfl ?_
      refine fW_iload 65 dX3_init_63 rfl rfl ?_
      obtain ⟨c16, h⟩ := fS h
      refine fU_new 68 hg clX1 dfX1 c16.1 c16.2.1 c16.2.2 wc_327 wi_1 (wn_1) (by have := hcb; have := hsb; show _ ≤ _; simp only [mX3_init]; omega) (by have := hcb; have := hsb; show _ ≤ _; simp only [mX3_init]; omega) dX3_init_65 rfl ?_
      obtain ⟨M17, e17, h⟩ := fBd h
      replace e17 := Option.some.inj e17
      rw [e17]
      refine fW_rg (fun hRM17 => ?_)
      refine fW_dup 69 dX3_init_68 rfl rfl ?_
      refine fW_iload_n 70 dX3_init_69 rfl rfl ?_
      obtain ⟨M18, e18, h⟩ := fBd h
      refine fU_cV (cb + (4 - (n + 1)) * 4 + 4) (sb + (4 - (n + 1)) * 989 + 989) (fI_I (as := [iv v1]) (rest := [rv G ((M 440 0).toNat), iv v4, rv G (Rf o 0)]) miX1_init rfl wd_335 ⟨⟨by decide, by decide⟩, (by have := hcb; have := hsb; show _ ≤ _; simp only [mX3_init, mX1_init]; omega), (by have := hcb; have := hsb; show _ ≤ _; simp only [mX3_init, mX1_init]; omega)⟩ rfl (Nat.le_of_ble_eq_true rfl) dX3_init_70) (s_X1_init hg gv1 e18) rfl rfl rfl ?_
      refine fW_rg (fun hRM18 => ?_)
      obtain ⟨c19, h⟩ := fS h
      obtain ⟨c20, h⟩ := fS h
      obtain ⟨c21, h⟩ := fS h
      obtain ⟨c22, h⟩ := fS h
      refine fU_aast 74 (rr := (RX1, TX1, 5)) 2 hg c19 (by decide) (by decide) c20 c21 (by decide) rfl c22 rfl dX3_init_73 rfl ?_
      obtain ⟨M23, e23, h⟩ := fBd h
      replace e23 := Option.some.inj e23
      rw [e23]
      refine fW_rg (fun hRM23 => ?_)
      refine fW_iinc 77 (ls' := [some (rv G o), some (iv v1), some (iv v2), some (iv v3), some (iv (v4 + 1))]) dX3_init_74 rfl rfl rfl (by decide) ?_
      refine fW_goto 49 dX3_init_77 rfl ?_
      refine fW_wide (c1 := cb + (4 - n) * 4) (s1 := sb + (4 - n) * 989) (by omega) (by omega) ?_
      exact fW_sb (ih (by omega) v1 v2 v3 (v4 + 1) M23 gv1 gv2 gv3 (rg_succ' gv4 (rg_ER c12) c13) h) ⟨rfl, rfl, rfl, rfl, rfl, trivial⟩
def L_X3_init_20 (o : Nat) (k : fMem → Option fMem) : Nat → Int → Int → Int → fMem → Option fMem
  | 0, _, _, _, _ => none
  | n + 1, v1, v2, v3, M => (if v3 < 0 then k  M else ((f_X10_thingRoom v3 M).bind fun (r7 : Int) => (if 0 ≤ v1 then (if 0 ≤ v2 then ((f_X10_thingRoom v3 M).bind fun (r10 : Int) => (if 0 ≤ v3 ∧ v3 < 9 then (if -2147483648 ≤ (r7 + (v1 / 2)) + (v2 / 2) ∧ (r7 + (v1 / 2)) + (v2 / 2) < 2147483648 then (L_X3_init_49 o (fun (v1_24 : Int) (v2_24 : Int) (v3_24 : Int) (N24 : fMem) => (if -2147483648 ≤ v3_24 + -1 ∧ v3_24 + -1 < 2147483648 then L_X3_init_20 o k n v1_24 v2_24 (v3_24 + -1) N24 else none)) 4 ((r7 + (v1 / 2)) + (v2 / 2)) r10 v3 (FR v3) M) else none) else none)) else none) else none)))
set_option maxRecDepth 100000 in
set_option maxHeartbeats 4000000 in
theorem l_X3_init_20 {G : fG} (hg : gbt G = false) {o : Nat} {q : fMem} {k : fMem → Option fMem} {cb sb : Nat} (hcb : cb + 10 * 16 ≤ 161) (hsb : sb + 10 * 3956 ≤ 39579) (hk : ∀  (M : fMem), k  M = some q → fW G mX3_init (fEm G mX3_init (rV q) fNo) (cb + 10 * 16) (sb + 10 * 3956) 86 [some (rv G o), none, none, none, none] [] M) : ∀ (n : Nat), n ≤ 10 → ∀ (v1 : Int) (v2 : Int) (v3 : Int) (M : fMem), rg v1 → rg v2 → rg v3 → L_X3_init_20 o k n v1 v2 v3 M = some q → fW G mX3_init (fEm G mX3_init (rV q) fNo) (cb + (10 - n) * 16) (sb + (10 - n) * 3956) 20 [some (rv G o), some (iv v1), some (iv v2), some (iv v3), none] [] M := by
  intro n
  induction n with
  | zero =>
    intro hnF v1 v2 v3 M gv1 gv2 gv3 h
    rw [L_X3_init_20] at h
    exact absurd h (by simp)
  | succ n ih =>
    intro hnF v1 v2 v3 M gv1 gv2 gv3 h
    rw [L_X3_init_20] at h
    refine fW_rg (fun hR => ?_)
    refine fW_iload_n 21 dX3_init_20 rfl rfl ?_
    refine fW_if_lt 24 86 gv3 dX3_init_21 rfl rfl (fun c6 => ?_) (fun c6 => ?_)
    · replace h := fTt h c6
      refine fW_wide (c1 := cb + 10 * 16) (s1 := sb + 10 * 3956) (by omega) (by omega) ?_
      exact fW_sb (hk  M  h) ⟨rfl, trivial⟩
    · replace h := fFf h c6
      refine fW_iload_n 25 dX3_init_24 rfl rfl ?_
      obtain ⟨r7, e7, h⟩ := fBd h
      refine fW_cP (fI_SN (host := "RowStore") (as := [iv v3]) (rest := []) miX10_thingRoom (by decide +kernel) ⟨⟨by decide, by decide⟩, (by have := hcb; have := hsb; show _ ≤ _; simp only [mX3_init, mX10_thingRoom]; omega), (by have := hcb; have := hsb; show _ ≤ _; simp only [mX3_init, mX10_thingRoom]; omega)⟩ rfl (Nat.le_of_ble_eq_true rfl) dX3_init_25) (s_X10_thingRoom gv3 e7) rfl rfl rfl (fun g7 => ?_)
      refine fW_iload_n 29 dX3_init_28 rfl rfl ?_
      refine fW_iconst 30 dX3_init_29 rfl ?_
      obtain ⟨c8, h⟩ := fS h
      refine fW_idiv 31 ⟨c8, gv1.2⟩ (by decide) dX3_init_30 rfl ?_
      refine fW_iadd 32 dX3_init_31 rfl ?_
      refine fW_iload_n 33 dX3_init_32 rfl rfl ?_
      refine fW_iconst 34 dX3_init_33 rfl ?_
      obtain ⟨c9, h⟩ := fS h
      refine fW_idiv 35 ⟨c9, gv2.2⟩ (by decide) dX3_init_34 rfl ?_
      refine fW_iadd 36 dX3_init_35 rfl ?_
      refine fW_istore_n 37 (ls' := [some (rv G o), some (iv ((r7 + (v1 / 2)) + (v2 / 2))), some (iv v2), some (iv v3), none]) dX3_init_36 rfl rfl rfl (by decide) ?_
      refine fW_iload_n 38 dX3_init_37 rfl rfl ?_
      obtain ⟨r10, e10, h⟩ := fBd h
      refine fW_cP (fI_SN (host := "RowStore") (as := [iv v3]) (rest := []) miX10_thingRoom (by decide +kernel) ⟨⟨by decide, by decide⟩, (by have := hcb; have := hsb; show _ ≤ _; simp only [mX3_init, mX10_thingRoom]; omega), (by have := hcb; have := hsb; show _ ≤ _; simp only [mX3_init, mX10_thingRoom]; omega)⟩ rfl (Nat.le_of_ble_eq_true rfl) dX3_init_38) (s_X10_thingRoom gv3 e10) rfl rfl rfl (fun g10 => ?_)
      refine fW_istore_n 42 (ls' := [some (rv G o), some (iv ((r7 + (v1 / 2)) + (v2 / 2))), some (iv r10), some (iv v3), none]) dX3_init_41 rfl rfl rfl (by decide) ?_
      refine fW_getsN 45 (host := "RowStore") 0 (by decide) (by decide +kernel) dX3_init_42 rfl ?_
      refine fW_iload_n 46 dX3_init_45 rfl rfl ?_
      obtain ⟨c11, h⟩ := fS h
      refine fW_sald 47 0 (by decide) c11 dX3_init_46 rfl ?_
      rw [show SV 0 v3 = FR v3 from rfl]
      refine fW_istore 49 (ls' := [some (rv G o), some (iv ((r7 + (v1 / 2)) + (v2 / 2))), some (iv r10), some (iv v3), some (iv (FR v3))]) dX3_init_47 rfl rfl (by decide) ?_
      obtain ⟨c26, h⟩ := fS h
      refine fW_wide (c1 := cb + (10 - (n + 1)) * 16 + 0 + (4 - 4) * 4) (s1 := sb + (10 - (n + 1)) * 3956 + 0 + (4 - 4) * 989) (by omega) (by omega) ?_
      refine fW_sb (l_X3_init_49 hg (cb := cb + (10 - (n + 1)) * 16 + 0) (sb := sb + (10 - (n + 1)) * 3956 + 0) (by have := hcb; omega) (by have := hsb; omega) ?_ 4 (by omega) ((r7 + (v1 / 2)) + (v2 / 2)) r10 v3 (FR v3) M c26 g10 gv3 (rg_FR c11) h) ⟨rfl, rfl, rfl, rfl, rfl, trivial⟩
      intro v1_24 v2_24 v3_24 N24 gv1_24 gv2_24 gv3_24 h
      refine fW_rg (fun hRN24 => ?_)
      refine fW_iinc 83 (ls' := [some (rv G o), some (iv v1_24), some (iv v2_24), some (iv (v3_24 + -1)), none]) dX3_init_80 rfl rfl rfl (by decide) ?_
      refine fW_goto 20 dX3_init_83 rfl ?_
      obtain ⟨c25, h⟩ := fS h
      refine fW_wide (c1 := cb + (10 - n) * 16) (s1 := sb + (10 - n) * 3956) (by omega) (by omega) ?_
      exact fW_sb (ih (by omega) v1_24 v2_24 (v3_24 + -1) N24 gv1_24 gv2_24 c25 h) ⟨rfl, rfl, rfl, rfl, trivial⟩
def f_X3_init (o : Nat)  (M : fMem) : Option fMem := (if 0 ≤ M 440 0 ∧ M 440 0 < 440 ∧ Ty (M 440 0).toNat = 14 ∧ Ln (M 440 0).toNat = 19 then ((some (mnew M) : Option fMem).bind fun (M2 : fMem) => (if Ty o = 3 ∧ ((o : Nat) : Int) < M2 440 0 then (if Rf o 0 = (M 440 0).toNat then ((some (mset M2 o 0 1) : Option fMem).bind fun (M5 : fMem) => (L_X3_init_20 o (fun  (N27 : fMem) => some N27) 10 0 0 8 M5)) else none) else none)) else none)
set_option maxRecDepth 100000 in
set_option maxHeartbeats 4000000 in
theorem s_X3_init {G : fG} (hg : gbt G = false) {o : Nat}  {M : fMem} {q : fMem} (h : f_X3_init o  M = some q) : fSp G mX3_init [rv G o] M (rV q) fNo := by
  refine fSp_of (by decide +kernel) (by decide +kernel) (fC1 rfl fC0) (Nat.le_of_ble_eq_true rfl) ?_
  show fW G mX3_init (fEm G mX3_init (rV q) fNo) 0 0 0 [some (rv G o), none, none, none, none] [] M
  rw [f_X3_init] at h
  refine fW_rg (fun hR => ?_)
  refine fW_aload_n 1 dX3_init_0 rfl rfl ?_
  refine fU_obj 4 wd_326 (by decide) (Nat.le_of_ble_eq_true rfl) dX3_init_1 rfl ?_
  refine fW_aload_n 5 dX3_init_4 rfl rfl ?_
  refine fW_bipush 7 dX3_init_5 rfl (by decide) ?_
  obtain ⟨c1, h⟩ := fS h
  refine fU_anew 10 (t0 := 2) (C := "RowStore$Entries") hg (by decide) (by decide) rfl c1.1 c1.2.1 c1.2.2.1 c1.2.2.2 (by decide) wc_327 (by decide +kernel) (by decide) (sx := 19) (by decide) (by decide) dX3_init_7 rfl ?_
  obtain ⟨M2, e2, h⟩ := fBd h
  replace e2 := Option.some.inj e2
  rw [e2]
  refine fW_rg (fun hRM2 => ?_)
  obtain ⟨c3, h⟩ := fS h
  obtain ⟨c4, h⟩ := fS h
  refine fU_put 13 0 (ji := 0) (v := 1) (w := rv G ((M 440 0).toNat)) hg clX3 rfl (by decide) rfl rfl (fun M' h => fFv_ref (G := G) (M := M') (u := 14) rfl h c4) rfl rfl c3 (by decide) wd_361 dX3_init_10 rfl ?_
  obtain ⟨M5, e5, h⟩ := fBd h
  replace e5 := Option.some.inj e5
  rw [e5]
  refine fW_rg (fun hRM5 => ?_)
  refine fW_iconst 14 dX3_init_13 rfl ?_
  refine fW_istore_n 15 (ls' := [some (rv G o), some (iv 0), none, none, none]) dX3_init_14 rfl rfl rfl (by decide) ?_
  refine fW_iconst 16 dX3_init_15 rfl ?_
  refine fW_istore_n 17 (ls' := [some (rv G o), some (iv 0), some (iv 0), none, none]) dX3_init_16 rfl rfl rfl (by decide) ?_
  refine fW_bipush 19 dX3_init_17 rfl (by decide) ?_
  refine fW_istore_n 20 (ls' := [some (rv G o), some (iv 0), some (iv 0), some (iv 8), none]) dX3_init_19 rfl rfl rfl (by decide) ?_
  refine fW_sb (l_X3_init_20 hg (cb := 1) (sb := 19) (by decide) (by decide) ?_ 10 (by omega) 0 0 8 M5 (by decide) (by decide) (by decide) h) ⟨rfl, rfl, rfl, rfl, trivial⟩
  intro  N27  h
  refine fW_rg (fun hRN27 => ?_)
  exact fW_vret rfl (by decide) (by decide) dX3_init_86 (rV_i h)
def mX10_init : fMt := (yX10_init, cX10_init, 2, none, { frames := 4, cells := 581, slots := 89903, locals := 160 })
theorem miX10_init : fMn mX10_init 0 := ⟨⟨fM 113 (by decide +kernel) rfl, fM 89 (by decide +kernel) rfl, ⟨by decide +kernel, by decide +kernel⟩, by decide +kernel⟩, fM 112 (by decide +kernel) rfl, rfl⟩
def L_X10_init_119 (o : Nat) (k : fMem → Option fMem) : Nat → Int → fMem → Option fMem
  | 0, _, _ => none
  | n + 1, v1, M => (if 3 ≤ v1 then k  M else (if Ty o = 10 ∧ ((o : Nat) : Int) < M 440 0 then (if M o 2 ≠ 0 then (if 0 ≤ M 440 0 ∧ M 440 0 < 440 ∧ Ty (M 440 0).toNat = 7 then ((some (mnew M) : Option fMem).bind fun (M67 : fMem) => ((f_X7_init ((M 440 0).toNat) M67).bind fun (M68 : fMem) => (if Ty (Rf o 2) = 17 ∧ ((Rf o 2 : Nat) : Int) < M68 440 0 then (if 0 ≤ v1 ∧ v1 < Ln (Rf o 2) then (if Ty ((M 440 0).toNat) = 7 ∧ (((M 440 0).toNat : Nat) : Int) < M68 440 0 then (if Rf (Rf o 2) v1 = (M 440 0).toNat then ((some (mset M68 (Rf o 2) v1 1) : Option fMem).bind fun (M73 : fMem) => L_X10_init_119 o k n (v1 + 1) M73) else none) else none) else none) else none))) else none) else none) else none))
set_option maxRecDepth 100000 in
set_option maxHeartbeats 4000000 in
theorem l_X10_init_119 {G : fG} (hg : gbt G = false) {o : Nat} {q : fMem} {k : fMem → Option fMem} {cb sb : Nat} (hcb : cb + 4 * 63 ≤ 581) (hsb : sb + 4 * 8161 ≤ 89903) (hk : ∀  (M : fMem), k  M = some q → fW G mX10_init (fEm G mX10_init (rV q) fNo) (cb + 4 * 63) (sb + 4 * 8161) 143 [some (rv G o), none] [] M) : ∀ (n : Nat), n ≤ 4 → ∀ (v1 : Int) (M : fMem), rg v1 → L_X10_init_119 o k n v1 M = some q → fW G mX10_init (fEm G mX10_init (rV q) fNo) (cb + (4 - n) * 63) (sb + (4 - n) * 8161) 119 [some (rv G o), some (iv v1)] [] M := by
  intro n
  induction n with
  | zero =>
    intro hnF v1 M gv1 h
    rw [L_X10_init_119] at h
    exact absurd h (by simp)
  | succ n ih =>
    intro hnF v1 M gv1 h
    rw [L_X10_init_119] at h
    refine fW_rg (fun hR => ?_)
    refine fW_iload_n 120 dX10_init_119 rfl rfl ?_
    refine fW_iconst 121 dX10_init_120 rfl ?_
    refine fW_icmp_ge 124 143 gv1 (by decide) dX10_init_121 rfl rfl (fun c63 => ?_) (fun c63 => ?_)
    · replace h := fTt h c63
      refine fW_wide (c1 := cb + 4 * 63) (s1 := sb + 4 * 8161) (by omega) (by omega) ?_
      exact fW_sb (hk  M  h) ⟨rfl, trivial⟩
    · replace h := fFf h c63
      refine fW_aload_n 125 dX10_init_124 rfl rfl ?_
      obtain ⟨c64, h⟩ := fS h
      obtain ⟨c65, h⟩ := fS h
      refine fU_getR 128 (r := Rf o 2) 2 (ji := 2) hg clX10 rfl (by decide) rfl c64 c65 rfl wd_419 dX10_init_125 rfl ?_
      refine fW_iload_n 129 dX10_init_128 rfl rfl ?_
      obtain ⟨c66, h⟩ := fS h
      refine fU_new 132 hg clX7 dfX7 c66.1 c66.2.1 c66.2.2 wc_287 wi_7 (wn_7) (by have := hcb; have := hsb; show _ ≤ _; simp only [mX10_init]; omega) (by have := hcb; have := hsb; show _ ≤ _; simp only [mX10_init]; omega) dX10_init_129 rfl ?_
      obtain ⟨M67, e67, h⟩ := fBd h
      replace e67 := Option.some.inj e67
      rw [e67]
      refine fW_rg (fun hRM67 => ?_)
      refine fW_dup 133 dX10_init_132 rfl rfl ?_
      obtain ⟨M68, e68, h⟩ := fBd h
      refine fU_cV (cb + (4 - (n + 1)) * 63 + 63) (sb + (4 - (n + 1)) * 8161 + 8161) (fI_I (as := []) (rest := [rv G ((M 440 0).toNat), iv v1, rv G (Rf o 2)]) miX7_init rfl wd_416 ⟨⟨by decide, by decide⟩, (by have := hcb; have := hsb; show _ ≤ _; simp only [mX10_init, mX7_init]; omega), (by have := hcb; have := hsb; show _ ≤ _; simp only [mX10_init, mX7_init]; omega)⟩ rfl (Nat.le_of_ble_eq_true rfl) dX10_init_133) (s_X7_init hg  e68) rfl rfl rfl ?_
      refine fW_rg (fun hRM68 => ?_)
      obtain ⟨c69, h⟩ := fS h
      obtain ⟨c70, h⟩ := fS h
      obtain ⟨c71, h⟩ := fS h
      obtain ⟨c72, h⟩ := fS h
      refine fU_aast 137 (rr := (RX7, TX7, 3)) 5 hg c69 (by decide) (by decide) c70 c71 (by decide) rfl c72 rfl dX10_init_136 rfl ?_
      obtain ⟨M73, e73, h⟩ := fBd h
      replace e73 := Option.some.inj e73
      rw [e73]
      refine fW_rg (fun hRM73 => ?_)
      refine fW_iinc 140 (ls' := [some (rv G o), some (iv (v1 + 1))]) dX10_init_137 rfl rfl rfl (by decide) ?_
      refine fW_goto 119 dX10_init_140 rfl ?_
      refine fW_wide (c1 := cb + (4 - n) * 63) (s1 := sb + (4 - n) * 8161) (by omega) (by omega) ?_
      exact fW_sb (ih (by omega) (v1 + 1) M73 (rg_succ' gv1 (by decide) c63) h) ⟨rfl, rfl, trivial⟩
def f_X10_init (o : Nat)  (M : fMem) : Option fMem := (if 0 ≤ M 440 0 ∧ M 440 0 < 440 ∧ Ty (M 440 0).toNat = 0 then ((some (mnew M) : Option fMem).bind fun (M2 : fMem) => ((f_X0_init ((M 440 0).toNat) M2).bind fun (M3 : fMem) => (if Ty o = 10 ∧ ((o : Nat) : Int) < M3 440 0 then (if Rf o 0 = (M 440 0).toNat then ((some (mset M3 o 0 1) : Option fMem).bind fun (M6 : fMem) => (if 0 ≤ M6 440 0 ∧ M6 440 0 < 440 ∧ Ty (M6 440 0).toNat = 0 then ((some (mnew M6) : Option fMem).bind fun (M8 : fMem) => ((f_X0_init ((M6 440 0).toNat) M8).bind fun (M9 : fMem) => (if Ty o = 10 ∧ ((o : Nat) : Int) < M9 440 0 then (if Rf o 1 = (M6 440 0).toNat then ((some (mset M9 o 1 1) : Option fMem).bind fun (M12 : fMem) => (if 0 ≤ M12 440 0 ∧ M12 440 0 < 440 ∧ Ty (M12 440 0).toNat = 17 ∧ Ln (M12 440 0).toNat = 3 then ((some (mnew M12) : Option fMem).bind fun (M14 : fMem) => (if Ty o = 10 ∧ ((o : Nat) : Int) < M14 440 0 then (if Rf o 2 = (M12 440 0).toNat then ((some (mset M14 o 2 1) : Option fMem).bind fun (M17 : fMem) => (if 0 ≤ M17 440 0 ∧ M17 440 0 < 440 ∧ Ty (M17 440 0).toNat = 13 ∧ Ln (M17 440 0).toNat = 3 then ((some (mnew M17) : Option fMem).bind fun (M19 : fMem) => (if Ty o = 10 ∧ ((o : Nat) : Int) < M19 440 0 then (if Rf o 3 = (M17 440 0).toNat then ((some (mset M19 o 3 1) : Option fMem).bind fun (M22 : fMem) => (if 0 ≤ M22 440 0 ∧ M22 440 0 < 440 ∧ Ty (M22 440 0).toNat = 8 then ((some (mnew M22) : Option fMem).bind fun (M24 : fMem) => ((f_X8_init ((M22 440 0).toNat) M24).bind fun (M25 : fMem) => (if Ty o = 10 ∧ ((o : Nat) : Int) < M25 440 0 then (if Rf o 4 = (M22 440 0).toNat then ((some (mset M25 o 4 1) : Option fMem).bind fun (M28 : fMem) => (if 0 ≤ M28 440 0 ∧ M28 440 0 < 440 ∧ Ty (M28 440 0).toNat = 9 then ((some (mnew M28) : Option fMem).bind fun (M30 : fMem) => ((f_X9_init ((M28 440 0).toNat) M30).bind fun (M31 : fMem) => (if Ty o = 10 ∧ ((o : Nat) : Int) < M31 440 0 then (if Rf o 5 = (M28 440 0).toNat then ((some (mset M31 o 5 1) : Option fMem).bind fun (M34 : fMem) => (if 0 ≤ M34 440 0 ∧ M34 440 0 < 440 ∧ Ty (M34 440 0).toNat = 3 then ((some (mnew M34) : Option fMem).bind fun (M36 : fMem) => ((f_X3_init ((M34 440 0).toNat) M36).bind fun (M37 : fMem) => (if Ty o = 10 ∧ ((o : Nat) : Int) < M37 440 0 then (if Rf o 6 = (M34 440 0).toNat then ((some (mset M37 o 6 1) : Option fMem).bind fun (M40 : fMem) => (if 0 ≤ M40 440 0 ∧ M40 440 0 < 440 ∧ Ty (M40 440 0).toNat = 5 then ((some (mnew M40) : Option fMem).bind fun (M42 : fMem) => ((f_X5_init ((M40 440 0).toNat) M42).bind fun (M43 : fMem) => (if Ty o = 10 ∧ ((o : Nat) : Int) < M43 440 0 then (if Rf o 7 = (M40 440 0).toNat then ((some (mset M43 o 7 1) : Option fMem).bind fun (M46 : fMem) => (if 0 ≤ M46 440 0 ∧ M46 440 0 < 440 ∧ Ty (M46 440 0).toNat = 2 then ((some (mnew M46) : Option fMem).bind fun (M48 : fMem) => ((f_X2_init ((M46 440 0).toNat) M48).bind fun (M49 : fMem) => (if Ty o = 10 ∧ ((o : Nat) : Int) < M49 440 0 then (if Rf o 8 = (M46 440 0).toNat then ((some (mset M49 o 8 1) : Option fMem).bind fun (M52 : fMem) => (if 0 ≤ M52 440 0 ∧ M52 440 0 < 440 ∧ Ty (M52 440 0).toNat = 2 then ((some (mnew M52) : Option fMem).bind fun (M54 : fMem) => ((f_X2_init ((M52 440 0).toNat) M54).bind fun (M55 : fMem) => (if Ty o = 10 ∧ ((o : Nat) : Int) < M55 440 0 then (if Rf o 9 = (M52 440 0).toNat then ((some (mset M55 o 9 1) : Option fMem).bind fun (M58 : fMem) => (if Ty o = 10 ∧ ((o : Nat) : Int) < M58 440 0 then ((some (mset M58 o 10 4) : Option fMem).bind fun (M60 : fMem) => (if Ty o = 10 ∧ ((o : Nat) : Int) < M60 440 0 then ((some (mset M60 o 11 1) : Option fMem).bind fun (M62 : fMem) => (L_X10_init_119 o (fun  (N74 : fMem) => some N74) 4 0 M62)) else none)) else none)) else none) else none))) else none)) else none) else none))) else none)) else none) else none))) else none)) else none) else none))) else none)) else none) else none))) else none)) else none) else none))) else none)) else none) else none)) else none)) else none) else none)) else none)) else none) else none))) else none)) else none) else none))) else none)
set_option maxRecDepth 100000 in
set_option maxHeartbeats 4000000 in
theorem s_X10_init {G : fG} (hg : gbt G = false) {o : Nat}  {M : fMem} {q : fMem} (h : f_X10_init o  M = some q) : fSp G mX10_init [rv G o] M (rV q) fNo := by
  refine fSp_of (by decide +kernel) (by decide +kernel) (fC1 rfl fC0) (Nat.le_of_ble_eq_true rfl) ?_
  show fW G mX10_init (fEm G mX10_init (rV q) fNo) 0 0 0 [some (rv G o), none] [] M
  rw [f_X10_init] at h
  refine fW_rg (fun hR => ?_)
  refine fW_aload_n 1 dX10_init_0 rfl rfl ?_
  refine fU_obj 4 wd_114 (by decide) (Nat.le_of_ble_eq_true rfl) dX10_init_1 rfl ?_
  refine fW_aload_n 5 dX10_init_4 rfl rfl ?_
  obtain ⟨c1, h⟩ := fS h
  refine fU_new 8 hg clX0 dfX0 c1.1 c1.2.1 c1.2.2 wc_117 wi_0 (wn_0) (by decide) (by decide) dX10_init_5 rfl ?_
  obtain ⟨M2, e2, h⟩ := fBd h
  replace e2 := Option.some.inj e2
  rw [e2]
  refine fW_rg (fun hRM2 => ?_)
  refine fW_dup 9 dX10_init_8 rfl rfl ?_
  obtain ⟨M3, e3, h⟩ := fBd h
  refine fU_cV (75) (8270) (fI_I (as := []) (rest := [rv G ((M 440 0).toNat), rv G o]) miX0_init rfl wd_119 (fRoom_of rfl) rfl (Nat.le_of_ble_eq_true rfl) dX10_init_9) (s_X0_init hg  e3) rfl rfl rfl ?_
  refine fW_rg (fun hRM3 => ?_)
  obtain ⟨c4, h⟩ := fS h
  obtain ⟨c5, h⟩ := fS h
  refine fU_put 15 0 (ji := 0) (v := 1) (w := rv G ((M 440 0).toNat)) hg clX10 rfl (by decide) rfl rfl (fun M' h => fFv_ref (G := G) (M := M') (u := 0) rfl h c5) rfl rfl c4 (by decide) wd_417 dX10_init_12 rfl ?_
  obtain ⟨M6, e6, h⟩ := fBd h
  replace e6 := Option.some.inj e6
  rw [e6]
  refine fW_rg (fun hRM6 => ?_)
  refine fW_aload_n 16 dX10_init_15 rfl rfl ?_
  obtain ⟨c7, h⟩ := fS h
  refine fU_new 19 hg clX0 dfX0 c7.1 c7.2.1 c7.2.2 wc_117 wi_0 (wn_0) (by decide) (by decide) dX10_init_16 rfl ?_
  obtain ⟨M8, e8, h⟩ := fBd h
  replace e8 := Option.some.inj e8
  rw [e8]
  refine fW_rg (fun hRM8 => ?_)
  refine fW_dup 20 dX10_init_19 rfl rfl ?_
  obtain ⟨M9, e9, h⟩ := fBd h
  refine fU_cV (150) (16540) (fI_I (as := []) (rest := [rv G ((M6 440 0).toNat), rv G o]) miX0_init rfl wd_119 (fRoom_of rfl) rfl (Nat.le_of_ble_eq_true rfl) dX10_init_20) (s_X0_init hg  e9) rfl rfl rfl ?_
  refine fW_rg (fun hRM9 => ?_)
  obtain ⟨c10, h⟩ := fS h
  obtain ⟨c11, h⟩ := fS h
  refine fU_put 26 1 (ji := 1) (v := 1) (w := rv G ((M6 440 0).toNat)) hg clX10 rfl (by decide) rfl rfl (fun M' h => fFv_ref (G := G) (M := M') (u := 0) rfl h c11) rfl rfl c10 (by decide) wd_418 dX10_init_23 rfl ?_
  obtain ⟨M12, e12, h⟩ := fBd h
  replace e12 := Option.some.inj e12
  rw [e12]
  refine fW_rg (fun hRM12 => ?_)
  refine fW_aload_n 27 dX10_init_26 rfl rfl ?_
  refine fW_iconst 28 dX10_init_27 rfl ?_
  obtain ⟨c13, h⟩ := fS h
  refine fU_anew 31 (t0 := 5) (C := "RowStore$Shelf") hg (by decide) (by decide) rfl c13.1 c13.2.1 c13.2.2.1 c13.2.2.2 (by decide) wc_287 (by decide +kernel) (by decide) (sx := 3) (by decide) (by decide) dX10_init_28 rfl ?_
  obtain ⟨M14, e14, h⟩ := fBd h
  replace e14 := Option.some.inj e14
  rw [e14]
  refine fW_rg (fun hRM14 => ?_)
  obtain ⟨c15, h⟩ := fS h
  obtain ⟨c16, h⟩ := fS h
  refine fU_put 34 2 (ji := 2) (v := 1) (w := rv G ((M12 440 0).toNat)) hg clX10 rfl (by decide) rfl rfl (fun M' h => fFv_ref (G := G) (M := M') (u := 17) rfl h c16) rfl rfl c15 (by decide) wd_419 dX10_init_31 rfl ?_
  obtain ⟨M17, e17, h⟩ := fBd h
  replace e17 := Option.some.inj e17
  rw [e17]
  refine fW_rg (fun hRM17 => ?_)
  refine fW_aload_n 35 dX10_init_34 rfl rfl ?_
  refine fW_iconst 36 dX10_init_35 rfl ?_
  obtain ⟨c18, h⟩ := fS h
  refine fU_newa 38 (atype := .boolean) rfl hg (Or.inr (Or.inl ⟨rfl, rfl, rfl⟩)) c18.1 c18.2.1 c18.2.2.1 c18.2.2.2 (by decide) wa_13 (by decide) (sx := 3) (by decide) (by decide) dX10_init_36 rfl ?_
  obtain ⟨M19, e19, h⟩ := fBd h
  replace e19 := Option.some.inj e19
  rw [e19]
  refine fW_rg (fun hRM19 => ?_)
  obtain ⟨c20, h⟩ := fS h
  obtain ⟨c21, h⟩ := fS h
  refine fU_put 41 3 (ji := 3) (v := 1) (w := rv G ((M17 440 0).toNat)) hg clX10 rfl (by decide) rfl rfl (fun M' h => fFv_ref (G := G) (M := M') (u := 13) rfl h c21) rfl rfl c20 (by decide) wd_420 dX10_init_38 rfl ?_
  obtain ⟨M22, e22, h⟩ := fBd h
  replace e22 := Option.some.inj e22
  rw [e22]
  refine fW_rg (fun hRM22 => ?_)
  refine fW_aload_n 42 dX10_init_41 rfl rfl ?_
  obtain ⟨c23, h⟩ := fS h
  refine fU_new 45 hg clX8 dfX8 c23.1 c23.2.1 c23.2.2 wc_289 wi_8 (wn_8) (by decide) (by decide) dX10_init_42 rfl ?_
  obtain ⟨M24, e24, h⟩ := fBd h
  replace e24 := Option.some.inj e24
  rw [e24]
  refine fW_rg (fun hRM24 => ?_)
  refine fW_dup 46 dX10_init_45 rfl rfl ?_
  obtain ⟨M25, e25, h⟩ := fBd h
  refine fU_cV (154) (16748) (fI_IN (host := "RowStore") (as := []) (rest := [rv G ((M22 440 0).toNat), rv G o]) miX8_init rfl (by decide +kernel) (fRoom_of rfl) rfl (Nat.le_of_ble_eq_true rfl) dX10_init_46) (s_X8_init hg  e25) rfl rfl rfl ?_
  refine fW_rg (fun hRM25 => ?_)
  obtain ⟨c26, h⟩ := fS h
  obtain ⟨c27, h⟩ := fS h
  refine fU_put 52 4 (ji := 4) (v := 1) (w := rv G ((M22 440 0).toNat)) hg clX10 rfl (by decide) rfl rfl (fun M' h => fFv_ref (G := G) (M := M') (u := 8) rfl h c27) rfl rfl c26 (by decide) wd_421 dX10_init_49 rfl ?_
  obtain ⟨M28, e28, h⟩ := fBd h
  replace e28 := Option.some.inj e28
  rw [e28]
  refine fW_rg (fun hRM28 => ?_)
  refine fW_aload_n 53 dX10_init_52 rfl rfl ?_
  obtain ⟨c29, h⟩ := fS h
  refine fU_new 56 hg clX9 dfX9 c29.1 c29.2.1 c29.2.2 wc_304 wi_9 (wn_9) (by decide) (by decide) dX10_init_53 rfl ?_
  obtain ⟨M30, e30, h⟩ := fBd h
  replace e30 := Option.some.inj e30
  rw [e30]
  refine fW_rg (fun hRM30 => ?_)
  refine fW_dup 57 dX10_init_56 rfl rfl ?_
  obtain ⟨M31, e31, h⟩ := fBd h
  refine fU_cV (156) (16791) (fI_IN (host := "RowStore") (as := []) (rest := [rv G ((M28 440 0).toNat), rv G o]) miX9_init rfl (by decide +kernel) (fRoom_of rfl) rfl (Nat.le_of_ble_eq_true rfl) dX10_init_57) (s_X9_init hg  e31) rfl rfl rfl ?_
  refine fW_rg (fun hRM31 => ?_)
  obtain ⟨c32, h⟩ := fS h
  obtain ⟨c33, h⟩ := fS h
  refine fU_put 63 5 (ji := 5) (v := 1) (w := rv G ((M28 440 0).toNat)) hg clX10 rfl (by decide) rfl rfl (fun M' h => fFv_ref (G := G) (M := M') (u := 9) rfl h c33) rfl rfl c32 (by decide) wd_422 dX10_init_60 rfl ?_
  obtain ⟨M34, e34, h⟩ := fBd h
  replace e34 := Option.some.inj e34
  rw [e34]
  refine fW_rg (fun hRM34 => ?_)
  refine fW_aload_n 64 dX10_init_63 rfl rfl ?_
  obtain ⟨c35, h⟩ := fS h
  refine fU_new 67 hg clX3 dfX3 c35.1 c35.2.1 c35.2.2 wc_321 wi_3 (wn_3) (by decide) (by decide) dX10_init_64 rfl ?_
  obtain ⟨M36, e36, h⟩ := fBd h
  replace e36 := Option.some.inj e36
  rw [e36]
  refine fW_rg (fun hRM36 => ?_)
  refine fW_dup 68 dX10_init_67 rfl rfl ?_
  obtain ⟨M37, e37, h⟩ := fBd h
  refine fU_cV (318) (56371) (fI_I (as := []) (rest := [rv G ((M34 440 0).toNat), rv G o]) miX3_init rfl wd_323 (fRoom_of rfl) rfl (Nat.le_of_ble_eq_true rfl) dX10_init_68) (s_X3_init hg  e37) rfl rfl rfl ?_
  refine fW_rg (fun hRM37 => ?_)
  obtain ⟨c38, h⟩ := fS h
  obtain ⟨c39, h⟩ := fS h
  refine fU_put 74 6 (ji := 6) (v := 1) (w := rv G ((M34 440 0).toNat)) hg clX10 rfl (by decide) rfl rfl (fun M' h => fFv_ref (G := G) (M := M') (u := 3) rfl h c39) rfl rfl c38 (by decide) wd_423 dX10_init_71 rfl ?_
  obtain ⟨M40, e40, h⟩ := fBd h
  replace e40 := Option.some.inj e40
  rw [e40]
  refine fW_rg (fun hRM40 => ?_)
  refine fW_aload_n 75 dX10_init_74 rfl rfl ?_
  obtain ⟨c41, h⟩ := fS h
  refine fU_new 78 hg clX5 dfX5 c41.1 c41.2.1 c41.2.2 wc_367 wi_5 (wn_5) (by decide) (by decide) dX10_init_75 rfl ?_
  obtain ⟨M42, e42, h⟩ := fBd h
  replace e42 := Option.some.inj e42
  rw [e42]
  refine fW_rg (fun hRM42 => ?_)
  refine fW_dup 79 dX10_init_78 rfl rfl ?_
  obtain ⟨M43, e43, h⟩ := fBd h
  refine fU_cV (323) (56453) (fI_IN (host := "RowStore") (as := []) (rest := [rv G ((M40 440 0).toNat), rv G o]) miX5_init rfl (by decide +kernel) (fRoom_of rfl) rfl (Nat.le_of_ble_eq_true rfl) dX10_init_79) (s_X5_init hg  e43) rfl rfl rfl ?_
  refine fW_rg (fun hRM43 => ?_)
  obtain ⟨c44, h⟩ := fS h
  obtain ⟨c45, h⟩ := fS h
  refine fU_put 85 7 (ji := 7) (v := 1) (w := rv G ((M40 440 0).toNat)) hg clX10 rfl (by decide) rfl rfl (fun M' h => fFv_ref (G := G) (M := M') (u := 5) rfl h c45) rfl rfl c44 (by decide) wd_424 dX10_init_82 rfl ?_
  obtain ⟨M46, e46, h⟩ := fBd h
  replace e46 := Option.some.inj e46
  rw [e46]
  refine fW_rg (fun hRM46 => ?_)
  refine fW_aload_n 86 dX10_init_85 rfl rfl ?_
  obtain ⟨c47, h⟩ := fS h
  refine fU_new 89 hg clX2 dfX2 c47.1 c47.2.1 c47.2.2 wc_398 wi_2 (wn_2) (by decide) (by decide) dX10_init_86 rfl ?_
  obtain ⟨M48, e48, h⟩ := fBd h
  replace e48 := Option.some.inj e48
  rw [e48]
  refine fW_rg (fun hRM48 => ?_)
  refine fW_dup 90 dX10_init_89 rfl rfl ?_
  obtain ⟨M49, e49, h⟩ := fBd h
  refine fU_cV (326) (56856) (fI_IN (host := "RowStore") (as := []) (rest := [rv G ((M46 440 0).toNat), rv G o]) miX2_init rfl (by decide +kernel) (fRoom_of rfl) rfl (Nat.le_of_ble_eq_true rfl) dX10_init_90) (s_X2_init hg  e49) rfl rfl rfl ?_
  refine fW_rg (fun hRM49 => ?_)
  obtain ⟨c50, h⟩ := fS h
  obtain ⟨c51, h⟩ := fS h
  refine fU_put 96 8 (ji := 8) (v := 1) (w := rv G ((M46 440 0).toNat)) hg clX10 rfl (by decide) rfl rfl (fun M' h => fFv_ref (G := G) (M := M') (u := 2) rfl h c51) rfl rfl c50 (by decide) wd_425 dX10_init_93 rfl ?_
  obtain ⟨M52, e52, h⟩ := fBd h
  replace e52 := Option.some.inj e52
  rw [e52]
  refine fW_rg (fun hRM52 => ?_)
  refine fW_aload_n 97 dX10_init_96 rfl rfl ?_
  obtain ⟨c53, h⟩ := fS h
  refine fU_new 100 hg clX2 dfX2 c53.1 c53.2.1 c53.2.2 wc_398 wi_2 (wn_2) (by decide) (by decide) dX10_init_97 rfl ?_
  obtain ⟨M54, e54, h⟩ := fBd h
  replace e54 := Option.some.inj e54
  rw [e54]
  refine fW_rg (fun hRM54 => ?_)
  refine fW_dup 101 dX10_init_100 rfl rfl ?_
  obtain ⟨M55, e55, h⟩ := fBd h
  refine fU_cV (329) (57259) (fI_IN (host := "RowStore") (as := []) (rest := [rv G ((M52 440 0).toNat), rv G o]) miX2_init rfl (by decide +kernel) (fRoom_of rfl) rfl (Nat.le_of_ble_eq_true rfl) dX10_init_101) (s_X2_init hg  e55) rfl rfl rfl ?_
  refine fW_rg (fun hRM55 => ?_)
  obtain ⟨c56, h⟩ := fS h
  obtain ⟨c57, h⟩ := fS h
  refine fU_put 107 9 (ji := 9) (v := 1) (w := rv G ((M52 440 0).toNat)) hg clX10 rfl (by decide) rfl rfl (fun M' h => fFv_ref (G := G) (M := M') (u := 2) rfl h c57) rfl rfl c56 (by decide) wd_426 dX10_init_104 rfl ?_
  obtain ⟨M58, e58, h⟩ := fBd h
  replace e58 := Option.some.inj e58
  rw [e58]
  refine fW_rg (fun hRM58 => ?_)
  refine fW_aload_n 108 dX10_init_107 rfl rfl ?_
  refine fW_iconst 109 dX10_init_108 rfl ?_
  obtain ⟨c59, h⟩ := fS h
  refine fU_put 112 10 (ji := 10) (v := 4) (w := iv 4) hg clX10 rfl (by decide) (by first | rfl | exact (iv_z (by decide)).1) (by first | rfl | exact (iv_z (by decide)).2.1) (fun M' h => congrArg iv h) rfl rfl c59 (by decide) wd_427 dX10_init_109 rfl ?_
  obtain ⟨M60, e60, h⟩ := fBd h
  replace e60 := Option.some.inj e60
  rw [e60]
  refine fW_rg (fun hRM60 => ?_)
  refine fW_aload_n 113 dX10_init_112 rfl rfl ?_
  refine fW_iconst 114 dX10_init_113 rfl ?_
  obtain ⟨c61, h⟩ := fS h
  refine fU_put 117 11 (ji := 11) (v := 1) (w := iv 1) hg clX10 rfl (by decide) (by first | rfl | exact (iv_z (by decide)).1) (by first | rfl | exact (iv_z (by decide)).2.1) (fun M' h => congrArg iv h) rfl rfl c61 (by decide) wd_428 dX10_init_114 rfl ?_
  obtain ⟨M62, e62, h⟩ := fBd h
  replace e62 := Option.some.inj e62
  rw [e62]
  refine fW_rg (fun hRM62 => ?_)
  refine fW_iconst 118 dX10_init_117 rfl ?_
  refine fW_istore_n 119 (ls' := [some (rv G o), some (iv 0)]) dX10_init_118 rfl rfl rfl (by decide) ?_
  refine fW_sb (l_X10_init_119 hg (cb := 329) (sb := 57259) (by decide) (by decide) ?_ 4 (by omega) 0 M62 (by decide) h) ⟨rfl, rfl, trivial⟩
  intro  N74  h
  refine fW_rg (fun hRN74 => ?_)
  exact fW_vret rfl (by decide) (by decide) dX10_init_143 (rV_i h)
def mX11_init : fMt := (yX11_init, cX11_init, 1, none, { frames := 1, cells := 20, slots := 93062, locals := 40 })
theorem miX11_init : fMn mX11_init 0 := ⟨⟨fM 1172 (by decide +kernel) rfl, fM 101 (by decide +kernel) rfl, ⟨by decide +kernel, by decide +kernel⟩, by decide +kernel⟩, fM 1171 (by decide +kernel) rfl, rfl⟩
def f_X11_init (o : Nat)  (M : fMem) : Option fMem := (if 0 ≤ M 440 0 ∧ M 440 0 < 440 ∧ Ty (M 440 0).toNat = 12 ∧ Ln (M 440 0).toNat = 7787 then ((some (mnew M) : Option fMem).bind fun (M2 : fMem) => (if Ty o = 11 ∧ ((o : Nat) : Int) < M2 440 0 then (if Rf o 0 = (M 440 0).toNat then ((some (mset M2 o 0 1) : Option fMem).bind fun (M5 : fMem) => (if 0 ≤ M5 440 0 ∧ M5 440 0 < 440 ∧ Ty (M5 440 0).toNat = 12 ∧ Ln (M5 440 0).toNat = 7787 then ((some (mnew M5) : Option fMem).bind fun (M7 : fMem) => (if Ty o = 11 ∧ ((o : Nat) : Int) < M7 440 0 then (if Rf o 1 = (M5 440 0).toNat then ((some (mset M7 o 1 1) : Option fMem).bind fun (M10 : fMem) => (if 0 ≤ M10 440 0 ∧ M10 440 0 < 440 ∧ Ty (M10 440 0).toNat = 12 ∧ Ln (M10 440 0).toNat = 200 then ((some (mnew M10) : Option fMem).bind fun (M12 : fMem) => (if Ty o = 11 ∧ ((o : Nat) : Int) < M12 440 0 then (if Rf o 2 = (M10 440 0).toNat then ((some (mset M12 o 2 1) : Option fMem).bind fun (M15 : fMem) => (if 0 ≤ M15 440 0 ∧ M15 440 0 < 440 ∧ Ty (M15 440 0).toNat = 12 ∧ Ln (M15 440 0).toNat = 200 then ((some (mnew M15) : Option fMem).bind fun (M17 : fMem) => (if Ty o = 11 ∧ ((o : Nat) : Int) < M17 440 0 then (if Rf o 5 = (M15 440 0).toNat then ((some (mset M17 o 5 1) : Option fMem).bind fun (M20 : fMem) => (if 0 ≤ M20 440 0 ∧ M20 440 0 < 440 ∧ Ty (M20 440 0).toNat = 12 ∧ Ln (M20 440 0).toNat = 200 then ((some (mnew M20) : Option fMem).bind fun (M22 : fMem) => (if Ty o = 11 ∧ ((o : Nat) : Int) < M22 440 0 then (if Rf o 6 = (M20 440 0).toNat then ((some (mset M22 o 6 1) : Option fMem).bind fun (M25 : fMem) => (if 0 ≤ M25 440 0 ∧ M25 440 0 < 440 ∧ Ty (M25 440 0).toNat = 12 ∧ Ln (M25 440 0).toNat = 200 then ((some (mnew M25) : Option fMem).bind fun (M27 : fMem) => (if Ty o = 11 ∧ ((o : Nat) : Int) < M27 440 0 then (if Rf o 7 = (M25 440 0).toNat then ((some (mset M27 o 7 1) : Option fMem).bind fun (M30 : fMem) => (if 0 ≤ M30 440 0 ∧ M30 440 0 < 440 ∧ Ty (M30 440 0).toNat = 12 ∧ Ln (M30 440 0).toNat = 13300 then ((some (mnew M30) : Option fMem).bind fun (M32 : fMem) => (if Ty o = 11 ∧ ((o : Nat) : Int) < M32 440 0 then (if Rf o 8 = (M30 440 0).toNat then ((some (mset M32 o 8 1) : Option fMem).bind fun (M35 : fMem) => (if 0 ≤ M35 440 0 ∧ M35 440 0 < 440 ∧ Ty (M35 440 0).toNat = 12 ∧ Ln (M35 440 0).toNat = 13300 then ((some (mnew M35) : Option fMem).bind fun (M37 : fMem) => (if Ty o = 11 ∧ ((o : Nat) : Int) < M37 440 0 then (if Rf o 9 = (M35 440 0).toNat then ((some (mset M37 o 9 1) : Option fMem).bind fun (M40 : fMem) => (if 0 ≤ M40 440 0 ∧ M40 440 0 < 440 ∧ Ty (M40 440 0).toNat = 12 ∧ Ln (M40 440 0).toNat = 13300 then ((some (mnew M40) : Option fMem).bind fun (M42 : fMem) => (if Ty o = 11 ∧ ((o : Nat) : Int) < M42 440 0 then (if Rf o 10 = (M40 440 0).toNat then ((some (mset M42 o 10 1) : Option fMem).bind fun (M45 : fMem) => (if 0 ≤ M45 440 0 ∧ M45 440 0 < 440 ∧ Ty (M45 440 0).toNat = 12 ∧ Ln (M45 440 0).toNat = 13300 then ((some (mnew M45) : Option fMem).bind fun (M47 : fMem) => (if Ty o = 11 ∧ ((o : Nat) : Int) < M47 440 0 then (if Rf o 11 = (M45 440 0).toNat then ((some (mset M47 o 11 1) : Option fMem).bind fun (M50 : fMem) => (if 0 ≤ M50 440 0 ∧ M50 440 0 < 440 ∧ Ty (M50 440 0).toNat = 12 ∧ Ln (M50 440 0).toNat = 19 then ((some (mnew M50) : Option fMem).bind fun (M52 : fMem) => (if Ty o = 11 ∧ ((o : Nat) : Int) < M52 440 0 then (if Rf o 12 = (M50 440 0).toNat then ((some (mset M52 o 12 1) : Option fMem).bind fun (M55 : fMem) => (if 0 ≤ M55 440 0 ∧ M55 440 0 < 440 ∧ Ty (M55 440 0).toNat = 12 ∧ Ln (M55 440 0).toNat = 19 then ((some (mnew M55) : Option fMem).bind fun (M57 : fMem) => (if Ty o = 11 ∧ ((o : Nat) : Int) < M57 440 0 then (if Rf o 17 = (M55 440 0).toNat then ((some (mset M57 o 17 1) : Option fMem).bind fun (M60 : fMem) => (if 0 ≤ M60 440 0 ∧ M60 440 0 < 440 ∧ Ty (M60 440 0).toNat = 12 ∧ Ln (M60 440 0).toNat = 19 then ((some (mnew M60) : Option fMem).bind fun (M62 : fMem) => (if Ty o = 11 ∧ ((o : Nat) : Int) < M62 440 0 then (if Rf o 18 = (M60 440 0).toNat then ((some (mset M62 o 18 1) : Option fMem).bind fun (M65 : fMem) => (if 0 ≤ M65 440 0 ∧ M65 440 0 < 440 ∧ Ty (M65 440 0).toNat = 12 ∧ Ln (M65 440 0).toNat = 19 then ((some (mnew M65) : Option fMem).bind fun (M67 : fMem) => (if Ty o = 11 ∧ ((o : Nat) : Int) < M67 440 0 then (if Rf o 19 = (M65 440 0).toNat then ((some (mset M67 o 19 1) : Option fMem).bind fun (M70 : fMem) => (if 0 ≤ M70 440 0 ∧ M70 440 0 < 440 ∧ Ty (M70 440 0).toNat = 12 ∧ Ln (M70 440 0).toNat = 19 then ((some (mnew M70) : Option fMem).bind fun (M72 : fMem) => (if Ty o = 11 ∧ ((o : Nat) : Int) < M72 440 0 then (if Rf o 20 = (M70 440 0).toNat then ((some (mset M72 o 20 1) : Option fMem).bind fun (M75 : fMem) => (if 0 ≤ M75 440 0 ∧ M75 440 0 < 440 ∧ Ty (M75 440 0).toNat = 12 ∧ Ln (M75 440 0).toNat = 19 then ((some (mnew M75) : Option fMem).bind fun (M77 : fMem) => (if Ty o = 11 ∧ ((o : Nat) : Int) < M77 440 0 then (if Rf o 21 = (M75 440 0).toNat then ((some (mset M77 o 21 1) : Option fMem).bind fun (M80 : fMem) => (if 0 ≤ M80 440 0 ∧ M80 440 0 < 440 ∧ Ty (M80 440 0).toNat = 12 ∧ Ln (M80 440 0).toNat = 22971 then ((some (mnew M80) : Option fMem).bind fun (M82 : fMem) => (if Ty o = 11 ∧ ((o : Nat) : Int) < M82 440 0 then (if Rf o 23 = (M80 440 0).toNat then ((some (mset M82 o 23 1) : Option fMem).bind fun (M85 : fMem) => (if 0 ≤ M85 440 0 ∧ M85 440 0 < 440 ∧ Ty (M85 440 0).toNat = 13 ∧ Ln (M85 440 0).toNat = 3 then ((some (mnew M85) : Option fMem).bind fun (M87 : fMem) => (if Ty o = 11 ∧ ((o : Nat) : Int) < M87 440 0 then (if Rf o 24 = (M85 440 0).toNat then ((some (mset M87 o 24 1) : Option fMem).bind fun (M90 : fMem) => (if 0 ≤ M90 440 0 ∧ M90 440 0 < 440 ∧ Ty (M90 440 0).toNat = 12 ∧ Ln (M90 440 0).toNat = 200 then ((some (mnew M90) : Option fMem).bind fun (M92 : fMem) => (if Ty o = 11 ∧ ((o : Nat) : Int) < M92 440 0 then (if Rf o 25 = (M90 440 0).toNat then ((some (mset M92 o 25 1) : Option fMem).bind fun (M95 : fMem) => (if 0 ≤ M95 440 0 ∧ M95 440 0 < 440 ∧ Ty (M95 440 0).toNat = 12 ∧ Ln (M95 440 0).toNat = 200 then ((some (mnew M95) : Option fMem).bind fun (M97 : fMem) => (if Ty o = 11 ∧ ((o : Nat) : Int) < M97 440 0 then (if Rf o 26 = (M95 440 0).toNat then ((some (mset M97 o 26 1) : Option fMem).bind fun (M100 : fMem) => (if Ty o = 11 ∧ ((o : Nat) : Int) < M100 440 0 then (if M100 o 0 ≠ 0 then (if Ty (Rf o 0) = 12 ∧ ((Rf o 0 : Nat) : Int) < M100 440 0 then (if 0 ≤ (7739 : Int) ∧ (7739 : Int) < Ln (Rf o 0) then ((some (mset M100 (Rf o 0) 7739 6) : Option fMem).bind fun (M105 : fMem) => (if Ty o = 11 ∧ ((o : Nat) : Int) < M105 440 0 then (if M105 o 0 ≠ 0 then (if Ty (Rf o 0) = 12 ∧ ((Rf o 0 : Nat) : Int) < M105 440 0 then (if 0 ≤ (7740 : Int) ∧ (7740 : Int) < Ln (Rf o 0) then ((some (mset M105 (Rf o 0) 7740 4) : Option fMem).bind fun (M110 : fMem) => some M110) else none) else none) else none) else none)) else none) else none) else none) else none)) else none) else none)) else none)) else none) else none)) else none)) else none) else none)) else none)) else none) else none)) else none)) else none) else none)) else none)) else none) else none)) else none)) else none) else none)) else none)) else none) else none)) else none)) else none) else none)) else none)) else none) else none)) else none)) else none) else none)) else none)) else none) else none)) else none)) else none) else none)) else none)) else none) else none)) else none)) else none) else none)) else none)) else none) else none)) else none)) else none) else none)) else none)) else none) else none)) else none)) else none) else none)) else none)) else none) else none)) else none)
set_option maxRecDepth 100000 in
set_option maxHeartbeats 4000000 in
theorem s_X11_init {G : fG} (hg : gbt G = false) {o : Nat}  {M : fMem} {q : fMem} (h : f_X11_init o  M = some q) : fSp G mX11_init [rv G o] M (rV q) fNo := by
  refine fSp_of (by decide +kernel) (by decide +kernel) (fC1 rfl fC0) (Nat.le_of_ble_eq_true rfl) ?_
  show fW G mX11_init (fEm G mX11_init (rV q) fNo) 0 0 0 [some (rv G o)] [] M
  rw [f_X11_init] at h
  refine fW_rg (fun hR => ?_)
  refine fW_aload_n 1 dX11_init_0 rfl rfl ?_
  refine fU_obj 4 wd_1173 (by decide) (Nat.le_of_ble_eq_true rfl) dX11_init_1 rfl ?_
  refine fW_aload_n 5 dX11_init_4 rfl rfl ?_
  refine fW_sipush 8 dX11_init_5 rfl (by decide) ?_
  obtain ⟨c1, h⟩ := fS h
  refine fU_newa 10 (atype := .int) rfl hg (Or.inl ⟨rfl, rfl, rfl⟩) c1.1 c1.2.1 c1.2.2.1 c1.2.2.2 (by decide) wa_12 (by decide) (sx := 7787) (by decide) (by decide) dX11_init_8 rfl ?_
  obtain ⟨M2, e2, h⟩ := fBd h
  replace e2 := Option.some.inj e2
  rw [e2]
  refine fW_rg (fun hRM2 => ?_)
  obtain ⟨c3, h⟩ := fS h
  obtain ⟨c4, h⟩ := fS h
  refine fU_put 13 0 (ji := 0) (v := 1) (w := rv G ((M 440 0).toNat)) hg clX11 rfl (by decide) rfl rfl (fun M' h => fFv_ref (G := G) (M := M') (u := 12) rfl h c4) rfl rfl c3 (by decide) wd_1174 dX11_init_10 rfl ?_
  obtain ⟨M5, e5, h⟩ := fBd h
  replace e5 := Option.some.inj e5
  rw [e5]
  refine fW_rg (fun hRM5 => ?_)
  refine fW_aload_n 14 dX11_init_13 rfl rfl ?_
  refine fW_sipush 17 dX11_init_14 rfl (by decide) ?_
  obtain ⟨c6, h⟩ := fS h
  refine fU_newa 19 (atype := .int) rfl hg (Or.inl ⟨rfl, rfl, rfl⟩) c6.1 c6.2.1 c6.2.2.1 c6.2.2.2 (by decide) wa_12 (by decide) (sx := 7787) (by decide) (by decide) dX11_init_17 rfl ?_
  obtain ⟨M7, e7, h⟩ := fBd h
  replace e7 := Option.some.inj e7
  rw [e7]
  refine fW_rg (fun hRM7 => ?_)
  obtain ⟨c8, h⟩ := fS h
  obtain ⟨c9, h⟩ := fS h
  refine fU_put 22 1 (ji := 1) (v := 1) (w := rv G ((M5 440 0).toNat)) hg clX11 rfl (by decide) rfl rfl (fun M' h => fFv_ref (G := G) (M := M') (u := 12) rfl h c9) rfl rfl c8 (by decide) wd_1175 dX11_init_19 rfl ?_
  obtain ⟨M10, e10, h⟩ := fBd h
  replace e10 := Option.some.inj e10
  rw [e10]
  refine fW_rg (fun hRM10 => ?_)
  refine fW_aload_n 23 dX11_init_22 rfl rfl ?_
  refine fW_sipush 26 dX11_init_23 rfl (by decide) ?_
  obtain ⟨c11, h⟩ := fS h
  refine fU_newa 28 (atype := .int) rfl hg (Or.inl ⟨rfl, rfl, rfl⟩) c11.1 c11.2.1 c11.2.2.1 c11.2.2.2 (by decide) wa_12 (by decide) (sx := 200) (by decide) (by decide) dX11_init_26 rfl ?_
  obtain ⟨M12, e12, h⟩ := fBd h
  replace e12 := Option.some.inj e12
  rw [e12]
  refine fW_rg (fun hRM12 => ?_)
  obtain ⟨c13, h⟩ := fS h
  obtain ⟨c14, h⟩ := fS h
  refine fU_put 31 2 (ji := 2) (v := 1) (w := rv G ((M10 440 0).toNat)) hg clX11 rfl (by decide) rfl rfl (fun M' h => fFv_ref (G := G) (M := M') (u := 12) rfl h c14) rfl rfl c13 (by decide) wd_1176 dX11_init_28 rfl ?_
  obtain ⟨M15, e15, h⟩ := fBd h
  replace e15 := Option.some.inj e15
  rw [e15]
  refine fW_rg (fun hRM15 => ?_)
  refine fW_aload_n 32 dX11_init_31 rfl rfl ?_
  refine fW_sipush 35 dX11_init_32 rfl (by decide) ?_
  obtain ⟨c16, h⟩ := fS h
  refine fU_newa 37 (atype := .int) rfl hg (Or.inl ⟨rfl, rfl, rfl⟩) c16.1 c16.2.1 c16.2.2.1 c16.2.2.2 (by decide) wa_12 (by decide) (sx := 200) (by decide) (by decide) dX11_init_35 rfl ?_
  obtain ⟨M17, e17, h⟩ := fBd h
  replace e17 := Option.some.inj e17
  rw [e17]
  refine fW_rg (fun hRM17 => ?_)
  obtain ⟨c18, h⟩ := fS h
  obtain ⟨c19, h⟩ := fS h
  refine fU_put 40 5 (ji := 5) (v := 1) (w := rv G ((M15 440 0).toNat)) hg clX11 rfl (by decide) rfl rfl (fun M' h => fFv_ref (G := G) (M := M') (u := 12) rfl h c19) rfl rfl c18 (by decide) wd_1179 dX11_init_37 rfl ?_
  obtain ⟨M20, e20, h⟩ := fBd h
  replace e20 := Option.some.inj e20
  rw [e20]
  refine fW_rg (fun hRM20 => ?_)
  refine fW_aload_n 41 dX11_init_40 rfl rfl ?_
  refine fW_sipush 44 dX11_init_41 rfl (by decide) ?_
  obtain ⟨c21, h⟩ := fS h
  refine fU_newa 46 (atype := .int) rfl hg (Or.inl ⟨rfl, rfl, rfl⟩) c21.1 c21.2.1 c21.2.2.1 c21.2.2.2 (by decide) wa_12 (by decide) (sx := 200) (by decide) (by decide) dX11_init_44 rfl ?_
  obtain ⟨M22, e22, h⟩ := fBd h
  replace e22 := Option.some.inj e22
  rw [e22]
  refine fW_rg (fun hRM22 => ?_)
  obtain ⟨c23, h⟩ := fS h
  obtain ⟨c24, h⟩ := fS h
  refine fU_put 49 6 (ji := 6) (v := 1) (w := rv G ((M20 440 0).toNat)) hg clX11 rfl (by decide) rfl rfl (fun M' h => fFv_ref (G := G) (M := M') (u := 12) rfl h c24) rfl rfl c23 (by decide) wd_1180 dX11_init_46 rfl ?_
  obtain ⟨M25, e25, h⟩ := fBd h
  replace e25 := Option.some.inj e25
  rw [e25]
  refine fW_rg (fun hRM25 => ?_)
  refine fW_aload_n 50 dX11_init_49 rfl rfl ?_
  refine fW_sipush 53 dX11_init_50 rfl (by decide) ?_
  obtain ⟨c26, h⟩ := fS h
  refine fU_newa 55 (atype := .int) rfl hg (Or.inl ⟨rfl, rfl, rfl⟩) c26.1 c26.2.1 c26.2.2.1 c26.2.2.2 (by decide) wa_12 (by decide) (sx := 200) (by decide) (by decide) dX11_init_53 rfl ?_
  obtain ⟨M27, e27, h⟩ := fBd h
  replace e27 := Option.some.inj e27
  rw [e27]
  refine fW_rg (fun hRM27 => ?_)
  obtain ⟨c28, h⟩ := fS h
  obtain ⟨c29, h⟩ := fS h
  refine fU_put 58 7 (ji := 7) (v := 1) (w := rv G ((M25 440 0).toNat)) hg clX11 rfl (by decide) rfl rfl (fun M' h => fFv_ref (G := G) (M := M') (u := 12) rfl h c29) rfl rfl c28 (by decide) wd_1181 dX11_init_55 rfl ?_
  obtain ⟨M30, e30, h⟩ := fBd h
  replace e30 := Option.some.inj e30
  rw [e30]
  refine fW_rg (fun hRM30 => ?_)
  refine fW_aload_n 59 dX11_init_58 rfl rfl ?_
  refine fW_sipush 62 dX11_init_59 rfl (by decide) ?_
  obtain ⟨c31, h⟩ := fS h
  refine fU_newa 64 (atype := .int) rfl hg (Or.inl ⟨rfl, rfl, rfl⟩) c31.1 c31.2.1 c31.2.2.1 c31.2.2.2 (by decide) wa_12 (by decide) (sx := 13300) (by decide) (by decide) dX11_init_62 rfl ?_
  obtain ⟨M32, e32, h⟩ := fBd h
  replace e32 := Option.some.inj e32
  rw [e32]
  refine fW_rg (fun hRM32 => ?_)
  obtain ⟨c33, h⟩ := fS h
  obtain ⟨c34, h⟩ := fS h
  refine fU_put 67 8 (ji := 8) (v := 1) (w := rv G ((M30 440 0).toNat)) hg clX11 rfl (by decide) rfl rfl (fun M' h => fFv_ref (G := G) (M := M') (u := 12) rfl h c34) rfl rfl c33 (by decide) wd_1182 dX11_init_64 rfl ?_
  obtain ⟨M35, e35, h⟩ := fBd h
  replace e35 := Option.some.inj e35
  rw [e35]
  refine fW_rg (fun hRM35 => ?_)
  refine fW_aload_n 68 dX11_init_67 rfl rfl ?_
  refine fW_sipush 71 dX11_init_68 rfl (by decide) ?_
  obtain ⟨c36, h⟩ := fS h
  refine fU_newa 73 (atype := .int) rfl hg (Or.inl ⟨rfl, rfl, rfl⟩) c36.1 c36.2.1 c36.2.2.1 c36.2.2.2 (by decide) wa_12 (by decide) (sx := 13300) (by decide) (by decide) dX11_init_71 rfl ?_
  obtain ⟨M37, e37, h⟩ := fBd h
  replace e37 := Option.some.inj e37
  rw [e37]
  refine fW_rg (fun hRM37 => ?_)
  obtain ⟨c38, h⟩ := fS h
  obtain ⟨c39, h⟩ := fS h
  refine fU_put 76 9 (ji := 9) (v := 1) (w := rv G ((M35 440 0).toNat)) hg clX11 rfl (by decide) rfl rfl (fun M' h => fFv_ref (G := G) (M := M') (u := 12) rfl h c39) rfl rfl c38 (by decide) wd_1183 dX11_init_73 rfl ?_
  obtain ⟨M40, e40, h⟩ := fBd h
  replace e40 := Option.some.inj e40
  rw [e40]
  refine fW_rg (fun hRM40 => ?_)
  refine fW_aload_n 77 dX11_init_76 rfl rfl ?_
  refine fW_sipush 80 dX11_init_77 rfl (by decide) ?_
  obtain ⟨c41, h⟩ := fS h
  refine fU_newa 82 (atype := .int) rfl hg (Or.inl ⟨rfl, rfl, rfl⟩) c41.1 c41.2.1 c41.2.2.1 c41.2.2.2 (by decide) wa_12 (by decide) (sx := 13300) (by decide) (by decide) dX11_init_80 rfl ?_
  obtain ⟨M42, e42, h⟩ := fBd h
  replace e42 := Option.some.inj e42
  rw [e42]
  refine fW_rg (fun hRM42 => ?_)
  obtain ⟨c43, h⟩ := fS h
  obtain ⟨c44, h⟩ := fS h
  refine fU_put 85 10 (ji := 10) (v := 1) (w := rv G ((M40 440 0).toNat)) hg clX11 rfl (by decide) rfl rfl (fun M' h => fFv_ref (G := G) (M := M') (u := 12) rfl h c44) rfl rfl c43 (by decide) wd_1184 dX11_init_82 rfl ?_
  obtain ⟨M45, e45, h⟩ := fBd h
  replace e45 := Option.some.inj e45
  rw [e45]
  refine fW_rg (fun hRM45 => ?_)
  refine fW_aload_n 86 dX11_init_85 rfl rfl ?_
  refine fW_sipush 89 dX11_init_86 rfl (by decide) ?_
  obtain ⟨c46, h⟩ := fS h
  refine fU_newa 91 (atype := .int) rfl hg (Or.inl ⟨rfl, rfl, rfl⟩) c46.1 c46.2.1 c46.2.2.1 c46.2.2.2 (by decide) wa_12 (by decide) (sx := 13300) (by decide) (by decide) dX11_init_89 rfl ?_
  obtain ⟨M47, e47, h⟩ := fBd h
  replace e47 := Option.some.inj e47
  rw [e47]
  refine fW_rg (fun hRM47 => ?_)
  obtain ⟨c48, h⟩ := fS h
  obtain ⟨c49, h⟩ := fS h
  refine fU_put 94 11 (ji := 11) (v := 1) (w := rv G ((M45 440 0).toNat)) hg clX11 rfl (by decide) rfl rfl (fun M' h => fFv_ref (G := G) (M := M') (u := 12) rfl h c49) rfl rfl c48 (by decide) wd_1185 dX11_init_91 rfl ?_
  obtain ⟨M50, e50, h⟩ := fBd h
  replace e50 := Option.some.inj e50
  rw [e50]
  refine fW_rg (fun hRM50 => ?_)
  refine fW_aload_n 95 dX11_init_94 rfl rfl ?_
  refine fW_bipush 97 dX11_init_95 rfl (by decide) ?_
  obtain ⟨c51, h⟩ := fS h
  refine fU_newa 99 (atype := .int) rfl hg (Or.inl ⟨rfl, rfl, rfl⟩) c51.1 c51.2.1 c51.2.2.1 c51.2.2.2 (by decide) wa_12 (by decide) (sx := 19) (by decide) (by decide) dX11_init_97 rfl ?_
  obtain ⟨M52, e52, h⟩ := fBd h
  replace e52 := Option.some.inj e52
  rw [e52]
  refine fW_rg (fun hRM52 => ?_)
  obtain ⟨c53, h⟩ := fS h
  obtain ⟨c54, h⟩ := fS h
  refine fU_put 102 12 (ji := 12) (v := 1) (w := rv G ((M50 440 0).toNat)) hg clX11 rfl (by decide) rfl rfl (fun M' h => fFv_ref (G := G) (M := M') (u := 12) rfl h c54) rfl rfl c53 (by decide) wd_1186 dX11_init_99 rfl ?_
  obtain ⟨M55, e55, h⟩ := fBd h
  replace e55 := Option.some.inj e55
  rw [e55]
  refine fW_rg (fun hRM55 => ?_)
  refine fW_aload_n 103 dX11_init_102 rfl rfl ?_
  refine fW_bipush 105 dX11_init_103 rfl (by decide) ?_
  obtain ⟨c56, h⟩ := fS h
  refine fU_newa 107 (atype := .int) rfl hg (Or.inl ⟨rfl, rfl, rfl⟩) c56.1 c56.2.1 c56.2.2.1 c56.2.2.2 (by decide) wa_12 (by decide) (sx := 19) (by decide) (by decide) dX11_init_105 rfl ?_
  obtain ⟨M57, e57, h⟩ := fBd h
  replace e57 := Option.some.inj e57
  rw [e57]
  refine fW_rg (fun hRM57 => ?_)
  obtain ⟨c58, h⟩ := fS h
  obtain ⟨c59, h⟩ := fS h
  refine fU_put 110 17 (ji := 17) (v := 1) (w := rv G ((M55 440 0).toNat)) hg clX11 rfl (by decide) rfl rfl (fun M' h => fFv_ref (G := G) (M := M') (u := 12) rfl h c59) rfl rfl c58 (by decide) wd_1191 dX11_init_107 rfl ?_
  obtain ⟨M60, e60, h⟩ := fBd h
  replace e60 := Option.some.inj e60
  rw [e60]
  refine fW_rg (fun hRM60 => ?_)
  refine fW_aload_n 111 dX11_init_110 rfl rfl ?_
  refine fW_bipush 113 dX11_init_111 rfl (by decide) ?_
  obtain ⟨c61, h⟩ := fS h
  refine fU_newa 115 (atype := .int) rfl hg (Or.inl ⟨rfl, rfl, rfl⟩) c61.1 c61.2.1 c61.2.2.1 c61.2.2.2 (by decide) wa_12 (by decide) (sx := 19) (by decide) (by decide) dX11_init_113 rfl ?_
  obtain ⟨M62, e62, h⟩ := fBd h
  replace e62 := Option.some.inj e62
  rw [e62]
  refine fW_rg (fun hRM62 => ?_)
  obtain ⟨c63, h⟩ := fS h
  obtain ⟨c64, h⟩ := fS h
  refine fU_put 118 18 (ji := 18) (v := 1) (w := rv G ((M60 440 0).toNat)) hg clX11 rfl (by decide) rfl rfl (fun M' h => fFv_ref (G := G) (M := M') (u := 12) rfl h c64) rfl rfl c63 (by decide) wd_1192 dX11_init_115 rfl ?_
  obtain ⟨M65, e65, h⟩ := fBd h
  replace e65 := Option.some.inj e65
  rw [e65]
  refine fW_rg (fun hRM65 => ?_)
  refine fW_aload_n 119 dX11_init_118 rfl rfl ?_
  refine fW_bipush 121 dX11_init_119 rfl (by decide) ?_
  obtain ⟨c66, h⟩ := fS h
  refine fU_newa 123 (atype := .int) rfl hg (Or.inl ⟨rfl, rfl, rfl⟩) c66.1 c66.2.1 c66.2.2.1 c66.2.2.2 (by decide) wa_12 (by decide) (sx := 19) (by decide) (by decide) dX11_init_121 rfl ?_
  obtain ⟨M67, e67, h⟩ := fBd h
  replace e67 := Option.some.inj e67
  rw [e67]
  refine fW_rg (fun hRM67 => ?_)
  obtain ⟨c68, h⟩ := fS h
  obtain ⟨c69, h⟩ := fS h
  refine fU_put 126 19 (ji := 19) (v := 1) (w := rv G ((M65 440 0).toNat)) hg clX11 rfl (by decide) rfl rfl (fun M' h => fFv_ref (G := G) (M := M') (u := 12) rfl h c69) rfl rfl c68 (by decide) wd_1193 dX11_init_123 rfl ?_
  obtain ⟨M70, e70, h⟩ := fBd h
  replace e70 := Option.some.inj e70
  rw [e70]
  refine fW_rg (fun hRM70 => ?_)
  refine fW_aload_n 127 dX11_init_126 rfl rfl ?_
  refine fW_bipush 129 dX11_init_127 rfl (by decide) ?_
  obtain ⟨c71, h⟩ := fS h
  refine fU_newa 131 (atype := .int) rfl hg (Or.inl ⟨rfl, rfl, rfl⟩) c71.1 c71.2.1 c71.2.2.1 c71.2.2.2 (by decide) wa_12 (by decide) (sx := 19) (by decide) (by decide) dX11_init_129 rfl ?_
  obtain ⟨M72, e72, h⟩ := fBd h
  replace e72 := Option.some.inj e72
  rw [e72]
  refine fW_rg (fun hRM72 => ?_)
  obtain ⟨c73, h⟩ := fS h
  obtain ⟨c74, h⟩ := fS h
  refine fU_put 134 20 (ji := 20) (v := 1) (w := rv G ((M70 440 0).toNat)) hg clX11 rfl (by decide) rfl rfl (fun M' h => fFv_ref (G := G) (M := M') (u := 12) rfl h c74) rfl rfl c73 (by decide) wd_1194 dX11_init_131 rfl ?_
  obtain ⟨M75, e75, h⟩ := fBd h
  replace e75 := Option.some.inj e75
  rw [e75]
  refine fW_rg (fun hRM75 => ?_)
  refine fW_aload_n 135 dX11_init_134 rfl rfl ?_
  refine fW_bipush 137 dX11_init_135 rfl (by decide) ?_
  obtain ⟨c76, h⟩ := fS h
  refine fU_newa 139 (atype := .int) rfl hg (Or.inl ⟨rfl, rfl, rfl⟩) c76.1 c76.2.1 c76.2.2.1 c76.2.2.2 (by decide) wa_12 (by decide) (sx := 19) (by decide) (by decide) dX11_init_137 rfl ?_
  obtain ⟨M77, e77, h⟩ := fBd h
  replace e77 := Option.some.inj e77
  rw [e77]
  refine fW_rg (fun hRM77 => ?_)
  obtain ⟨c78, h⟩ := fS h
  obtain ⟨c79, h⟩ := fS h
  refine fU_put 142 21 (ji := 21) (v := 1) (w := rv G ((M75 440 0).toNat)) hg clX11 rfl (by decide) rfl rfl (fun M' h => fFv_ref (G := G) (M := M') (u := 12) rfl h c79) rfl rfl c78 (by decide) wd_1195 dX11_init_139 rfl ?_
  obtain ⟨M80, e80, h⟩ := fBd h
  replace e80 := Option.some.inj e80
  rw [e80]
  refine fW_rg (fun hRM80 => ?_)
  refine fW_aload_n 143 dX11_init_142 rfl rfl ?_
  refine fW_sipush 146 dX11_init_143 rfl (by decide) ?_
  obtain ⟨c81, h⟩ := fS h
  refine fU_newa 148 (atype := .int) rfl hg (Or.inl ⟨rfl, rfl, rfl⟩) c81.1 c81.2.1 c81.2.2.1 c81.2.2.2 (by decide) wa_12 (by decide) (sx := 22971) (by decide) (by decide) dX11_init_146 rfl ?_
  obtain ⟨M82, e82, h⟩ := fBd h
  replace e82 := Option.some.inj e82
  rw [e82]
  refine fW_rg (fun hRM82 => ?_)
  obtain ⟨c83, h⟩ := fS h
  obtain ⟨c84, h⟩ := fS h
  refine fU_put 151 23 (ji := 23) (v := 1) (w := rv G ((M80 440 0).toNat)) hg clX11 rfl (by decide) rfl rfl (fun M' h => fFv_ref (G := G) (M := M') (u := 12) rfl h c84) rfl rfl c83 (by decide) wd_1197 dX11_init_148 rfl ?_
  obtain ⟨M85, e85, h⟩ := fBd h
  replace e85 := Option.some.inj e85
  rw [e85]
  refine fW_rg (fun hRM85 => ?_)
  refine fW_aload_n 152 dX11_init_151 rfl rfl ?_
  refine fW_iconst 153 dX11_init_152 rfl ?_
  obtain ⟨c86, h⟩ := fS h
  refine fU_newa 155 (atype := .boolean) rfl hg (Or.inr (Or.inl ⟨rfl, rfl, rfl⟩)) c86.1 c86.2.1 c86.2.2.1 c86.2.2.2 (by decide) wa_13 (by decide) (sx := 3) (by decide) (by decide) dX11_init_153 rfl ?_
  obtain ⟨M87, e87, h⟩ := fBd h
  replace e87 := Option.some.inj e87
  rw [e87]
  refine fW_rg (fun hRM87 => ?_)
  obtain ⟨c88, h⟩ := fS h
  obtain ⟨c89, h⟩ := fS h
  refine fU_put 158 24 (ji := 24) (v := 1) (w := rv G ((M85 440 0).toNat)) hg clX11 rfl (by decide) rfl rfl (fun M' h => fFv_ref (G := G) (M := M') (u := 13) rfl h c89) rfl rfl c88 (by decide) wd_1198 dX11_init_155 rfl ?_
  obtain ⟨M90, e90, h⟩ := fBd h
  replace e90 := Option.some.inj e90
  rw [e90]
  refine fW_rg (fun hRM90 => ?_)
  refine fW_aload_n 159 dX11_init_158 rfl rfl ?_
  refine fW_sipush 162 dX11_init_159 rfl (by decide) ?_
  obtain ⟨c91, h⟩ := fS h
  refine fU_newa 164 (atype := .int) rfl hg (Or.inl ⟨rfl, rfl, rfl⟩) c91.1 c91.2.1 c91.2.2.1 c91.2.2.2 (by decide) wa_12 (by decide) (sx := 200) (by decide) (by decide) dX11_init_162 rfl ?_
  obtain ⟨M92, e92, h⟩ := fBd h
  replace e92 := Option.some.inj e92
  rw [e92]
  refine fW_rg (fun hRM92 => ?_)
  obtain ⟨c93, h⟩ := fS h
  obtain ⟨c94, h⟩ := fS h
  refine fU_put 167 25 (ji := 25) (v := 1) (w := rv G ((M90 440 0).toNat)) hg clX11 rfl (by decide) rfl rfl (fun M' h => fFv_ref (G := G) (M := M') (u := 12) rfl h c94) rfl rfl c93 (by decide) wd_1199 dX11_init_164 rfl ?_
  obtain ⟨M95, e95, h⟩ := fBd h
  replace e95 := Option.some.inj e95
  rw [e95]
  refine fW_rg (fun hRM95 => ?_)
  refine fW_aload_n 168 dX11_init_167 rfl rfl ?_
  refine fW_sipush 171 dX11_init_168 rfl (by decide) ?_
  obtain ⟨c96, h⟩ := fS h
  refine fU_newa 173 (atype := .int) rfl hg (Or.inl ⟨rfl, rfl, rfl⟩) c96.1 c96.2.1 c96.2.2.1 c96.2.2.2 (by decide) wa_12 (by decide) (sx := 200) (by decide) (by decide) dX11_init_171 rfl ?_
  obtain ⟨M97, e97, h⟩ := fBd h
  replace e97 := Option.some.inj e97
  rw [e97]
  refine fW_rg (fun hRM97 => ?_)
  obtain ⟨c98, h⟩ := fS h
  obtain ⟨c99, h⟩ := fS h
  refine fU_put 176 26 (ji := 26) (v := 1) (w := rv G ((M95 440 0).toNat)) hg clX11 rfl (by decide) rfl rfl (fun M' h => fFv_ref (G := G) (M := M') (u := 12) rfl h c99) rfl rfl c98 (by decide) wd_1200 dX11_init_173 rfl ?_
  obtain ⟨M100, e100, h⟩ := fBd h
  replace e100 := Option.some.inj e100
  rw [e100]
  refine fW_rg (fun hRM100 => ?_)
  refine fW_aload_n 177 dX11_init_176 rfl rfl ?_
  obtain ⟨c101, h⟩ := fS h
  obtain ⟨c102, h⟩ := fS h
  refine fU_getR 180 (r := Rf o 0) 0 (ji := 0) hg clX11 rfl (by decide) rfl c101 c102 rfl wd_1174 dX11_init_177 rfl ?_
  refine fW_sipush 183 dX11_init_180 rfl (by decide) ?_
  refine fW_bipush 185 dX11_init_183 rfl (by decide) ?_
  obtain ⟨c103, h⟩ := fS h
  obtain ⟨c104, h⟩ := fS h
  refine fW_iastU 186 hg c103 c104 (by decide) dX11_init_185 rfl ?_
  obtain ⟨M105, e105, h⟩ := fBd h
  replace e105 := Option.some.inj e105
  rw [e105]
  refine fW_rg (fun hRM105 => ?_)
  refine fW_aload_n 187 dX11_init_186 rfl rfl ?_
  obtain ⟨c106, h⟩ := fS h
  obtain ⟨c107, h⟩ := fS h
  refine fU_getR 190 (r := Rf o 0) 0 (ji := 0) hg clX11 rfl (by decide) rfl c106 c107 rfl wd_1174 dX11_init_187 rfl ?_
  refine fW_sipush 193 dX11_init_190 rfl (by decide) ?_
  refine fW_iconst 194 dX11_init_193 rfl ?_
  obtain ⟨c108, h⟩ := fS h
  obtain ⟨c109, h⟩ := fS h
  refine fW_iastU 195 hg c108 c109 (by decide) dX11_init_194 rfl ?_
  obtain ⟨M110, e110, h⟩ := fBd h
  replace e110 := Option.some.inj e110
  rw [e110]
  refine fW_rg (fun hRM110 => ?_)
  exact fW_vret rfl (by decide) (by decide) dX11_init_195 (rV_i h)
end INI
