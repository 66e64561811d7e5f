section WRD
theorem fPl (ps : List Nat) {ws : List Cond} (h : ps.map (fun i => lw_tbl[i]?) = ws.map some) (g : ws.all goodWord = true) : ∀ w ∈ ws, w ∈ fT := by
  intro w hw
  have h1 : some w ∈ ws.map some := List.mem_map.mpr ⟨w, hw, rfl⟩
  rw [← h] at h1
  obtain ⟨i, -, hi⟩ := List.mem_map.mp h1
  exact fM i hi (List.all_eq_true.mp g w hw)
theorem fC0 : ∀ v ∈ ([] : List Value), v.category = 1 := fun _ h => absurd h List.not_mem_nil
theorem fC1 {v : Value} {vs : List Value} (h : v.category = 1) (t : ∀ w ∈ vs, w.category = 1) : ∀ w ∈ v :: vs, w.category = 1 := List.forall_mem_cons.mpr ⟨h, t⟩
def fRoomB (mt mc : fMt) (c0 s0 : Nat) : Bool := Nat.ble (mc.2.2.2.2.frames + 1) mt.2.2.2.2.frames && (Nat.ble (8 + (mc.2.2.1 + 11) + mc.2.2.2.2.locals) mt.2.2.2.2.locals && (Nat.ble (c0 + mc.2.2.2.2.cells) mt.2.2.2.2.cells && Nat.ble (s0 + mc.2.2.2.2.slots) mt.2.2.2.2.slots))
theorem fRoom_of {mt mc : fMt} {c0 s0 : Nat} (h : fRoomB mt mc c0 s0 = true) : fRoom mt mc c0 s0 := by
  simp only [fRoomB, Bool.and_eq_true] at h
  exact ⟨⟨Nat.le_of_ble_eq_true h.1, Nat.le_of_ble_eq_true h.2.1⟩, Nat.le_of_ble_eq_true h.2.2.1, Nat.le_of_ble_eq_true h.2.2.2⟩
theorem rg_succ {x y : Int} (hx : rg x) (hy : rg y) (h : x < y) : rg (x + 1) := ⟨by omega, by omega⟩
theorem rg_succ' {x y : Int} (hx : rg x) (hy : rg y) (h : ¬ (y ≤ x)) : rg (x + 1) := ⟨by omega, by omega⟩
theorem rg_pred {x y : Int} (hx : rg x) (hy : rg y) (h : y < x) : rg (x + -1) := ⟨by omega, by omega⟩
theorem rg_pred' {x y : Int} (hx : rg x) (hy : rg y) (h : ¬ (x ≤ y)) : rg (x + -1) := ⟨by omega, by omega⟩
theorem rg_pred0 {x : Int} (hx : rg x) (h : 0 ≤ x) : rg (x + -1) := ⟨by omega, by omega⟩
theorem rg_pred0' {x : Int} (hx : rg x) (h : ¬ (x < 0)) : rg (x + -1) := ⟨by omega, by omega⟩
theorem rg_z {x : Int} (h : 0 ≤ x ∧ x ≤ 1) : rg x := ⟨by omega, by omega⟩
theorem rP_i {M : fMem} {e q : Int} (h : some e = some q) (g : rg e) : rP M q (some (iv e)) M := by cases h; exact ⟨rfl, rfl, g⟩
theorem rB_i {M : fMem} {e q : Int} (h : some e = some q) (g : 0 ≤ e ∧ e ≤ 1) : rB M q (some (iv e)) M := by cases h; exact ⟨rfl, rfl, g⟩
theorem rI_i {M : fMem} {e : Int} {q : Int × fMem} (h : some (e, M) = some q) (g : rg e) : rP q.2 q.1 (some (iv e)) M := by cases h; exact ⟨rfl, rfl, g⟩
theorem rBI_i {M : fMem} {e : Int} {q : Int × fMem} (h : some (e, M) = some q) (g : 0 ≤ e ∧ e ≤ 1) : rB q.2 q.1 (some (iv e)) M := by cases h; exact ⟨rfl, rfl, g⟩
theorem rV_i {M q : fMem} (h : some M = some q) : rV q none M := by cases h; exact ⟨rfl, rfl⟩
theorem rU_i {M : fMem} {q : Int} (h : some (0 : Int) = some q) : rU M q none M := by cases h; exact ⟨rfl, rfl, rfl⟩
theorem rT_i {M : fMem} {e : Int} {q : Int × Int × fMem} (h : some (0, e, M) = some q) (g : rg e) : rT q (some (iv e)) M := by cases h; exact ⟨rfl, rfl, rfl, g⟩
theorem xU_1 {M : fMem} {q : Int} (h : some (1 : Int) = some q) : xT q M "java/util/NoSuchElementException" M := by cases h; exact ⟨by decide, rfl, rfl⟩
theorem xU_2 {M : fMem} {q : Int} (h : some (2 : Int) = some q) : xT q M "java/lang/IllegalArgumentException" M := by cases h; exact ⟨by decide, rfl, rfl⟩
theorem xT_1 {M : fMem} {q : Int × Int × fMem} (h : some (1, 0, M) = some q) : xT q.1 q.2.2 "java/util/NoSuchElementException" M := by cases h; exact ⟨show (1 : Int) ≠ 0 by decide, rfl, rfl⟩
theorem xT_2 {M : fMem} {q : Int × Int × fMem} (h : some (2, 0, M) = some q) : xT q.1 q.2.2 "java/lang/IllegalArgumentException" M := by cases h; exact ⟨show (2 : Int) ≠ 0 by decide, rfl, rfl⟩
theorem xU_U {M : fMem} {x q : Int} (hx : ¬ x = 0) (h : some x = some q) : xT q M (exN x) M := by cases h; exact ⟨hx, rfl, rfl⟩
theorem xU_T {M : fMem} {x : Int} {q : Int × Int × fMem} (hx : ¬ x = 0) (h : some (x, 0, M) = some q) : xT q.1 q.2.2 (exN x) M := by cases h; exact ⟨hx, rfl, rfl⟩

theorem clX0 : fCl 0 RX0 TX0 10 tyX0 := ⟨rfl, fPl [266, 268, 270, 272, 274, 276, 278, 280, 282, 284] (by decide +kernel) (by decide +kernel), tyX0_ok, nmX0, rfl, by decide⟩
theorem clX1 : fCl 1 RX1 TX1 5 tyX1 := ⟨rfl, fPl [350, 352, 354, 356, 358] (by decide +kernel) (by decide +kernel), tyX1_ok, nmX1, rfl, by decide⟩
theorem clX2 : fCl 2 RX2 TX2 3 tyX2 := ⟨rfl, fPl [409, 411, 413] (by decide +kernel) (by decide +kernel), tyX2_ok, nmX2, rfl, by decide⟩
theorem clX3 : fCl 3 RX3 TX3 1 tyX3 := ⟨rfl, fPl [364] (by decide +kernel) (by decide +kernel), tyX3_ok, nmX3, rfl, by decide⟩
theorem clX4 : fCl 4 RX4 TX4 9 tyX4 := ⟨rfl, fPl [228, 230, 232, 234, 236, 238, 240, 242, 244] (by decide +kernel) (by decide +kernel), tyX4_ok, nmX4, rfl, by decide⟩
theorem clX5 : fCl 5 RX5 TX5 6 tyX5 := ⟨rfl, fPl [385, 387, 389, 391, 393, 395] (by decide +kernel) (by decide +kernel), tyX5_ok, nmX5, rfl, by decide⟩
theorem clX6 : fCl 6 RX6 TX6 6 tyX6 := ⟨rfl, fPl [166, 168, 170, 172, 174, 176] (by decide +kernel) (by decide +kernel), tyX6_ok, nmX6, rfl, by decide⟩
theorem clX7 : fCl 7 RX7 TX7 3 tyX7 := ⟨rfl, fPl [192, 194, 196] (by decide +kernel) (by decide +kernel), tyX7_ok, nmX7, rfl, by decide⟩
theorem clX8 : fCl 8 RX8 TX8 2 tyX8 := ⟨rfl, fPl [298, 300] (by decide +kernel) (by decide +kernel), tyX8_ok, nmX8, rfl, by decide⟩
theorem clX9 : fCl 9 RX9 TX9 3 tyX9 := ⟨rfl, fPl [314, 316, 318] (by decide +kernel) (by decide +kernel), tyX9_ok, nmX9, rfl, by decide⟩
theorem clX10 : fCl 10 RX10 TX10 12 tyX10 := ⟨rfl, fPl [429, 431, 433, 435, 437, 439, 441, 443, 445, 447, 449, 451] (by decide +kernel) (by decide +kernel), tyX10_ok, nmX10, rfl, by decide⟩
theorem clX11 : fCl 11 RX11 TX11 27 tyX11 := ⟨rfl, fPl [1201, 1203, 1205, 1207, 1209, 1211, 1213, 1215, 1217, 1219, 1221, 1223, 1225, 1227, 1229, 1231, 1233, 1235, 1237, 1239, 1241, 1243, 1245, 1247, 1249, 1251, 1253] (by decide +kernel) (by decide +kernel), tyX11_ok, nmX11, rfl, by decide⟩
theorem tg_0_0 : ∀ k, k < 440 → Ty k = 0 → Ty (k + 1) = 7 ∧ k + 1 < 440 := by decide +kernel
theorem tt_0_0 {k : Nat} (h : fTyp k 0) : fTyp (k + 1) 7 := tg_0_0 k h.2 h.1
theorem tf_0_0 {k : Nat} (h : fTyp k 0) : Rf k ((0 : Nat) : Int) = k + 1 := by unfold Rf; rw [h.1]; first | rfl | simp
theorem tg_0_1 : ∀ k, k < 440 → Ty k = 0 → Ty (k + 61) = 15 ∧ k + 61 < 440 := by decide +kernel
theorem tt_0_1 {k : Nat} (h : fTyp k 0) : fTyp (k + 61) 15 := tg_0_1 k h.2 h.1
theorem tf_0_1 {k : Nat} (h : fTyp k 0) : Rf k ((1 : Nat) : Int) = k + 61 := by unfold Rf; rw [h.1]; first | rfl | simp
theorem tg_1_0 : ∀ k, k < 440 → Ty k = 1 → Ty (k + 1) = 12 ∧ k + 1 < 440 := by decide +kernel
theorem tt_1_0 {k : Nat} (h : fTyp k 1) : fTyp (k + 1) 12 := tg_1_0 k h.2 h.1
theorem tf_1_0 {k : Nat} (h : fTyp k 1) : Rf k ((0 : Nat) : Int) = k + 1 := by unfold Rf; rw [h.1]; first | rfl | simp
theorem tg_1_1 : ∀ k, k < 440 → Ty k = 1 → Ty (k + 2) = 12 ∧ k + 2 < 440 := by decide +kernel
theorem tt_1_1 {k : Nat} (h : fTyp k 1) : fTyp (k + 2) 12 := tg_1_1 k h.2 h.1
theorem tf_1_1 {k : Nat} (h : fTyp k 1) : Rf k ((1 : Nat) : Int) = k + 2 := by unfold Rf; rw [h.1]; first | rfl | simp
theorem tg_1_2 : ∀ k, k < 440 → Ty k = 1 → Ty (k + 3) = 12 ∧ k + 3 < 440 := by decide +kernel
theorem tt_1_2 {k : Nat} (h : fTyp k 1) : fTyp (k + 3) 12 := tg_1_2 k h.2 h.1
theorem tf_1_2 {k : Nat} (h : fTyp k 1) : Rf k ((2 : Nat) : Int) = k + 3 := by unfold Rf; rw [h.1]; first | rfl | simp
theorem tg_2_0 : ∀ k, k < 440 → Ty k = 2 → Ty (k + 1) = 12 ∧ k + 1 < 440 := by decide +kernel
theorem tt_2_0 {k : Nat} (h : fTyp k 2) : fTyp (k + 1) 12 := tg_2_0 k h.2 h.1
theorem tf_2_0 {k : Nat} (h : fTyp k 2) : Rf k ((0 : Nat) : Int) = k + 1 := by unfold Rf; rw [h.1]; first | rfl | simp
theorem tg_2_1 : ∀ k, k < 440 → Ty k = 2 → Ty (k + 2) = 12 ∧ k + 2 < 440 := by decide +kernel
theorem tt_2_1 {k : Nat} (h : fTyp k 2) : fTyp (k + 2) 12 := tg_2_1 k h.2 h.1
theorem tf_2_1 {k : Nat} (h : fTyp k 2) : Rf k ((1 : Nat) : Int) = k + 2 := by unfold Rf; rw [h.1]; first | rfl | simp
theorem tf_3_0 : Rf 149 ((0 : Nat) : Int) = 150 := by decide +kernel
theorem tf_5_0 : Rf 227 ((0 : Nat) : Int) = 228 := by decide +kernel
theorem tf_5_1 : Rf 227 ((1 : Nat) : Int) = 229 := by decide +kernel
theorem tf_5_2 : Rf 227 ((2 : Nat) : Int) = 230 := by decide +kernel
theorem tf_5_3 : Rf 227 ((3 : Nat) : Int) = 231 := by decide +kernel
theorem tg_6_0 : ∀ k, k < 440 → Ty k = 6 → Ty (k + 1) = 12 ∧ k + 1 < 440 := by decide +kernel
theorem tt_6_0 {k : Nat} (h : fTyp k 6) : fTyp (k + 1) 12 := tg_6_0 k h.2 h.1
theorem tf_6_0 {k : Nat} (h : fTyp k 6) : Rf k ((0 : Nat) : Int) = k + 1 := by unfold Rf; rw [h.1]; first | rfl | simp
theorem tg_6_1 : ∀ k, k < 440 → Ty k = 6 → Ty (k + 2) = 12 ∧ k + 2 < 440 := by decide +kernel
theorem tt_6_1 {k : Nat} (h : fTyp k 6) : fTyp (k + 2) 12 := tg_6_1 k h.2 h.1
theorem tf_6_1 {k : Nat} (h : fTyp k 6) : Rf k ((1 : Nat) : Int) = k + 2 := by unfold Rf; rw [h.1]; first | rfl | simp
theorem tg_7_0 : ∀ k, k < 440 → Ty k = 7 → Ty (k + 1) = 16 ∧ k + 1 < 440 := by decide +kernel
theorem tt_7_0 {k : Nat} (h : fTyp k 7) : fTyp (k + 1) 16 := tg_7_0 k h.2 h.1
theorem tf_7_0 {k : Nat} (h : fTyp k 7) : Rf k ((0 : Nat) : Int) = k + 1 := by unfold Rf; rw [h.1]; first | rfl | simp
theorem tg_7_1 : ∀ k, k < 440 → Ty k = 7 → Ty (k + 2) = 12 ∧ k + 2 < 440 := by decide +kernel
theorem tt_7_1 {k : Nat} (h : fTyp k 7) : fTyp (k + 2) 12 := tg_7_1 k h.2 h.1
theorem tf_7_1 {k : Nat} (h : fTyp k 7) : Rf k ((1 : Nat) : Int) = k + 2 := by unfold Rf; rw [h.1]; first | rfl | simp
theorem tf_8_0 : Rf 145 ((0 : Nat) : Int) = 146 := by decide +kernel
theorem tf_9_0 : Rf 147 ((0 : Nat) : Int) = 148 := by decide +kernel
theorem tf_10_0 : Rf 0 ((0 : Nat) : Int) = 1 := by decide +kernel
theorem tf_10_1 : Rf 0 ((1 : Nat) : Int) = 72 := by decide +kernel
theorem tf_10_2 : Rf 0 ((2 : Nat) : Int) = 143 := by decide +kernel
theorem tf_10_3 : Rf 0 ((3 : Nat) : Int) = 144 := by decide +kernel
theorem tf_10_4 : Rf 0 ((4 : Nat) : Int) = 145 := by decide +kernel
theorem tf_10_5 : Rf 0 ((5 : Nat) : Int) = 147 := by decide +kernel
theorem tf_10_6 : Rf 0 ((6 : Nat) : Int) = 149 := by decide +kernel
theorem tf_10_7 : Rf 0 ((7 : Nat) : Int) = 227 := by decide +kernel
theorem tf_10_8 : Rf 0 ((8 : Nat) : Int) = 232 := by decide +kernel
theorem tf_10_9 : Rf 0 ((9 : Nat) : Int) = 235 := by decide +kernel
theorem tf_11_0 : Rf 418 ((0 : Nat) : Int) = 419 := by decide +kernel
theorem tf_11_1 : Rf 418 ((1 : Nat) : Int) = 420 := by decide +kernel
theorem tf_11_2 : Rf 418 ((2 : Nat) : Int) = 421 := by decide +kernel
theorem tf_11_5 : Rf 418 ((5 : Nat) : Int) = 422 := by decide +kernel
theorem tf_11_6 : Rf 418 ((6 : Nat) : Int) = 423 := by decide +kernel
theorem tf_11_7 : Rf 418 ((7 : Nat) : Int) = 424 := by decide +kernel
theorem tf_11_8 : Rf 418 ((8 : Nat) : Int) = 425 := by decide +kernel
theorem tf_11_9 : Rf 418 ((9 : Nat) : Int) = 426 := by decide +kernel
theorem tf_11_10 : Rf 418 ((10 : Nat) : Int) = 427 := by decide +kernel
theorem tf_11_11 : Rf 418 ((11 : Nat) : Int) = 428 := by decide +kernel
theorem tf_11_12 : Rf 418 ((12 : Nat) : Int) = 429 := by decide +kernel
theorem tf_11_17 : Rf 418 ((17 : Nat) : Int) = 430 := by decide +kernel
theorem tf_11_18 : Rf 418 ((18 : Nat) : Int) = 431 := by decide +kernel
theorem tf_11_19 : Rf 418 ((19 : Nat) : Int) = 432 := by decide +kernel
theorem tf_11_20 : Rf 418 ((20 : Nat) : Int) = 433 := by decide +kernel
theorem tf_11_21 : Rf 418 ((21 : Nat) : Int) = 434 := by decide +kernel
theorem tf_11_23 : Rf 418 ((23 : Nat) : Int) = 435 := by decide +kernel
theorem tf_11_24 : Rf 418 ((24 : Nat) : Int) = 436 := by decide +kernel
theorem tf_11_25 : Rf 418 ((25 : Nat) : Int) = 437 := by decide +kernel
theorem tf_11_26 : Rf 418 ((26 : Nat) : Int) = 438 := by decide +kernel
theorem tc_0 : fTyp 0 (Ty 0) := ⟨rfl, by decide⟩
theorem tc_1 : fTyp 1 (Ty 1) := ⟨rfl, by decide⟩
theorem tc_72 : fTyp 72 (Ty 72) := ⟨rfl, by decide⟩
theorem tc_143 : fTyp 143 (Ty 143) := ⟨rfl, by decide⟩
theorem tc_144 : fTyp 144 (Ty 144) := ⟨rfl, by decide⟩
theorem tc_145 : fTyp 145 (Ty 145) := ⟨rfl, by decide⟩
theorem tc_146 : fTyp 146 (Ty 146) := ⟨rfl, by decide⟩
theorem tc_147 : fTyp 147 (Ty 147) := ⟨rfl, by decide⟩
theorem tc_148 : fTyp 148 (Ty 148) := ⟨rfl, by decide⟩
theorem tc_149 : fTyp 149 (Ty 149) := ⟨rfl, by decide⟩
theorem tc_150 : fTyp 150 (Ty 150) := ⟨rfl, by decide⟩
theorem tc_227 : fTyp 227 (Ty 227) := ⟨rfl, by decide⟩
theorem tc_228 : fTyp 228 (Ty 228) := ⟨rfl, by decide⟩
theorem tc_229 : fTyp 229 (Ty 229) := ⟨rfl, by decide⟩
theorem tc_230 : fTyp 230 (Ty 230) := ⟨rfl, by decide⟩
theorem tc_231 : fTyp 231 (Ty 231) := ⟨rfl, by decide⟩
theorem tc_232 : fTyp 232 (Ty 232) := ⟨rfl, by decide⟩
theorem tc_235 : fTyp 235 (Ty 235) := ⟨rfl, by decide⟩
theorem tc_418 : fTyp 418 (Ty 418) := ⟨rfl, by decide⟩
theorem tc_419 : fTyp 419 (Ty 419) := ⟨rfl, by decide⟩
theorem tc_420 : fTyp 420 (Ty 420) := ⟨rfl, by decide⟩
theorem tc_421 : fTyp 421 (Ty 421) := ⟨rfl, by decide⟩
theorem tc_422 : fTyp 422 (Ty 422) := ⟨rfl, by decide⟩
theorem tc_423 : fTyp 423 (Ty 423) := ⟨rfl, by decide⟩
theorem tc_424 : fTyp 424 (Ty 424) := ⟨rfl, by decide⟩
theorem tc_425 : fTyp 425 (Ty 425) := ⟨rfl, by decide⟩
theorem tc_426 : fTyp 426 (Ty 426) := ⟨rfl, by decide⟩
theorem tc_427 : fTyp 427 (Ty 427) := ⟨rfl, by decide⟩
theorem tc_428 : fTyp 428 (Ty 428) := ⟨rfl, by decide⟩
theorem tc_429 : fTyp 429 (Ty 429) := ⟨rfl, by decide⟩
theorem tc_430 : fTyp 430 (Ty 430) := ⟨rfl, by decide⟩
theorem tc_431 : fTyp 431 (Ty 431) := ⟨rfl, by decide⟩
theorem tc_432 : fTyp 432 (Ty 432) := ⟨rfl, by decide⟩
theorem tc_433 : fTyp 433 (Ty 433) := ⟨rfl, by decide⟩
theorem tc_434 : fTyp 434 (Ty 434) := ⟨rfl, by decide⟩
theorem tc_435 : fTyp 435 (Ty 435) := ⟨rfl, by decide⟩
theorem tc_436 : fTyp 436 (Ty 436) := ⟨rfl, by decide⟩
theorem tc_437 : fTyp 437 (Ty 437) := ⟨rfl, by decide⟩
theorem tc_438 : fTyp 438 (Ty 438) := ⟨rfl, by decide⟩
theorem tc_439 : fTyp 439 (Ty 439) := ⟨rfl, by decide⟩
theorem ln_0 : Ln 0 = (Lnn 0 : Nat) := rfl
theorem ln_1 : Ln 1 = (Lnn 1 : Nat) := rfl
theorem ln_72 : Ln 72 = (Lnn 72 : Nat) := rfl
theorem ln_143 : Ln 143 = (Lnn 143 : Nat) := rfl
theorem ln_144 : Ln 144 = (Lnn 144 : Nat) := rfl
theorem ln_145 : Ln 145 = (Lnn 145 : Nat) := rfl
theorem ln_146 : Ln 146 = (Lnn 146 : Nat) := rfl
theorem ln_147 : Ln 147 = (Lnn 147 : Nat) := rfl
theorem ln_148 : Ln 148 = (Lnn 148 : Nat) := rfl
theorem ln_149 : Ln 149 = (Lnn 149 : Nat) := rfl
theorem ln_150 : Ln 150 = (Lnn 150 : Nat) := rfl
theorem ln_227 : Ln 227 = (Lnn 227 : Nat) := rfl
theorem ln_228 : Ln 228 = (Lnn 228 : Nat) := rfl
theorem ln_229 : Ln 229 = (Lnn 229 : Nat) := rfl
theorem ln_230 : Ln 230 = (Lnn 230 : Nat) := rfl
theorem ln_231 : Ln 231 = (Lnn 231 : Nat) := rfl
theorem ln_232 : Ln 232 = (Lnn 232 : Nat) := rfl
theorem ln_235 : Ln 235 = (Lnn 235 : Nat) := rfl
theorem ln_418 : Ln 418 = (Lnn 418 : Nat) := rfl
theorem ln_419 : Ln 419 = (Lnn 419 : Nat) := rfl
theorem ln_420 : Ln 420 = (Lnn 420 : Nat) := rfl
theorem ln_421 : Ln 421 = (Lnn 421 : Nat) := rfl
theorem ln_422 : Ln 422 = (Lnn 422 : Nat) := rfl
theorem ln_423 : Ln 423 = (Lnn 423 : Nat) := rfl
theorem ln_424 : Ln 424 = (Lnn 424 : Nat) := rfl
theorem ln_425 : Ln 425 = (Lnn 425 : Nat) := rfl
theorem ln_426 : Ln 426 = (Lnn 426 : Nat) := rfl
theorem ln_427 : Ln 427 = (Lnn 427 : Nat) := rfl
theorem ln_428 : Ln 428 = (Lnn 428 : Nat) := rfl
theorem ln_429 : Ln 429 = (Lnn 429 : Nat) := rfl
theorem ln_430 : Ln 430 = (Lnn 430 : Nat) := rfl
theorem ln_431 : Ln 431 = (Lnn 431 : Nat) := rfl
theorem ln_432 : Ln 432 = (Lnn 432 : Nat) := rfl
theorem ln_433 : Ln 433 = (Lnn 433 : Nat) := rfl
theorem ln_434 : Ln 434 = (Lnn 434 : Nat) := rfl
theorem ln_435 : Ln 435 = (Lnn 435 : Nat) := rfl
theorem ln_436 : Ln 436 = (Lnn 436 : Nat) := rfl
theorem ln_437 : Ln 437 = (Lnn 437 : Nat) := rfl
theorem ln_438 : Ln 438 = (Lnn 438 : Nat) := rfl
theorem ln_439 : Ln 439 = (Lnn 439 : Nat) := rfl
theorem lf_7_1 {k : Nat} (h : fTyp k 7) : Ln (k + 2) = 19 := by
  have h1 : ∀ k, k < 440 → Ty k = 7 → Lnn (k + 2) = 19 := by decide +kernel
  unfold Ln; rw [h1 k h.2 h.1]; rfl
theorem lf_2_0 {k : Nat} (h : fTyp k 2) : Ln (k + 1) = 200 := by
  have h1 : ∀ k, k < 440 → Ty k = 2 → Lnn (k + 1) = 200 := by decide +kernel
  unfold Ln; rw [h1 k h.2 h.1]; rfl
theorem lf_2_1 {k : Nat} (h : fTyp k 2) : Ln (k + 2) = 200 := by
  have h1 : ∀ k, k < 440 → Ty k = 2 → Lnn (k + 2) = 200 := by decide +kernel
  unfold Ln; rw [h1 k h.2 h.1]; rfl
theorem ag_14 : ∀ k, k < 440 → Ty k = 14 → Lnn k = 19 ∧ ∀ j, j < 19 → Ty (151 + 4 * psO j) = 1 ∧ 151 + 4 * psO j < 440 := by decide +kernel
theorem ta_14 {k r : Nat} {i : Int} (h : fTyp k 14) (h1 : 0 ≤ i ∧ i < 19) (hr : 151 + 4 * psO i.toNat = r) : (0 ≤ i ∧ i < Ln k) ∧ fTyp r 1 ∧ Rf k i = r := by
  subst hr
  obtain ⟨a, b⟩ := ag_14 k h.2 h.1
  have c := b i.toNat (by omega)
  refine ⟨by unfold Ln; rw [a]; exact h1, ⟨c.1, c.2⟩, ?_⟩
  unfold Rf; rw [h.1]
  first | rfl | (simp; omega) | simp
theorem ag_15 : ∀ k, k < 440 → Ty k = 15 → Lnn k = 9 ∧ ∀ j, j < 9 → Ty (k + j + 1) = 4 ∧ k + j + 1 < 440 := by decide +kernel
theorem ta_15 {k r : Nat} {i : Int} (h : fTyp k 15) (h1 : 0 ≤ i ∧ i < 9) (hr : k + i.toNat + 1 = r) : (0 ≤ i ∧ i < Ln k) ∧ fTyp r 4 ∧ Rf k i = r := by
  subst hr
  obtain ⟨a, b⟩ := ag_15 k h.2 h.1
  have c := b i.toNat (by omega)
  refine ⟨by unfold Ln; rw [a]; exact h1, ⟨c.1, c.2⟩, ?_⟩
  unfold Rf; rw [h.1]
  first | rfl | (simp; omega) | simp
theorem ag_16 : ∀ k, k < 440 → Ty k = 16 → Lnn k = 19 ∧ ∀ j, j < 19 → Ty (k + 3 * j + 2) = 6 ∧ k + 3 * j + 2 < 440 := by decide +kernel
theorem ta_16 {k r : Nat} {i : Int} (h : fTyp k 16) (h1 : 0 ≤ i ∧ i < 19) (hr : k + 3 * i.toNat + 2 = r) : (0 ≤ i ∧ i < Ln k) ∧ fTyp r 6 ∧ Rf k i = r := by
  subst hr
  obtain ⟨a, b⟩ := ag_16 k h.2 h.1
  have c := b i.toNat (by omega)
  refine ⟨by unfold Ln; rw [a]; exact h1, ⟨c.1, c.2⟩, ?_⟩
  unfold Rf; rw [h.1]
  first | rfl | (simp; omega) | simp
theorem ag_17 : ∀ k, k < 440 → Ty k = 17 → Lnn k = 3 ∧ ∀ j, j < 3 → Ty (60 * j + 238) = 7 ∧ 60 * j + 238 < 440 := by decide +kernel
theorem ta_17 {k r : Nat} {i : Int} (h : fTyp k 17) (h1 : 0 ≤ i ∧ i < 3) (hr : 60 * i.toNat + 238 = r) : (0 ≤ i ∧ i < Ln k) ∧ fTyp r 7 ∧ Rf k i = r := by
  subst hr
  obtain ⟨a, b⟩ := ag_17 k h.2 h.1
  have c := b i.toNat (by omega)
  refine ⟨by unfold Ln; rw [a]; exact h1, ⟨c.1, c.2⟩, ?_⟩
  unfold Rf; rw [h.1]
  first | rfl | (simp; omega) | simp
theorem wd_111 : Cond.methodLink RL 82 yX10_init ∈ fT := fM 111 (by decide +kernel) rfl
theorem wd_114 : Cond.methodLink RX10 1 ⟨"java/lang/Object", "<init>", "()V"⟩ ∈ fT := fM 114 (by decide +kernel) rfl
theorem wd_119 : Cond.methodLink RX10 9 yX0_init ∈ fT := fM 119 (by decide +kernel) rfl
theorem wd_122 : Cond.methodLink RX0 3 ⟨"java/lang/Object", "<init>", "()V"⟩ ∈ fT := fM 122 (by decide +kernel) rfl
theorem wd_125 : Cond.methodLink RX0 11 yX7_init ∈ fT := fM 125 (by decide +kernel) rfl
theorem wd_128 : Cond.methodLink RX7 3 ⟨"java/lang/Object", "<init>", "()V"⟩ ∈ fT := fM 128 (by decide +kernel) rfl
theorem wd_137 : Cond.methodLink RX10 430 Lib.Math.min.name ∈ fT := fM 137 (by decide +kernel) rfl
theorem wd_140 : Cond.methodLink RX7 32 yX6_init ∈ fT := fM 140 (by decide +kernel) rfl
theorem wd_143 : Cond.methodLink RX6 3 ⟨"java/lang/Object", "<init>", "()V"⟩ ∈ fT := fM 143 (by decide +kernel) rfl
theorem wd_144 : Cond.methodLink RX6 24 Lib.Math.max.name ∈ fT := fM 144 (by decide +kernel) rfl
theorem wd_147 : Cond.fieldLink RX6 30 (TX6 0).1 (TX6 0).2.1 (TX6 0).2.2.1 ∈ fT := fM 147 (by decide +kernel) rfl
theorem wd_148 : Cond.fieldLink RX5 55 (TX6 0).1 (TX6 0).2.1 (TX6 0).2.2.1 ∈ fT := fM 148 (by decide +kernel) rfl
theorem wd_149 : Cond.fieldLink RX6 34 (TX6 1).1 (TX6 1).2.1 (TX6 1).2.2.1 ∈ fT := fM 149 (by decide +kernel) rfl
theorem wd_150 : Cond.fieldLink RX6 9 (TX6 2).1 (TX6 2).2.1 (TX6 2).2.2.1 ∈ fT := fM 150 (by decide +kernel) rfl
theorem wd_151 : Cond.fieldLink RX0 99 (TX6 2).1 (TX6 2).2.1 (TX6 2).2.2.1 ∈ fT := fM 151 (by decide +kernel) rfl
theorem wd_152 : Cond.fieldLink RX7 56 (TX6 2).1 (TX6 2).2.1 (TX6 2).2.2.1 ∈ fT := fM 152 (by decide +kernel) rfl
theorem wd_153 : Cond.fieldLink RX10 244 (TX6 2).1 (TX6 2).2.1 (TX6 2).2.2.1 ∈ fT := fM 153 (by decide +kernel) rfl
theorem wd_154 : Cond.fieldLink RX6 15 (TX6 3).1 (TX6 3).2.1 (TX6 3).2.2.1 ∈ fT := fM 154 (by decide +kernel) rfl
theorem wd_155 : Cond.fieldLink RX2 45 (TX6 3).1 (TX6 3).2.1 (TX6 3).2.2.1 ∈ fT := fM 155 (by decide +kernel) rfl
theorem wd_156 : Cond.fieldLink RX3 57 (TX6 3).1 (TX6 3).2.1 (TX6 3).2.2.1 ∈ fT := fM 156 (by decide +kernel) rfl
theorem wd_157 : Cond.fieldLink RX5 50 (TX6 3).1 (TX6 3).2.1 (TX6 3).2.2.1 ∈ fT := fM 157 (by decide +kernel) rfl
theorem wd_158 : Cond.fieldLink RX7 59 (TX6 3).1 (TX6 3).2.1 (TX6 3).2.2.1 ∈ fT := fM 158 (by decide +kernel) rfl
theorem wd_159 : Cond.fieldLink RX0 147 (TX6 3).1 (TX6 3).2.1 (TX6 3).2.2.1 ∈ fT := fM 159 (by decide +kernel) rfl
theorem wd_160 : Cond.fieldLink RX10 249 (TX6 3).1 (TX6 3).2.1 (TX6 3).2.2.1 ∈ fT := fM 160 (by decide +kernel) rfl
theorem wd_161 : Cond.fieldLink RX6 18 (TX6 4).1 (TX6 4).2.1 (TX6 4).2.2.1 ∈ fT := fM 161 (by decide +kernel) rfl
theorem wd_162 : Cond.fieldLink RX10 253 (TX6 4).1 (TX6 4).2.1 (TX6 4).2.2.1 ∈ fT := fM 162 (by decide +kernel) rfl
theorem wd_163 : Cond.fieldLink RX6 21 (TX6 5).1 (TX6 5).2.1 (TX6 5).2.2.1 ∈ fT := fM 163 (by decide +kernel) rfl
theorem wd_164 : Cond.fieldLink RX7 49 (TX6 5).1 (TX6 5).2.1 (TX6 5).2.2.1 ∈ fT := fM 164 (by decide +kernel) rfl
theorem wd_165 : Cond.fieldLink RX0 96 (TX6 5).1 (TX6 5).2.1 (TX6 5).2.2.1 ∈ fT := fM 165 (by decide +kernel) rfl
theorem wd_180 : Cond.fieldLink RX7 11 (TX7 0).1 (TX7 0).2.1 (TX7 0).2.2.1 ∈ fT := fM 180 (by decide +kernel) rfl
theorem wd_181 : Cond.fieldLink RX2 34 (TX7 0).1 (TX7 0).2.1 (TX7 0).2.2.1 ∈ fT := fM 181 (by decide +kernel) rfl
theorem wd_182 : Cond.fieldLink RX3 39 (TX7 0).1 (TX7 0).2.1 (TX7 0).2.2.1 ∈ fT := fM 182 (by decide +kernel) rfl
theorem wd_183 : Cond.fieldLink RX0 79 (TX7 0).1 (TX7 0).2.1 (TX7 0).2.2.1 ∈ fT := fM 183 (by decide +kernel) rfl
theorem wd_184 : Cond.fieldLink RX5 46 (TX7 0).1 (TX7 0).2.1 (TX7 0).2.2.1 ∈ fT := fM 184 (by decide +kernel) rfl
theorem wd_185 : Cond.fieldLink RX10 240 (TX7 0).1 (TX7 0).2.1 (TX7 0).2.2.1 ∈ fT := fM 185 (by decide +kernel) rfl
theorem wd_186 : Cond.fieldLink RX7 17 (TX7 1).1 (TX7 1).2.1 (TX7 1).2.2.1 ∈ fT := fM 186 (by decide +kernel) rfl
theorem wd_187 : Cond.fieldLink RX5 39 (TX7 1).1 (TX7 1).2.1 (TX7 1).2.2.1 ∈ fT := fM 187 (by decide +kernel) rfl
theorem wd_188 : Cond.fieldLink RX2 38 (TX7 1).1 (TX7 1).2.1 (TX7 1).2.2.1 ∈ fT := fM 188 (by decide +kernel) rfl
theorem wd_189 : Cond.fieldLink RX10 162 (TX7 1).1 (TX7 1).2.1 (TX7 1).2.2.1 ∈ fT := fM 189 (by decide +kernel) rfl
theorem wd_190 : Cond.fieldLink RX7 21 (TX7 2).1 (TX7 2).2.1 (TX7 2).2.2.1 ∈ fT := fM 190 (by decide +kernel) rfl
theorem wd_191 : Cond.fieldLink RX5 34 (TX7 2).1 (TX7 2).2.1 (TX7 2).2.2.1 ∈ fT := fM 191 (by decide +kernel) rfl
theorem wd_205 : Cond.methodLink RX4 1 ⟨"java/lang/Object", "<init>", "()V"⟩ ∈ fT := fM 205 (by decide +kernel) rfl
theorem wd_206 : Cond.fieldLink RX4 7 (TX4 0).1 (TX4 0).2.1 (TX4 0).2.2.1 ∈ fT := fM 206 (by decide +kernel) rfl
theorem wd_207 : Cond.fieldLink RX0 102 (TX4 0).1 (TX4 0).2.1 (TX4 0).2.2.1 ∈ fT := fM 207 (by decide +kernel) rfl
theorem wd_208 : Cond.fieldLink RX10 214 (TX4 0).1 (TX4 0).2.1 (TX4 0).2.2.1 ∈ fT := fM 208 (by decide +kernel) rfl
theorem wd_209 : Cond.fieldLink RX4 13 (TX4 1).1 (TX4 1).2.1 (TX4 1).2.2.1 ∈ fT := fM 209 (by decide +kernel) rfl
theorem wd_210 : Cond.fieldLink RX0 138 (TX4 1).1 (TX4 1).2.1 (TX4 1).2.2.1 ∈ fT := fM 210 (by decide +kernel) rfl
theorem wd_211 : Cond.fieldLink RX10 231 (TX4 1).1 (TX4 1).2.1 (TX4 1).2.2.1 ∈ fT := fM 211 (by decide +kernel) rfl
theorem wd_212 : Cond.fieldLink RX4 16 (TX4 2).1 (TX4 2).2.1 (TX4 2).2.2.1 ∈ fT := fM 212 (by decide +kernel) rfl
theorem wd_213 : Cond.fieldLink RX0 116 (TX4 2).1 (TX4 2).2.1 (TX4 2).2.2.1 ∈ fT := fM 213 (by decide +kernel) rfl
theorem wd_214 : Cond.fieldLink RX4 20 (TX4 3).1 (TX4 3).2.1 (TX4 3).2.2.1 ∈ fT := fM 214 (by decide +kernel) rfl
theorem wd_215 : Cond.fieldLink RX0 119 (TX4 3).1 (TX4 3).2.1 (TX4 3).2.2.1 ∈ fT := fM 215 (by decide +kernel) rfl
theorem wd_216 : Cond.fieldLink RX4 23 (TX4 4).1 (TX4 4).2.1 (TX4 4).2.2.1 ∈ fT := fM 216 (by decide +kernel) rfl
theorem wd_217 : Cond.fieldLink RX0 141 (TX4 4).1 (TX4 4).2.1 (TX4 4).2.2.1 ∈ fT := fM 217 (by decide +kernel) rfl
theorem wd_218 : Cond.fieldLink RX4 26 (TX4 5).1 (TX4 5).2.1 (TX4 5).2.2.1 ∈ fT := fM 218 (by decide +kernel) rfl
theorem wd_219 : Cond.fieldLink RX0 122 (TX4 5).1 (TX4 5).2.1 (TX4 5).2.2.1 ∈ fT := fM 219 (by decide +kernel) rfl
theorem wd_220 : Cond.fieldLink RX4 29 (TX4 6).1 (TX4 6).2.1 (TX4 6).2.2.1 ∈ fT := fM 220 (by decide +kernel) rfl
theorem wd_221 : Cond.fieldLink RX0 128 (TX4 6).1 (TX4 6).2.1 (TX4 6).2.2.1 ∈ fT := fM 221 (by decide +kernel) rfl
theorem wd_222 : Cond.fieldLink RX4 32 (TX4 7).1 (TX4 7).2.1 (TX4 7).2.2.1 ∈ fT := fM 222 (by decide +kernel) rfl
theorem wd_223 : Cond.fieldLink RX0 150 (TX4 7).1 (TX4 7).2.1 (TX4 7).2.2.1 ∈ fT := fM 223 (by decide +kernel) rfl
theorem wd_224 : Cond.fieldLink RX10 222 (TX4 7).1 (TX4 7).2.1 (TX4 7).2.2.1 ∈ fT := fM 224 (by decide +kernel) rfl
theorem wd_225 : Cond.fieldLink RX4 35 (TX4 8).1 (TX4 8).2.1 (TX4 8).2.2.1 ∈ fT := fM 225 (by decide +kernel) rfl
theorem wd_226 : Cond.fieldLink RX0 144 (TX4 8).1 (TX4 8).2.1 (TX4 8).2.2.1 ∈ fT := fM 226 (by decide +kernel) rfl
theorem wd_227 : Cond.fieldLink RX10 225 (TX4 8).1 (TX4 8).2.1 (TX4 8).2.2.1 ∈ fT := fM 227 (by decide +kernel) rfl
theorem wd_247 : Cond.fieldLink RX0 12 (TX0 0).1 (TX0 0).2.1 (TX0 0).2.2.1 ∈ fT := fM 247 (by decide +kernel) rfl
theorem wd_248 : Cond.fieldLink RX10 104 (TX0 0).1 (TX0 0).2.1 (TX0 0).2.2.1 ∈ fT := fM 248 (by decide +kernel) rfl
theorem wd_249 : Cond.fieldLink RX0 20 (TX0 1).1 (TX0 1).2.1 (TX0 1).2.2.1 ∈ fT := fM 249 (by decide +kernel) rfl
theorem wd_250 : Cond.fieldLink RX10 204 (TX0 1).1 (TX0 1).2.1 (TX0 1).2.2.1 ∈ fT := fM 250 (by decide +kernel) rfl
theorem wd_251 : Cond.fieldLink RX0 24 (TX0 2).1 (TX0 2).2.1 (TX0 2).2.2.1 ∈ fT := fM 251 (by decide +kernel) rfl
theorem wd_252 : Cond.fieldLink RX10 101 (TX0 2).1 (TX0 2).2.1 (TX0 2).2.2.1 ∈ fT := fM 252 (by decide +kernel) rfl
theorem wd_253 : Cond.fieldLink RX0 28 (TX0 3).1 (TX0 3).2.1 (TX0 3).2.2.1 ∈ fT := fM 253 (by decide +kernel) rfl
theorem wd_254 : Cond.fieldLink RX0 31 (TX0 4).1 (TX0 4).2.1 (TX0 4).2.2.1 ∈ fT := fM 254 (by decide +kernel) rfl
theorem wd_255 : Cond.fieldLink RX10 284 (TX0 4).1 (TX0 4).2.1 (TX0 4).2.2.1 ∈ fT := fM 255 (by decide +kernel) rfl
theorem wd_256 : Cond.fieldLink RX0 34 (TX0 5).1 (TX0 5).2.1 (TX0 5).2.2.1 ∈ fT := fM 256 (by decide +kernel) rfl
theorem wd_257 : Cond.fieldLink RX10 287 (TX0 5).1 (TX0 5).2.1 (TX0 5).2.2.1 ∈ fT := fM 257 (by decide +kernel) rfl
theorem wd_258 : Cond.fieldLink RX0 37 (TX0 6).1 (TX0 6).2.1 (TX0 6).2.2.1 ∈ fT := fM 258 (by decide +kernel) rfl
theorem wd_259 : Cond.fieldLink RX10 290 (TX0 6).1 (TX0 6).2.1 (TX0 6).2.2.1 ∈ fT := fM 259 (by decide +kernel) rfl
theorem wd_260 : Cond.fieldLink RX0 40 (TX0 7).1 (TX0 7).2.1 (TX0 7).2.2.1 ∈ fT := fM 260 (by decide +kernel) rfl
theorem wd_261 : Cond.fieldLink RX10 293 (TX0 7).1 (TX0 7).2.1 (TX0 7).2.2.1 ∈ fT := fM 261 (by decide +kernel) rfl
theorem wd_262 : Cond.fieldLink RX0 43 (TX0 8).1 (TX0 8).2.1 (TX0 8).2.2.1 ∈ fT := fM 262 (by decide +kernel) rfl
theorem wd_263 : Cond.fieldLink RX10 296 (TX0 8).1 (TX0 8).2.1 (TX0 8).2.2.1 ∈ fT := fM 263 (by decide +kernel) rfl
theorem wd_264 : Cond.fieldLink RX0 46 (TX0 9).1 (TX0 9).2.1 (TX0 9).2.2.1 ∈ fT := fM 264 (by decide +kernel) rfl
theorem wd_265 : Cond.fieldLink RX10 299 (TX0 9).1 (TX0 9).2.1 (TX0 9).2.2.1 ∈ fT := fM 265 (by decide +kernel) rfl
theorem wd_294 : Cond.methodLink RX8 3 ⟨"java/lang/Object", "<init>", "()V"⟩ ∈ fT := fM 294 (by decide +kernel) rfl
theorem wd_295 : Cond.fieldLink RX8 9 (TX8 0).1 (TX8 0).2.1 (TX8 0).2.2.1 ∈ fT := fM 295 (by decide +kernel) rfl
theorem wd_296 : Cond.fieldLink RX8 15 (TX8 1).1 (TX8 1).2.1 (TX8 1).2.2.1 ∈ fT := fM 296 (by decide +kernel) rfl
theorem wd_297 : Cond.fieldLink RX10 76 (TX8 1).1 (TX8 1).2.1 (TX8 1).2.2.1 ∈ fT := fM 297 (by decide +kernel) rfl
theorem wd_309 : Cond.methodLink RX9 3 ⟨"java/lang/Object", "<init>", "()V"⟩ ∈ fT := fM 309 (by decide +kernel) rfl
theorem wd_310 : Cond.fieldLink RX9 9 (TX9 0).1 (TX9 0).2.1 (TX9 0).2.2.1 ∈ fT := fM 310 (by decide +kernel) rfl
theorem wd_311 : Cond.fieldLink RX9 15 (TX9 1).1 (TX9 1).2.1 (TX9 1).2.2.1 ∈ fT := fM 311 (by decide +kernel) rfl
theorem wd_312 : Cond.fieldLink RX9 19 (TX9 2).1 (TX9 2).2.1 (TX9 2).2.2.1 ∈ fT := fM 312 (by decide +kernel) rfl
theorem wd_313 : Cond.fieldLink RX10 318 (TX9 2).1 (TX9 2).2.1 (TX9 2).2.2.1 ∈ fT := fM 313 (by decide +kernel) rfl
theorem wd_323 : Cond.methodLink RX10 45 yX3_init ∈ fT := fM 323 (by decide +kernel) rfl
theorem wd_326 : Cond.methodLink RX3 3 ⟨"java/lang/Object", "<init>", "()V"⟩ ∈ fT := fM 326 (by decide +kernel) rfl
theorem wd_335 : Cond.methodLink RX3 28 yX1_init ∈ fT := fM 335 (by decide +kernel) rfl
theorem wd_338 : Cond.methodLink RX1 3 ⟨"java/lang/Object", "<init>", "()V"⟩ ∈ fT := fM 338 (by decide +kernel) rfl
theorem wd_339 : Cond.methodLink RX1 18 Lib.Math.max.name ∈ fT := fM 339 (by decide +kernel) rfl
theorem wd_340 : Cond.fieldLink RX1 24 (TX1 0).1 (TX1 0).2.1 (TX1 0).2.2.1 ∈ fT := fM 340 (by decide +kernel) rfl
theorem wd_341 : Cond.fieldLink RX5 76 (TX1 0).1 (TX1 0).2.1 (TX1 0).2.2.1 ∈ fT := fM 341 (by decide +kernel) rfl
theorem wd_342 : Cond.fieldLink RX1 28 (TX1 1).1 (TX1 1).2.1 (TX1 1).2.2.1 ∈ fT := fM 342 (by decide +kernel) rfl
theorem wd_343 : Cond.fieldLink RX1 31 (TX1 2).1 (TX1 2).2.1 (TX1 2).2.2.1 ∈ fT := fM 343 (by decide +kernel) rfl
theorem wd_344 : Cond.fieldLink RX1 9 (TX1 3).1 (TX1 3).2.1 (TX1 3).2.2.1 ∈ fT := fM 344 (by decide +kernel) rfl
theorem wd_345 : Cond.fieldLink RX3 80 (TX1 3).1 (TX1 3).2.1 (TX1 3).2.2.1 ∈ fT := fM 345 (by decide +kernel) rfl
theorem wd_346 : Cond.fieldLink RX5 79 (TX1 3).1 (TX1 3).2.1 (TX1 3).2.2.1 ∈ fT := fM 346 (by decide +kernel) rfl
theorem wd_347 : Cond.fieldLink RX10 271 (TX1 3).1 (TX1 3).2.1 (TX1 3).2.2.1 ∈ fT := fM 347 (by decide +kernel) rfl
theorem wd_348 : Cond.fieldLink RX1 15 (TX1 4).1 (TX1 4).2.1 (TX1 4).2.2.1 ∈ fT := fM 348 (by decide +kernel) rfl
theorem wd_349 : Cond.fieldLink RX10 400 (TX1 4).1 (TX1 4).2.1 (TX1 4).2.2.1 ∈ fT := fM 349 (by decide +kernel) rfl
theorem wd_361 : Cond.fieldLink RX3 11 (TX3 0).1 (TX3 0).2.1 (TX3 0).2.2.1 ∈ fT := fM 361 (by decide +kernel) rfl
theorem wd_362 : Cond.fieldLink RX5 66 (TX3 0).1 (TX3 0).2.1 (TX3 0).2.2.1 ∈ fT := fM 362 (by decide +kernel) rfl
theorem wd_363 : Cond.fieldLink RX10 267 (TX3 0).1 (TX3 0).2.1 (TX3 0).2.2.1 ∈ fT := fM 363 (by decide +kernel) rfl
theorem wd_372 : Cond.methodLink RX5 3 ⟨"java/lang/Object", "<init>", "()V"⟩ ∈ fT := fM 372 (by decide +kernel) rfl
theorem wd_373 : Cond.fieldLink RX5 9 (TX5 0).1 (TX5 0).2.1 (TX5 0).2.2.1 ∈ fT := fM 373 (by decide +kernel) rfl
theorem wd_374 : Cond.fieldLink RX10 143 (TX5 0).1 (TX5 0).2.1 (TX5 0).2.2.1 ∈ fT := fM 374 (by decide +kernel) rfl
theorem wd_375 : Cond.fieldLink RX5 15 (TX5 1).1 (TX5 1).2.1 (TX5 1).2.2.1 ∈ fT := fM 375 (by decide +kernel) rfl
theorem wd_376 : Cond.fieldLink RX10 140 (TX5 1).1 (TX5 1).2.1 (TX5 1).2.2.1 ∈ fT := fM 376 (by decide +kernel) rfl
theorem wd_377 : Cond.fieldLink RX5 18 (TX5 2).1 (TX5 2).2.1 (TX5 2).2.2.1 ∈ fT := fM 377 (by decide +kernel) rfl
theorem wd_378 : Cond.fieldLink RX10 133 (TX5 2).1 (TX5 2).2.1 (TX5 2).2.2.1 ∈ fT := fM 378 (by decide +kernel) rfl
theorem wd_379 : Cond.fieldLink RX5 21 (TX5 3).1 (TX5 3).2.1 (TX5 3).2.2.1 ∈ fT := fM 379 (by decide +kernel) rfl
theorem wd_380 : Cond.fieldLink RX10 171 (TX5 3).1 (TX5 3).2.1 (TX5 3).2.2.1 ∈ fT := fM 380 (by decide +kernel) rfl
theorem wd_381 : Cond.fieldLink RX5 24 (TX5 4).1 (TX5 4).2.1 (TX5 4).2.2.1 ∈ fT := fM 381 (by decide +kernel) rfl
theorem wd_382 : Cond.fieldLink RX10 152 (TX5 4).1 (TX5 4).2.1 (TX5 4).2.2.1 ∈ fT := fM 382 (by decide +kernel) rfl
theorem wd_383 : Cond.fieldLink RX5 28 (TX5 5).1 (TX5 5).2.1 (TX5 5).2.2.1 ∈ fT := fM 383 (by decide +kernel) rfl
theorem wd_384 : Cond.fieldLink RX10 397 (TX5 5).1 (TX5 5).2.1 (TX5 5).2.2.1 ∈ fT := fM 384 (by decide +kernel) rfl
theorem wd_403 : Cond.methodLink RX2 3 ⟨"java/lang/Object", "<init>", "()V"⟩ ∈ fT := fM 403 (by decide +kernel) rfl
theorem wd_404 : Cond.fieldLink RX2 9 (TX2 0).1 (TX2 0).2.1 (TX2 0).2.2.1 ∈ fT := fM 404 (by decide +kernel) rfl
theorem wd_405 : Cond.fieldLink RX10 352 (TX2 0).1 (TX2 0).2.1 (TX2 0).2.2.1 ∈ fT := fM 405 (by decide +kernel) rfl
theorem wd_406 : Cond.fieldLink RX2 15 (TX2 1).1 (TX2 1).2.1 (TX2 1).2.2.1 ∈ fT := fM 406 (by decide +kernel) rfl
theorem wd_407 : Cond.fieldLink RX2 18 (TX2 2).1 (TX2 2).2.1 (TX2 2).2.2.1 ∈ fT := fM 407 (by decide +kernel) rfl
theorem wd_408 : Cond.fieldLink RX10 183 (TX2 2).1 (TX2 2).2.1 (TX2 2).2.2.1 ∈ fT := fM 408 (by decide +kernel) rfl
theorem wd_416 : Cond.methodLink RX10 75 yX7_init ∈ fT := fM 416 (by decide +kernel) rfl
theorem wd_417 : Cond.fieldLink RX10 10 (TX10 0).1 (TX10 0).2.1 (TX10 0).2.2.1 ∈ fT := fM 417 (by decide +kernel) rfl
theorem wd_418 : Cond.fieldLink RX10 16 (TX10 1).1 (TX10 1).2.1 (TX10 1).2.2.1 ∈ fT := fM 418 (by decide +kernel) rfl
theorem wd_419 : Cond.fieldLink RX10 21 (TX10 2).1 (TX10 2).2.1 (TX10 2).2.2.1 ∈ fT := fM 419 (by decide +kernel) rfl
theorem wd_420 : Cond.fieldLink RX10 25 (TX10 3).1 (TX10 3).2.1 (TX10 3).2.2.1 ∈ fT := fM 420 (by decide +kernel) rfl
theorem wd_421 : Cond.fieldLink RX10 32 (TX10 4).1 (TX10 4).2.1 (TX10 4).2.2.1 ∈ fT := fM 421 (by decide +kernel) rfl
theorem wd_422 : Cond.fieldLink RX10 39 (TX10 5).1 (TX10 5).2.1 (TX10 5).2.2.1 ∈ fT := fM 422 (by decide +kernel) rfl
theorem wd_423 : Cond.fieldLink RX10 46 (TX10 6).1 (TX10 6).2.1 (TX10 6).2.2.1 ∈ fT := fM 423 (by decide +kernel) rfl
theorem wd_424 : Cond.fieldLink RX10 53 (TX10 7).1 (TX10 7).2.1 (TX10 7).2.2.1 ∈ fT := fM 424 (by decide +kernel) rfl
theorem wd_425 : Cond.fieldLink RX10 60 (TX10 8).1 (TX10 8).2.1 (TX10 8).2.2.1 ∈ fT := fM 425 (by decide +kernel) rfl
theorem wd_426 : Cond.fieldLink RX10 64 (TX10 9).1 (TX10 9).2.1 (TX10 9).2.2.1 ∈ fT := fM 426 (by decide +kernel) rfl
theorem wd_427 : Cond.fieldLink RX10 67 (TX10 10).1 (TX10 10).2.1 (TX10 10).2.2.1 ∈ fT := fM 427 (by decide +kernel) rfl
theorem wd_428 : Cond.fieldLink RX10 71 (TX10 11).1 (TX10 11).2.1 (TX10 11).2.2.1 ∈ fT := fM 428 (by decide +kernel) rfl
theorem wd_454 : Cond.methodLink RL 86 yX10_feed ∈ fT := fM 454 (by decide +kernel) rfl
theorem wd_458 : Cond.methodLink RX10 79 yX8_addNumber ∈ fT := fM 458 (by decide +kernel) rfl
theorem wd_462 : Cond.methodLink RL 91 yX10_batch ∈ fT := fM 462 (by decide +kernel) rfl
theorem wd_466 : Cond.methodLink RX10 83 yX8_byteAt ∈ fT := fM 466 (by decide +kernel) rfl
theorem wd_470 : Cond.methodLink RX10 87 yX10_isKey ∈ fT := fM 470 (by decide +kernel) rfl
theorem wd_473 : Cond.methodLink RX10 91 yX10_takeAct ∈ fT := fM 473 (by decide +kernel) rfl
theorem wd_477 : Cond.methodLink RX10 334 yX0_act ∈ fT := fM 477 (by decide +kernel) rfl
theorem wd_481 : Cond.methodLink RX0 50 yX0_makeRoom ∈ fT := fM 481 (by decide +kernel) rfl
theorem wd_486 : Cond.methodLink RX0 72 yX7_firstFree ∈ fT := fM 486 (by decide +kernel) rfl
theorem wd_492 : Cond.methodLink RX0 75 yX0_step ∈ fT := fM 492 (by decide +kernel) rfl
theorem wd_496 : Cond.methodLink RX0 106 yX0_stepOf ∈ fT := fM 496 (by decide +kernel) rfl
theorem wd_500 : Cond.methodLink RX0 125 yX6_keyAt ∈ fT := fM 500 (by decide +kernel) rfl
theorem wd_504 : Cond.methodLink RX0 131 yX6_valueAt ∈ fT := fM 504 (by decide +kernel) rfl
theorem wd_508 : Cond.methodLink RX0 134 yX0_moveOn ∈ fT := fM 508 (by decide +kernel) rfl
theorem wd_512 : Cond.methodLink RX0 89 yX6_append ∈ fT := fM 512 (by decide +kernel) rfl
theorem wd_516 : Cond.methodLink RX0 110 yX0_leftOf ∈ fT := fM 516 (by decide +kernel) rfl
theorem wd_520 : Cond.methodLink RX0 113 yX0_end ∈ fT := fM 520 (by decide +kernel) rfl
theorem wd_524 : Cond.methodLink RX0 83 yX6_clear ∈ fT := fM 524 (by decide +kernel) rfl
theorem wd_528 : Cond.methodLink RX0 92 yX0_shut ∈ fT := fM 528 (by decide +kernel) rfl
theorem wd_532 : Cond.methodLink RX0 58 yX0_askLevels ∈ fT := fM 532 (by decide +kernel) rfl
theorem wd_536 : Cond.methodLink RX0 153 Lib.Math.min.name ∈ fT := fM 536 (by decide +kernel) rfl
theorem wd_537 : Cond.methodLink RX0 156 yX7_shutOf ∈ fT := fM 537 (by decide +kernel) rfl
theorem wd_541 : Cond.methodLink RX0 159 yX0_begin ∈ fT := fM 541 (by decide +kernel) rfl
theorem wd_545 : Cond.methodLink RX0 162 yX7_nothingBehind ∈ fT := fM 545 (by decide +kernel) rfl
theorem wd_549 : Cond.methodLink RX0 166 yX7_youngestBut ∈ fT := fM 549 (by decide +kernel) rfl
theorem wd_553 : Cond.methodLink RX0 54 yX0_layFirst ∈ fT := fM 553 (by decide +kernel) rfl
theorem wd_557 : Cond.methodLink RX0 61 yX0_takeSteps ∈ fT := fM 557 (by decide +kernel) rfl
theorem wd_561 : Cond.methodLink RX0 65 Lib.Math.max.name ∈ fT := fM 561 (by decide +kernel) rfl
theorem wd_562 : Cond.methodLink RX10 387 yX9_add ∈ fT := fM 562 (by decide +kernel) rfl
theorem wd_566 : Cond.methodLink RX9 22 Lib.Math.min.name ∈ fT := fM 566 (by decide +kernel) rfl
theorem wd_567 : Cond.methodLink RX10 95 yX8_clear ∈ fT := fM 567 (by decide +kernel) rfl
theorem wd_571 : Cond.methodLink RL 95 yX10_put ∈ fT := fM 571 (by decide +kernel) rfl
theorem wd_575 : Cond.methodLink RL 99 yX10_drop ∈ fT := fM 575 (by decide +kernel) rfl
theorem wd_579 : Cond.methodLink RL 103 yX10_steps ∈ fT := fM 579 (by decide +kernel) rfl
theorem wd_583 : Cond.methodLink RX10 98 yX0_takeSteps ∈ fT := fM 583 (by decide +kernel) rfl
theorem wd_584 : Cond.methodLink RL 107 yX10_budget ∈ fT := fM 584 (by decide +kernel) rfl
theorem wd_588 : Cond.methodLink RL 111 yX10_stride ∈ fT := fM 588 (by decide +kernel) rfl
theorem wd_592 : Cond.methodLink RL 115 yX10_find ∈ fT := fM 592 (by decide +kernel) rfl
theorem wd_596 : Cond.methodLink RX10 108 yX7_arrange ∈ fT := fM 596 (by decide +kernel) rfl
theorem wd_600 : Cond.methodLink RX7 41 yX6_isShut ∈ fT := fM 600 (by decide +kernel) rfl
theorem wd_604 : Cond.methodLink RX7 45 yX7_insert ∈ fT := fM 604 (by decide +kernel) rfl
theorem wd_608 : Cond.methodLink RX10 112 yX7_valueOf ∈ fT := fM 608 (by decide +kernel) rfl
theorem wd_612 : Cond.methodLink RX7 71 yX7_firstWith ∈ fT := fM 612 (by decide +kernel) rfl
theorem wd_616 : Cond.methodLink RX7 68 yX6_placeOf ∈ fT := fM 616 (by decide +kernel) rfl
theorem wd_620 : Cond.methodLink RX6 37 yX6_keyAt ∈ fT := fM 620 (by decide +kernel) rfl
theorem wd_621 : Cond.methodLink RX7 74 yX6_valueAt ∈ fT := fM 621 (by decide +kernel) rfl
theorem wd_622 : Cond.methodLink RL 185 yX10_pack ∈ fT := fM 622 (by decide +kernel) rfl
theorem wd_626 : Cond.methodLink RX10 174 yX2_read ∈ fT := fM 626 (by decide +kernel) rfl
theorem wd_630 : Cond.methodLink RX2 22 ⟨"java/util/Arrays", "fill", "([II)V"⟩ ∈ fT := fM 630 (by decide +kernel) rfl
theorem wd_633 : Cond.methodLink RX2 28 yX7_arrange ∈ fT := fM 633 (by decide +kernel) rfl
theorem wd_634 : Cond.methodLink RX2 41 yX2_readRow ∈ fT := fM 634 (by decide +kernel) rfl
theorem wd_638 : Cond.methodLink RX2 50 yX6_keyAt ∈ fT := fM 638 (by decide +kernel) rfl
theorem wd_640 : Cond.methodLink RX2 58 yX6_valueAt ∈ fT := fM 640 (by decide +kernel) rfl
theorem wd_641 : Cond.methodLink RX10 346 yX0_freeAll ∈ fT := fM 641 (by decide +kernel) rfl
theorem wd_645 : Cond.methodLink RX0 169 yX7_freeAll ∈ fT := fM 645 (by decide +kernel) rfl
theorem wd_649 : Cond.methodLink RX7 77 yX6_clear ∈ fT := fM 649 (by decide +kernel) rfl
theorem wd_650 : Cond.methodLink RX10 192 yX2_keysThere ∈ fT := fM 650 (by decide +kernel) rfl
theorem wd_654 : Cond.methodLink RX2 61 yX2_has ∈ fT := fM 654 (by decide +kernel) rfl
theorem wd_658 : Cond.methodLink RX10 349 yX10_leastLevelFor ∈ fT := fM 658 (by decide +kernel) rfl
theorem wd_661 : Cond.methodLink RX10 137 yX10_at ∈ fT := fM 661 (by decide +kernel) rfl
theorem wd_664 : Cond.fieldLink RX10 418 RX10 "FIRST_ROW" "[I" ∈ fT := fM 664 (by decide +kernel) rfl
theorem wd_665 : Cond.methodLink RX10 178 yX2_has ∈ fT := fM 665 (by decide +kernel) rfl
theorem wd_666 : Cond.methodLink RX10 355 yX6_append ∈ fT := fM 666 (by decide +kernel) rfl
theorem wd_667 : Cond.methodLink RX10 358 yX0_shut ∈ fT := fM 667 (by decide +kernel) rfl
theorem wd_668 : Cond.methodLink RL 189 yX10_view ∈ fT := fM 668 (by decide +kernel) rfl
theorem wd_672 : Cond.methodLink RX10 362 yX10_isView ∈ fT := fM 672 (by decide +kernel) rfl
theorem wd_675 : Cond.methodLink RX10 365 yX7_copyShut ∈ fT := fM 675 (by decide +kernel) rfl
theorem wd_679 : Cond.methodLink RX7 80 yX6_copyFrom ∈ fT := fM 679 (by decide +kernel) rfl
theorem wd_683 : Cond.methodLink RX6 41 Lib.Math.min.name ∈ fT := fM 683 (by decide +kernel) rfl
theorem wd_684 : Cond.methodLink RX6 44 arraycopyName ∈ fT := fM 684 (by decide +kernel) rfl
theorem wd_687 : Cond.methodLink RL 193 yX10_leave ∈ fT := fM 687 (by decide +kernel) rfl
theorem wd_691 : Cond.methodLink RX10 368 yX10_isTaken ∈ fT := fM 691 (by decide +kernel) rfl
theorem wd_695 : Cond.methodLink RL 206 yX10_restore ∈ fT := fM 695 (by decide +kernel) rfl
theorem wd_699 : Cond.methodLink RX10 384 yX0_askLevels ∈ fT := fM 699 (by decide +kernel) rfl
theorem wd_700 : Cond.methodLink RL 119 yL_looks ∈ fT := fM 700 (by decide +kernel) rfl
theorem wd_704 : Cond.methodLink RL 7 yX10_looks ∈ fT := fM 704 (by decide +kernel) rfl
theorem wd_708 : Cond.methodLink RX10 115 yX10_needKey ∈ fT := fM 708 (by decide +kernel) rfl
theorem wd_752 : Cond.methodLink RX10 159 ⟨"java/util/NoSuchElementException", "<init>", "(Ljava/lang/String;)V"⟩ ∈ fT := fM 752 (by decide +kernel) rfl
theorem wd_778 : Cond.methodLink RX10 118 yX10_refresh ∈ fT := fM 778 (by decide +kernel) rfl
theorem wd_782 : Cond.methodLink RX10 390 yX3_build ∈ fT := fM 782 (by decide +kernel) rfl
theorem wd_786 : Cond.methodLink RX3 31 yX7_leadOf ∈ fT := fM 786 (by decide +kernel) rfl
theorem wd_790 : Cond.methodLink RX7 52 yX7_youngestBut ∈ fT := fM 790 (by decide +kernel) rfl
theorem wd_791 : Cond.methodLink RX3 36 yX1_clear ∈ fT := fM 791 (by decide +kernel) rfl
theorem wd_795 : Cond.methodLink RX3 43 yX7_youngestBut ∈ fT := fM 795 (by decide +kernel) rfl
theorem wd_796 : Cond.methodLink RX3 47 yX3_weave ∈ fT := fM 796 (by decide +kernel) rfl
theorem wd_800 : Cond.methodLink RX3 61 yX3_marksIn ∈ fT := fM 800 (by decide +kernel) rfl
theorem wd_804 : Cond.methodLink RX3 64 yX6_keyAt ∈ fT := fM 804 (by decide +kernel) rfl
theorem wd_805 : Cond.methodLink RX3 67 yX3_keyIn ∈ fT := fM 805 (by decide +kernel) rfl
theorem wd_809 : Cond.methodLink RX3 81 yX1_keyAt ∈ fT := fM 809 (by decide +kernel) rfl
theorem wd_813 : Cond.methodLink RX3 70 yX6_valueAt ∈ fT := fM 813 (by decide +kernel) rfl
theorem wd_814 : Cond.methodLink RX3 73 yX1_append ∈ fT := fM 814 (by decide +kernel) rfl
theorem wd_821 : Cond.fieldLink RX10 165 RX10 "LEVEL_OF" "[I" ∈ fT := fM 821 (by decide +kernel) rfl
theorem wd_822 : Cond.methodLink RX3 51 yX6_isShut ∈ fT := fM 822 (by decide +kernel) rfl
theorem wd_823 : Cond.methodLink RX10 121 yX10_looksFor ∈ fT := fM 823 (by decide +kernel) rfl
theorem wd_827 : Cond.methodLink RX10 394 yX5_followPlain ∈ fT := fM 827 (by decide +kernel) rfl
theorem wd_831 : Cond.methodLink RX5 31 yX5_start ∈ fT := fM 831 (by decide +kernel) rfl
theorem wd_835 : Cond.methodLink RX5 58 yX5_halve ∈ fT := fM 835 (by decide +kernel) rfl
theorem wd_839 : Cond.methodLink RX5 100 Lib.Math.min.name ∈ fT := fM 839 (by decide +kernel) rfl
theorem wd_840 : Cond.methodLink RX5 62 yX6_keyAt ∈ fT := fM 840 (by decide +kernel) rfl
theorem wd_841 : Cond.methodLink RX10 149 yX5_follow ∈ fT := fM 841 (by decide +kernel) rfl
theorem wd_845 : Cond.methodLink RX5 42 yX5_enter ∈ fT := fM 845 (by decide +kernel) rfl
theorem wd_849 : Cond.methodLink RX5 72 yX5_narrow ∈ fT := fM 849 (by decide +kernel) rfl
theorem wd_854 : Cond.methodLink RX5 87 yX7_leadOf ∈ fT := fM 854 (by decide +kernel) rfl
theorem wd_856 : Cond.methodLink RX5 93 yX1_lastMark ∈ fT := fM 856 (by decide +kernel) rfl
theorem wd_860 : Cond.methodLink RX1 41 Lib.Math.min.name ∈ fT := fM 860 (by decide +kernel) rfl
theorem wd_861 : Cond.methodLink RX5 97 yX1_firstMark ∈ fT := fM 861 (by decide +kernel) rfl
theorem wd_865 : Cond.methodLink RX5 80 yX1_keyAt ∈ fT := fM 865 (by decide +kernel) rfl
theorem wd_866 : Cond.methodLink RX5 81 yX1_placeAt ∈ fT := fM 866 (by decide +kernel) rfl
theorem wd_870 : Cond.methodLink RL 129 yL_falls ∈ fT := fM 870 (by decide +kernel) rfl
theorem wd_873 : Cond.methodLink RL 15 yX10_falls ∈ fT := fM 873 (by decide +kernel) rfl
theorem wd_877 : Cond.methodLink RX10 125 yX10_needShut ∈ fT := fM 877 (by decide +kernel) rfl
theorem wd_881 : Cond.methodLink RX10 237 yX10_needRow ∈ fT := fM 881 (by decide +kernel) rfl
theorem wd_884 : Cond.methodLink RX10 201 yX10_needLevel ∈ fT := fM 884 (by decide +kernel) rfl
theorem wd_888 : Cond.fieldLink RX10 415 RX10 "END_ROW" "[I" ∈ fT := fM 888 (by decide +kernel) rfl
theorem wd_890 : Cond.methodLink RX10 405 yX6_isShut ∈ fT := fM 890 (by decide +kernel) rfl
theorem wd_892 : Cond.methodLink RX10 129 yX5_followAll ∈ fT := fM 892 (by decide +kernel) rfl
theorem wd_896 : Cond.methodLink RL 133 yL_bounds ∈ fT := fM 896 (by decide +kernel) rfl
theorem wd_899 : Cond.methodLink RL 19 yX10_bounds ∈ fT := fM 899 (by decide +kernel) rfl
theorem wd_903 : Cond.methodLink RL 137 yL_route ∈ fT := fM 903 (by decide +kernel) rfl
theorem wd_906 : Cond.methodLink RL 23 yX10_route ∈ fT := fM 906 (by decide +kernel) rfl
theorem wd_910 : Cond.methodLink RX10 146 yX10_needWhat ∈ fT := fM 910 (by decide +kernel) rfl
theorem wd_915 : Cond.methodLink RX10 168 yX10_numberOf ∈ fT := fM 915 (by decide +kernel) rfl
theorem wd_916 : Cond.methodLink RL 140 yL_next ∈ fT := fM 916 (by decide +kernel) rfl
theorem wd_919 : Cond.methodLink RL 26 yX10_next ∈ fT := fM 919 (by decide +kernel) rfl
theorem wd_923 : Cond.methodLink RL 144 yL_nth ∈ fT := fM 923 (by decide +kernel) rfl
theorem wd_926 : Cond.methodLink RL 30 yX10_nth ∈ fT := fM 926 (by decide +kernel) rfl
theorem wd_931 : Cond.methodLink RL 147 yL_waste ∈ fT := fM 931 (by decide +kernel) rfl
theorem wd_934 : Cond.methodLink RL 33 yX10_waste ∈ fT := fM 934 (by decide +kernel) rfl
theorem wd_938 : Cond.methodLink RX10 186 yX2_heldKeys ∈ fT := fM 938 (by decide +kernel) rfl
theorem wd_942 : Cond.methodLink RX10 189 yX2_loneSigns ∈ fT := fM 942 (by decide +kernel) rfl
theorem wd_946 : Cond.methodLink RL 150 yL_many ∈ fT := fM 946 (by decide +kernel) rfl
theorem wd_949 : Cond.methodLink RL 36 yX10_many ∈ fT := fM 949 (by decide +kernel) rfl
theorem wd_953 : Cond.methodLink RL 154 yL_trace ∈ fT := fM 953 (by decide +kernel) rfl
theorem wd_956 : Cond.methodLink RL 40 yX10_trace ∈ fT := fM 956 (by decide +kernel) rfl
theorem wd_960 : Cond.methodLink RX10 195 yX7_rowsWith ∈ fT := fM 960 (by decide +kernel) rfl
theorem wd_964 : Cond.methodLink RX10 198 yX7_firstWith ∈ fT := fM 964 (by decide +kernel) rfl
theorem wd_965 : Cond.methodLink RL 157 yL_level ∈ fT := fM 965 (by decide +kernel) rfl
theorem wd_968 : Cond.methodLink RL 43 yX10_level ∈ fT := fM 968 (by decide +kernel) rfl
theorem wd_972 : Cond.methodLink RX10 208 yX7_leadOf ∈ fT := fM 972 (by decide +kernel) rfl
theorem wd_973 : Cond.methodLink RX10 211 yX7_shutOf ∈ fT := fM 973 (by decide +kernel) rfl
theorem wd_974 : Cond.methodLink RX10 219 yX7_thingsOf ∈ fT := fM 974 (by decide +kernel) rfl
theorem wd_978 : Cond.methodLink RX10 228 yX0_leftOf ∈ fT := fM 978 (by decide +kernel) rfl
theorem wd_979 : Cond.methodLink RX10 234 yX10_marksOf ∈ fT := fM 979 (by decide +kernel) rfl
theorem wd_983 : Cond.methodLink RL 160 yL_row ∈ fT := fM 983 (by decide +kernel) rfl
theorem wd_986 : Cond.methodLink RL 46 yX10_row ∈ fT := fM 986 (by decide +kernel) rfl
theorem wd_990 : Cond.methodLink RX10 250 yX10_entriesOf ∈ fT := fM 990 (by decide +kernel) rfl
theorem wd_994 : Cond.methodLink RX10 256 yX10_aheadOf ∈ fT := fM 994 (by decide +kernel) rfl
theorem wd_998 : Cond.methodLink RL 163 yL_thing ∈ fT := fM 998 (by decide +kernel) rfl
theorem wd_1001 : Cond.methodLink RL 49 yX10_thing ∈ fT := fM 1001 (by decide +kernel) rfl
theorem wd_1006 : Cond.methodLink RX10 261 yX6_keyAt ∈ fT := fM 1006 (by decide +kernel) rfl
theorem wd_1007 : Cond.methodLink RX10 264 yX6_valueAt ∈ fT := fM 1007 (by decide +kernel) rfl
theorem wd_1008 : Cond.methodLink RL 167 yL_entry ∈ fT := fM 1008 (by decide +kernel) rfl
theorem wd_1011 : Cond.methodLink RL 53 yX10_entry ∈ fT := fM 1011 (by decide +kernel) rfl
theorem wd_1016 : Cond.methodLink RX10 276 yX1_keyAt ∈ fT := fM 1016 (by decide +kernel) rfl
theorem wd_1017 : Cond.methodLink RX10 277 yX1_kindAt ∈ fT := fM 1017 (by decide +kernel) rfl
theorem wd_1021 : Cond.methodLink RX1 34 yX1_placeAt ∈ fT := fM 1021 (by decide +kernel) rfl
theorem wd_1022 : Cond.methodLink RX1 38 yX1_valueAt ∈ fT := fM 1022 (by decide +kernel) rfl
theorem wd_1026 : Cond.methodLink RX10 280 yX1_valueAt ∈ fT := fM 1026 (by decide +kernel) rfl
theorem wd_1027 : Cond.methodLink RX10 281 yX1_placeAt ∈ fT := fM 1027 (by decide +kernel) rfl
theorem wd_1028 : Cond.methodLink RL 170 yL_count ∈ fT := fM 1028 (by decide +kernel) rfl
theorem wd_1031 : Cond.methodLink RL 56 yX10_count ∈ fT := fM 1031 (by decide +kernel) rfl
theorem wd_1035 : Cond.methodLink RX10 302 yX10_keysNow ∈ fT := fM 1035 (by decide +kernel) rfl
theorem wd_1039 : Cond.methodLink RX10 306 yX7_things ∈ fT := fM 1039 (by decide +kernel) rfl
theorem wd_1043 : Cond.methodLink RX7 62 yX7_thingsOf ∈ fT := fM 1043 (by decide +kernel) rfl
theorem wd_1044 : Cond.methodLink RX10 308 yX7_deepest ∈ fT := fM 1044 (by decide +kernel) rfl
theorem wd_1048 : Cond.methodLink RX7 65 yX7_shutOf ∈ fT := fM 1048 (by decide +kernel) rfl
theorem wd_1049 : Cond.methodLink RX10 311 yX0_merging ∈ fT := fM 1049 (by decide +kernel) rfl
theorem wd_1053 : Cond.methodLink RX10 314 yX10_mostLooks ∈ fT := fM 1053 (by decide +kernel) rfl
theorem wd_1057 : Cond.methodLink RX10 337 Lib.Math.max.name ∈ fT := fM 1057 (by decide +kernel) rfl
theorem wd_1058 : Cond.methodLink RL 173 yL_toll ∈ fT := fM 1058 (by decide +kernel) rfl
theorem wd_1061 : Cond.methodLink RL 59 yX10_toll ∈ fT := fM 1061 (by decide +kernel) rfl
theorem wd_1066 : Cond.methodLink RX10 321 yX9_stepsOf ∈ fT := fM 1066 (by decide +kernel) rfl
theorem wd_1070 : Cond.methodLink RL 176 yL_ahead ∈ fT := fM 1070 (by decide +kernel) rfl
theorem wd_1074 : Cond.methodLink RL 62 yX10_ahead ∈ fT := fM 1074 (by decide +kernel) rfl
theorem wd_1078 : Cond.methodLink RX10 324 yX10_needActs ∈ fT := fM 1078 (by decide +kernel) rfl
theorem wd_1091 : Cond.methodLink RX10 429 ⟨"java/lang/IllegalArgumentException", "<init>", "(Ljava/lang/String;)V"⟩ ∈ fT := fM 1091 (by decide +kernel) rfl
theorem wd_1097 : Cond.methodLink RX10 327 yX0_copyFrom ∈ fT := fM 1097 (by decide +kernel) rfl
theorem wd_1101 : Cond.methodLink RX0 172 yX7_copyFrom ∈ fT := fM 1101 (by decide +kernel) rfl
theorem wd_1105 : Cond.methodLink RX0 176 yX4_copyFrom ∈ fT := fM 1105 (by decide +kernel) rfl
theorem wd_1109 : Cond.methodLink RX10 331 yX10_keyAhead ∈ fT := fM 1109 (by decide +kernel) rfl
theorem wd_1112 : Cond.methodLink RL 179 yL_calm ∈ fT := fM 1112 (by decide +kernel) rfl
theorem wd_1115 : Cond.methodLink RL 67 yX10_calm ∈ fT := fM 1115 (by decide +kernel) rfl
theorem wd_1119 : Cond.methodLink RX10 342 yX10_isCalm ∈ fT := fM 1119 (by decide +kernel) rfl
theorem wd_1123 : Cond.methodLink RL 182 yL_due ∈ fT := fM 1123 (by decide +kernel) rfl
theorem wd_1126 : Cond.methodLink RL 70 yX10_due ∈ fT := fM 1126 (by decide +kernel) rfl
theorem wd_1130 : Cond.methodLink RL 197 yL_seen ∈ fT := fM 1130 (by decide +kernel) rfl
theorem wd_1133 : Cond.methodLink RL 73 yX10_seen ∈ fT := fM 1133 (by decide +kernel) rfl
theorem wd_1137 : Cond.methodLink RX10 371 yX10_needTaken ∈ fT := fM 1137 (by decide +kernel) rfl
theorem wd_1142 : Cond.methodLink RL 200 yL_against ∈ fT := fM 1142 (by decide +kernel) rfl
theorem wd_1145 : Cond.methodLink RL 76 yX10_against ∈ fT := fM 1145 (by decide +kernel) rfl
theorem wd_1149 : Cond.methodLink RX10 374 yX2_lostIn ∈ fT := fM 1149 (by decide +kernel) rfl
theorem wd_1153 : Cond.methodLink RX10 378 yX2_missingIn ∈ fT := fM 1153 (by decide +kernel) rfl
theorem wd_1157 : Cond.methodLink RX10 381 yX7_shutYetIn ∈ fT := fM 1157 (by decide +kernel) rfl
theorem wd_1161 : Cond.methodLink RL 203 yL_between ∈ fT := fM 1161 (by decide +kernel) rfl
theorem wd_1164 : Cond.methodLink RL 79 yX10_between ∈ fT := fM 1164 (by decide +kernel) rfl
theorem wd_1170 : Cond.methodLink RL 85 yX11_init ∈ fT := fM 1170 (by decide +kernel) rfl
theorem wd_1173 : Cond.methodLink RX11 1 ⟨"java/lang/Object", "<init>", "()V"⟩ ∈ fT := fM 1173 (by decide +kernel) rfl
theorem wd_1174 : Cond.fieldLink RX11 7 (TX11 0).1 (TX11 0).2.1 (TX11 0).2.2.1 ∈ fT := fM 1174 (by decide +kernel) rfl
theorem wd_1175 : Cond.fieldLink RX11 13 (TX11 1).1 (TX11 1).2.1 (TX11 1).2.2.1 ∈ fT := fM 1175 (by decide +kernel) rfl
theorem wd_1176 : Cond.fieldLink RX11 16 (TX11 2).1 (TX11 2).2.1 (TX11 2).2.2.1 ∈ fT := fM 1176 (by decide +kernel) rfl
theorem wd_1177 : Cond.fieldLink RX11 149 (TX11 3).1 (TX11 3).2.1 (TX11 3).2.2.1 ∈ fT := fM 1177 (by decide +kernel) rfl
theorem wd_1178 : Cond.fieldLink RX11 71 (TX11 4).1 (TX11 4).2.1 (TX11 4).2.2.1 ∈ fT := fM 1178 (by decide +kernel) rfl
theorem wd_1179 : Cond.fieldLink RX11 19 (TX11 5).1 (TX11 5).2.1 (TX11 5).2.2.1 ∈ fT := fM 1179 (by decide +kernel) rfl
theorem wd_1180 : Cond.fieldLink RX11 22 (TX11 6).1 (TX11 6).2.1 (TX11 6).2.2.1 ∈ fT := fM 1180 (by decide +kernel) rfl
theorem wd_1181 : Cond.fieldLink RX11 25 (TX11 7).1 (TX11 7).2.1 (TX11 7).2.2.1 ∈ fT := fM 1181 (by decide +kernel) rfl
theorem wd_1182 : Cond.fieldLink RX11 28 (TX11 8).1 (TX11 8).2.1 (TX11 8).2.2.1 ∈ fT := fM 1182 (by decide +kernel) rfl
theorem wd_1183 : Cond.fieldLink RX11 31 (TX11 9).1 (TX11 9).2.1 (TX11 9).2.2.1 ∈ fT := fM 1183 (by decide +kernel) rfl
theorem wd_1184 : Cond.fieldLink RX11 34 (TX11 10).1 (TX11 10).2.1 (TX11 10).2.2.1 ∈ fT := fM 1184 (by decide +kernel) rfl
theorem wd_1185 : Cond.fieldLink RX11 37 (TX11 11).1 (TX11 11).2.1 (TX11 11).2.2.1 ∈ fT := fM 1185 (by decide +kernel) rfl
theorem wd_1186 : Cond.fieldLink RX11 40 (TX11 12).1 (TX11 12).2.1 (TX11 12).2.2.1 ∈ fT := fM 1186 (by decide +kernel) rfl
theorem wd_1187 : Cond.fieldLink RX11 188 (TX11 13).1 (TX11 13).2.1 (TX11 13).2.2.1 ∈ fT := fM 1187 (by decide +kernel) rfl
theorem wd_1188 : Cond.fieldLink RX11 202 (TX11 14).1 (TX11 14).2.1 (TX11 14).2.2.1 ∈ fT := fM 1188 (by decide +kernel) rfl
theorem wd_1189 : Cond.fieldLink RX11 205 (TX11 15).1 (TX11 15).2.1 (TX11 15).2.2.1 ∈ fT := fM 1189 (by decide +kernel) rfl
theorem wd_1190 : Cond.fieldLink RX11 211 (TX11 16).1 (TX11 16).2.1 (TX11 16).2.2.1 ∈ fT := fM 1190 (by decide +kernel) rfl
theorem wd_1191 : Cond.fieldLink RX11 43 (TX11 17).1 (TX11 17).2.1 (TX11 17).2.2.1 ∈ fT := fM 1191 (by decide +kernel) rfl
theorem wd_1192 : Cond.fieldLink RX11 46 (TX11 18).1 (TX11 18).2.1 (TX11 18).2.2.1 ∈ fT := fM 1192 (by decide +kernel) rfl
theorem wd_1193 : Cond.fieldLink RX11 49 (TX11 19).1 (TX11 19).2.1 (TX11 19).2.2.1 ∈ fT := fM 1193 (by decide +kernel) rfl
theorem wd_1194 : Cond.fieldLink RX11 52 (TX11 20).1 (TX11 20).2.1 (TX11 20).2.2.1 ∈ fT := fM 1194 (by decide +kernel) rfl
theorem wd_1195 : Cond.fieldLink RX11 55 (TX11 21).1 (TX11 21).2.1 (TX11 21).2.2.1 ∈ fT := fM 1195 (by decide +kernel) rfl
theorem wd_1196 : Cond.fieldLink RX11 223 (TX11 22).1 (TX11 22).2.1 (TX11 22).2.2.1 ∈ fT := fM 1196 (by decide +kernel) rfl
theorem wd_1197 : Cond.fieldLink RX11 58 (TX11 23).1 (TX11 23).2.1 (TX11 23).2.2.1 ∈ fT := fM 1197 (by decide +kernel) rfl
theorem wd_1198 : Cond.fieldLink RX11 61 (TX11 24).1 (TX11 24).2.1 (TX11 24).2.2.1 ∈ fT := fM 1198 (by decide +kernel) rfl
theorem wd_1199 : Cond.fieldLink RX11 65 (TX11 25).1 (TX11 25).2.1 (TX11 25).2.2.1 ∈ fT := fM 1199 (by decide +kernel) rfl
theorem wd_1200 : Cond.fieldLink RX11 68 (TX11 26).1 (TX11 26).2.1 (TX11 26).2.2.1 ∈ fT := fM 1200 (by decide +kernel) rfl
theorem wd_1256 : Cond.methodLink RL 125 yX11_thrown ∈ fT := fM 1256 (by decide +kernel) rfl
theorem wd_1260 : Cond.methodLink RL 90 yX11_feed ∈ fT := fM 1260 (by decide +kernel) rfl
theorem wd_1264 : Cond.methodLink RX11 152 yX11_lays ∈ fT := fM 1264 (by decide +kernel) rfl
theorem wd_1268 : Cond.methodLink RL 94 yX11_batch ∈ fT := fM 1268 (by decide +kernel) rfl
theorem wd_1272 : Cond.methodLink RX11 75 yX11_isIn ∈ fT := fM 1272 (by decide +kernel) rfl
theorem wd_1275 : Cond.methodLink RX11 155 yX11_isKey ∈ fT := fM 1275 (by decide +kernel) rfl
theorem wd_1278 : Cond.methodLink RX11 158 yX11_acts ∈ fT := fM 1278 (by decide +kernel) rfl
theorem wd_1282 : Cond.methodLink RX11 103 yX11_firstFree ∈ fT := fM 1282 (by decide +kernel) rfl
theorem wd_1286 : Cond.methodLink RX11 83 yX11_rowsOf ∈ fT := fM 1286 (by decide +kernel) rfl
theorem wd_1289 : Cond.methodLink RX11 91 yX11_rowAt ∈ fT := fM 1289 (by decide +kernel) rfl
theorem wd_1292 : Cond.methodLink RX11 142 yX11_step ∈ fT := fM 1292 (by decide +kernel) rfl
theorem wd_1296 : Cond.methodLink RX11 119 yX11_lowestMerging ∈ fT := fM 1296 (by decide +kernel) rfl
theorem wd_1300 : Cond.methodLink RX11 87 yX11_keyAt ∈ fT := fM 1300 (by decide +kernel) rfl
theorem wd_1304 : Cond.methodLink RX11 123 yX11_comes ∈ fT := fM 1304 (by decide +kernel) rfl
theorem wd_1308 : Cond.methodLink RX11 116 yX11_valueAt ∈ fT := fM 1308 (by decide +kernel) rfl
theorem wd_1312 : Cond.methodLink RX11 127 yX11_leftOf ∈ fT := fM 1312 (by decide +kernel) rfl
theorem wd_1316 : Cond.methodLink RX11 130 yX11_isThrough ∈ fT := fM 1316 (by decide +kernel) rfl
theorem wd_1320 : Cond.methodLink RX11 133 yX11_frees ∈ fT := fM 1320 (by decide +kernel) rfl
theorem wd_1324 : Cond.methodLink RX11 136 yX11_shuts ∈ fT := fM 1324 (by decide +kernel) rfl
theorem wd_1328 : Cond.methodLink RX11 139 yX11_asksAll ∈ fT := fM 1328 (by decide +kernel) rfl
theorem wd_1332 : Cond.methodLink RX11 112 yX11_asks ∈ fT := fM 1332 (by decide +kernel) rfl
theorem wd_1336 : Cond.methodLink RX11 100 yX11_shutMany ∈ fT := fM 1336 (by decide +kernel) rfl
theorem wd_1340 : Cond.methodLink RX11 94 yX11_isShut ∈ fT := fM 1340 (by decide +kernel) rfl
theorem wd_1344 : Cond.methodLink RX11 106 yX11_isBare ∈ fT := fM 1344 (by decide +kernel) rfl
theorem wd_1348 : Cond.methodLink RX11 109 yX11_byAge ∈ fT := fM 1348 (by decide +kernel) rfl
theorem wd_1352 : Cond.methodLink RX11 97 yX11_youngerMany ∈ fT := fM 1352 (by decide +kernel) rfl
theorem wd_1356 : Cond.methodLink RX11 146 yX11_takes ∈ fT := fM 1356 (by decide +kernel) rfl
theorem wd_1360 : Cond.methodLink RL 98 yX11_put ∈ fT := fM 1360 (by decide +kernel) rfl
theorem wd_1364 : Cond.methodLink RL 102 yX11_drop ∈ fT := fM 1364 (by decide +kernel) rfl
theorem wd_1368 : Cond.methodLink RL 106 yX11_steps ∈ fT := fM 1368 (by decide +kernel) rfl
theorem wd_1372 : Cond.methodLink RL 110 yX11_budget ∈ fT := fM 1372 (by decide +kernel) rfl
theorem wd_1376 : Cond.methodLink RL 114 yX11_stride ∈ fT := fM 1376 (by decide +kernel) rfl
theorem wd_1380 : Cond.methodLink RL 118 yX11_find ∈ fT := fM 1380 (by decide +kernel) rfl
theorem wd_1384 : Cond.methodLink RX11 164 yX11_laysKeys ∈ fT := fM 1384 (by decide +kernel) rfl
theorem wd_1388 : Cond.methodLink RX11 161 yX11_laysRow ∈ fT := fM 1388 (by decide +kernel) rfl
theorem wd_1392 : Cond.methodLink RL 143 yX11_next ∈ fT := fM 1392 (by decide +kernel) rfl
theorem wd_1396 : Cond.methodLink RX11 167 yX11_right ∈ fT := fM 1396 (by decide +kernel) rfl
theorem wd_1400 : Cond.methodLink RL 146 yX11_nth ∈ fT := fM 1400 (by decide +kernel) rfl
theorem wd_1404 : Cond.methodLink RL 153 yX11_many ∈ fT := fM 1404 (by decide +kernel) rfl
theorem wd_1408 : Cond.methodLink RL 156 yX11_trace ∈ fT := fM 1408 (by decide +kernel) rfl
theorem wd_1412 : Cond.methodLink RX11 171 yX11_levelOf ∈ fT := fM 1412 (by decide +kernel) rfl
theorem wd_1415 : Cond.methodLink RL 149 yX11_waste ∈ fT := fM 1415 (by decide +kernel) rfl
theorem wd_1419 : Cond.methodLink RX11 174 yX11_thereMany ∈ fT := fM 1419 (by decide +kernel) rfl
theorem wd_1423 : Cond.methodLink RX11 177 yX11_allThings ∈ fT := fM 1423 (by decide +kernel) rfl
theorem wd_1427 : Cond.methodLink RL 124 yX11_looks ∈ fT := fM 1427 (by decide +kernel) rfl
theorem wd_1431 : Cond.methodLink RX11 229 yX11_laysEntries ∈ fT := fM 1431 (by decide +kernel) rfl
theorem wd_1435 : Cond.methodLink RX11 192 yX11_laysThings ∈ fT := fM 1435 (by decide +kernel) rfl
theorem wd_1439 : Cond.methodLink RX11 184 yX11_puts ∈ fT := fM 1439 (by decide +kernel) rfl
theorem wd_1443 : Cond.methodLink RX11 180 yX11_isAhead ∈ fT := fM 1443 (by decide +kernel) rfl
theorem wd_1447 : Cond.methodLink RX11 195 yX11_leadOf ∈ fT := fM 1447 (by decide +kernel) rfl
theorem wd_1451 : Cond.methodLink RX11 198 yX11_laysMarks ∈ fT := fM 1451 (by decide +kernel) rfl
theorem wd_1455 : Cond.methodLink RX11 233 yX11_looksFor ∈ fT := fM 1455 (by decide +kernel) rfl
theorem wd_1459 : Cond.methodLink RX11 226 yX11_goesInto ∈ fT := fM 1459 (by decide +kernel) rfl
theorem wd_1463 : Cond.methodLink RX11 214 yX11_bounds ∈ fT := fM 1463 (by decide +kernel) rfl
theorem wd_1467 : Cond.methodLink RX11 208 yX11_isMark ∈ fT := fM 1467 (by decide +kernel) rfl
theorem wd_1471 : Cond.methodLink RX11 217 yX11_fallsIn ∈ fT := fM 1471 (by decide +kernel) rfl
theorem wd_1475 : Cond.methodLink RX11 220 yX11_isFoundAt ∈ fT := fM 1475 (by decide +kernel) rfl
theorem wd_1479 : Cond.methodLink RL 139 yX11_route ∈ fT := fM 1479 (by decide +kernel) rfl
theorem wd_1483 : Cond.methodLink RL 132 yX11_falls ∈ fT := fM 1483 (by decide +kernel) rfl
theorem wd_1487 : Cond.methodLink RX11 240 yX11_isShutRow ∈ fT := fM 1487 (by decide +kernel) rfl
theorem wd_1491 : Cond.methodLink RX11 236 yX11_isRow ∈ fT := fM 1491 (by decide +kernel) rfl
theorem wd_1494 : Cond.methodLink RX11 79 yX11_isLevel ∈ fT := fM 1494 (by decide +kernel) rfl
theorem wd_1497 : Cond.methodLink RX11 243 yX11_comesTo ∈ fT := fM 1497 (by decide +kernel) rfl
theorem wd_1501 : Cond.methodLink RL 136 yX11_bounds_ ∈ fT := fM 1501 (by decide +kernel) rfl
theorem wd_1505 : Cond.methodLink RL 159 yX11_level ∈ fT := fM 1505 (by decide +kernel) rfl
theorem wd_1509 : Cond.methodLink RX11 246 yX11_thingsIn ∈ fT := fM 1509 (by decide +kernel) rfl
theorem wd_1513 : Cond.methodLink RX11 249 yX11_marksIn ∈ fT := fM 1513 (by decide +kernel) rfl
theorem wd_1517 : Cond.methodLink RL 162 yX11_row ∈ fT := fM 1517 (by decide +kernel) rfl
theorem wd_1521 : Cond.methodLink RX11 252 yX11_signsIn ∈ fT := fM 1521 (by decide +kernel) rfl
theorem wd_1525 : Cond.methodLink RX11 255 yX11_shutAhead ∈ fT := fM 1525 (by decide +kernel) rfl
theorem wd_1529 : Cond.methodLink RL 166 yX11_thing ∈ fT := fM 1529 (by decide +kernel) rfl
theorem wd_1533 : Cond.methodLink RL 169 yX11_entry ∈ fT := fM 1533 (by decide +kernel) rfl
theorem wd_1537 : Cond.methodLink RL 172 yX11_count ∈ fT := fM 1537 (by decide +kernel) rfl
theorem wd_1541 : Cond.methodLink RX11 258 yX11_allShut ∈ fT := fM 1541 (by decide +kernel) rfl
theorem wd_1545 : Cond.methodLink RX11 261 yX11_deepest ∈ fT := fM 1545 (by decide +kernel) rfl
theorem wd_1549 : Cond.methodLink RX11 264 yX11_mergingMany ∈ fT := fM 1549 (by decide +kernel) rfl
theorem wd_1553 : Cond.methodLink RX11 267 yX11_mostLooks ∈ fT := fM 1553 (by decide +kernel) rfl
theorem wd_1557 : Cond.methodLink RL 175 yX11_toll ∈ fT := fM 1557 (by decide +kernel) rfl
theorem wd_1561 : Cond.methodLink RL 178 yX11_ahead ∈ fT := fM 1561 (by decide +kernel) rfl
theorem wd_1565 : Cond.methodLink RX11 271 yX11_goesAside ∈ fT := fM 1565 (by decide +kernel) rfl
theorem wd_1569 : Cond.methodLink RX11 274 yX11_actsAhead ∈ fT := fM 1569 (by decide +kernel) rfl
theorem wd_1573 : Cond.methodLink RX11 277 yX11_comesBack ∈ fT := fM 1573 (by decide +kernel) rfl
theorem wd_1577 : Cond.methodLink RL 181 yX11_calm ∈ fT := fM 1577 (by decide +kernel) rfl
theorem wd_1581 : Cond.methodLink RX11 280 yX11_isCalm ∈ fT := fM 1581 (by decide +kernel) rfl
theorem wd_1585 : Cond.methodLink RL 184 yX11_due ∈ fT := fM 1585 (by decide +kernel) rfl
theorem wd_1589 : Cond.methodLink RL 188 yX11_pack ∈ fT := fM 1589 (by decide +kernel) rfl
theorem wd_1593 : Cond.methodLink RX11 283 yX11_freesAll ∈ fT := fM 1593 (by decide +kernel) rfl
theorem wd_1597 : Cond.methodLink RL 192 yX11_view ∈ fT := fM 1597 (by decide +kernel) rfl
theorem wd_1601 : Cond.methodLink RX11 286 yX11_isView ∈ fT := fM 1601 (by decide +kernel) rfl
theorem wd_1605 : Cond.methodLink RX11 289 yX11_viewAt ∈ fT := fM 1605 (by decide +kernel) rfl
theorem wd_1608 : Cond.methodLink RX11 295 yX11_keptMany ∈ fT := fM 1608 (by decide +kernel) rfl
theorem wd_1612 : Cond.methodLink RX11 292 yX11_isKept ∈ fT := fM 1612 (by decide +kernel) rfl
theorem wd_1616 : Cond.methodLink RL 196 yX11_leave ∈ fT := fM 1616 (by decide +kernel) rfl
theorem wd_1620 : Cond.methodLink RX11 298 yX11_isTakenView ∈ fT := fM 1620 (by decide +kernel) rfl
theorem wd_1624 : Cond.methodLink RL 199 yX11_seen ∈ fT := fM 1624 (by decide +kernel) rfl
theorem wd_1628 : Cond.methodLink RX11 304 yX11_laysSeen ∈ fT := fM 1628 (by decide +kernel) rfl
theorem wd_1632 : Cond.methodLink RX11 301 yX11_becomes ∈ fT := fM 1632 (by decide +kernel) rfl
theorem wd_1636 : Cond.methodLink RL 202 yX11_against ∈ fT := fM 1636 (by decide +kernel) rfl
theorem wd_1640 : Cond.methodLink RX11 307 yX11_shutYet ∈ fT := fM 1640 (by decide +kernel) rfl
theorem wd_1644 : Cond.methodLink RL 205 yX11_between ∈ fT := fM 1644 (by decide +kernel) rfl
theorem wd_1648 : Cond.methodLink RL 209 yX11_restore ∈ fT := fM 1648 (by decide +kernel) rfl
theorem wd_mill : Cond.constant RX0 71 (Int32.ofInt 1000000) ∈ fT := fM 485 (by decide +kernel) rfl
theorem th1 : fThr "java/util/NoSuchElementException" 155 159 13 prog_23_method_4_code := ⟨by decide +kernel, fM 711 (by decide +kernel) rfl, fM 105 (by decide +kernel) rfl, by decide +kernel, by decide +kernel, by decide +kernel, by decide +kernel, by decide +kernel, by decide +kernel, by decide +kernel⟩
theorem th2 : fThr "java/lang/IllegalArgumentException" 425 429 7 prog_16_method_2_code := ⟨by decide +kernel, fM 1081 (by decide +kernel) rfl, fM 107 (by decide +kernel) rfl, by decide +kernel, by decide +kernel, by decide +kernel, by decide +kernel, by decide +kernel, by decide +kernel, by decide +kernel⟩
end WRD
