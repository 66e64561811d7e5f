section LAWH
def mL_looks : fMt := (yL_looks, cL_looks, 5, some .int, { frames := 8, cells := 1, slots := 6, locals := 320 })
theorem miL_looks : Cond.codeWith mL_looks.1 mL_looks.2.1 mL_looks.2.2.1 mL_looks.2.2.2.1 (fTb mL_looks.1.name) ∈ fT ∧ Cond.initialized mL_looks.1.cls ∈ fT ∧ (mL_looks.1.cls ≠ "java/lang/invoke/MethodHandle" ∧ mL_looks.1.cls ≠ "java/lang/invoke/VarHandle") ∧ (parseMethodDescriptor mL_looks.1.desc).map (fun d => d.parameters.length) = some 4 ∧ Cond.static mL_looks.1 ∈ fT := ⟨fM 702 (by decide +kernel) rfl, fM 88 (by decide +kernel) rfl, ⟨by decide +kernel, by decide +kernel⟩, by decide +kernel, fM 701 (by decide +kernel) rfl⟩
def f_L_looks (a1 : Int) (a2 : Int) (M : fMem) : Option (Int × fMem) := ((f_X10_looks a1 a2 M).bind fun (r : Int × Int × fMem) => (if r.1 = 0 then some (0, mset r.2.2 439 0 r.2.1) else (if r.1 = 1 then some (1, r.2.2) else none)))
set_option maxRecDepth 100000 in
set_option maxHeartbeats 4000000 in
theorem s_L_looks {G : fG} (hg : gbt G = true) {a1 : Int} (ga1 : rg a1) {a2 : Int} (ga2 : 0 ≤ a2 ∧ a2 ≤ 1) {M : fMem} {q : Int × fMem} (h : f_L_looks a1 a2 M = some q) : fSpH G mL_looks [rv G 0, iv a1, iv a2, rv G 439] M (rP q.2 q.1) := by
  refine fSpH_of (by decide +kernel) rfl (by decide +kernel) (fC1 rfl (fC1 rfl (fC1 rfl (fC1 rfl fC0)))) (Nat.le_of_ble_eq_true rfl) ?_
  show fW G mL_looks (fEm G mL_looks (rP q.2 q.1) fNo) 0 0 0 [some (rv G 0), some (iv a1), some (iv a2), some (rv G 439), none] [] M
  rw [f_L_looks] at h
  refine fW_aload_n 1 dL_looks_0 rfl rfl ?_
  refine fW_iconst 2 dL_looks_1 rfl ?_
  refine fW_aload_n 3 dL_looks_2 rfl rfl ?_
  refine fW_iload_n 4 dL_looks_3 rfl rfl ?_
  refine fW_iload_n 5 dL_looks_4 rfl rfl ?_
  obtain ⟨r, e1, h⟩ := fBd h
  refine fW_invC rfl (by decide +kernel) (fI_V (as := [iv a1, iv a2]) (rest := [iv 0, rv G 439]) miX10_looks hg clX10 rfl tc_0 wd_704 (fRoom_of rfl) rfl (Nat.le_of_ble_eq_true rfl) dL_looks_5) (s_X10_looks hg ga1 ga2 e1) rfl (fun En N hx => ?_) (fun v N hq => ?_)
  · obtain ⟨x1, rfl, rfl⟩ := hx
    replace h := fFf h x1
    by_cases y0 : r.1 = 1
    · replace h := fTt h y0
      refine ⟨13, by rw [y0]; exact ⟨[], ⟨0, 10, 13, 13⟩, [], by decide +kernel, (fun z hz => absurd hz List.not_mem_nil), by decide, by decide, wc_703, by decide +kernel, rfl⟩, fun q9 => ?_⟩
      refine fW_astore 15 (ls' := [some (rv G 0), some (iv a1), some (iv a2), some (rv G 439), some (.ref q9)]) dL_looks_13 rfl rfl (by decide) ?_
      refine fW_iconst 16 dL_looks_15 rfl ?_
      exact fW_iret rfl (by decide) (by decide) dL_looks_16 (rI_i h (by decide))
    replace h := fFf h y0
    exact absurd h (by simp)
  · obtain ⟨x1, rfl, rfl, x4⟩ := hq
    replace h := fTt h x1
    refine fW_i2l 9 x4 dL_looks_8 rfl ?_
    refine fW_last 10 hg tc_439 (by decide) x4 dL_looks_9 rfl ?_
    refine fW_goto 17 dL_looks_10 rfl ?_
    refine fW_iconst 18 dL_looks_17 rfl ?_
    exact fW_iret rfl (by decide) (by decide) dL_looks_18 (rI_i h (by decide))
def mL_falls : fMt := (yL_falls, cL_falls, 6, some .int, { frames := 10, cells := 4, slots := 24, locals := 400 })
theorem miL_falls : Cond.codeWith mL_falls.1 mL_falls.2.1 mL_falls.2.2.1 mL_falls.2.2.2.1 (fTb mL_falls.1.name) ∈ fT ∧ Cond.initialized mL_falls.1.cls ∈ fT ∧ (mL_falls.1.cls ≠ "java/lang/invoke/MethodHandle" ∧ mL_falls.1.cls ≠ "java/lang/invoke/VarHandle") ∧ (parseMethodDescriptor mL_falls.1.desc).map (fun d => d.parameters.length) = some 5 ∧ Cond.static mL_falls.1 ∈ fT := ⟨fM 872 (by decide +kernel) rfl, fM 88 (by decide +kernel) rfl, ⟨by decide +kernel, by decide +kernel⟩, by decide +kernel, fM 871 (by decide +kernel) rfl⟩
def f_L_falls (a1 : Int) (a2 : Int) (a3 : Int) (M : fMem) : Option (Int × fMem) := ((f_X10_falls a1 a2 a3 M).bind fun (r : Int × Int × fMem) => (if r.1 = 0 then some (0, mset r.2.2 439 0 r.2.1) else (if r.1 = 1 then some (1, r.2.2) else none)))
set_option maxRecDepth 100000 in
set_option maxHeartbeats 4000000 in
theorem s_L_falls {G : fG} (hg : gbt G = true) {a1 : Int} (ga1 : rg a1) {a2 : Int} (ga2 : rg a2) {a3 : Int} (ga3 : rg a3) {M : fMem} {q : Int × fMem} (h : f_L_falls a1 a2 a3 M = some q) : fSpH G mL_falls [rv G 0, iv a1, iv a2, iv a3, rv G 439] M (rP q.2 q.1) := by
  refine fSpH_of (by decide +kernel) rfl (by decide +kernel) (fC1 rfl (fC1 rfl (fC1 rfl (fC1 rfl (fC1 rfl fC0))))) (Nat.le_of_ble_eq_true rfl) ?_
  show fW G mL_falls (fEm G mL_falls (rP q.2 q.1) fNo) 0 0 0 [some (rv G 0), some (iv a1), some (iv a2), some (iv a3), some (rv G 439), none] [] M
  rw [f_L_falls] at h
  refine fW_aload 2 dL_falls_0 rfl rfl ?_
  refine fW_iconst 3 dL_falls_2 rfl ?_
  refine fW_aload_n 4 dL_falls_3 rfl rfl ?_
  refine fW_iload_n 5 dL_falls_4 rfl rfl ?_
  refine fW_iload_n 6 dL_falls_5 rfl rfl ?_
  refine fW_iload_n 7 dL_falls_6 rfl rfl ?_
  obtain ⟨r, e1, h⟩ := fBd h
  refine fW_invC rfl (by decide +kernel) (fI_V (as := [iv a1, iv a2, iv a3]) (rest := [iv 0, rv G 439]) miX10_falls hg clX10 rfl tc_0 wd_873 (fRoom_of rfl) rfl (Nat.le_of_ble_eq_true rfl) dL_falls_7) (s_X10_falls hg ga1 ga2 ga3 e1) rfl (fun En N hx => ?_) (fun v N hq => ?_)
  · obtain ⟨x1, rfl, rfl⟩ := hx
    replace h := fFf h x1
    by_cases y0 : r.1 = 1
    · replace h := fTt h y0
      refine ⟨15, by rw [y0]; exact ⟨[], ⟨0, 12, 15, 13⟩, [], by decide +kernel, (fun z hz => absurd hz List.not_mem_nil), by decide, by decide, wc_703, by decide +kernel, rfl⟩, fun q9 => ?_⟩
      refine fW_astore 17 (ls' := [some (rv G 0), some (iv a1), some (iv a2), some (iv a3), some (rv G 439), some (.ref q9)]) dL_falls_15 rfl rfl (by decide) ?_
      refine fW_iconst 18 dL_falls_17 rfl ?_
      exact fW_iret rfl (by decide) (by decide) dL_falls_18 (rI_i h (by decide))
    replace h := fFf h y0
    exact absurd h (by simp)
  · obtain ⟨x1, rfl, rfl, x4⟩ := hq
    replace h := fTt h x1
    refine fW_i2l 11 x4 dL_falls_10 rfl ?_
    refine fW_last 12 hg tc_439 (by decide) x4 dL_falls_11 rfl ?_
    refine fW_goto 19 dL_falls_12 rfl ?_
    refine fW_iconst 20 dL_falls_19 rfl ?_
    exact fW_iret rfl (by decide) (by decide) dL_falls_20 (rI_i h (by decide))
def mL_bounds : fMt := (yL_bounds, cL_bounds, 7, some .int, { frames := 10, cells := 4, slots := 24, locals := 400 })
theorem miL_bounds : Cond.codeWith mL_bounds.1 mL_bounds.2.1 mL_bounds.2.2.1 mL_bounds.2.2.2.1 (fTb mL_bounds.1.name) ∈ fT ∧ Cond.initialized mL_bounds.1.cls ∈ fT ∧ (mL_bounds.1.cls ≠ "java/lang/invoke/MethodHandle" ∧ mL_bounds.1.cls ≠ "java/lang/invoke/VarHandle") ∧ (parseMethodDescriptor mL_bounds.1.desc).map (fun d => d.parameters.length) = some 6 ∧ Cond.static mL_bounds.1 ∈ fT := ⟨fM 898 (by decide +kernel) rfl, fM 88 (by decide +kernel) rfl, ⟨by decide +kernel, by decide +kernel⟩, by decide +kernel, fM 897 (by decide +kernel) rfl⟩
def f_L_bounds (a1 : Int) (a2 : Int) (a3 : Int) (a4 : Int) (M : fMem) : Option (Int × fMem) := ((f_X10_bounds a1 a2 a3 a4 M).bind fun (r : Int × Int × fMem) => (if r.1 = 0 then some (0, mset r.2.2 439 0 r.2.1) else (if r.1 = 1 then some (1, r.2.2) else none)))
set_option maxRecDepth 100000 in
set_option maxHeartbeats 4000000 in
theorem s_L_bounds {G : fG} (hg : gbt G = true) {a1 : Int} (ga1 : rg a1) {a2 : Int} (ga2 : rg a2) {a3 : Int} (ga3 : rg a3) {a4 : Int} (ga4 : 0 ≤ a4 ∧ a4 ≤ 1) {M : fMem} {q : Int × fMem} (h : f_L_bounds a1 a2 a3 a4 M = some q) : fSpH G mL_bounds [rv G 0, iv a1, iv a2, iv a3, iv a4, rv G 439] M (rP q.2 q.1) := by
  refine fSpH_of (by decide +kernel) rfl (by decide +kernel) (fC1 rfl (fC1 rfl (fC1 rfl (fC1 rfl (fC1 rfl (fC1 rfl fC0)))))) (Nat.le_of_ble_eq_true rfl) ?_
  show fW G mL_bounds (fEm G mL_bounds (rP q.2 q.1) fNo) 0 0 0 [some (rv G 0), some (iv a1), some (iv a2), some (iv a3), some (iv a4), some (rv G 439), none] [] M
  rw [f_L_bounds] at h
  refine fW_aload 2 dL_bounds_0 rfl rfl ?_
  refine fW_iconst 3 dL_bounds_2 rfl ?_
  refine fW_aload_n 4 dL_bounds_3 rfl rfl ?_
  refine fW_iload_n 5 dL_bounds_4 rfl rfl ?_
  refine fW_iload_n 6 dL_bounds_5 rfl rfl ?_
  refine fW_iload_n 7 dL_bounds_6 rfl rfl ?_
  refine fW_iload 9 dL_bounds_7 rfl rfl ?_
  obtain ⟨r, e1, h⟩ := fBd h
  refine fW_invC rfl (by decide +kernel) (fI_V (as := [iv a1, iv a2, iv a3, iv a4]) (rest := [iv 0, rv G 439]) miX10_bounds hg clX10 rfl tc_0 wd_899 (fRoom_of rfl) rfl (Nat.le_of_ble_eq_true rfl) dL_bounds_9) (s_X10_bounds hg ga1 ga2 ga3 ga4 e1) rfl (fun En N hx => ?_) (fun v N hq => ?_)
  · obtain ⟨x1, rfl, rfl⟩ := hx
    replace h := fFf h x1
    by_cases y0 : r.1 = 1
    · replace h := fTt h y0
      refine ⟨17, by rw [y0]; exact ⟨[], ⟨0, 14, 17, 13⟩, [], by decide +kernel, (fun z hz => absurd hz List.not_mem_nil), by decide, by decide, wc_703, by decide +kernel, rfl⟩, fun q9 => ?_⟩
      refine fW_astore 19 (ls' := [some (rv G 0), some (iv a1), some (iv a2), some (iv a3), some (iv a4), some (rv G 439), some (.ref q9)]) dL_bounds_17 rfl rfl (by decide) ?_
      refine fW_iconst 20 dL_bounds_19 rfl ?_
      exact fW_iret rfl (by decide) (by decide) dL_bounds_20 (rI_i h (by decide))
    replace h := fFf h y0
    exact absurd h (by simp)
  · obtain ⟨x1, rfl, rfl, x4⟩ := hq
    replace h := fTt h x1
    refine fW_i2l 13 x4 dL_bounds_12 rfl ?_
    refine fW_last 14 hg tc_439 (by decide) x4 dL_bounds_13 rfl ?_
    refine fW_goto 21 dL_bounds_14 rfl ?_
    refine fW_iconst 22 dL_bounds_21 rfl ?_
    exact fW_iret rfl (by decide) (by decide) dL_bounds_22 (rI_i h (by decide))
def mL_route : fMt := (yL_route, cL_route, 6, some .int, { frames := 8, cells := 3, slots := 18, locals := 320 })
theorem miL_route : Cond.codeWith mL_route.1 mL_route.2.1 mL_route.2.2.1 mL_route.2.2.2.1 (fTb mL_route.1.name) ∈ fT ∧ Cond.initialized mL_route.1.cls ∈ fT ∧ (mL_route.1.cls ≠ "java/lang/invoke/MethodHandle" ∧ mL_route.1.cls ≠ "java/lang/invoke/VarHandle") ∧ (parseMethodDescriptor mL_route.1.desc).map (fun d => d.parameters.length) = some 5 ∧ Cond.static mL_route.1 ∈ fT := ⟨fM 905 (by decide +kernel) rfl, fM 88 (by decide +kernel) rfl, ⟨by decide +kernel, by decide +kernel⟩, by decide +kernel, fM 904 (by decide +kernel) rfl⟩
def f_L_route (a1 : Int) (a2 : Int) (a3 : Int) (M : fMem) : Option (Int × fMem) := ((f_X10_route a1 a2 a3 M).bind fun (r : Int × Int × fMem) => (if r.1 = 0 then some (0, mset r.2.2 439 0 r.2.1) else (if r.1 = 1 then some (1, r.2.2) else none)))
set_option maxRecDepth 100000 in
set_option maxHeartbeats 4000000 in
theorem s_L_route {G : fG} (hg : gbt G = true) {a1 : Int} (ga1 : rg a1) {a2 : Int} (ga2 : rg a2) {a3 : Int} (ga3 : rg a3) {M : fMem} {q : Int × fMem} (h : f_L_route a1 a2 a3 M = some q) : fSpH G mL_route [rv G 0, iv a1, iv a2, iv a3, rv G 439] M (rP q.2 q.1) := by
  refine fSpH_of (by decide +kernel) rfl (by decide +kernel) (fC1 rfl (fC1 rfl (fC1 rfl (fC1 rfl (fC1 rfl fC0))))) (Nat.le_of_ble_eq_true rfl) ?_
  show fW G mL_route (fEm G mL_route (rP q.2 q.1) fNo) 0 0 0 [some (rv G 0), some (iv a1), some (iv a2), some (iv a3), some (rv G 439), none] [] M
  rw [f_L_route] at h
  refine fW_aload 2 dL_route_0 rfl rfl ?_
  refine fW_iconst 3 dL_route_2 rfl ?_
  refine fW_aload_n 4 dL_route_3 rfl rfl ?_
  refine fW_iload_n 5 dL_route_4 rfl rfl ?_
  refine fW_iload_n 6 dL_route_5 rfl rfl ?_
  refine fW_iload_n 7 dL_route_6 rfl rfl ?_
  obtain ⟨r, e1, h⟩ := fBd h
  refine fW_invC rfl (by decide +kernel) (fI_V (as := [iv a1, iv a2, iv a3]) (rest := [iv 0, rv G 439]) miX10_route hg clX10 rfl tc_0 wd_906 (fRoom_of rfl) rfl (Nat.le_of_ble_eq_true rfl) dL_route_7) (s_X10_route hg ga1 ga2 ga3 e1) rfl (fun En N hx => ?_) (fun v N hq => ?_)
  · obtain ⟨x1, rfl, rfl⟩ := hx
    replace h := fFf h x1
    by_cases y0 : r.1 = 1
    · replace h := fTt h y0
      refine ⟨15, by rw [y0]; exact ⟨[], ⟨0, 12, 15, 13⟩, [], by decide +kernel, (fun z hz => absurd hz List.not_mem_nil), by decide, by decide, wc_703, by decide +kernel, rfl⟩, fun q9 => ?_⟩
      refine fW_astore 17 (ls' := [some (rv G 0), some (iv a1), some (iv a2), some (iv a3), some (rv G 439), some (.ref q9)]) dL_route_15 rfl rfl (by decide) ?_
      refine fW_iconst 18 dL_route_17 rfl ?_
      exact fW_iret rfl (by decide) (by decide) dL_route_18 (rI_i h (by decide))
    replace h := fFf h y0
    exact absurd h (by simp)
  · obtain ⟨x1, rfl, rfl, x4⟩ := hq
    replace h := fTt h x1
    refine fW_i2l 11 x4 dL_route_10 rfl ?_
    refine fW_last 12 hg tc_439 (by decide) x4 dL_route_11 rfl ?_
    refine fW_goto 19 dL_route_12 rfl ?_
    refine fW_iconst 20 dL_route_19 rfl ?_
    exact fW_iret rfl (by decide) (by decide) dL_route_20 (rI_i h (by decide))
def mL_next : fMt := (yL_next, cL_next, 4, some .int, { frames := 8, cells := 1, slots := 6, locals := 320 })
theorem miL_next : Cond.codeWith mL_next.1 mL_next.2.1 mL_next.2.2.1 mL_next.2.2.2.1 (fTb mL_next.1.name) ∈ fT ∧ Cond.initialized mL_next.1.cls ∈ fT ∧ (mL_next.1.cls ≠ "java/lang/invoke/MethodHandle" ∧ mL_next.1.cls ≠ "java/lang/invoke/VarHandle") ∧ (parseMethodDescriptor mL_next.1.desc).map (fun d => d.parameters.length) = some 3 ∧ Cond.static mL_next.1 ∈ fT := ⟨fM 918 (by decide +kernel) rfl, fM 88 (by decide +kernel) rfl, ⟨by decide +kernel, by decide +kernel⟩, by decide +kernel, fM 917 (by decide +kernel) rfl⟩
def f_L_next (a1 : Int) (M : fMem) : Option (Int × fMem) := ((f_X10_next a1 M).bind fun (r : Int × Int × fMem) => (if r.1 = 0 then some (0, mset r.2.2 439 0 r.2.1) else (if r.1 = 1 then some (1, r.2.2) else none)))
set_option maxRecDepth 100000 in
set_option maxHeartbeats 4000000 in
theorem s_L_next {G : fG} (hg : gbt G = true) {a1 : Int} (ga1 : rg a1) {M : fMem} {q : Int × fMem} (h : f_L_next a1 M = some q) : fSpH G mL_next [rv G 0, iv a1, rv G 439] M (rP q.2 q.1) := by
  refine fSpH_of (by decide +kernel) rfl (by decide +kernel) (fC1 rfl (fC1 rfl (fC1 rfl fC0))) (Nat.le_of_ble_eq_true rfl) ?_
  show fW G mL_next (fEm G mL_next (rP q.2 q.1) fNo) 0 0 0 [some (rv G 0), some (iv a1), some (rv G 439), none] [] M
  rw [f_L_next] at h
  refine fW_aload_n 1 dL_next_0 rfl rfl ?_
  refine fW_iconst 2 dL_next_1 rfl ?_
  refine fW_aload_n 3 dL_next_2 rfl rfl ?_
  refine fW_iload_n 4 dL_next_3 rfl rfl ?_
  obtain ⟨r, e1, h⟩ := fBd h
  refine fW_invC rfl (by decide +kernel) (fI_V (as := [iv a1]) (rest := [iv 0, rv G 439]) miX10_next hg clX10 rfl tc_0 wd_919 (fRoom_of rfl) rfl (Nat.le_of_ble_eq_true rfl) dL_next_4) (s_X10_next hg ga1 e1) rfl (fun En N hx => ?_) (fun v N hq => ?_)
  · obtain ⟨x1, rfl, rfl⟩ := hx
    replace h := fFf h x1
    by_cases y0 : r.1 = 1
    · replace h := fTt h y0
      refine ⟨12, by rw [y0]; exact ⟨[], ⟨0, 9, 12, 13⟩, [], by decide +kernel, (fun z hz => absurd hz List.not_mem_nil), by decide, by decide, wc_703, by decide +kernel, rfl⟩, fun q9 => ?_⟩
      refine fW_astore_n 13 (ls' := [some (rv G 0), some (iv a1), some (rv G 439), some (.ref q9)]) dL_next_12 rfl rfl rfl (by decide) ?_
      refine fW_iconst 14 dL_next_13 rfl ?_
      exact fW_iret rfl (by decide) (by decide) dL_next_14 (rI_i h (by decide))
    replace h := fFf h y0
    exact absurd h (by simp)
  · obtain ⟨x1, rfl, rfl, x4⟩ := hq
    replace h := fTt h x1
    refine fW_i2l 8 x4 dL_next_7 rfl ?_
    refine fW_last 9 hg tc_439 (by decide) x4 dL_next_8 rfl ?_
    refine fW_goto 15 dL_next_9 rfl ?_
    refine fW_iconst 16 dL_next_15 rfl ?_
    exact fW_iret rfl (by decide) (by decide) dL_next_16 (rI_i h (by decide))
def mL_nth : fMt := (yL_nth, cL_nth, 4, some .int, { frames := 7, cells := 1, slots := 6, locals := 280 })
theorem miL_nth : Cond.codeWith mL_nth.1 mL_nth.2.1 mL_nth.2.2.1 mL_nth.2.2.2.1 (fTb mL_nth.1.name) ∈ fT ∧ Cond.initialized mL_nth.1.cls ∈ fT ∧ (mL_nth.1.cls ≠ "java/lang/invoke/MethodHandle" ∧ mL_nth.1.cls ≠ "java/lang/invoke/VarHandle") ∧ (parseMethodDescriptor mL_nth.1.desc).map (fun d => d.parameters.length) = some 3 ∧ Cond.static mL_nth.1 ∈ fT := ⟨fM 925 (by decide +kernel) rfl, fM 88 (by decide +kernel) rfl, ⟨by decide +kernel, by decide +kernel⟩, by decide +kernel, fM 924 (by decide +kernel) rfl⟩
def f_L_nth (a1 : Int) (M : fMem) : Option (Int × fMem) := ((f_X10_nth a1 M).bind fun (r : Int × Int × fMem) => (if r.1 = 0 then some (0, mset r.2.2 439 0 r.2.1) else (if r.1 = 1 then some (1, r.2.2) else none)))
set_option maxRecDepth 100000 in
set_option maxHeartbeats 4000000 in
theorem s_L_nth {G : fG} (hg : gbt G = true) {a1 : Int} (ga1 : rg a1) {M : fMem} {q : Int × fMem} (h : f_L_nth a1 M = some q) : fSpH G mL_nth [rv G 0, iv a1, rv G 439] M (rP q.2 q.1) := by
  refine fSpH_of (by decide +kernel) rfl (by decide +kernel) (fC1 rfl (fC1 rfl (fC1 rfl fC0))) (Nat.le_of_ble_eq_true rfl) ?_
  show fW G mL_nth (fEm G mL_nth (rP q.2 q.1) fNo) 0 0 0 [some (rv G 0), some (iv a1), some (rv G 439), none] [] M
  rw [f_L_nth] at h
  refine fW_aload_n 1 dL_nth_0 rfl rfl ?_
  refine fW_iconst 2 dL_nth_1 rfl ?_
  refine fW_aload_n 3 dL_nth_2 rfl rfl ?_
  refine fW_iload_n 4 dL_nth_3 rfl rfl ?_
  obtain ⟨r, e1, h⟩ := fBd h
  refine fW_invC rfl (by decide +kernel) (fI_V (as := [iv a1]) (rest := [iv 0, rv G 439]) miX10_nth hg clX10 rfl tc_0 wd_926 (fRoom_of rfl) rfl (Nat.le_of_ble_eq_true rfl) dL_nth_4) (s_X10_nth hg ga1 e1) rfl (fun En N hx => ?_) (fun v N hq => ?_)
  · obtain ⟨x1, rfl, rfl⟩ := hx
    replace h := fFf h x1
    by_cases y0 : r.1 = 1
    · replace h := fTt h y0
      refine ⟨12, by rw [y0]; exact ⟨[], ⟨0, 9, 12, 13⟩, [], by decide +kernel, (fun z hz => absurd hz List.not_mem_nil), by decide, by decide, wc_703, by decide +kernel, rfl⟩, fun q9 => ?_⟩
      refine fW_astore_n 13 (ls' := [some (rv G 0), some (iv a1), some (rv G 439), some (.ref q9)]) dL_nth_12 rfl rfl rfl (by decide) ?_
      refine fW_iconst 14 dL_nth_13 rfl ?_
      exact fW_iret rfl (by decide) (by decide) dL_nth_14 (rI_i h (by decide))
    replace h := fFf h y0
    exact absurd h (by simp)
  · obtain ⟨x1, rfl, rfl, x4⟩ := hq
    replace h := fTt h x1
    refine fW_i2l 8 x4 dL_nth_7 rfl ?_
    refine fW_last 9 hg tc_439 (by decide) x4 dL_nth_8 rfl ?_
    refine fW_goto 15 dL_nth_9 rfl ?_
    refine fW_iconst 16 dL_nth_15 rfl ?_
    exact fW_iret rfl (by decide) (by decide) dL_nth_16 (rI_i h (by decide))
def mL_waste : fMt := (yL_waste, cL_waste, 4, some .int, { frames := 8, cells := 1, slots := 6, locals := 320 })
theorem miL_waste : Cond.codeWith mL_waste.1 mL_waste.2.1 mL_waste.2.2.1 mL_waste.2.2.2.1 (fTb mL_waste.1.name) ∈ fT ∧ Cond.initialized mL_waste.1.cls ∈ fT ∧ (mL_waste.1.cls ≠ "java/lang/invoke/MethodHandle" ∧ mL_waste.1.cls ≠ "java/lang/invoke/VarHandle") ∧ (parseMethodDescriptor mL_waste.1.desc).map (fun d => d.parameters.length) = some 3 ∧ Cond.static mL_waste.1 ∈ fT := ⟨fM 933 (by decide +kernel) rfl, fM 88 (by decide +kernel) rfl, ⟨by decide +kernel, by decide +kernel⟩, by decide +kernel, fM 932 (by decide +kernel) rfl⟩
def f_L_waste (a1 : Int) (M : fMem) : Option (Int × fMem) := ((f_X10_waste a1 M).bind fun (r : Int × Int × fMem) => (if r.1 = 0 then some (0, mset r.2.2 439 0 r.2.1) else (if r.1 = 1 then some (1, r.2.2) else none)))
set_option maxRecDepth 100000 in
set_option maxHeartbeats 4000000 in
theorem s_L_waste {G : fG} (hg : gbt G = true) {a1 : Int} (ga1 : rg a1) {M : fMem} {q : Int × fMem} (h : f_L_waste a1 M = some q) : fSpH G mL_waste [rv G 0, iv a1, rv G 439] M (rP q.2 q.1) := by
  refine fSpH_of (by decide +kernel) rfl (by decide +kernel) (fC1 rfl (fC1 rfl (fC1 rfl fC0))) (Nat.le_of_ble_eq_true rfl) ?_
  show fW G mL_waste (fEm G mL_waste (rP q.2 q.1) fNo) 0 0 0 [some (rv G 0), some (iv a1), some (rv G 439), none] [] M
  rw [f_L_waste] at h
  refine fW_aload_n 1 dL_waste_0 rfl rfl ?_
  refine fW_iconst 2 dL_waste_1 rfl ?_
  refine fW_aload_n 3 dL_waste_2 rfl rfl ?_
  refine fW_iload_n 4 dL_waste_3 rfl rfl ?_
  obtain ⟨r, e1, h⟩ := fBd h
  refine fW_invC rfl (by decide +kernel) (fI_V (as := [iv a1]) (rest := [iv 0, rv G 439]) miX10_waste hg clX10 rfl tc_0 wd_934 (fRoom_of rfl) rfl (Nat.le_of_ble_eq_true rfl) dL_waste_4) (s_X10_waste hg ga1 e1) rfl (fun En N hx => ?_) (fun v N hq => ?_)
  · obtain ⟨x1, rfl, rfl⟩ := hx
    replace h := fFf h x1
    by_cases y0 : r.1 = 1
    · replace h := fTt h y0
      refine ⟨12, by rw [y0]; exact ⟨[], ⟨0, 9, 12, 13⟩, [], by decide +kernel, (fun z hz => absurd hz List.not_mem_nil), by decide, by decide, wc_703, by decide +kernel, rfl⟩, fun q9 => ?_⟩
      refine fW_astore_n 13 (ls' := [some (rv G 0), some (iv a1), some (rv G 439), some (.ref q9)]) dL_waste_12 rfl rfl rfl (by decide) ?_
      refine fW_iconst 14 dL_waste_13 rfl ?_
      exact fW_iret rfl (by decide) (by decide) dL_waste_14 (rI_i h (by decide))
    replace h := fFf h y0
    exact absurd h (by simp)
  · obtain ⟨x1, rfl, rfl, x4⟩ := hq
    replace h := fTt h x1
    refine fW_i2l 8 x4 dL_waste_7 rfl ?_
    refine fW_last 9 hg tc_439 (by decide) x4 dL_waste_8 rfl ?_
    refine fW_goto 15 dL_waste_9 rfl ?_
    refine fW_iconst 16 dL_waste_15 rfl ?_
    exact fW_iret rfl (by decide) (by decide) dL_waste_16 (rI_i h (by decide))
def mL_many : fMt := (yL_many, cL_many, 5, some .int, { frames := 8, cells := 2, slots := 12, locals := 320 })
theorem miL_many : Cond.codeWith mL_many.1 mL_many.2.1 mL_many.2.2.1 mL_many.2.2.2.1 (fTb mL_many.1.name) ∈ fT ∧ Cond.initialized mL_many.1.cls ∈ fT ∧ (mL_many.1.cls ≠ "java/lang/invoke/MethodHandle" ∧ mL_many.1.cls ≠ "java/lang/invoke/VarHandle") ∧ (parseMethodDescriptor mL_many.1.desc).map (fun d => d.parameters.length) = some 4 ∧ Cond.static mL_many.1 ∈ fT := ⟨fM 948 (by decide +kernel) rfl, fM 88 (by decide +kernel) rfl, ⟨by decide +kernel, by decide +kernel⟩, by decide +kernel, fM 947 (by decide +kernel) rfl⟩
def f_L_many (a1 : Int) (a2 : Int) (M : fMem) : Option (Int × fMem) := ((f_X10_many a1 a2 M).bind fun (r : Int × Int × fMem) => (if r.1 = 0 then some (0, mset r.2.2 439 0 r.2.1) else (if r.1 = 1 then some (1, r.2.2) else none)))
set_option maxRecDepth 100000 in
set_option maxHeartbeats 4000000 in
theorem s_L_many {G : fG} (hg : gbt G = true) {a1 : Int} (ga1 : rg a1) {a2 : Int} (ga2 : rg a2) {M : fMem} {q : Int × fMem} (h : f_L_many a1 a2 M = some q) : fSpH G mL_many [rv G 0, iv a1, iv a2, rv G 439] M (rP q.2 q.1) := by
  refine fSpH_of (by decide +kernel) rfl (by decide +kernel) (fC1 rfl (fC1 rfl (fC1 rfl (fC1 rfl fC0)))) (Nat.le_of_ble_eq_true rfl) ?_
  show fW G mL_many (fEm G mL_many (rP q.2 q.1) fNo) 0 0 0 [some (rv G 0), some (iv a1), some (iv a2), some (rv G 439), none] [] M
  rw [f_L_many] at h
  refine fW_aload_n 1 dL_many_0 rfl rfl ?_
  refine fW_iconst 2 dL_many_1 rfl ?_
  refine fW_aload_n 3 dL_many_2 rfl rfl ?_
  refine fW_iload_n 4 dL_many_3 rfl rfl ?_
  refine fW_iload_n 5 dL_many_4 rfl rfl ?_
  obtain ⟨r, e1, h⟩ := fBd h
  refine fW_invC rfl (by decide +kernel) (fI_V (as := [iv a1, iv a2]) (rest := [iv 0, rv G 439]) miX10_many hg clX10 rfl tc_0 wd_949 (fRoom_of rfl) rfl (Nat.le_of_ble_eq_true rfl) dL_many_5) (s_X10_many hg ga1 ga2 e1) rfl (fun En N hx => ?_) (fun v N hq => ?_)
  · obtain ⟨x1, rfl, rfl⟩ := hx
    replace h := fFf h x1
    by_cases y0 : r.1 = 1
    · replace h := fTt h y0
      refine ⟨13, by rw [y0]; exact ⟨[], ⟨0, 10, 13, 13⟩, [], by decide +kernel, (fun z hz => absurd hz List.not_mem_nil), by decide, by decide, wc_703, by decide +kernel, rfl⟩, fun q9 => ?_⟩
      refine fW_astore 15 (ls' := [some (rv G 0), some (iv a1), some (iv a2), some (rv G 439), some (.ref q9)]) dL_many_13 rfl rfl (by decide) ?_
      refine fW_iconst 16 dL_many_15 rfl ?_
      exact fW_iret rfl (by decide) (by decide) dL_many_16 (rI_i h (by decide))
    replace h := fFf h y0
    exact absurd h (by simp)
  · obtain ⟨x1, rfl, rfl, x4⟩ := hq
    replace h := fTt h x1
    refine fW_i2l 9 x4 dL_many_8 rfl ?_
    refine fW_last 10 hg tc_439 (by decide) x4 dL_many_9 rfl ?_
    refine fW_goto 17 dL_many_10 rfl ?_
    refine fW_iconst 18 dL_many_17 rfl ?_
    exact fW_iret rfl (by decide) (by decide) dL_many_18 (rI_i h (by decide))
def mL_trace : fMt := (yL_trace, cL_trace, 5, some .int, { frames := 8, cells := 2, slots := 12, locals := 320 })
theorem miL_trace : Cond.codeWith mL_trace.1 mL_trace.2.1 mL_trace.2.2.1 mL_trace.2.2.2.1 (fTb mL_trace.1.name) ∈ fT ∧ Cond.initialized mL_trace.1.cls ∈ fT ∧ (mL_trace.1.cls ≠ "java/lang/invoke/MethodHandle" ∧ mL_trace.1.cls ≠ "java/lang/invoke/VarHandle") ∧ (parseMethodDescriptor mL_trace.1.desc).map (fun d => d.parameters.length) = some 4 ∧ Cond.static mL_trace.1 ∈ fT := ⟨fM 955 (by decide +kernel) rfl, fM 88 (by decide +kernel) rfl, ⟨by decide +kernel, by decide +kernel⟩, by decide +kernel, fM 954 (by decide +kernel) rfl⟩
def f_L_trace (a1 : Int) (a2 : Int) (M : fMem) : Option (Int × fMem) := ((f_X10_trace a1 a2 M).bind fun (r : Int × Int × fMem) => (if r.1 = 0 then some (0, mset r.2.2 439 0 r.2.1) else (if r.1 = 1 then some (1, r.2.2) else none)))
set_option maxRecDepth 100000 in
set_option maxHeartbeats 4000000 in
theorem s_L_trace {G : fG} (hg : gbt G = true) {a1 : Int} (ga1 : rg a1) {a2 : Int} (ga2 : rg a2) {M : fMem} {q : Int × fMem} (h : f_L_trace a1 a2 M = some q) : fSpH G mL_trace [rv G 0, iv a1, iv a2, rv G 439] M (rP q.2 q.1) := by
  refine fSpH_of (by decide +kernel) rfl (by decide +kernel) (fC1 rfl (fC1 rfl (fC1 rfl (fC1 rfl fC0)))) (Nat.le_of_ble_eq_true rfl) ?_
  show fW G mL_trace (fEm G mL_trace (rP q.2 q.1) fNo) 0 0 0 [some (rv G 0), some (iv a1), some (iv a2), some (rv G 439), none] [] M
  rw [f_L_trace] at h
  refine fW_aload_n 1 dL_trace_0 rfl rfl ?_
  refine fW_iconst 2 dL_trace_1 rfl ?_
  refine fW_aload_n 3 dL_trace_2 rfl rfl ?_
  refine fW_iload_n 4 dL_trace_3 rfl rfl ?_
  refine fW_iload_n 5 dL_trace_4 rfl rfl ?_
  obtain ⟨r, e1, h⟩ := fBd h
  refine fW_invC rfl (by decide +kernel) (fI_V (as := [iv a1, iv a2]) (rest := [iv 0, rv G 439]) miX10_trace hg clX10 rfl tc_0 wd_956 (fRoom_of rfl) rfl (Nat.le_of_ble_eq_true rfl) dL_trace_5) (s_X10_trace hg ga1 ga2 e1) rfl (fun En N hx => ?_) (fun v N hq => ?_)
  · obtain ⟨x1, rfl, rfl⟩ := hx
    replace h := fFf h x1
    by_cases y0 : r.1 = 1
    · replace h := fTt h y0
      refine ⟨13, by rw [y0]; exact ⟨[], ⟨0, 10, 13, 13⟩, [], by decide +kernel, (fun z hz => absurd hz List.not_mem_nil), by decide, by decide, wc_703, by decide +kernel, rfl⟩, fun q9 => ?_⟩
      refine fW_astore 15 (ls' := [some (rv G 0), some (iv a1), some (iv a2), some (rv G 439), some (.ref q9)]) dL_trace_13 rfl rfl (by decide) ?_
      refine fW_iconst 16 dL_trace_15 rfl ?_
      exact fW_iret rfl (by decide) (by decide) dL_trace_16 (rI_i h (by decide))
    replace h := fFf h y0
    exact absurd h (by simp)
  · obtain ⟨x1, rfl, rfl, x4⟩ := hq
    replace h := fTt h x1
    refine fW_i2l 9 x4 dL_trace_8 rfl ?_
    refine fW_last 10 hg tc_439 (by decide) x4 dL_trace_9 rfl ?_
    refine fW_goto 17 dL_trace_10 rfl ?_
    refine fW_iconst 18 dL_trace_17 rfl ?_
    exact fW_iret rfl (by decide) (by decide) dL_trace_18 (rI_i h (by decide))
def mL_level : fMt := (yL_level, cL_level, 5, some .int, { frames := 8, cells := 2, slots := 12, locals := 320 })
theorem miL_level : Cond.codeWith mL_level.1 mL_level.2.1 mL_level.2.2.1 mL_level.2.2.2.1 (fTb mL_level.1.name) ∈ fT ∧ Cond.initialized mL_level.1.cls ∈ fT ∧ (mL_level.1.cls ≠ "java/lang/invoke/MethodHandle" ∧ mL_level.1.cls ≠ "java/lang/invoke/VarHandle") ∧ (parseMethodDescriptor mL_level.1.desc).map (fun d => d.parameters.length) = some 4 ∧ Cond.static mL_level.1 ∈ fT := ⟨fM 967 (by decide +kernel) rfl, fM 88 (by decide +kernel) rfl, ⟨by decide +kernel, by decide +kernel⟩, by decide +kernel, fM 966 (by decide +kernel) rfl⟩
def f_L_level (a1 : Int) (a2 : Int) (M : fMem) : Option (Int × fMem) := ((f_X10_level a1 a2 M).bind fun (r : Int × Int × fMem) => (if r.1 = 0 then some (0, mset r.2.2 439 0 r.2.1) else (if r.1 = 1 then some (1, r.2.2) else none)))
set_option maxRecDepth 100000 in
set_option maxHeartbeats 4000000 in
theorem s_L_level {G : fG} (hg : gbt G = true) {a1 : Int} (ga1 : rg a1) {a2 : Int} (ga2 : rg a2) {M : fMem} {q : Int × fMem} (h : f_L_level a1 a2 M = some q) : fSpH G mL_level [rv G 0, iv a1, iv a2, rv G 439] M (rP q.2 q.1) := by
  refine fSpH_of (by decide +kernel) rfl (by decide +kernel) (fC1 rfl (fC1 rfl (fC1 rfl (fC1 rfl fC0)))) (Nat.le_of_ble_eq_true rfl) ?_
  show fW G mL_level (fEm G mL_level (rP q.2 q.1) fNo) 0 0 0 [some (rv G 0), some (iv a1), some (iv a2), some (rv G 439), none] [] M
  rw [f_L_level] at h
  refine fW_aload_n 1 dL_level_0 rfl rfl ?_
  refine fW_iconst 2 dL_level_1 rfl ?_
  refine fW_aload_n 3 dL_level_2 rfl rfl ?_
  refine fW_iload_n 4 dL_level_3 rfl rfl ?_
  refine fW_iload_n 5 dL_level_4 rfl rfl ?_
  obtain ⟨r, e1, h⟩ := fBd h
  refine fW_invC rfl (by decide +kernel) (fI_V (as := [iv a1, iv a2]) (rest := [iv 0, rv G 439]) miX10_level hg clX10 rfl tc_0 wd_968 (fRoom_of rfl) rfl (Nat.le_of_ble_eq_true rfl) dL_level_5) (s_X10_level hg ga1 ga2 e1) rfl (fun En N hx => ?_) (fun v N hq => ?_)
  · obtain ⟨x1, rfl, rfl⟩ := hx
    replace h := fFf h x1
    by_cases y0 : r.1 = 1
    · replace h := fTt h y0
      refine ⟨13, by rw [y0]; exact ⟨[], ⟨0, 10, 13, 13⟩, [], by decide +kernel, (fun z hz => absurd hz List.not_mem_nil), by decide, by decide, wc_703, by decide +kernel, rfl⟩, fun q9 => ?_⟩
      refine fW_astore 15 (ls' := [some (rv G 0), some (iv a1), some (iv a2), some (rv G 439), some (.ref q9)]) dL_level_13 rfl rfl (by decide) ?_
      refine fW_iconst 16 dL_level_15 rfl ?_
      exact fW_iret rfl (by decide) (by decide) dL_level_16 (rI_i h (by decide))
    replace h := fFf h y0
    exact absurd h (by simp)
  · obtain ⟨x1, rfl, rfl, x4⟩ := hq
    replace h := fTt h x1
    refine fW_i2l 9 x4 dL_level_8 rfl ?_
    refine fW_last 10 hg tc_439 (by decide) x4 dL_level_9 rfl ?_
    refine fW_goto 17 dL_level_10 rfl ?_
    refine fW_iconst 18 dL_level_17 rfl ?_
    exact fW_iret rfl (by decide) (by decide) dL_level_18 (rI_i h (by decide))
def mL_row : fMt := (yL_row, cL_row, 6, some .int, { frames := 9, cells := 3, slots := 18, locals := 360 })
theorem miL_row : Cond.codeWith mL_row.1 mL_row.2.1 mL_row.2.2.1 mL_row.2.2.2.1 (fTb mL_row.1.name) ∈ fT ∧ Cond.initialized mL_row.1.cls ∈ fT ∧ (mL_row.1.cls ≠ "java/lang/invoke/MethodHandle" ∧ mL_row.1.cls ≠ "java/lang/invoke/VarHandle") ∧ (parseMethodDescriptor mL_row.1.desc).map (fun d => d.parameters.length) = some 5 ∧ Cond.static mL_row.1 ∈ fT := ⟨fM 985 (by decide +kernel) rfl, fM 88 (by decide +kernel) rfl, ⟨by decide +kernel, by decide +kernel⟩, by decide +kernel, fM 984 (by decide +kernel) rfl⟩
def f_L_row (a1 : Int) (a2 : Int) (a3 : Int) (M : fMem) : Option (Int × fMem) := ((f_X10_row a1 a2 a3 M).bind fun (r : Int × Int × fMem) => (if r.1 = 0 then some (0, mset r.2.2 439 0 r.2.1) else (if r.1 = 1 then some (1, r.2.2) else none)))
set_option maxRecDepth 100000 in
set_option maxHeartbeats 4000000 in
theorem s_L_row {G : fG} (hg : gbt G = true) {a1 : Int} (ga1 : rg a1) {a2 : Int} (ga2 : rg a2) {a3 : Int} (ga3 : rg a3) {M : fMem} {q : Int × fMem} (h : f_L_row a1 a2 a3 M = some q) : fSpH G mL_row [rv G 0, iv a1, iv a2, iv a3, rv G 439] M (rP q.2 q.1) := by
  refine fSpH_of (by decide +kernel) rfl (by decide +kernel) (fC1 rfl (fC1 rfl (fC1 rfl (fC1 rfl (fC1 rfl fC0))))) (Nat.le_of_ble_eq_true rfl) ?_
  show fW G mL_row (fEm G mL_row (rP q.2 q.1) fNo) 0 0 0 [some (rv G 0), some (iv a1), some (iv a2), some (iv a3), some (rv G 439), none] [] M
  rw [f_L_row] at h
  refine fW_aload 2 dL_row_0 rfl rfl ?_
  refine fW_iconst 3 dL_row_2 rfl ?_
  refine fW_aload_n 4 dL_row_3 rfl rfl ?_
  refine fW_iload_n 5 dL_row_4 rfl rfl ?_
  refine fW_iload_n 6 dL_row_5 rfl rfl ?_
  refine fW_iload_n 7 dL_row_6 rfl rfl ?_
  obtain ⟨r, e1, h⟩ := fBd h
  refine fW_invC rfl (by decide +kernel) (fI_V (as := [iv a1, iv a2, iv a3]) (rest := [iv 0, rv G 439]) miX10_row hg clX10 rfl tc_0 wd_986 (fRoom_of rfl) rfl (Nat.le_of_ble_eq_true rfl) dL_row_7) (s_X10_row hg ga1 ga2 ga3 e1) rfl (fun En N hx => ?_) (fun v N hq => ?_)
  · obtain ⟨x1, rfl, rfl⟩ := hx
    replace h := fFf h x1
    by_cases y0 : r.1 = 1
    · replace h := fTt h y0
      refine ⟨15, by rw [y0]; exact ⟨[], ⟨0, 12, 15, 13⟩, [], by decide +kernel, (fun z hz => absurd hz List.not_mem_nil), by decide, by decide, wc_703, by decide +kernel, rfl⟩, fun q9 => ?_⟩
      refine fW_astore 17 (ls' := [some (rv G 0), some (iv a1), some (iv a2), some (iv a3), some (rv G 439), some (.ref q9)]) dL_row_15 rfl rfl (by decide) ?_
      refine fW_iconst 18 dL_row_17 rfl ?_
      exact fW_iret rfl (by decide) (by decide) dL_row_18 (rI_i h (by decide))
    replace h := fFf h y0
    exact absurd h (by simp)
  · obtain ⟨x1, rfl, rfl, x4⟩ := hq
    replace h := fTt h x1
    refine fW_i2l 11 x4 dL_row_10 rfl ?_
    refine fW_last 12 hg tc_439 (by decide) x4 dL_row_11 rfl ?_
    refine fW_goto 19 dL_row_12 rfl ?_
    refine fW_iconst 20 dL_row_19 rfl ?_
    exact fW_iret rfl (by decide) (by decide) dL_row_20 (rI_i h (by decide))
def mL_thing : fMt := (yL_thing, cL_thing, 7, some .int, { frames := 9, cells := 4, slots := 24, locals := 360 })
theorem miL_thing : Cond.codeWith mL_thing.1 mL_thing.2.1 mL_thing.2.2.1 mL_thing.2.2.2.1 (fTb mL_thing.1.name) ∈ fT ∧ Cond.initialized mL_thing.1.cls ∈ fT ∧ (mL_thing.1.cls ≠ "java/lang/invoke/MethodHandle" ∧ mL_thing.1.cls ≠ "java/lang/invoke/VarHandle") ∧ (parseMethodDescriptor mL_thing.1.desc).map (fun d => d.parameters.length) = some 6 ∧ Cond.static mL_thing.1 ∈ fT := ⟨fM 1000 (by decide +kernel) rfl, fM 88 (by decide +kernel) rfl, ⟨by decide +kernel, by decide +kernel⟩, by decide +kernel, fM 999 (by decide +kernel) rfl⟩
def f_L_thing (a1 : Int) (a2 : Int) (a3 : Int) (a4 : Int) (M : fMem) : Option (Int × fMem) := ((f_X10_thing a1 a2 a3 a4 M).bind fun (r : Int × Int × fMem) => (if r.1 = 0 then some (0, mset r.2.2 439 0 r.2.1) else (if r.1 = 1 then some (1, r.2.2) else none)))
set_option maxRecDepth 100000 in
set_option maxHeartbeats 4000000 in
theorem s_L_thing {G : fG} (hg : gbt G = true) {a1 : Int} (ga1 : rg a1) {a2 : Int} (ga2 : rg a2) {a3 : Int} (ga3 : rg a3) {a4 : Int} (ga4 : rg a4) {M : fMem} {q : Int × fMem} (h : f_L_thing a1 a2 a3 a4 M = some q) : fSpH G mL_thing [rv G 0, iv a1, iv a2, iv a3, iv a4, rv G 439] M (rP q.2 q.1) := by
  refine fSpH_of (by decide +kernel) rfl (by decide +kernel) (fC1 rfl (fC1 rfl (fC1 rfl (fC1 rfl (fC1 rfl (fC1 rfl fC0)))))) (Nat.le_of_ble_eq_true rfl) ?_
  show fW G mL_thing (fEm G mL_thing (rP q.2 q.1) fNo) 0 0 0 [some (rv G 0), some (iv a1), some (iv a2), some (iv a3), some (iv a4), some (rv G 439), none] [] M
  rw [f_L_thing] at h
  refine fW_aload 2 dL_thing_0 rfl rfl ?_
  refine fW_iconst 3 dL_thing_2 rfl ?_
  refine fW_aload_n 4 dL_thing_3 rfl rfl ?_
  refine fW_iload_n 5 dL_thing_4 rfl rfl ?_
  refine fW_iload_n 6 dL_thing_5 rfl rfl ?_
  refine fW_iload_n 7 dL_thing_6 rfl rfl ?_
  refine fW_iload 9 dL_thing_7 rfl rfl ?_
  obtain ⟨r, e1, h⟩ := fBd h
  refine fW_invC rfl (by decide +kernel) (fI_V (as := [iv a1, iv a2, iv a3, iv a4]) (rest := [iv 0, rv G 439]) miX10_thing hg clX10 rfl tc_0 wd_1001 (fRoom_of rfl) rfl (Nat.le_of_ble_eq_true rfl) dL_thing_9) (s_X10_thing hg ga1 ga2 ga3 ga4 e1) rfl (fun En N hx => ?_) (fun v N hq => ?_)
  · obtain ⟨x1, rfl, rfl⟩ := hx
    replace h := fFf h x1
    by_cases y0 : r.1 = 1
    · replace h := fTt h y0
      refine ⟨17, by rw [y0]; exact ⟨[], ⟨0, 14, 17, 13⟩, [], by decide +kernel, (fun z hz => absurd hz List.not_mem_nil), by decide, by decide, wc_703, by decide +kernel, rfl⟩, fun q9 => ?_⟩
      refine fW_astore 19 (ls' := [some (rv G 0), some (iv a1), some (iv a2), some (iv a3), some (iv a4), some (rv G 439), some (.ref q9)]) dL_thing_17 rfl rfl (by decide) ?_
      refine fW_iconst 20 dL_thing_19 rfl ?_
      exact fW_iret rfl (by decide) (by decide) dL_thing_20 (rI_i h (by decide))
    replace h := fFf h y0
    exact absurd h (by simp)
  · obtain ⟨x1, rfl, rfl, x4⟩ := hq
    replace h := fTt h x1
    refine fW_i2l 13 x4 dL_thing_12 rfl ?_
    refine fW_last 14 hg tc_439 (by decide) x4 dL_thing_13 rfl ?_
    refine fW_goto 21 dL_thing_14 rfl ?_
    refine fW_iconst 22 dL_thing_21 rfl ?_
    exact fW_iret rfl (by decide) (by decide) dL_thing_22 (rI_i h (by decide))
def mL_entry : fMt := (yL_entry, cL_entry, 7, some .int, { frames := 10, cells := 5, slots := 30, locals := 400 })
theorem miL_entry : Cond.codeWith mL_entry.1 mL_entry.2.1 mL_entry.2.2.1 mL_entry.2.2.2.1 (fTb mL_entry.1.name) ∈ fT ∧ Cond.initialized mL_entry.1.cls ∈ fT ∧ (mL_entry.1.cls ≠ "java/lang/invoke/MethodHandle" ∧ mL_entry.1.cls ≠ "java/lang/invoke/VarHandle") ∧ (parseMethodDescriptor mL_entry.1.desc).map (fun d => d.parameters.length) = some 6 ∧ Cond.static mL_entry.1 ∈ fT := ⟨fM 1010 (by decide +kernel) rfl, fM 88 (by decide +kernel) rfl, ⟨by decide +kernel, by decide +kernel⟩, by decide +kernel, fM 1009 (by decide +kernel) rfl⟩
def f_L_entry (a1 : Int) (a2 : Int) (a3 : Int) (a4 : Int) (M : fMem) : Option (Int × fMem) := ((f_X10_entry a1 a2 a3 a4 M).bind fun (r : Int × Int × fMem) => (if r.1 = 0 then some (0, mset r.2.2 439 0 r.2.1) else (if r.1 = 1 then some (1, r.2.2) else none)))
set_option maxRecDepth 100000 in
set_option maxHeartbeats 4000000 in
theorem s_L_entry {G : fG} (hg : gbt G = true) {a1 : Int} (ga1 : rg a1) {a2 : Int} (ga2 : rg a2) {a3 : Int} (ga3 : rg a3) {a4 : Int} (ga4 : rg a4) {M : fMem} {q : Int × fMem} (h : f_L_entry a1 a2 a3 a4 M = some q) : fSpH G mL_entry [rv G 0, iv a1, iv a2, iv a3, iv a4, rv G 439] M (rP q.2 q.1) := by
  refine fSpH_of (by decide +kernel) rfl (by decide +kernel) (fC1 rfl (fC1 rfl (fC1 rfl (fC1 rfl (fC1 rfl (fC1 rfl fC0)))))) (Nat.le_of_ble_eq_true rfl) ?_
  show fW G mL_entry (fEm G mL_entry (rP q.2 q.1) fNo) 0 0 0 [some (rv G 0), some (iv a1), some (iv a2), some (iv a3), some (iv a4), some (rv G 439), none] [] M
  rw [f_L_entry] at h
  refine fW_aload 2 dL_entry_0 rfl rfl ?_
  refine fW_iconst 3 dL_entry_2 rfl ?_
  refine fW_aload_n 4 dL_entry_3 rfl rfl ?_
  refine fW_iload_n 5 dL_entry_4 rfl rfl ?_
  refine fW_iload_n 6 dL_entry_5 rfl rfl ?_
  refine fW_iload_n 7 dL_entry_6 rfl rfl ?_
  refine fW_iload 9 dL_entry_7 rfl rfl ?_
  obtain ⟨r, e1, h⟩ := fBd h
  refine fW_invC rfl (by decide +kernel) (fI_V (as := [iv a1, iv a2, iv a3, iv a4]) (rest := [iv 0, rv G 439]) miX10_entry hg clX10 rfl tc_0 wd_1011 (fRoom_of rfl) rfl (Nat.le_of_ble_eq_true rfl) dL_entry_9) (s_X10_entry hg ga1 ga2 ga3 ga4 e1) rfl (fun En N hx => ?_) (fun v N hq => ?_)
  · obtain ⟨x1, rfl, rfl⟩ := hx
    replace h := fFf h x1
    by_cases y0 : r.1 = 1
    · replace h := fTt h y0
      refine ⟨17, by rw [y0]; exact ⟨[], ⟨0, 14, 17, 13⟩, [], by decide +kernel, (fun z hz => absurd hz List.not_mem_nil), by decide, by decide, wc_703, by decide +kernel, rfl⟩, fun q9 => ?_⟩
      refine fW_astore 19 (ls' := [some (rv G 0), some (iv a1), some (iv a2), some (iv a3), some (iv a4), some (rv G 439), some (.ref q9)]) dL_entry_17 rfl rfl (by decide) ?_
      refine fW_iconst 20 dL_entry_19 rfl ?_
      exact fW_iret rfl (by decide) (by decide) dL_entry_20 (rI_i h (by decide))
    replace h := fFf h y0
    exact absurd h (by simp)
  · obtain ⟨x1, rfl, rfl, x4⟩ := hq
    replace h := fTt h x1
    refine fW_i2l 13 x4 dL_entry_12 rfl ?_
    refine fW_last 14 hg tc_439 (by decide) x4 dL_entry_13 rfl ?_
    refine fW_goto 21 dL_entry_14 rfl ?_
    refine fW_iconst 22 dL_entry_21 rfl ?_
    exact fW_iret rfl (by decide) (by decide) dL_entry_22 (rI_i h (by decide))
def mL_count : fMt := (yL_count, cL_count, 4, some .int, { frames := 8, cells := 1, slots := 6, locals := 320 })
theorem miL_count : Cond.codeWith mL_count.1 mL_count.2.1 mL_count.2.2.1 mL_count.2.2.2.1 (fTb mL_count.1.name) ∈ fT ∧ Cond.initialized mL_count.1.cls ∈ fT ∧ (mL_count.1.cls ≠ "java/lang/invoke/MethodHandle" ∧ mL_count.1.cls ≠ "java/lang/invoke/VarHandle") ∧ (parseMethodDescriptor mL_count.1.desc).map (fun d => d.parameters.length) = some 3 ∧ Cond.static mL_count.1 ∈ fT := ⟨fM 1030 (by decide +kernel) rfl, fM 88 (by decide +kernel) rfl, ⟨by decide +kernel, by decide +kernel⟩, by decide +kernel, fM 1029 (by decide +kernel) rfl⟩
def f_L_count (a1 : Int) (M : fMem) : Option (Int × fMem) := ((f_X10_count a1 M).bind fun (r : Int × Int × fMem) => (if r.1 = 0 then some (0, mset r.2.2 439 0 r.2.1) else (if r.1 = 1 then some (1, r.2.2) else none)))
set_option maxRecDepth 100000 in
set_option maxHeartbeats 4000000 in
theorem s_L_count {G : fG} (hg : gbt G = true) {a1 : Int} (ga1 : rg a1) {M : fMem} {q : Int × fMem} (h : f_L_count a1 M = some q) : fSpH G mL_count [rv G 0, iv a1, rv G 439] M (rP q.2 q.1) := by
  refine fSpH_of (by decide +kernel) rfl (by decide +kernel) (fC1 rfl (fC1 rfl (fC1 rfl fC0))) (Nat.le_of_ble_eq_true rfl) ?_
  show fW G mL_count (fEm G mL_count (rP q.2 q.1) fNo) 0 0 0 [some (rv G 0), some (iv a1), some (rv G 439), none] [] M
  rw [f_L_count] at h
  refine fW_aload_n 1 dL_count_0 rfl rfl ?_
  refine fW_iconst 2 dL_count_1 rfl ?_
  refine fW_aload_n 3 dL_count_2 rfl rfl ?_
  refine fW_iload_n 4 dL_count_3 rfl rfl ?_
  obtain ⟨r, e1, h⟩ := fBd h
  refine fW_invC rfl (by decide +kernel) (fI_V (as := [iv a1]) (rest := [iv 0, rv G 439]) miX10_count hg clX10 rfl tc_0 wd_1031 (fRoom_of rfl) rfl (Nat.le_of_ble_eq_true rfl) dL_count_4) (s_X10_count hg ga1 e1) rfl (fun En N hx => ?_) (fun v N hq => ?_)
  · obtain ⟨x1, rfl, rfl⟩ := hx
    replace h := fFf h x1
    by_cases y0 : r.1 = 1
    · replace h := fTt h y0
      refine ⟨12, by rw [y0]; exact ⟨[], ⟨0, 9, 12, 13⟩, [], by decide +kernel, (fun z hz => absurd hz List.not_mem_nil), by decide, by decide, wc_703, by decide +kernel, rfl⟩, fun q9 => ?_⟩
      refine fW_astore_n 13 (ls' := [some (rv G 0), some (iv a1), some (rv G 439), some (.ref q9)]) dL_count_12 rfl rfl rfl (by decide) ?_
      refine fW_iconst 14 dL_count_13 rfl ?_
      exact fW_iret rfl (by decide) (by decide) dL_count_14 (rI_i h (by decide))
    replace h := fFf h y0
    exact absurd h (by simp)
  · obtain ⟨x1, rfl, rfl, x4⟩ := hq
    replace h := fTt h x1
    refine fW_i2l 8 x4 dL_count_7 rfl ?_
    refine fW_last 9 hg tc_439 (by decide) x4 dL_count_8 rfl ?_
    refine fW_goto 15 dL_count_9 rfl ?_
    refine fW_iconst 16 dL_count_15 rfl ?_
    exact fW_iret rfl (by decide) (by decide) dL_count_16 (rI_i h (by decide))
def mL_toll : fMt := (yL_toll, cL_toll, 4, some .int, { frames := 7, cells := 1, slots := 6, locals := 280 })
theorem miL_toll : Cond.codeWith mL_toll.1 mL_toll.2.1 mL_toll.2.2.1 mL_toll.2.2.2.1 (fTb mL_toll.1.name) ∈ fT ∧ Cond.initialized mL_toll.1.cls ∈ fT ∧ (mL_toll.1.cls ≠ "java/lang/invoke/MethodHandle" ∧ mL_toll.1.cls ≠ "java/lang/invoke/VarHandle") ∧ (parseMethodDescriptor mL_toll.1.desc).map (fun d => d.parameters.length) = some 3 ∧ Cond.static mL_toll.1 ∈ fT := ⟨fM 1060 (by decide +kernel) rfl, fM 88 (by decide +kernel) rfl, ⟨by decide +kernel, by decide +kernel⟩, by decide +kernel, fM 1059 (by decide +kernel) rfl⟩
def f_L_toll (a1 : Int) (M : fMem) : Option (Int × fMem) := ((f_X10_toll a1 M).bind fun (r : Int × Int × fMem) => (if r.1 = 0 then some (0, mset r.2.2 439 0 r.2.1) else (if r.1 = 1 then some (1, r.2.2) else none)))
set_option maxRecDepth 100000 in
set_option maxHeartbeats 4000000 in
theorem s_L_toll {G : fG} (hg : gbt G = true) {a1 : Int} (ga1 : rg a1) {M : fMem} {q : Int × fMem} (h : f_L_toll a1 M = some q) : fSpH G mL_toll [rv G 0, iv a1, rv G 439] M (rP q.2 q.1) := by
  refine fSpH_of (by decide +kernel) rfl (by decide +kernel) (fC1 rfl (fC1 rfl (fC1 rfl fC0))) (Nat.le_of_ble_eq_true rfl) ?_
  show fW G mL_toll (fEm G mL_toll (rP q.2 q.1) fNo) 0 0 0 [some (rv G 0), some (iv a1), some (rv G 439), none] [] M
  rw [f_L_toll] at h
  refine fW_aload_n 1 dL_toll_0 rfl rfl ?_
  refine fW_iconst 2 dL_toll_1 rfl ?_
  refine fW_aload_n 3 dL_toll_2 rfl rfl ?_
  refine fW_iload_n 4 dL_toll_3 rfl rfl ?_
  obtain ⟨r, e1, h⟩ := fBd h
  refine fW_invC rfl (by decide +kernel) (fI_V (as := [iv a1]) (rest := [iv 0, rv G 439]) miX10_toll hg clX10 rfl tc_0 wd_1061 (fRoom_of rfl) rfl (Nat.le_of_ble_eq_true rfl) dL_toll_4) (s_X10_toll hg ga1 e1) rfl (fun En N hx => ?_) (fun v N hq => ?_)
  · obtain ⟨x1, rfl, rfl⟩ := hx
    replace h := fFf h x1
    by_cases y0 : r.1 = 1
    · replace h := fTt h y0
      refine ⟨12, by rw [y0]; exact ⟨[], ⟨0, 9, 12, 13⟩, [], by decide +kernel, (fun z hz => absurd hz List.not_mem_nil), by decide, by decide, wc_703, by decide +kernel, rfl⟩, fun q9 => ?_⟩
      refine fW_astore_n 13 (ls' := [some (rv G 0), some (iv a1), some (rv G 439), some (.ref q9)]) dL_toll_12 rfl rfl rfl (by decide) ?_
      refine fW_iconst 14 dL_toll_13 rfl ?_
      exact fW_iret rfl (by decide) (by decide) dL_toll_14 (rI_i h (by decide))
    replace h := fFf h y0
    exact absurd h (by simp)
  · obtain ⟨x1, rfl, rfl, x4⟩ := hq
    replace h := fTt h x1
    refine fW_i2l 8 x4 dL_toll_7 rfl ?_
    refine fW_last 9 hg tc_439 (by decide) x4 dL_toll_8 rfl ?_
    refine fW_goto 15 dL_toll_9 rfl ?_
    refine fW_iconst 16 dL_toll_15 rfl ?_
    exact fW_iret rfl (by decide) (by decide) dL_toll_16 (rI_i h (by decide))
def mL_ahead : fMt := (yL_ahead, cL_ahead, 5, some .int, { frames := 8, cells := 2, slots := 12, locals := 320 })
theorem miL_ahead : Cond.codeWith mL_ahead.1 mL_ahead.2.1 mL_ahead.2.2.1 mL_ahead.2.2.2.1 (fTb mL_ahead.1.name) ∈ fT ∧ Cond.initialized mL_ahead.1.cls ∈ fT ∧ (mL_ahead.1.cls ≠ "java/lang/invoke/MethodHandle" ∧ mL_ahead.1.cls ≠ "java/lang/invoke/VarHandle") ∧ (parseMethodDescriptor mL_ahead.1.desc).map (fun d => d.parameters.length) = some 4 ∧ Cond.static mL_ahead.1 ∈ fT := ⟨fM 1072 (by decide +kernel) rfl, fM 88 (by decide +kernel) rfl, ⟨by decide +kernel, by decide +kernel⟩, by decide +kernel, fM 1071 (by decide +kernel) rfl⟩
def f_L_ahead (a1 : Int) (a2 : Int) (M : fMem) : Option (Int × fMem) := ((f_X10_ahead a1 a2 M).bind fun (r : Int × Int × fMem) => (if r.1 = 0 then some (0, mset r.2.2 439 0 r.2.1) else (if r.1 = 1 then some (1, r.2.2) else (if r.1 = 2 then some (2, r.2.2) else none))))
set_option maxRecDepth 100000 in
set_option maxHeartbeats 4000000 in
theorem s_L_ahead {G : fG} (hg : gbt G = true) {a1 : Int} (ga1 : rg a1) {a2 : Int} (ga2 : rg a2) {M : fMem} {q : Int × fMem} (h : f_L_ahead a1 a2 M = some q) : fSpH G mL_ahead [rv G 0, iv a1, iv a2, rv G 439] M (rP q.2 q.1) := by
  refine fSpH_of (by decide +kernel) rfl (by decide +kernel) (fC1 rfl (fC1 rfl (fC1 rfl (fC1 rfl fC0)))) (Nat.le_of_ble_eq_true rfl) ?_
  show fW G mL_ahead (fEm G mL_ahead (rP q.2 q.1) fNo) 0 0 0 [some (rv G 0), some (iv a1), some (iv a2), some (rv G 439), none] [] M
  rw [f_L_ahead] at h
  refine fW_aload_n 1 dL_ahead_0 rfl rfl ?_
  refine fW_iconst 2 dL_ahead_1 rfl ?_
  refine fW_aload_n 3 dL_ahead_2 rfl rfl ?_
  refine fW_iload_n 4 dL_ahead_3 rfl rfl ?_
  refine fW_iload_n 5 dL_ahead_4 rfl rfl ?_
  obtain ⟨r, e1, h⟩ := fBd h
  refine fW_invC rfl (by decide +kernel) (fI_V (as := [iv a1, iv a2]) (rest := [iv 0, rv G 439]) miX10_ahead hg clX10 rfl tc_0 wd_1074 (fRoom_of rfl) rfl (Nat.le_of_ble_eq_true rfl) dL_ahead_5) (s_X10_ahead hg ga1 ga2 e1) rfl (fun En N hx => ?_) (fun v N hq => ?_)
  · obtain ⟨x1, rfl, rfl⟩ := hx
    replace h := fFf h x1
    by_cases y0 : r.1 = 1
    · replace h := fTt h y0
      refine ⟨13, by rw [y0]; exact ⟨[], ⟨0, 10, 13, 13⟩, [(⟨0, 10, 17, 65⟩ : ExceptionTableEntry)], by decide +kernel, (fun z hz => absurd hz List.not_mem_nil), by decide, by decide, wc_703, by decide +kernel, rfl⟩, fun q9 => ?_⟩
      refine fW_astore 15 (ls' := [some (rv G 0), some (iv a1), some (iv a2), some (rv G 439), some (.ref q9)]) dL_ahead_13 rfl rfl (by decide) ?_
      refine fW_iconst 16 dL_ahead_15 rfl ?_
      exact fW_iret rfl (by decide) (by decide) dL_ahead_16 (rI_i h (by decide))
    replace h := fFf h y0
    by_cases y1 : r.1 = 2
    · replace h := fTt h y1
      refine ⟨17, by rw [y1]; exact ⟨[(⟨0, 10, 13, 13⟩ : ExceptionTableEntry)], ⟨0, 10, 17, 65⟩, [], by decide +kernel, (fun z hz => by rw [List.mem_singleton.mp hz]; exact ⟨by decide, wc_703, rfl⟩), by decide, by decide, wc_1073, by decide +kernel, rfl⟩, fun q9 => ?_⟩
      refine fW_astore 19 (ls' := [some (rv G 0), some (iv a1), some (iv a2), some (rv G 439), some (.ref q9)]) dL_ahead_17 rfl rfl (by decide) ?_
      refine fW_iconst 20 dL_ahead_19 rfl ?_
      exact fW_iret rfl (by decide) (by decide) dL_ahead_20 (rI_i h (by decide))
    replace h := fFf h y1
    exact absurd h (by simp)
  · obtain ⟨x1, rfl, rfl, x4⟩ := hq
    replace h := fTt h x1
    refine fW_i2l 9 x4 dL_ahead_8 rfl ?_
    refine fW_last 10 hg tc_439 (by decide) x4 dL_ahead_9 rfl ?_
    refine fW_goto 21 dL_ahead_10 rfl ?_
    refine fW_iconst 22 dL_ahead_21 rfl ?_
    exact fW_iret rfl (by decide) (by decide) dL_ahead_22 (rI_i h (by decide))
def mL_calm : fMt := (yL_calm, cL_calm, 4, some .int, { frames := 8, cells := 1, slots := 6, locals := 320 })
theorem miL_calm : Cond.codeWith mL_calm.1 mL_calm.2.1 mL_calm.2.2.1 mL_calm.2.2.2.1 (fTb mL_calm.1.name) ∈ fT ∧ Cond.initialized mL_calm.1.cls ∈ fT ∧ (mL_calm.1.cls ≠ "java/lang/invoke/MethodHandle" ∧ mL_calm.1.cls ≠ "java/lang/invoke/VarHandle") ∧ (parseMethodDescriptor mL_calm.1.desc).map (fun d => d.parameters.length) = some 3 ∧ Cond.static mL_calm.1 ∈ fT := ⟨fM 1114 (by decide +kernel) rfl, fM 88 (by decide +kernel) rfl, ⟨by decide +kernel, by decide +kernel⟩, by decide +kernel, fM 1113 (by decide +kernel) rfl⟩
def f_L_calm (a1 : Int) (M : fMem) : Option (Int × fMem) := ((f_X10_calm a1 M).bind fun (r : Int × Int × fMem) => (if r.1 = 0 then some (0, mset r.2.2 439 0 r.2.1) else (if r.1 = 2 then some (1, r.2.2) else none)))
set_option maxRecDepth 100000 in
set_option maxHeartbeats 4000000 in
theorem s_L_calm {G : fG} (hg : gbt G = true) {a1 : Int} (ga1 : rg a1) {M : fMem} {q : Int × fMem} (h : f_L_calm a1 M = some q) : fSpH G mL_calm [rv G 0, iv a1, rv G 439] M (rP q.2 q.1) := by
  refine fSpH_of (by decide +kernel) rfl (by decide +kernel) (fC1 rfl (fC1 rfl (fC1 rfl fC0))) (Nat.le_of_ble_eq_true rfl) ?_
  show fW G mL_calm (fEm G mL_calm (rP q.2 q.1) fNo) 0 0 0 [some (rv G 0), some (iv a1), some (rv G 439), none] [] M
  rw [f_L_calm] at h
  refine fW_aload_n 1 dL_calm_0 rfl rfl ?_
  refine fW_iconst 2 dL_calm_1 rfl ?_
  refine fW_aload_n 3 dL_calm_2 rfl rfl ?_
  refine fW_iload_n 4 dL_calm_3 rfl rfl ?_
  obtain ⟨r, e1, h⟩ := fBd h
  refine fW_invC rfl (by decide +kernel) (fI_V (as := [iv a1]) (rest := [iv 0, rv G 439]) miX10_calm hg clX10 rfl tc_0 wd_1115 (fRoom_of rfl) rfl (Nat.le_of_ble_eq_true rfl) dL_calm_4) (s_X10_calm hg ga1 e1) rfl (fun En N hx => ?_) (fun v N hq => ?_)
  · obtain ⟨x1, rfl, rfl⟩ := hx
    replace h := fFf h x1
    by_cases y0 : r.1 = 2
    · replace h := fTt h y0
      refine ⟨12, by rw [y0]; exact ⟨[], ⟨0, 9, 12, 65⟩, [], by decide +kernel, (fun z hz => absurd hz List.not_mem_nil), by decide, by decide, wc_1073, by decide +kernel, rfl⟩, fun q9 => ?_⟩
      refine fW_astore_n 13 (ls' := [some (rv G 0), some (iv a1), some (rv G 439), some (.ref q9)]) dL_calm_12 rfl rfl rfl (by decide) ?_
      refine fW_iconst 14 dL_calm_13 rfl ?_
      exact fW_iret rfl (by decide) (by decide) dL_calm_14 (rI_i h (by decide))
    replace h := fFf h y0
    exact absurd h (by simp)
  · obtain ⟨x1, rfl, rfl, x4⟩ := hq
    replace h := fTt h x1
    refine fW_i2l 8 x4 dL_calm_7 rfl ?_
    refine fW_last 9 hg tc_439 (by decide) x4 dL_calm_8 rfl ?_
    refine fW_goto 15 dL_calm_9 rfl ?_
    refine fW_iconst 16 dL_calm_15 rfl ?_
    exact fW_iret rfl (by decide) (by decide) dL_calm_16 (rI_i h (by decide))
def mL_due : fMt := (yL_due, cL_due, 4, some .int, { frames := 8, cells := 1, slots := 6, locals := 320 })
theorem miL_due : Cond.codeWith mL_due.1 mL_due.2.1 mL_due.2.2.1 mL_due.2.2.2.1 (fTb mL_due.1.name) ∈ fT ∧ Cond.initialized mL_due.1.cls ∈ fT ∧ (mL_due.1.cls ≠ "java/lang/invoke/MethodHandle" ∧ mL_due.1.cls ≠ "java/lang/invoke/VarHandle") ∧ (parseMethodDescriptor mL_due.1.desc).map (fun d => d.parameters.length) = some 3 ∧ Cond.static mL_due.1 ∈ fT := ⟨fM 1125 (by decide +kernel) rfl, fM 88 (by decide +kernel) rfl, ⟨by decide +kernel, by decide +kernel⟩, by decide +kernel, fM 1124 (by decide +kernel) rfl⟩
def f_L_due (a1 : Int) (M : fMem) : Option (Int × fMem) := ((f_X10_due a1 M).bind fun (r : Int × Int × fMem) => (if r.1 = 0 then some (0, mset r.2.2 439 0 r.2.1) else (if r.1 = 1 then some (1, r.2.2) else none)))
set_option maxRecDepth 100000 in
set_option maxHeartbeats 4000000 in
theorem s_L_due {G : fG} (hg : gbt G = true) {a1 : Int} (ga1 : rg a1) {M : fMem} {q : Int × fMem} (h : f_L_due a1 M = some q) : fSpH G mL_due [rv G 0, iv a1, rv G 439] M (rP q.2 q.1) := by
  refine fSpH_of (by decide +kernel) rfl (by decide +kernel) (fC1 rfl (fC1 rfl (fC1 rfl fC0))) (Nat.le_of_ble_eq_true rfl) ?_
  show fW G mL_due (fEm G mL_due (rP q.2 q.1) fNo) 0 0 0 [some (rv G 0), some (iv a1), some (rv G 439), none] [] M
  rw [f_L_due] at h
  refine fW_aload_n 1 dL_due_0 rfl rfl ?_
  refine fW_iconst 2 dL_due_1 rfl ?_
  refine fW_aload_n 3 dL_due_2 rfl rfl ?_
  refine fW_iload_n 4 dL_due_3 rfl rfl ?_
  obtain ⟨r, e1, h⟩ := fBd h
  refine fW_invC rfl (by decide +kernel) (fI_V (as := [iv a1]) (rest := [iv 0, rv G 439]) miX10_due hg clX10 rfl tc_0 wd_1126 (fRoom_of rfl) rfl (Nat.le_of_ble_eq_true rfl) dL_due_4) (s_X10_due hg ga1 e1) rfl (fun En N hx => ?_) (fun v N hq => ?_)
  · obtain ⟨x1, rfl, rfl⟩ := hx
    replace h := fFf h x1
    by_cases y0 : r.1 = 1
    · replace h := fTt h y0
      refine ⟨12, by rw [y0]; exact ⟨[], ⟨0, 9, 12, 13⟩, [], by decide +kernel, (fun z hz => absurd hz List.not_mem_nil), by decide, by decide, wc_703, by decide +kernel, rfl⟩, fun q9 => ?_⟩
      refine fW_astore_n 13 (ls' := [some (rv G 0), some (iv a1), some (rv G 439), some (.ref q9)]) dL_due_12 rfl rfl rfl (by decide) ?_
      refine fW_iconst 14 dL_due_13 rfl ?_
      exact fW_iret rfl (by decide) (by decide) dL_due_14 (rI_i h (by decide))
    replace h := fFf h y0
    exact absurd h (by simp)
  · obtain ⟨x1, rfl, rfl, x4⟩ := hq
    replace h := fTt h x1
    refine fW_i2l 8 x4 dL_due_7 rfl ?_
    refine fW_last 9 hg tc_439 (by decide) x4 dL_due_8 rfl ?_
    refine fW_goto 15 dL_due_9 rfl ?_
    refine fW_iconst 16 dL_due_15 rfl ?_
    exact fW_iret rfl (by decide) (by decide) dL_due_16 (rI_i h (by decide))
def mL_seen : fMt := (yL_seen, cL_seen, 5, some .int, { frames := 8, cells := 2, slots := 12, locals := 320 })
theorem miL_seen : Cond.codeWith mL_seen.1 mL_seen.2.1 mL_seen.2.2.1 mL_seen.2.2.2.1 (fTb mL_seen.1.name) ∈ fT ∧ Cond.initialized mL_seen.1.cls ∈ fT ∧ (mL_seen.1.cls ≠ "java/lang/invoke/MethodHandle" ∧ mL_seen.1.cls ≠ "java/lang/invoke/VarHandle") ∧ (parseMethodDescriptor mL_seen.1.desc).map (fun d => d.parameters.length) = some 4 ∧ Cond.static mL_seen.1 ∈ fT := ⟨fM 1132 (by decide +kernel) rfl, fM 88 (by decide +kernel) rfl, ⟨by decide +kernel, by decide +kernel⟩, by decide +kernel, fM 1131 (by decide +kernel) rfl⟩
def f_L_seen (a1 : Int) (a2 : Int) (M : fMem) : Option (Int × fMem) := ((f_X10_seen a1 a2 M).bind fun (r : Int × Int × fMem) => (if r.1 = 0 then some (0, mset r.2.2 439 0 r.2.1) else (if r.1 = 1 then some (1, r.2.2) else none)))
set_option maxRecDepth 100000 in
set_option maxHeartbeats 4000000 in
theorem s_L_seen {G : fG} (hg : gbt G = true) {a1 : Int} (ga1 : rg a1) {a2 : Int} (ga2 : rg a2) {M : fMem} {q : Int × fMem} (h : f_L_seen a1 a2 M = some q) : fSpH G mL_seen [rv G 0, iv a1, iv a2, rv G 439] M (rP q.2 q.1) := by
  refine fSpH_of (by decide +kernel) rfl (by decide +kernel) (fC1 rfl (fC1 rfl (fC1 rfl (fC1 rfl fC0)))) (Nat.le_of_ble_eq_true rfl) ?_
  show fW G mL_seen (fEm G mL_seen (rP q.2 q.1) fNo) 0 0 0 [some (rv G 0), some (iv a1), some (iv a2), some (rv G 439), none] [] M
  rw [f_L_seen] at h
  refine fW_aload_n 1 dL_seen_0 rfl rfl ?_
  refine fW_iconst 2 dL_seen_1 rfl ?_
  refine fW_aload_n 3 dL_seen_2 rfl rfl ?_
  refine fW_iload_n 4 dL_seen_3 rfl rfl ?_
  refine fW_iload_n 5 dL_seen_4 rfl rfl ?_
  obtain ⟨r, e1, h⟩ := fBd h
  refine fW_invC rfl (by decide +kernel) (fI_V (as := [iv a1, iv a2]) (rest := [iv 0, rv G 439]) miX10_seen hg clX10 rfl tc_0 wd_1133 (fRoom_of rfl) rfl (Nat.le_of_ble_eq_true rfl) dL_seen_5) (s_X10_seen hg ga1 ga2 e1) rfl (fun En N hx => ?_) (fun v N hq => ?_)
  · obtain ⟨x1, rfl, rfl⟩ := hx
    replace h := fFf h x1
    by_cases y0 : r.1 = 1
    · replace h := fTt h y0
      refine ⟨13, by rw [y0]; exact ⟨[], ⟨0, 10, 13, 13⟩, [], by decide +kernel, (fun z hz => absurd hz List.not_mem_nil), by decide, by decide, wc_703, by decide +kernel, rfl⟩, fun q9 => ?_⟩
      refine fW_astore 15 (ls' := [some (rv G 0), some (iv a1), some (iv a2), some (rv G 439), some (.ref q9)]) dL_seen_13 rfl rfl (by decide) ?_
      refine fW_iconst 16 dL_seen_15 rfl ?_
      exact fW_iret rfl (by decide) (by decide) dL_seen_16 (rI_i h (by decide))
    replace h := fFf h y0
    exact absurd h (by simp)
  · obtain ⟨x1, rfl, rfl, x4⟩ := hq
    replace h := fTt h x1
    refine fW_i2l 9 x4 dL_seen_8 rfl ?_
    refine fW_last 10 hg tc_439 (by decide) x4 dL_seen_9 rfl ?_
    refine fW_goto 17 dL_seen_10 rfl ?_
    refine fW_iconst 18 dL_seen_17 rfl ?_
    exact fW_iret rfl (by decide) (by decide) dL_seen_18 (rI_i h (by decide))
def mL_against : fMt := (yL_against, cL_against, 5, some .int, { frames := 8, cells := 2, slots := 12, locals := 320 })
theorem miL_against : Cond.codeWith mL_against.1 mL_against.2.1 mL_against.2.2.1 mL_against.2.2.2.1 (fTb mL_against.1.name) ∈ fT ∧ Cond.initialized mL_against.1.cls ∈ fT ∧ (mL_against.1.cls ≠ "java/lang/invoke/MethodHandle" ∧ mL_against.1.cls ≠ "java/lang/invoke/VarHandle") ∧ (parseMethodDescriptor mL_against.1.desc).map (fun d => d.parameters.length) = some 4 ∧ Cond.static mL_against.1 ∈ fT := ⟨fM 1144 (by decide +kernel) rfl, fM 88 (by decide +kernel) rfl, ⟨by decide +kernel, by decide +kernel⟩, by decide +kernel, fM 1143 (by decide +kernel) rfl⟩
def f_L_against (a1 : Int) (a2 : Int) (M : fMem) : Option (Int × fMem) := ((f_X10_against a1 a2 M).bind fun (r : Int × Int × fMem) => (if r.1 = 0 then some (0, mset r.2.2 439 0 r.2.1) else (if r.1 = 1 then some (1, r.2.2) else none)))
set_option maxRecDepth 100000 in
set_option maxHeartbeats 4000000 in
theorem s_L_against {G : fG} (hg : gbt G = true) {a1 : Int} (ga1 : rg a1) {a2 : Int} (ga2 : rg a2) {M : fMem} {q : Int × fMem} (h : f_L_against a1 a2 M = some q) : fSpH G mL_against [rv G 0, iv a1, iv a2, rv G 439] M (rP q.2 q.1) := by
  refine fSpH_of (by decide +kernel) rfl (by decide +kernel) (fC1 rfl (fC1 rfl (fC1 rfl (fC1 rfl fC0)))) (Nat.le_of_ble_eq_true rfl) ?_
  show fW G mL_against (fEm G mL_against (rP q.2 q.1) fNo) 0 0 0 [some (rv G 0), some (iv a1), some (iv a2), some (rv G 439), none] [] M
  rw [f_L_against] at h
  refine fW_aload_n 1 dL_against_0 rfl rfl ?_
  refine fW_iconst 2 dL_against_1 rfl ?_
  refine fW_aload_n 3 dL_against_2 rfl rfl ?_
  refine fW_iload_n 4 dL_against_3 rfl rfl ?_
  refine fW_iload_n 5 dL_against_4 rfl rfl ?_
  obtain ⟨r, e1, h⟩ := fBd h
  refine fW_invC rfl (by decide +kernel) (fI_V (as := [iv a1, iv a2]) (rest := [iv 0, rv G 439]) miX10_against hg clX10 rfl tc_0 wd_1145 (fRoom_of rfl) rfl (Nat.le_of_ble_eq_true rfl) dL_against_5) (s_X10_against hg ga1 ga2 e1) rfl (fun En N hx => ?_) (fun v N hq => ?_)
  · obtain ⟨x1, rfl, rfl⟩ := hx
    replace h := fFf h x1
    by_cases y0 : r.1 = 1
    · replace h := fTt h y0
      refine ⟨13, by rw [y0]; exact ⟨[], ⟨0, 10, 13, 13⟩, [], by decide +kernel, (fun z hz => absurd hz List.not_mem_nil), by decide, by decide, wc_703, by decide +kernel, rfl⟩, fun q9 => ?_⟩
      refine fW_astore 15 (ls' := [some (rv G 0), some (iv a1), some (iv a2), some (rv G 439), some (.ref q9)]) dL_against_13 rfl rfl (by decide) ?_
      refine fW_iconst 16 dL_against_15 rfl ?_
      exact fW_iret rfl (by decide) (by decide) dL_against_16 (rI_i h (by decide))
    replace h := fFf h y0
    exact absurd h (by simp)
  · obtain ⟨x1, rfl, rfl, x4⟩ := hq
    replace h := fTt h x1
    refine fW_i2l 9 x4 dL_against_8 rfl ?_
    refine fW_last 10 hg tc_439 (by decide) x4 dL_against_9 rfl ?_
    refine fW_goto 17 dL_against_10 rfl ?_
    refine fW_iconst 18 dL_against_17 rfl ?_
    exact fW_iret rfl (by decide) (by decide) dL_against_18 (rI_i h (by decide))
def mL_between : fMt := (yL_between, cL_between, 5, some .int, { frames := 8, cells := 2, slots := 12, locals := 320 })
theorem miL_between : Cond.codeWith mL_between.1 mL_between.2.1 mL_between.2.2.1 mL_between.2.2.2.1 (fTb mL_between.1.name) ∈ fT ∧ Cond.initialized mL_between.1.cls ∈ fT ∧ (mL_between.1.cls ≠ "java/lang/invoke/MethodHandle" ∧ mL_between.1.cls ≠ "java/lang/invoke/VarHandle") ∧ (parseMethodDescriptor mL_between.1.desc).map (fun d => d.parameters.length) = some 4 ∧ Cond.static mL_between.1 ∈ fT := ⟨fM 1163 (by decide +kernel) rfl, fM 88 (by decide +kernel) rfl, ⟨by decide +kernel, by decide +kernel⟩, by decide +kernel, fM 1162 (by decide +kernel) rfl⟩
def f_L_between (a1 : Int) (a2 : Int) (M : fMem) : Option (Int × fMem) := ((f_X10_between a1 a2 M).bind fun (r : Int × Int × fMem) => (if r.1 = 0 then some (0, mset r.2.2 439 0 r.2.1) else (if r.1 = 1 then some (1, r.2.2) else none)))
set_option maxRecDepth 100000 in
set_option maxHeartbeats 4000000 in
theorem s_L_between {G : fG} (hg : gbt G = true) {a1 : Int} (ga1 : rg a1) {a2 : Int} (ga2 : rg a2) {M : fMem} {q : Int × fMem} (h : f_L_between a1 a2 M = some q) : fSpH G mL_between [rv G 0, iv a1, iv a2, rv G 439] M (rP q.2 q.1) := by
  refine fSpH_of (by decide +kernel) rfl (by decide +kernel) (fC1 rfl (fC1 rfl (fC1 rfl (fC1 rfl fC0)))) (Nat.le_of_ble_eq_true rfl) ?_
  show fW G mL_between (fEm G mL_between (rP q.2 q.1) fNo) 0 0 0 [some (rv G 0), some (iv a1), some (iv a2), some (rv G 439), none] [] M
  rw [f_L_between] at h
  refine fW_aload_n 1 dL_between_0 rfl rfl ?_
  refine fW_iconst 2 dL_between_1 rfl ?_
  refine fW_aload_n 3 dL_between_2 rfl rfl ?_
  refine fW_iload_n 4 dL_between_3 rfl rfl ?_
  refine fW_iload_n 5 dL_between_4 rfl rfl ?_
  obtain ⟨r, e1, h⟩ := fBd h
  refine fW_invC rfl (by decide +kernel) (fI_V (as := [iv a1, iv a2]) (rest := [iv 0, rv G 439]) miX10_between hg clX10 rfl tc_0 wd_1164 (fRoom_of rfl) rfl (Nat.le_of_ble_eq_true rfl) dL_between_5) (s_X10_between hg ga1 ga2 e1) rfl (fun En N hx => ?_) (fun v N hq => ?_)
  · obtain ⟨x1, rfl, rfl⟩ := hx
    replace h := fFf h x1
    by_cases y0 : r.1 = 1
    · replace h := fTt h y0
      refine ⟨13, by rw [y0]; exact ⟨[], ⟨0, 10, 13, 13⟩, [], by decide +kernel, (fun z hz => absurd hz List.not_mem_nil), by decide, by decide, wc_703, by decide +kernel, rfl⟩, fun q9 => ?_⟩
      refine fW_astore 15 (ls' := [some (rv G 0), some (iv a1), some (iv a2), some (rv G 439), some (.ref q9)]) dL_between_13 rfl rfl (by decide) ?_
      refine fW_iconst 16 dL_between_15 rfl ?_
      exact fW_iret rfl (by decide) (by decide) dL_between_16 (rI_i h (by decide))
    replace h := fFf h y0
    exact absurd h (by simp)
  · obtain ⟨x1, rfl, rfl, x4⟩ := hq
    replace h := fTt h x1
    refine fW_i2l 9 x4 dL_between_8 rfl ?_
    refine fW_last 10 hg tc_439 (by decide) x4 dL_between_9 rfl ?_
    refine fW_goto 17 dL_between_10 rfl ?_
    refine fW_iconst 18 dL_between_17 rfl ?_
    exact fW_iret rfl (by decide) (by decide) dL_between_18 (rI_i h (by decide))
end LAWH
