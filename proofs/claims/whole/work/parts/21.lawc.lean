section LAWC
def mL_law : fMt := (x, code, 7, some .boolean, room_1)
def fEL (G : fG) : fE := fun z below args s t => (args = #[Value.ref (gsb G)] ∧ z = gb G) → lw_Z below args s t
def fRoomL (mc : fMt) : Bool := Nat.ble (mc.2.2.2.2.frames + 1) 14 && (Nat.ble (8 + (mc.2.2.1 + 11) + mc.2.2.2.2.locals) 554 && (Nat.ble mc.2.2.2.2.cells 10 && Nat.ble mc.2.2.2.2.slots 60))
theorem fRoom_L {mc : fMt} {c0 s0 : Nat} (h : fRoomL mc = true) (hc : c0 ≤ 600010) (hs : s0 ≤ 7200060) : fRoom mL_law mc c0 s0 := by
  simp only [fRoomL, Bool.and_eq_true] at h
  have h3 := Nat.le_of_ble_eq_true h.2.2.1
  have h4 := Nat.le_of_ble_eq_true h.2.2.2
  refine ⟨⟨Nat.le_of_ble_eq_true h.1, Nat.le_of_ble_eq_true h.2.1⟩, ?_, ?_⟩
  · show c0 + _ ≤ 601024
    omega
  · show s0 + _ ≤ 7293034
    omega
theorem rg_cmp (x y : Int) : rg (cmpI x y) := by
  unfold cmpI
  split
  · exact ⟨by omega, by omega⟩
  · split <;> exact ⟨by omega, by omega⟩
def law_c0 (sc : Int → Int) (sn : Int) (k : fMem → Option Int) (i : Int) (M : fMem) : Option Int := (if 0 ≤ i + 1 ∧ i + 1 < sn then (if 0 ≤ i + 2 ∧ i + 2 < sn then (if 0 ≤ i + 3 ∧ i + 3 < sn then (if 0 ≤ i + 4 ∧ i + 4 < sn then (if 0 ≤ i + 5 ∧ i + 5 < sn then ((f_X10_feed (sc (i + 1)) (sc (i + 2)) (sc (i + 3)) (sc (i + 4)) (sc (i + 5)) M).bind fun (r6 : Int × fMem) => (if 0 ≤ i + 1 ∧ i + 1 < sn then (if 0 ≤ i + 2 ∧ i + 2 < sn then (if 0 ≤ i + 3 ∧ i + 3 < sn then (if 0 ≤ i + 4 ∧ i + 4 < sn then (if 0 ≤ i + 5 ∧ i + 5 < sn then ((f_X11_feed (sc (i + 1)) (sc (i + 2)) (sc (i + 3)) (sc (i + 4)) (sc (i + 5)) r6.2).bind fun (r12 : Int × fMem) => (if r6.1 = r12.1 then k r12.2 else some 0)) else none) else none) else none) else none) else none)) else none) else none) else none) else none) else none)
set_option maxRecDepth 100000 in
set_option maxHeartbeats 4000000 in
theorem t_law_c0 {G : fG} (hg : gbt G = true) (hL3 : gsn G ≤ 3072) {sc : Int → Int} {sn : Int} (hsc : scr G = sc) (hsn : (gsn G : Int) = sn) (rsc : ∀ i, rg (sc i)) {c0 s0 : Nat} (hc : c0 ≤ 600000) (hs : s0 ≤ 7200000) {k : fMem → Option Int} {i : Int} (gi : rg i) {M : fMem} (hk : ∀ N, k N = some 1 → fW G mL_law (fEL G) (c0 + 6) (s0 + 36) 2020 [some (.ref (gsb G)), some (rv G 0), some (rv G 418), some (rv G 439), some (iv i), none, none] [] N) (h : law_c0 sc sn k i M = some 1) : fW G mL_law (fEL G) c0 s0 188 [some (.ref (gsb G)), some (rv G 0), some (rv G 418), some (rv G 439), some (iv i), none, none] [] M := by
  rw [law_c0] at h
  refine fW_rg (fun hR => ?_)
  refine fW_aload_n 189 dL_law_188 rfl rfl ?_
  refine fW_aload_n 190 dL_law_189 rfl rfl ?_
  refine fW_iload 192 dL_law_190 rfl rfl ?_
  refine fW_iconst 193 dL_law_192 rfl ?_
  refine fW_iadd 194 dL_law_193 rfl ?_
  obtain ⟨c1, h⟩ := fS h
  refine fW_sld 195 hL3 (by rw [← hsn] at c1; exact c1) dL_law_194 rfl ?_
  rw [show scr G (i + 1) = sc (i + 1) from congrFun hsc _]
  refine fW_aload_n 196 dL_law_195 rfl rfl ?_
  refine fW_iload 198 dL_law_196 rfl rfl ?_
  refine fW_iconst 199 dL_law_198 rfl ?_
  refine fW_iadd 200 dL_law_199 rfl ?_
  obtain ⟨c2, h⟩ := fS h
  refine fW_sld 201 hL3 (by rw [← hsn] at c2; exact c2) dL_law_200 rfl ?_
  rw [show scr G (i + 2) = sc (i + 2) from congrFun hsc _]
  refine fW_aload_n 202 dL_law_201 rfl rfl ?_
  refine fW_iload 204 dL_law_202 rfl rfl ?_
  refine fW_iconst 205 dL_law_204 rfl ?_
  refine fW_iadd 206 dL_law_205 rfl ?_
  obtain ⟨c3, h⟩ := fS h
  refine fW_sld 207 hL3 (by rw [← hsn] at c3; exact c3) dL_law_206 rfl ?_
  rw [show scr G (i + 3) = sc (i + 3) from congrFun hsc _]
  refine fW_aload_n 208 dL_law_207 rfl rfl ?_
  refine fW_iload 210 dL_law_208 rfl rfl ?_
  refine fW_iconst 211 dL_law_210 rfl ?_
  refine fW_iadd 212 dL_law_211 rfl ?_
  obtain ⟨c4, h⟩ := fS h
  refine fW_sld 213 hL3 (by rw [← hsn] at c4; exact c4) dL_law_212 rfl ?_
  rw [show scr G (i + 4) = sc (i + 4) from congrFun hsc _]
  refine fW_aload_n 214 dL_law_213 rfl rfl ?_
  refine fW_iload 216 dL_law_214 rfl rfl ?_
  refine fW_iconst 217 dL_law_216 rfl ?_
  refine fW_iadd 218 dL_law_217 rfl ?_
  obtain ⟨c5, h⟩ := fS h
  refine fW_sld 219 hL3 (by rw [← hsn] at c5; exact c5) dL_law_218 rfl ?_
  rw [show scr G (i + 5) = sc (i + 5) from congrFun hsc _]
  obtain ⟨r6, e6, h⟩ := fBd h
  refine fW_cP (fI_V (as := [iv (sc (i + 1)), iv (sc (i + 2)), iv (sc (i + 3)), iv (sc (i + 4)), iv (sc (i + 5))]) (rest := []) miX10_feed hg clX10 rfl tc_0 wd_454 (fRoom_L rfl (by omega) (by omega)) rfl (Nat.le_of_ble_eq_true rfl) dL_law_219) (s_X10_feed hg (rsc (i + 1)) (rsc (i + 2)) (rsc (i + 3)) (rsc (i + 4)) (rsc (i + 5)) e6) rfl rfl rfl (fun g6 => ?_)
  refine fW_rg (fun hR6 => ?_)
  refine fW_aload_n 223 dL_law_222 rfl rfl ?_
  refine fW_aload_n 224 dL_law_223 rfl rfl ?_
  refine fW_iload 226 dL_law_224 rfl rfl ?_
  refine fW_iconst 227 dL_law_226 rfl ?_
  refine fW_iadd 228 dL_law_227 rfl ?_
  obtain ⟨c7, h⟩ := fS h
  refine fW_sld 229 hL3 (by rw [← hsn] at c7; exact c7) dL_law_228 rfl ?_
  rw [show scr G (i + 1) = sc (i + 1) from congrFun hsc _]
  refine fW_aload_n 230 dL_law_229 rfl rfl ?_
  refine fW_iload 232 dL_law_230 rfl rfl ?_
  refine fW_iconst 233 dL_law_232 rfl ?_
  refine fW_iadd 234 dL_law_233 rfl ?_
  obtain ⟨c8, h⟩ := fS h
  refine fW_sld 235 hL3 (by rw [← hsn] at c8; exact c8) dL_law_234 rfl ?_
  rw [show scr G (i + 2) = sc (i + 2) from congrFun hsc _]
  refine fW_aload_n 236 dL_law_235 rfl rfl ?_
  refine fW_iload 238 dL_law_236 rfl rfl ?_
  refine fW_iconst 239 dL_law_238 rfl ?_
  refine fW_iadd 240 dL_law_239 rfl ?_
  obtain ⟨c9, h⟩ := fS h
  refine fW_sld 241 hL3 (by rw [← hsn] at c9; exact c9) dL_law_240 rfl ?_
  rw [show scr G (i + 3) = sc (i + 3) from congrFun hsc _]
  refine fW_aload_n 242 dL_law_241 rfl rfl ?_
  refine fW_iload 244 dL_law_242 rfl rfl ?_
  refine fW_iconst 245 dL_law_244 rfl ?_
  refine fW_iadd 246 dL_law_245 rfl ?_
  obtain ⟨c10, h⟩ := fS h
  refine fW_sld 247 hL3 (by rw [← hsn] at c10; exact c10) dL_law_246 rfl ?_
  rw [show scr G (i + 4) = sc (i + 4) from congrFun hsc _]
  refine fW_aload_n 248 dL_law_247 rfl rfl ?_
  refine fW_iload 250 dL_law_248 rfl rfl ?_
  refine fW_iconst 251 dL_law_250 rfl ?_
  refine fW_iadd 252 dL_law_251 rfl ?_
  obtain ⟨c11, h⟩ := fS h
  refine fW_sld 253 hL3 (by rw [← hsn] at c11; exact c11) dL_law_252 rfl ?_
  rw [show scr G (i + 5) = sc (i + 5) from congrFun hsc _]
  obtain ⟨r12, e12, h⟩ := fBd h
  refine fW_cP (fI_V (as := [iv (sc (i + 1)), iv (sc (i + 2)), iv (sc (i + 3)), iv (sc (i + 4)), iv (sc (i + 5))]) (rest := [iv r6.1]) miX11_feed hg clX11 rfl tc_418 wd_1260 (fRoom_L rfl (by omega) (by omega)) rfl (Nat.le_of_ble_eq_true rfl) dL_law_253) (s_X11_feed hg (rsc (i + 1)) (rsc (i + 2)) (rsc (i + 3)) (rsc (i + 4)) (rsc (i + 5)) e12) rfl rfl rfl (fun g12 => ?_)
  refine fW_rg (fun hR12 => ?_)
  refine fW_icmp_eq 259 2020 g6 g12 dL_law_256 rfl rfl (fun c13 => ?_) (fun c13 => ?_)
  · replace h := fTt h c13
    refine fW_wide (c1 := c0 + 6) (s1 := s0 + 36) (by omega) (by omega) ?_
    exact fW_sb (hk r12.2 h) ⟨rfl, rfl, rfl, rfl, rfl, trivial⟩
  · replace h := fFf h c13
    refine fW_iconst 260 dL_law_259 rfl ?_
    exact absurd h (by simp)
def law_c1 (sc : Int → Int) (sn : Int) (k : fMem → Option Int) (i : Int) (M : fMem) : Option Int := (if 0 ≤ i + 1 ∧ i + 1 < sn then ((f_X10_batch (sc (i + 1)) M).bind fun (r2 : Int × fMem) => (if 0 ≤ i + 1 ∧ i + 1 < sn then ((f_X11_batch (sc (i + 1)) r2.2).bind fun (r4 : Int × fMem) => (if r2.1 = r4.1 then k r4.2 else some 0)) else none)) else none)
set_option maxRecDepth 100000 in
set_option maxHeartbeats 4000000 in
theorem t_law_c1 {G : fG} (hg : gbt G = true) (hL3 : gsn G ≤ 3072) {sc : Int → Int} {sn : Int} (hsc : scr G = sc) (hsn : (gsn G : Int) = sn) (rsc : ∀ i, rg (sc i)) {c0 s0 : Nat} (hc : c0 ≤ 600000) (hs : s0 ≤ 7200000) {k : fMem → Option Int} {i : Int} (gi : rg i) {M : fMem} (hk : ∀ N, k N = some 1 → fW G mL_law (fEL G) (c0 + 6) (s0 + 36) 2020 [some (.ref (gsb G)), some (rv G 0), some (rv G 418), some (rv G 439), some (iv i), none, none] [] N) (h : law_c1 sc sn k i M = some 1) : fW G mL_law (fEL G) c0 s0 261 [some (.ref (gsb G)), some (rv G 0), some (rv G 418), some (rv G 439), some (iv i), none, none] [] M := by
  rw [law_c1] at h
  refine fW_rg (fun hR => ?_)
  refine fW_aload_n 262 dL_law_261 rfl rfl ?_
  refine fW_aload_n 263 dL_law_262 rfl rfl ?_
  refine fW_iload 265 dL_law_263 rfl rfl ?_
  refine fW_iconst 266 dL_law_265 rfl ?_
  refine fW_iadd 267 dL_law_266 rfl ?_
  obtain ⟨c1, h⟩ := fS h
  refine fW_sld 268 hL3 (by rw [← hsn] at c1; exact c1) dL_law_267 rfl ?_
  rw [show scr G (i + 1) = sc (i + 1) from congrFun hsc _]
  obtain ⟨r2, e2, h⟩ := fBd h
  refine fW_cP (fI_V (as := [iv (sc (i + 1))]) (rest := []) miX10_batch hg clX10 rfl tc_0 wd_462 (fRoom_L rfl (by omega) (by omega)) rfl (Nat.le_of_ble_eq_true rfl) dL_law_268) (s_X10_batch hg (rsc (i + 1)) e2) rfl rfl rfl (fun g2 => ?_)
  refine fW_rg (fun hR2 => ?_)
  refine fW_aload_n 272 dL_law_271 rfl rfl ?_
  refine fW_aload_n 273 dL_law_272 rfl rfl ?_
  refine fW_iload 275 dL_law_273 rfl rfl ?_
  refine fW_iconst 276 dL_law_275 rfl ?_
  refine fW_iadd 277 dL_law_276 rfl ?_
  obtain ⟨c3, h⟩ := fS h
  refine fW_sld 278 hL3 (by rw [← hsn] at c3; exact c3) dL_law_277 rfl ?_
  rw [show scr G (i + 1) = sc (i + 1) from congrFun hsc _]
  obtain ⟨r4, e4, h⟩ := fBd h
  refine fW_cP (fI_V (as := [iv (sc (i + 1))]) (rest := [iv r2.1]) miX11_batch hg clX11 rfl tc_418 wd_1268 (fRoom_L rfl (by omega) (by omega)) rfl (Nat.le_of_ble_eq_true rfl) dL_law_278) (s_X11_batch hg (rsc (i + 1)) e4) rfl rfl rfl (fun g4 => ?_)
  refine fW_rg (fun hR4 => ?_)
  refine fW_icmp_eq 284 2020 g2 g4 dL_law_281 rfl rfl (fun c5 => ?_) (fun c5 => ?_)
  · replace h := fTt h c5
    refine fW_wide (c1 := c0 + 6) (s1 := s0 + 36) (by omega) (by omega) ?_
    exact fW_sb (hk r4.2 h) ⟨rfl, rfl, rfl, rfl, rfl, trivial⟩
  · replace h := fFf h c5
    refine fW_iconst 285 dL_law_284 rfl ?_
    exact absurd h (by simp)
def law_c2 (sc : Int → Int) (sn : Int) (k : fMem → Option Int) (i : Int) (M : fMem) : Option Int := (if 0 ≤ i + 1 ∧ i + 1 < sn then (if 0 ≤ i + 2 ∧ i + 2 < sn then ((f_X10_put (sc (i + 1)) (sc (i + 2)) M).bind fun (r3 : Int × fMem) => (if 0 ≤ i + 1 ∧ i + 1 < sn then (if 0 ≤ i + 2 ∧ i + 2 < sn then ((f_X11_put (sc (i + 1)) (sc (i + 2)) r3.2).bind fun (r6 : Int × fMem) => (if r3.1 = r6.1 then k r6.2 else some 0)) else none) else none)) else none) else none)
set_option maxRecDepth 100000 in
set_option maxHeartbeats 4000000 in
theorem t_law_c2 {G : fG} (hg : gbt G = true) (hL3 : gsn G ≤ 3072) {sc : Int → Int} {sn : Int} (hsc : scr G = sc) (hsn : (gsn G : Int) = sn) (rsc : ∀ i, rg (sc i)) {c0 s0 : Nat} (hc : c0 ≤ 600000) (hs : s0 ≤ 7200000) {k : fMem → Option Int} {i : Int} (gi : rg i) {M : fMem} (hk : ∀ N, k N = some 1 → fW G mL_law (fEL G) (c0 + 6) (s0 + 36) 2020 [some (.ref (gsb G)), some (rv G 0), some (rv G 418), some (rv G 439), some (iv i), none, none] [] N) (h : law_c2 sc sn k i M = some 1) : fW G mL_law (fEL G) c0 s0 286 [some (.ref (gsb G)), some (rv G 0), some (rv G 418), some (rv G 439), some (iv i), none, none] [] M := by
  rw [law_c2] at h
  refine fW_rg (fun hR => ?_)
  refine fW_aload_n 287 dL_law_286 rfl rfl ?_
  refine fW_aload_n 288 dL_law_287 rfl rfl ?_
  refine fW_iload 290 dL_law_288 rfl rfl ?_
  refine fW_iconst 291 dL_law_290 rfl ?_
  refine fW_iadd 292 dL_law_291 rfl ?_
  obtain ⟨c1, h⟩ := fS h
  refine fW_sld 293 hL3 (by rw [← hsn] at c1; exact c1) dL_law_292 rfl ?_
  rw [show scr G (i + 1) = sc (i + 1) from congrFun hsc _]
  refine fW_aload_n 294 dL_law_293 rfl rfl ?_
  refine fW_iload 296 dL_law_294 rfl rfl ?_
  refine fW_iconst 297 dL_law_296 rfl ?_
  refine fW_iadd 298 dL_law_297 rfl ?_
  obtain ⟨c2, h⟩ := fS h
  refine fW_sld 299 hL3 (by rw [← hsn] at c2; exact c2) dL_law_298 rfl ?_
  rw [show scr G (i + 2) = sc (i + 2) from congrFun hsc _]
  obtain ⟨r3, e3, h⟩ := fBd h
  refine fW_cP (fI_V (as := [iv (sc (i + 1)), iv (sc (i + 2))]) (rest := []) miX10_put hg clX10 rfl tc_0 wd_571 (fRoom_L rfl (by omega) (by omega)) rfl (Nat.le_of_ble_eq_true rfl) dL_law_299) (s_X10_put hg (rsc (i + 1)) (rsc (i + 2)) e3) rfl rfl rfl (fun g3 => ?_)
  refine fW_rg (fun hR3 => ?_)
  refine fW_aload_n 303 dL_law_302 rfl rfl ?_
  refine fW_aload_n 304 dL_law_303 rfl rfl ?_
  refine fW_iload 306 dL_law_304 rfl rfl ?_
  refine fW_iconst 307 dL_law_306 rfl ?_
  refine fW_iadd 308 dL_law_307 rfl ?_
  obtain ⟨c4, h⟩ := fS h
  refine fW_sld 309 hL3 (by rw [← hsn] at c4; exact c4) dL_law_308 rfl ?_
  rw [show scr G (i + 1) = sc (i + 1) from congrFun hsc _]
  refine fW_aload_n 310 dL_law_309 rfl rfl ?_
  refine fW_iload 312 dL_law_310 rfl rfl ?_
  refine fW_iconst 313 dL_law_312 rfl ?_
  refine fW_iadd 314 dL_law_313 rfl ?_
  obtain ⟨c5, h⟩ := fS h
  refine fW_sld 315 hL3 (by rw [← hsn] at c5; exact c5) dL_law_314 rfl ?_
  rw [show scr G (i + 2) = sc (i + 2) from congrFun hsc _]
  obtain ⟨r6, e6, h⟩ := fBd h
  refine fW_cP (fI_V (as := [iv (sc (i + 1)), iv (sc (i + 2))]) (rest := [iv r3.1]) miX11_put hg clX11 rfl tc_418 wd_1360 (fRoom_L rfl (by omega) (by omega)) rfl (Nat.le_of_ble_eq_true rfl) dL_law_315) (s_X11_put hg (rsc (i + 1)) (rsc (i + 2)) e6) rfl rfl rfl (fun g6 => ?_)
  refine fW_rg (fun hR6 => ?_)
  refine fW_icmp_eq 321 2020 g3 g6 dL_law_318 rfl rfl (fun c7 => ?_) (fun c7 => ?_)
  · replace h := fTt h c7
    refine fW_wide (c1 := c0 + 6) (s1 := s0 + 36) (by omega) (by omega) ?_
    exact fW_sb (hk r6.2 h) ⟨rfl, rfl, rfl, rfl, rfl, trivial⟩
  · replace h := fFf h c7
    refine fW_iconst 322 dL_law_321 rfl ?_
    exact absurd h (by simp)
def law_c3 (sc : Int → Int) (sn : Int) (k : fMem → Option Int) (i : Int) (M : fMem) : Option Int := (if 0 ≤ i + 1 ∧ i + 1 < sn then ((f_X10_drop (sc (i + 1)) M).bind fun (r2 : Int × fMem) => (if 0 ≤ i + 1 ∧ i + 1 < sn then ((f_X11_drop (sc (i + 1)) r2.2).bind fun (r4 : Int × fMem) => (if r2.1 = r4.1 then k r4.2 else some 0)) else none)) else none)
set_option maxRecDepth 100000 in
set_option maxHeartbeats 4000000 in
theorem t_law_c3 {G : fG} (hg : gbt G = true) (hL3 : gsn G ≤ 3072) {sc : Int → Int} {sn : Int} (hsc : scr G = sc) (hsn : (gsn G : Int) = sn) (rsc : ∀ i, rg (sc i)) {c0 s0 : Nat} (hc : c0 ≤ 600000) (hs : s0 ≤ 7200000) {k : fMem → Option Int} {i : Int} (gi : rg i) {M : fMem} (hk : ∀ N, k N = some 1 → fW G mL_law (fEL G) (c0 + 6) (s0 + 36) 2020 [some (.ref (gsb G)), some (rv G 0), some (rv G 418), some (rv G 439), some (iv i), none, none] [] N) (h : law_c3 sc sn k i M = some 1) : fW G mL_law (fEL G) c0 s0 323 [some (.ref (gsb G)), some (rv G 0), some (rv G 418), some (rv G 439), some (iv i), none, none] [] M := by
  rw [law_c3] at h
  refine fW_rg (fun hR => ?_)
  refine fW_aload_n 324 dL_law_323 rfl rfl ?_
  refine fW_aload_n 325 dL_law_324 rfl rfl ?_
  refine fW_iload 327 dL_law_325 rfl rfl ?_
  refine fW_iconst 328 dL_law_327 rfl ?_
  refine fW_iadd 329 dL_law_328 rfl ?_
  obtain ⟨c1, h⟩ := fS h
  refine fW_sld 330 hL3 (by rw [← hsn] at c1; exact c1) dL_law_329 rfl ?_
  rw [show scr G (i + 1) = sc (i + 1) from congrFun hsc _]
  obtain ⟨r2, e2, h⟩ := fBd h
  refine fW_cP (fI_V (as := [iv (sc (i + 1))]) (rest := []) miX10_drop hg clX10 rfl tc_0 wd_575 (fRoom_L rfl (by omega) (by omega)) rfl (Nat.le_of_ble_eq_true rfl) dL_law_330) (s_X10_drop hg (rsc (i + 1)) e2) rfl rfl rfl (fun g2 => ?_)
  refine fW_rg (fun hR2 => ?_)
  refine fW_aload_n 334 dL_law_333 rfl rfl ?_
  refine fW_aload_n 335 dL_law_334 rfl rfl ?_
  refine fW_iload 337 dL_law_335 rfl rfl ?_
  refine fW_iconst 338 dL_law_337 rfl ?_
  refine fW_iadd 339 dL_law_338 rfl ?_
  obtain ⟨c3, h⟩ := fS h
  refine fW_sld 340 hL3 (by rw [← hsn] at c3; exact c3) dL_law_339 rfl ?_
  rw [show scr G (i + 1) = sc (i + 1) from congrFun hsc _]
  obtain ⟨r4, e4, h⟩ := fBd h
  refine fW_cP (fI_V (as := [iv (sc (i + 1))]) (rest := [iv r2.1]) miX11_drop hg clX11 rfl tc_418 wd_1364 (fRoom_L rfl (by omega) (by omega)) rfl (Nat.le_of_ble_eq_true rfl) dL_law_340) (s_X11_drop hg (rsc (i + 1)) e4) rfl rfl rfl (fun g4 => ?_)
  refine fW_rg (fun hR4 => ?_)
  refine fW_icmp_eq 346 2020 g2 g4 dL_law_343 rfl rfl (fun c5 => ?_) (fun c5 => ?_)
  · replace h := fTt h c5
    refine fW_wide (c1 := c0 + 6) (s1 := s0 + 36) (by omega) (by omega) ?_
    exact fW_sb (hk r4.2 h) ⟨rfl, rfl, rfl, rfl, rfl, trivial⟩
  · replace h := fFf h c5
    refine fW_iconst 347 dL_law_346 rfl ?_
    exact absurd h (by simp)
def law_c4 (sc : Int → Int) (sn : Int) (k : fMem → Option Int) (i : Int) (M : fMem) : Option Int := (if 0 ≤ i + 1 ∧ i + 1 < sn then ((f_X10_steps (sc (i + 1)) M).bind fun (r2 : Int × fMem) => (if 0 ≤ i + 1 ∧ i + 1 < sn then ((f_X11_steps (sc (i + 1)) r2.2).bind fun (r4 : Int × fMem) => (if r2.1 = r4.1 then k r4.2 else some 0)) else none)) else none)
set_option maxRecDepth 100000 in
set_option maxHeartbeats 4000000 in
theorem t_law_c4 {G : fG} (hg : gbt G = true) (hL3 : gsn G ≤ 3072) {sc : Int → Int} {sn : Int} (hsc : scr G = sc) (hsn : (gsn G : Int) = sn) (rsc : ∀ i, rg (sc i)) {c0 s0 : Nat} (hc : c0 ≤ 600000) (hs : s0 ≤ 7200000) {k : fMem → Option Int} {i : Int} (gi : rg i) {M : fMem} (hk : ∀ N, k N = some 1 → fW G mL_law (fEL G) (c0 + 6) (s0 + 36) 2020 [some (.ref (gsb G)), some (rv G 0), some (rv G 418), some (rv G 439), some (iv i), none, none] [] N) (h : law_c4 sc sn k i M = some 1) : fW G mL_law (fEL G) c0 s0 348 [some (.ref (gsb G)), some (rv G 0), some (rv G 418), some (rv G 439), some (iv i), none, none] [] M := by
  rw [law_c4] at h
  refine fW_rg (fun hR => ?_)
  refine fW_aload_n 349 dL_law_348 rfl rfl ?_
  refine fW_aload_n 350 dL_law_349 rfl rfl ?_
  refine fW_iload 352 dL_law_350 rfl rfl ?_
  refine fW_iconst 353 dL_law_352 rfl ?_
  refine fW_iadd 354 dL_law_353 rfl ?_
  obtain ⟨c1, h⟩ := fS h
  refine fW_sld 355 hL3 (by rw [← hsn] at c1; exact c1) dL_law_354 rfl ?_
  rw [show scr G (i + 1) = sc (i + 1) from congrFun hsc _]
  obtain ⟨r2, e2, h⟩ := fBd h
  refine fW_cP (fI_V (as := [iv (sc (i + 1))]) (rest := []) miX10_steps hg clX10 rfl tc_0 wd_579 (fRoom_L rfl (by omega) (by omega)) rfl (Nat.le_of_ble_eq_true rfl) dL_law_355) (s_X10_steps hg (rsc (i + 1)) e2) rfl rfl rfl (fun g2 => ?_)
  refine fW_rg (fun hR2 => ?_)
  refine fW_aload_n 359 dL_law_358 rfl rfl ?_
  refine fW_aload_n 360 dL_law_359 rfl rfl ?_
  refine fW_iload 362 dL_law_360 rfl rfl ?_
  refine fW_iconst 363 dL_law_362 rfl ?_
  refine fW_iadd 364 dL_law_363 rfl ?_
  obtain ⟨c3, h⟩ := fS h
  refine fW_sld 365 hL3 (by rw [← hsn] at c3; exact c3) dL_law_364 rfl ?_
  rw [show scr G (i + 1) = sc (i + 1) from congrFun hsc _]
  obtain ⟨r4, e4, h⟩ := fBd h
  refine fW_cP (fI_V (as := [iv (sc (i + 1))]) (rest := [iv r2.1]) miX11_steps hg clX11 rfl tc_418 wd_1368 (fRoom_L rfl (by omega) (by omega)) rfl (Nat.le_of_ble_eq_true rfl) dL_law_365) (s_X11_steps hg (rsc (i + 1)) e4) rfl rfl rfl (fun g4 => ?_)
  refine fW_rg (fun hR4 => ?_)
  refine fW_icmp_eq 371 2020 g2 g4 dL_law_368 rfl rfl (fun c5 => ?_) (fun c5 => ?_)
  · replace h := fTt h c5
    refine fW_wide (c1 := c0 + 6) (s1 := s0 + 36) (by omega) (by omega) ?_
    exact fW_sb (hk r4.2 h) ⟨rfl, rfl, rfl, rfl, rfl, trivial⟩
  · replace h := fFf h c5
    refine fW_iconst 372 dL_law_371 rfl ?_
    exact absurd h (by simp)
def law_c5 (sc : Int → Int) (sn : Int) (k : fMem → Option Int) (i : Int) (M : fMem) : Option Int := (if 0 ≤ i + 1 ∧ i + 1 < sn then ((f_X10_budget (sc (i + 1)) M).bind fun (r2 : Int × fMem) => (if 0 ≤ i + 1 ∧ i + 1 < sn then ((f_X11_budget (sc (i + 1)) r2.2).bind fun (r4 : Int × fMem) => (if r2.1 = r4.1 then k r4.2 else some 0)) else none)) else none)
set_option maxRecDepth 100000 in
set_option maxHeartbeats 4000000 in
theorem t_law_c5 {G : fG} (hg : gbt G = true) (hL3 : gsn G ≤ 3072) {sc : Int → Int} {sn : Int} (hsc : scr G = sc) (hsn : (gsn G : Int) = sn) (rsc : ∀ i, rg (sc i)) {c0 s0 : Nat} (hc : c0 ≤ 600000) (hs : s0 ≤ 7200000) {k : fMem → Option Int} {i : Int} (gi : rg i) {M : fMem} (hk : ∀ N, k N = some 1 → fW G mL_law (fEL G) (c0 + 6) (s0 + 36) 2020 [some (.ref (gsb G)), some (rv G 0), some (rv G 418), some (rv G 439), some (iv i), none, none] [] N) (h : law_c5 sc sn k i M = some 1) : fW G mL_law (fEL G) c0 s0 373 [some (.ref (gsb G)), some (rv G 0), some (rv G 418), some (rv G 439), some (iv i), none, none] [] M := by
  rw [law_c5] at h
  refine fW_rg (fun hR => ?_)
  refine fW_aload_n 374 dL_law_373 rfl rfl ?_
  refine fW_aload_n 375 dL_law_374 rfl rfl ?_
  refine fW_iload 377 dL_law_375 rfl rfl ?_
  refine fW_iconst 378 dL_law_377 rfl ?_
  refine fW_iadd 379 dL_law_378 rfl ?_
  obtain ⟨c1, h⟩ := fS h
  refine fW_sld 380 hL3 (by rw [← hsn] at c1; exact c1) dL_law_379 rfl ?_
  rw [show scr G (i + 1) = sc (i + 1) from congrFun hsc _]
  obtain ⟨r2, e2, h⟩ := fBd h
  refine fW_cP (fI_V (as := [iv (sc (i + 1))]) (rest := []) miX10_budget hg clX10 rfl tc_0 wd_584 (fRoom_L rfl (by omega) (by omega)) rfl (Nat.le_of_ble_eq_true rfl) dL_law_380) (s_X10_budget hg (rsc (i + 1)) e2) rfl rfl rfl (fun g2 => ?_)
  refine fW_rg (fun hR2 => ?_)
  refine fW_aload_n 384 dL_law_383 rfl rfl ?_
  refine fW_aload_n 385 dL_law_384 rfl rfl ?_
  refine fW_iload 387 dL_law_385 rfl rfl ?_
  refine fW_iconst 388 dL_law_387 rfl ?_
  refine fW_iadd 389 dL_law_388 rfl ?_
  obtain ⟨c3, h⟩ := fS h
  refine fW_sld 390 hL3 (by rw [← hsn] at c3; exact c3) dL_law_389 rfl ?_
  rw [show scr G (i + 1) = sc (i + 1) from congrFun hsc _]
  obtain ⟨r4, e4, h⟩ := fBd h
  refine fW_cP (fI_V (as := [iv (sc (i + 1))]) (rest := [iv r2.1]) miX11_budget hg clX11 rfl tc_418 wd_1372 (fRoom_L rfl (by omega) (by omega)) rfl (Nat.le_of_ble_eq_true rfl) dL_law_390) (s_X11_budget hg (rsc (i + 1)) e4) rfl rfl rfl (fun g4 => ?_)
  refine fW_rg (fun hR4 => ?_)
  refine fW_icmp_eq 396 2020 g2 g4 dL_law_393 rfl rfl (fun c5 => ?_) (fun c5 => ?_)
  · replace h := fTt h c5
    refine fW_wide (c1 := c0 + 6) (s1 := s0 + 36) (by omega) (by omega) ?_
    exact fW_sb (hk r4.2 h) ⟨rfl, rfl, rfl, rfl, rfl, trivial⟩
  · replace h := fFf h c5
    refine fW_iconst 397 dL_law_396 rfl ?_
    exact absurd h (by simp)
def law_c6 (sc : Int → Int) (sn : Int) (k : fMem → Option Int) (i : Int) (M : fMem) : Option Int := (if 0 ≤ i + 1 ∧ i + 1 < sn then ((f_X10_stride (sc (i + 1)) M).bind fun (r2 : Int × fMem) => (if 0 ≤ i + 1 ∧ i + 1 < sn then ((f_X11_stride (sc (i + 1)) r2.2).bind fun (r4 : Int × fMem) => (if r2.1 = r4.1 then k r4.2 else some 0)) else none)) else none)
set_option maxRecDepth 100000 in
set_option maxHeartbeats 4000000 in
theorem t_law_c6 {G : fG} (hg : gbt G = true) (hL3 : gsn G ≤ 3072) {sc : Int → Int} {sn : Int} (hsc : scr G = sc) (hsn : (gsn G : Int) = sn) (rsc : ∀ i, rg (sc i)) {c0 s0 : Nat} (hc : c0 ≤ 600000) (hs : s0 ≤ 7200000) {k : fMem → Option Int} {i : Int} (gi : rg i) {M : fMem} (hk : ∀ N, k N = some 1 → fW G mL_law (fEL G) (c0 + 6) (s0 + 36) 2020 [some (.ref (gsb G)), some (rv G 0), some (rv G 418), some (rv G 439), some (iv i), none, none] [] N) (h : law_c6 sc sn k i M = some 1) : fW G mL_law (fEL G) c0 s0 398 [some (.ref (gsb G)), some (rv G 0), some (rv G 418), some (rv G 439), some (iv i), none, none] [] M := by
  rw [law_c6] at h
  refine fW_rg (fun hR => ?_)
  refine fW_aload_n 399 dL_law_398 rfl rfl ?_
  refine fW_aload_n 400 dL_law_399 rfl rfl ?_
  refine fW_iload 402 dL_law_400 rfl rfl ?_
  refine fW_iconst 403 dL_law_402 rfl ?_
  refine fW_iadd 404 dL_law_403 rfl ?_
  obtain ⟨c1, h⟩ := fS h
  refine fW_sld 405 hL3 (by rw [← hsn] at c1; exact c1) dL_law_404 rfl ?_
  rw [show scr G (i + 1) = sc (i + 1) from congrFun hsc _]
  obtain ⟨r2, e2, h⟩ := fBd h
  refine fW_cP (fI_V (as := [iv (sc (i + 1))]) (rest := []) miX10_stride hg clX10 rfl tc_0 wd_588 (fRoom_L rfl (by omega) (by omega)) rfl (Nat.le_of_ble_eq_true rfl) dL_law_405) (s_X10_stride hg (rsc (i + 1)) e2) rfl rfl rfl (fun g2 => ?_)
  refine fW_rg (fun hR2 => ?_)
  refine fW_aload_n 409 dL_law_408 rfl rfl ?_
  refine fW_aload_n 410 dL_law_409 rfl rfl ?_
  refine fW_iload 412 dL_law_410 rfl rfl ?_
  refine fW_iconst 413 dL_law_412 rfl ?_
  refine fW_iadd 414 dL_law_413 rfl ?_
  obtain ⟨c3, h⟩ := fS h
  refine fW_sld 415 hL3 (by rw [← hsn] at c3; exact c3) dL_law_414 rfl ?_
  rw [show scr G (i + 1) = sc (i + 1) from congrFun hsc _]
  obtain ⟨r4, e4, h⟩ := fBd h
  refine fW_cP (fI_V (as := [iv (sc (i + 1))]) (rest := [iv r2.1]) miX11_stride hg clX11 rfl tc_418 wd_1376 (fRoom_L rfl (by omega) (by omega)) rfl (Nat.le_of_ble_eq_true rfl) dL_law_415) (s_X11_stride hg (rsc (i + 1)) e4) rfl rfl rfl (fun g4 => ?_)
  refine fW_rg (fun hR4 => ?_)
  refine fW_icmp_eq 421 2020 g2 g4 dL_law_418 rfl rfl (fun c5 => ?_) (fun c5 => ?_)
  · replace h := fTt h c5
    refine fW_wide (c1 := c0 + 6) (s1 := s0 + 36) (by omega) (by omega) ?_
    exact fW_sb (hk r4.2 h) ⟨rfl, rfl, rfl, rfl, rfl, trivial⟩
  · replace h := fFf h c5
    refine fW_iconst 422 dL_law_421 rfl ?_
    exact absurd h (by simp)
def law_c7 (sc : Int → Int) (sn : Int) (k : fMem → Option Int) (i : Int) (M : fMem) : Option Int := (if 0 ≤ i + 1 ∧ i + 1 < sn then ((f_X10_find (sc (i + 1)) M).bind fun (r2 : Int × fMem) => (if 0 ≤ i + 1 ∧ i + 1 < sn then ((f_X11_find (sc (i + 1)) r2.2).bind fun (r4 : Int × fMem) => (if r2.1 = r4.1 then k r4.2 else some 0)) else none)) else none)
set_option maxRecDepth 100000 in
set_option maxHeartbeats 4000000 in
theorem t_law_c7 {G : fG} (hg : gbt G = true) (hL3 : gsn G ≤ 3072) {sc : Int → Int} {sn : Int} (hsc : scr G = sc) (hsn : (gsn G : Int) = sn) (rsc : ∀ i, rg (sc i)) {c0 s0 : Nat} (hc : c0 ≤ 600000) (hs : s0 ≤ 7200000) {k : fMem → Option Int} {i : Int} (gi : rg i) {M : fMem} (hk : ∀ N, k N = some 1 → fW G mL_law (fEL G) (c0 + 6) (s0 + 36) 2020 [some (.ref (gsb G)), some (rv G 0), some (rv G 418), some (rv G 439), some (iv i), none, none] [] N) (h : law_c7 sc sn k i M = some 1) : fW G mL_law (fEL G) c0 s0 423 [some (.ref (gsb G)), some (rv G 0), some (rv G 418), some (rv G 439), some (iv i), none, none] [] M := by
  rw [law_c7] at h
  refine fW_rg (fun hR => ?_)
  refine fW_aload_n 424 dL_law_423 rfl rfl ?_
  refine fW_aload_n 425 dL_law_424 rfl rfl ?_
  refine fW_iload 427 dL_law_425 rfl rfl ?_
  refine fW_iconst 428 dL_law_427 rfl ?_
  refine fW_iadd 429 dL_law_428 rfl ?_
  obtain ⟨c1, h⟩ := fS h
  refine fW_sld 430 hL3 (by rw [← hsn] at c1; exact c1) dL_law_429 rfl ?_
  rw [show scr G (i + 1) = sc (i + 1) from congrFun hsc _]
  obtain ⟨r2, e2, h⟩ := fBd h
  refine fW_cP (fI_V (as := [iv (sc (i + 1))]) (rest := []) miX10_find hg clX10 rfl tc_0 wd_592 (fRoom_L rfl (by omega) (by omega)) rfl (Nat.le_of_ble_eq_true rfl) dL_law_430) (s_X10_find hg (rsc (i + 1)) e2) rfl rfl rfl (fun g2 => ?_)
  refine fW_rg (fun hR2 => ?_)
  refine fW_aload_n 434 dL_law_433 rfl rfl ?_
  refine fW_aload_n 435 dL_law_434 rfl rfl ?_
  refine fW_iload 437 dL_law_435 rfl rfl ?_
  refine fW_iconst 438 dL_law_437 rfl ?_
  refine fW_iadd 439 dL_law_438 rfl ?_
  obtain ⟨c3, h⟩ := fS h
  refine fW_sld 440 hL3 (by rw [← hsn] at c3; exact c3) dL_law_439 rfl ?_
  rw [show scr G (i + 1) = sc (i + 1) from congrFun hsc _]
  obtain ⟨r4, e4, h⟩ := fBd h
  refine fW_cP (fI_V (as := [iv (sc (i + 1))]) (rest := [iv r2.1]) miX11_find hg clX11 rfl tc_418 wd_1380 (fRoom_L rfl (by omega) (by omega)) rfl (Nat.le_of_ble_eq_true rfl) dL_law_440) (s_X11_find hg (rsc (i + 1)) e4) rfl rfl rfl (fun g4 => ?_)
  refine fW_rg (fun hR4 => ?_)
  refine fW_icmp_eq 446 2020 g2 g4 dL_law_443 rfl rfl (fun c5 => ?_) (fun c5 => ?_)
  · replace h := fTt h c5
    refine fW_wide (c1 := c0 + 6) (s1 := s0 + 36) (by omega) (by omega) ?_
    exact fW_sb (hk r4.2 h) ⟨rfl, rfl, rfl, rfl, rfl, trivial⟩
  · replace h := fFf h c5
    refine fW_iconst 447 dL_law_446 rfl ?_
    exact absurd h (by simp)
def law_c8 (sc : Int → Int) (sn : Int) (k : fMem → Option Int) (i : Int) (M : fMem) : Option Int := (if 0 ≤ i + 1 ∧ i + 1 < sn then (if 0 ≤ i + 2 ∧ i + 2 < sn then (if (sc (i + 2)) = 0 then ((f_L_looks (sc (i + 1)) 0 M).bind fun (r4 : Int × fMem) => (if 0 ≤ i + 1 ∧ i + 1 < sn then (if 0 ≤ i + 2 ∧ i + 2 < sn then (if (sc (i + 2)) = 0 then ((f_X11_looks (sc (i + 1)) 0 r4.2).bind fun (r8 : Int × fMem) => ((f_X11_thrown r8.2).bind fun (r9 : Int) => (if r9 = r4.1 then (if r4.1 = 0 then (if (cmpI (r8.2 439 0) r8.1) = 0 then k r8.2 else some 0) else k r8.2) else some 0))) else ((f_X11_looks (sc (i + 1)) 1 r4.2).bind fun (r13 : Int × fMem) => ((f_X11_thrown r13.2).bind fun (r14 : Int) => (if r14 = r4.1 then (if r4.1 = 0 then (if (cmpI (r13.2 439 0) r13.1) = 0 then k r13.2 else some 0) else k r13.2) else some 0)))) else none) else none)) else ((f_L_looks (sc (i + 1)) 1 M).bind fun (r18 : Int × fMem) => (if 0 ≤ i + 1 ∧ i + 1 < sn then (if 0 ≤ i + 2 ∧ i + 2 < sn then (if (sc (i + 2)) = 0 then ((f_X11_looks (sc (i + 1)) 0 r18.2).bind fun (r22 : Int × fMem) => ((f_X11_thrown r22.2).bind fun (r23 : Int) => (if r23 = r18.1 then (if r18.1 = 0 then (if (cmpI (r22.2 439 0) r22.1) = 0 then k r22.2 else some 0) else k r22.2) else some 0))) else ((f_X11_looks (sc (i + 1)) 1 r18.2).bind fun (r27 : Int × fMem) => ((f_X11_thrown r27.2).bind fun (r28 : Int) => (if r28 = r18.1 then (if r18.1 = 0 then (if (cmpI (r27.2 439 0) r27.1) = 0 then k r27.2 else some 0) else k r27.2) else some 0)))) else none) else none))) else none) else none)
set_option maxRecDepth 100000 in
set_option maxHeartbeats 4000000 in
theorem t_law_c8 {G : fG} (hg : gbt G = true) (hL3 : gsn G ≤ 3072) {sc : Int → Int} {sn : Int} (hsc : scr G = sc) (hsn : (gsn G : Int) = sn) (rsc : ∀ i, rg (sc i)) {c0 s0 : Nat} (hc : c0 ≤ 600000) (hs : s0 ≤ 7200000) {k : fMem → Option Int} {i : Int} (gi : rg i) {M : fMem} (hk : ∀ N, k N = some 1 → fW G mL_law (fEL G) (c0 + 6) (s0 + 36) 2020 [some (.ref (gsb G)), some (rv G 0), some (rv G 418), some (rv G 439), some (iv i), none, none] [] N) (h : law_c8 sc sn k i M = some 1) : fW G mL_law (fEL G) c0 s0 448 [some (.ref (gsb G)), some (rv G 0), some (rv G 418), some (rv G 439), some (iv i), none, none] [] M := by
  rw [law_c8] at h
  refine fW_rg (fun hR => ?_)
  refine fW_aload_n 449 dL_law_448 rfl rfl ?_
  refine fW_aload_n 450 dL_law_449 rfl rfl ?_
  refine fW_iload 452 dL_law_450 rfl rfl ?_
  refine fW_iconst 453 dL_law_452 rfl ?_
  refine fW_iadd 454 dL_law_453 rfl ?_
  obtain ⟨c1, h⟩ := fS h
  refine fW_sld 455 hL3 (by rw [← hsn] at c1; exact c1) dL_law_454 rfl ?_
  rw [show scr G (i + 1) = sc (i + 1) from congrFun hsc _]
  refine fW_aload_n 456 dL_law_455 rfl rfl ?_
  refine fW_iload 458 dL_law_456 rfl rfl ?_
  refine fW_iconst 459 dL_law_458 rfl ?_
  refine fW_iadd 460 dL_law_459 rfl ?_
  obtain ⟨c2, h⟩ := fS h
  refine fW_sld 461 hL3 (by rw [← hsn] at c2; exact c2) dL_law_460 rfl ?_
  rw [show scr G (i + 2) = sc (i + 2) from congrFun hsc _]
  refine fW_if_eq 464 468 (rsc (i + 2)) dL_law_461 rfl rfl (fun c3 => ?_) (fun c3 => ?_)
  · replace h := fTt h c3
    refine fW_iconst 469 dL_law_468 rfl ?_
    refine fW_aload_n 470 dL_law_469 rfl rfl ?_
    obtain ⟨r4, e4, h⟩ := fBd h
    refine fW_invH (as := [rv G 0, iv (sc (i + 1)), iv 0, rv G 439]) (rest := []) miL_looks wd_700 (fRoom_L rfl (by omega) (by omega)) rfl (Nat.le_of_ble_eq_true rfl) dL_law_470 (s_L_looks hg (rsc (i + 1)) (by decide) e4) rfl (fun v9 N9 q9 => ?_)
    obtain ⟨rfl, rfl, g4⟩ := q9
    show fW G mL_law (fEL G) (c0 + 1) (s0 + 6) 473 [some (.ref (gsb G)), some (rv G 0), some (rv G 418), some (rv G 439), some (iv i), none, none] (iv r4.1 :: []) r4.2
    refine fW_rg (fun hR4 => ?_)
    refine fW_istore 475 (ls' := [some (.ref (gsb G)), some (rv G 0), some (rv G 418), some (rv G 439), some (iv i), some (iv r4.1), none]) dL_law_473 rfl rfl (by decide) ?_
    refine fW_aload_n 476 dL_law_475 rfl rfl ?_
    refine fW_aload_n 477 dL_law_476 rfl rfl ?_
    refine fW_iload 479 dL_law_477 rfl rfl ?_
    refine fW_iconst 480 dL_law_479 rfl ?_
    refine fW_iadd 481 dL_law_480 rfl ?_
    obtain ⟨c5, h⟩ := fS h
    refine fW_sld 482 hL3 (by rw [← hsn] at c5; exact c5) dL_law_481 rfl ?_
    rw [show scr G (i + 1) = sc (i + 1) from congrFun hsc _]
    refine fW_aload_n 483 dL_law_482 rfl rfl ?_
    refine fW_iload 485 dL_law_483 rfl rfl ?_
    refine fW_iconst 486 dL_law_485 rfl ?_
    refine fW_iadd 487 dL_law_486 rfl ?_
    obtain ⟨c6, h⟩ := fS h
    refine fW_sld 488 hL3 (by rw [← hsn] at c6; exact c6) dL_law_487 rfl ?_
    rw [show scr G (i + 2) = sc (i + 2) from congrFun hsc _]
    refine fW_if_eq 491 495 (rsc (i + 2)) dL_law_488 rfl rfl (fun c7 => ?_) (fun c7 => ?_)
    · replace h := fTt h c7
      refine fW_iconst 496 dL_law_495 rfl ?_
      obtain ⟨r8, e8, h⟩ := fBd h
      refine fW_cP (fI_V (as := [iv (sc (i + 1)), iv 0]) (rest := []) miX11_looks hg clX11 rfl tc_418 wd_1427 (fRoom_L rfl (by omega) (by omega)) rfl (Nat.le_of_ble_eq_true rfl) dL_law_496) (s_X11_looks hg (rsc (i + 1)) (by decide) e8) rfl rfl rfl (fun g8 => ?_)
      refine fW_rg (fun hR8 => ?_)
      refine fW_istore 501 (ls' := [some (.ref (gsb G)), some (rv G 0), some (rv G 418), some (rv G 439), some (iv i), some (iv r4.1), some (iv r8.1)]) dL_law_499 rfl rfl (by decide) ?_
      refine fW_aload_n 502 dL_law_501 rfl rfl ?_
      obtain ⟨r9, e9, h⟩ := fBd h
      refine fW_cP (fI_V (as := []) (rest := []) miX11_thrown hg clX11 rfl tc_418 wd_1256 (fRoom_L rfl (by omega) (by omega)) rfl (Nat.le_of_ble_eq_true rfl) dL_law_502) (s_X11_thrown hg  e9) rfl rfl rfl (fun g9 => ?_)
      refine fW_iload 507 dL_law_505 rfl rfl ?_
      refine fW_icmp_eq 510 512 g9 g4 dL_law_507 rfl rfl (fun c10 => ?_) (fun c10 => ?_)
      · replace h := fTt h c10
        refine fW_iload 514 dL_law_512 rfl rfl ?_
        refine fW_if_ne 517 529 g4 dL_law_514 rfl rfl (fun c11 => ?_) (fun c11 => ?_)
        · replace h := fFf h c11
          refine fW_goto 2020 dL_law_529 rfl ?_
          refine fW_wide (c1 := c0 + 6) (s1 := s0 + 36) (by omega) (by omega) ?_
          exact fW_sb (hk r8.2 h) ⟨rfl, rfl, rfl, rfl, rfl, trivial⟩
        · replace h := fTt h c11
          refine fW_aload_n 518 dL_law_517 rfl rfl ?_
          refine fW_iconst 519 dL_law_518 rfl ?_
          refine fW_lald 520 hg tc_439 (by decide) dL_law_519 rfl ?_
          refine fW_iload 522 dL_law_520 rfl rfl ?_
          refine fW_i2l 523 g8 dL_law_522 rfl ?_
          refine fW_lcmp 524 (hR8 439 0) g8 dL_law_523 rfl ?_
          refine fW_if_eq 527 529 (rg_cmp (r8.2 439 0) r8.1) dL_law_524 rfl rfl (fun c12 => ?_) (fun c12 => ?_)
          · replace h := fTt h c12
            refine fW_goto 2020 dL_law_529 rfl ?_
            refine fW_wide (c1 := c0 + 6) (s1 := s0 + 36) (by omega) (by omega) ?_
            exact fW_sb (hk r8.2 h) ⟨rfl, rfl, rfl, rfl, rfl, trivial⟩
          · replace h := fFf h c12
            refine fW_iconst 528 dL_law_527 rfl ?_
            exact absurd h (by simp)
      · replace h := fFf h c10
        refine fW_iconst 511 dL_law_510 rfl ?_
        exact absurd h (by simp)
    · replace h := fFf h c7
      refine fW_iconst 492 dL_law_491 rfl ?_
      refine fW_goto 496 dL_law_492 rfl ?_
      obtain ⟨r13, e13, h⟩ := fBd h
      refine fW_cP (fI_V (as := [iv (sc (i + 1)), iv 1]) (rest := []) miX11_looks hg clX11 rfl tc_418 wd_1427 (fRoom_L rfl (by omega) (by omega)) rfl (Nat.le_of_ble_eq_true rfl) dL_law_496) (s_X11_looks hg (rsc (i + 1)) (by decide) e13) rfl rfl rfl (fun g13 => ?_)
      refine fW_rg (fun hR13 => ?_)
      refine fW_istore 501 (ls' := [some (.ref (gsb G)), some (rv G 0), some (rv G 418), some (rv G 439), some (iv i), some (iv r4.1), some (iv r13.1)]) dL_law_499 rfl rfl (by decide) ?_
      refine fW_aload_n 502 dL_law_501 rfl rfl ?_
      obtain ⟨r14, e14, h⟩ := fBd h
      refine fW_cP (fI_V (as := []) (rest := []) miX11_thrown hg clX11 rfl tc_418 wd_1256 (fRoom_L rfl (by omega) (by omega)) rfl (Nat.le_of_ble_eq_true rfl) dL_law_502) (s_X11_thrown hg  e14) rfl rfl rfl (fun g14 => ?_)
      refine fW_iload 507 dL_law_505 rfl rfl ?_
      refine fW_icmp_eq 510 512 g14 g4 dL_law_507 rfl rfl (fun c15 => ?_) (fun c15 => ?_)
      · replace h := fTt h c15
        refine fW_iload 514 dL_law_512 rfl rfl ?_
        refine fW_if_ne 517 529 g4 dL_law_514 rfl rfl (fun c16 => ?_) (fun c16 => ?_)
        · replace h := fFf h c16
          refine fW_goto 2020 dL_law_529 rfl ?_
          refine fW_wide (c1 := c0 + 6) (s1 := s0 + 36) (by omega) (by omega) ?_
          exact fW_sb (hk r13.2 h) ⟨rfl, rfl, rfl, rfl, rfl, trivial⟩
        · replace h := fTt h c16
          refine fW_aload_n 518 dL_law_517 rfl rfl ?_
          refine fW_iconst 519 dL_law_518 rfl ?_
          refine fW_lald 520 hg tc_439 (by decide) dL_law_519 rfl ?_
          refine fW_iload 522 dL_law_520 rfl rfl ?_
          refine fW_i2l 523 g13 dL_law_522 rfl ?_
          refine fW_lcmp 524 (hR13 439 0) g13 dL_law_523 rfl ?_
          refine fW_if_eq 527 529 (rg_cmp (r13.2 439 0) r13.1) dL_law_524 rfl rfl (fun c17 => ?_) (fun c17 => ?_)
          · replace h := fTt h c17
            refine fW_goto 2020 dL_law_529 rfl ?_
            refine fW_wide (c1 := c0 + 6) (s1 := s0 + 36) (by omega) (by omega) ?_
            exact fW_sb (hk r13.2 h) ⟨rfl, rfl, rfl, rfl, rfl, trivial⟩
          · replace h := fFf h c17
            refine fW_iconst 528 dL_law_527 rfl ?_
            exact absurd h (by simp)
      · replace h := fFf h c15
        refine fW_iconst 511 dL_law_510 rfl ?_
        exact absurd h (by simp)
  · replace h := fFf h c3
    refine fW_iconst 465 dL_law_464 rfl ?_
    refine fW_goto 469 dL_law_465 rfl ?_
    refine fW_aload_n 470 dL_law_469 rfl rfl ?_
    obtain ⟨r18, e18, h⟩ := fBd h
    refine fW_invH (as := [rv G 0, iv (sc (i + 1)), iv 1, rv G 439]) (rest := []) miL_looks wd_700 (fRoom_L rfl (by omega) (by omega)) rfl (Nat.le_of_ble_eq_true rfl) dL_law_470 (s_L_looks hg (rsc (i + 1)) (by decide) e18) rfl (fun v9 N9 q9 => ?_)
    obtain ⟨rfl, rfl, g18⟩ := q9
    show fW G mL_law (fEL G) (c0 + 1) (s0 + 6) 473 [some (.ref (gsb G)), some (rv G 0), some (rv G 418), some (rv G 439), some (iv i), none, none] (iv r18.1 :: []) r18.2
    refine fW_rg (fun hR18 => ?_)
    refine fW_istore 475 (ls' := [some (.ref (gsb G)), some (rv G 0), some (rv G 418), some (rv G 439), some (iv i), some (iv r18.1), none]) dL_law_473 rfl rfl (by decide) ?_
    refine fW_aload_n 476 dL_law_475 rfl rfl ?_
    refine fW_aload_n 477 dL_law_476 rfl rfl ?_
    refine fW_iload 479 dL_law_477 rfl rfl ?_
    refine fW_iconst 480 dL_law_479 rfl ?_
    refine fW_iadd 481 dL_law_480 rfl ?_
    obtain ⟨c19, h⟩ := fS h
    refine fW_sld 482 hL3 (by rw [← hsn] at c19; exact c19) dL_law_481 rfl ?_
    rw [show scr G (i + 1) = sc (i + 1) from congrFun hsc _]
    refine fW_aload_n 483 dL_law_482 rfl rfl ?_
    refine fW_iload 485 dL_law_483 rfl rfl ?_
    refine fW_iconst 486 dL_law_485 rfl ?_
    refine fW_iadd 487 dL_law_486 rfl ?_
    obtain ⟨c20, h⟩ := fS h
    refine fW_sld 488 hL3 (by rw [← hsn] at c20; exact c20) dL_law_487 rfl ?_
    rw [show scr G (i + 2) = sc (i + 2) from congrFun hsc _]
    refine fW_if_eq 491 495 (rsc (i + 2)) dL_law_488 rfl rfl (fun c21 => ?_) (fun c21 => ?_)
    · replace h := fTt h c21
      refine fW_iconst 496 dL_law_495 rfl ?_
      obtain ⟨r22, e22, h⟩ := fBd h
      refine fW_cP (fI_V (as := [iv (sc (i + 1)), iv 0]) (rest := []) miX11_looks hg clX11 rfl tc_418 wd_1427 (fRoom_L rfl (by omega) (by omega)) rfl (Nat.le_of_ble_eq_true rfl) dL_law_496) (s_X11_looks hg (rsc (i + 1)) (by decide) e22) rfl rfl rfl (fun g22 => ?_)
      refine fW_rg (fun hR22 => ?_)
      refine fW_istore 501 (ls' := [some (.ref (gsb G)), some (rv G 0), some (rv G 418), some (rv G 439), some (iv i), some (iv r18.1), some (iv r22.1)]) dL_law_499 rfl rfl (by decide) ?_
      refine fW_aload_n 502 dL_law_501 rfl rfl ?_
      obtain ⟨r23, e23, h⟩ := fBd h
      refine fW_cP (fI_V (as := []) (rest := []) miX11_thrown hg clX11 rfl tc_418 wd_1256 (fRoom_L rfl (by omega) (by omega)) rfl (Nat.le_of_ble_eq_true rfl) dL_law_502) (s_X11_thrown hg  e23) rfl rfl rfl (fun g23 => ?_)
      refine fW_iload 507 dL_law_505 rfl rfl ?_
      refine fW_icmp_eq 510 512 g23 g18 dL_law_507 rfl rfl (fun c24 => ?_) (fun c24 => ?_)
      · replace h := fTt h c24
        refine fW_iload 514 dL_law_512 rfl rfl ?_
        refine fW_if_ne 517 529 g18 dL_law_514 rfl rfl (fun c25 => ?_) (fun c25 => ?_)
        · replace h := fFf h c25
          refine fW_goto 2020 dL_law_529 rfl ?_
          refine fW_wide (c1 := c0 + 6) (s1 := s0 + 36) (by omega) (by omega) ?_
          exact fW_sb (hk r22.2 h) ⟨rfl, rfl, rfl, rfl, rfl, trivial⟩
        · replace h := fTt h c25
          refine fW_aload_n 518 dL_law_517 rfl rfl ?_
          refine fW_iconst 519 dL_law_518 rfl ?_
          refine fW_lald 520 hg tc_439 (by decide) dL_law_519 rfl ?_
          refine fW_iload 522 dL_law_520 rfl rfl ?_
          refine fW_i2l 523 g22 dL_law_522 rfl ?_
          refine fW_lcmp 524 (hR22 439 0) g22 dL_law_523 rfl ?_
          refine fW_if_eq 527 529 (rg_cmp (r22.2 439 0) r22.1) dL_law_524 rfl rfl (fun c26 => ?_) (fun c26 => ?_)
          · replace h := fTt h c26
            refine fW_goto 2020 dL_law_529 rfl ?_
            refine fW_wide (c1 := c0 + 6) (s1 := s0 + 36) (by omega) (by omega) ?_
            exact fW_sb (hk r22.2 h) ⟨rfl, rfl, rfl, rfl, rfl, trivial⟩
          · replace h := fFf h c26
            refine fW_iconst 528 dL_law_527 rfl ?_
            exact absurd h (by simp)
      · replace h := fFf h c24
        refine fW_iconst 511 dL_law_510 rfl ?_
        exact absurd h (by simp)
    · replace h := fFf h c21
      refine fW_iconst 492 dL_law_491 rfl ?_
      refine fW_goto 496 dL_law_492 rfl ?_
      obtain ⟨r27, e27, h⟩ := fBd h
      refine fW_cP (fI_V (as := [iv (sc (i + 1)), iv 1]) (rest := []) miX11_looks hg clX11 rfl tc_418 wd_1427 (fRoom_L rfl (by omega) (by omega)) rfl (Nat.le_of_ble_eq_true rfl) dL_law_496) (s_X11_looks hg (rsc (i + 1)) (by decide) e27) rfl rfl rfl (fun g27 => ?_)
      refine fW_rg (fun hR27 => ?_)
      refine fW_istore 501 (ls' := [some (.ref (gsb G)), some (rv G 0), some (rv G 418), some (rv G 439), some (iv i), some (iv r18.1), some (iv r27.1)]) dL_law_499 rfl rfl (by decide) ?_
      refine fW_aload_n 502 dL_law_501 rfl rfl ?_
      obtain ⟨r28, e28, h⟩ := fBd h
      refine fW_cP (fI_V (as := []) (rest := []) miX11_thrown hg clX11 rfl tc_418 wd_1256 (fRoom_L rfl (by omega) (by omega)) rfl (Nat.le_of_ble_eq_true rfl) dL_law_502) (s_X11_thrown hg  e28) rfl rfl rfl (fun g28 => ?_)
      refine fW_iload 507 dL_law_505 rfl rfl ?_
      refine fW_icmp_eq 510 512 g28 g18 dL_law_507 rfl rfl (fun c29 => ?_) (fun c29 => ?_)
      · replace h := fTt h c29
        refine fW_iload 514 dL_law_512 rfl rfl ?_
        refine fW_if_ne 517 529 g18 dL_law_514 rfl rfl (fun c30 => ?_) (fun c30 => ?_)
        · replace h := fFf h c30
          refine fW_goto 2020 dL_law_529 rfl ?_
          refine fW_wide (c1 := c0 + 6) (s1 := s0 + 36) (by omega) (by omega) ?_
          exact fW_sb (hk r27.2 h) ⟨rfl, rfl, rfl, rfl, rfl, trivial⟩
        · replace h := fTt h c30
          refine fW_aload_n 518 dL_law_517 rfl rfl ?_
          refine fW_iconst 519 dL_law_518 rfl ?_
          refine fW_lald 520 hg tc_439 (by decide) dL_law_519 rfl ?_
          refine fW_iload 522 dL_law_520 rfl rfl ?_
          refine fW_i2l 523 g27 dL_law_522 rfl ?_
          refine fW_lcmp 524 (hR27 439 0) g27 dL_law_523 rfl ?_
          refine fW_if_eq 527 529 (rg_cmp (r27.2 439 0) r27.1) dL_law_524 rfl rfl (fun c31 => ?_) (fun c31 => ?_)
          · replace h := fTt h c31
            refine fW_goto 2020 dL_law_529 rfl ?_
            refine fW_wide (c1 := c0 + 6) (s1 := s0 + 36) (by omega) (by omega) ?_
            exact fW_sb (hk r27.2 h) ⟨rfl, rfl, rfl, rfl, rfl, trivial⟩
          · replace h := fFf h c31
            refine fW_iconst 528 dL_law_527 rfl ?_
            exact absurd h (by simp)
      · replace h := fFf h c29
        refine fW_iconst 511 dL_law_510 rfl ?_
        exact absurd h (by simp)
def law_c9 (sc : Int → Int) (sn : Int) (k : fMem → Option Int) (i : Int) (M : fMem) : Option Int := (if 0 ≤ i + 1 ∧ i + 1 < sn then (if 0 ≤ i + 2 ∧ i + 2 < sn then (if 0 ≤ i + 3 ∧ i + 3 < sn then ((f_L_falls (sc (i + 1)) (sc (i + 2)) (sc (i + 3)) M).bind fun (r4 : Int × fMem) => (if 0 ≤ i + 1 ∧ i + 1 < sn then (if 0 ≤ i + 2 ∧ i + 2 < sn then (if 0 ≤ i + 3 ∧ i + 3 < sn then ((f_X11_falls (sc (i + 1)) (sc (i + 2)) (sc (i + 3)) r4.2).bind fun (r8 : Int × fMem) => ((f_X11_thrown r8.2).bind fun (r9 : Int) => (if r9 = r4.1 then (if r4.1 = 0 then (if (cmpI (r8.2 439 0) r8.1) = 0 then k r8.2 else some 0) else k r8.2) else some 0))) else none) else none) else none)) else none) else none) else none)
set_option maxRecDepth 100000 in
set_option maxHeartbeats 4000000 in
theorem t_law_c9 {G : fG} (hg : gbt G = true) (hL3 : gsn G ≤ 3072) {sc : Int → Int} {sn : Int} (hsc : scr G = sc) (hsn : (gsn G : Int) = sn) (rsc : ∀ i, rg (sc i)) {c0 s0 : Nat} (hc : c0 ≤ 600000) (hs : s0 ≤ 7200000) {k : fMem → Option Int} {i : Int} (gi : rg i) {M : fMem} (hk : ∀ N, k N = some 1 → fW G mL_law (fEL G) (c0 + 6) (s0 + 36) 2020 [some (.ref (gsb G)), some (rv G 0), some (rv G 418), some (rv G 439), some (iv i), none, none] [] N) (h : law_c9 sc sn k i M = some 1) : fW G mL_law (fEL G) c0 s0 532 [some (.ref (gsb G)), some (rv G 0), some (rv G 418), some (rv G 439), some (iv i), none, none] [] M := by
  rw [law_c9] at h
  refine fW_rg (fun hR => ?_)
  refine fW_aload_n 533 dL_law_532 rfl rfl ?_
  refine fW_aload_n 534 dL_law_533 rfl rfl ?_
  refine fW_iload 536 dL_law_534 rfl rfl ?_
  refine fW_iconst 537 dL_law_536 rfl ?_
  refine fW_iadd 538 dL_law_537 rfl ?_
  obtain ⟨c1, h⟩ := fS h
  refine fW_sld 539 hL3 (by rw [← hsn] at c1; exact c1) dL_law_538 rfl ?_
  rw [show scr G (i + 1) = sc (i + 1) from congrFun hsc _]
  refine fW_aload_n 540 dL_law_539 rfl rfl ?_
  refine fW_iload 542 dL_law_540 rfl rfl ?_
  refine fW_iconst 543 dL_law_542 rfl ?_
  refine fW_iadd 544 dL_law_543 rfl ?_
  obtain ⟨c2, h⟩ := fS h
  refine fW_sld 545 hL3 (by rw [← hsn] at c2; exact c2) dL_law_544 rfl ?_
  rw [show scr G (i + 2) = sc (i + 2) from congrFun hsc _]
  refine fW_aload_n 546 dL_law_545 rfl rfl ?_
  refine fW_iload 548 dL_law_546 rfl rfl ?_
  refine fW_iconst 549 dL_law_548 rfl ?_
  refine fW_iadd 550 dL_law_549 rfl ?_
  obtain ⟨c3, h⟩ := fS h
  refine fW_sld 551 hL3 (by rw [← hsn] at c3; exact c3) dL_law_550 rfl ?_
  rw [show scr G (i + 3) = sc (i + 3) from congrFun hsc _]
  refine fW_aload_n 552 dL_law_551 rfl rfl ?_
  obtain ⟨r4, e4, h⟩ := fBd h
  refine fW_invH (as := [rv G 0, iv (sc (i + 1)), iv (sc (i + 2)), iv (sc (i + 3)), rv G 439]) (rest := []) miL_falls wd_870 (fRoom_L rfl (by omega) (by omega)) rfl (Nat.le_of_ble_eq_true rfl) dL_law_552 (s_L_falls hg (rsc (i + 1)) (rsc (i + 2)) (rsc (i + 3)) e4) rfl (fun v9 N9 q9 => ?_)
  obtain ⟨rfl, rfl, g4⟩ := q9
  show fW G mL_law (fEL G) (c0 + 4) (s0 + 24) 555 [some (.ref (gsb G)), some (rv G 0), some (rv G 418), some (rv G 439), some (iv i), none, none] (iv r4.1 :: []) r4.2
  refine fW_rg (fun hR4 => ?_)
  refine fW_istore 557 (ls' := [some (.ref (gsb G)), some (rv G 0), some (rv G 418), some (rv G 439), some (iv i), some (iv r4.1), none]) dL_law_555 rfl rfl (by decide) ?_
  refine fW_aload_n 558 dL_law_557 rfl rfl ?_
  refine fW_aload_n 559 dL_law_558 rfl rfl ?_
  refine fW_iload 561 dL_law_559 rfl rfl ?_
  refine fW_iconst 562 dL_law_561 rfl ?_
  refine fW_iadd 563 dL_law_562 rfl ?_
  obtain ⟨c5, h⟩ := fS h
  refine fW_sld 564 hL3 (by rw [← hsn] at c5; exact c5) dL_law_563 rfl ?_
  rw [show scr G (i + 1) = sc (i + 1) from congrFun hsc _]
  refine fW_aload_n 565 dL_law_564 rfl rfl ?_
  refine fW_iload 567 dL_law_565 rfl rfl ?_
  refine fW_iconst 568 dL_law_567 rfl ?_
  refine fW_iadd 569 dL_law_568 rfl ?_
  obtain ⟨c6, h⟩ := fS h
  refine fW_sld 570 hL3 (by rw [← hsn] at c6; exact c6) dL_law_569 rfl ?_
  rw [show scr G (i + 2) = sc (i + 2) from congrFun hsc _]
  refine fW_aload_n 571 dL_law_570 rfl rfl ?_
  refine fW_iload 573 dL_law_571 rfl rfl ?_
  refine fW_iconst 574 dL_law_573 rfl ?_
  refine fW_iadd 575 dL_law_574 rfl ?_
  obtain ⟨c7, h⟩ := fS h
  refine fW_sld 576 hL3 (by rw [← hsn] at c7; exact c7) dL_law_575 rfl ?_
  rw [show scr G (i + 3) = sc (i + 3) from congrFun hsc _]
  obtain ⟨r8, e8, h⟩ := fBd h
  refine fW_cP (fI_V (as := [iv (sc (i + 1)), iv (sc (i + 2)), iv (sc (i + 3))]) (rest := []) miX11_falls hg clX11 rfl tc_418 wd_1483 (fRoom_L rfl (by omega) (by omega)) rfl (Nat.le_of_ble_eq_true rfl) dL_law_576) (s_X11_falls hg (rsc (i + 1)) (rsc (i + 2)) (rsc (i + 3)) e8) rfl rfl rfl (fun g8 => ?_)
  refine fW_rg (fun hR8 => ?_)
  refine fW_istore 581 (ls' := [some (.ref (gsb G)), some (rv G 0), some (rv G 418), some (rv G 439), some (iv i), some (iv r4.1), some (iv r8.1)]) dL_law_579 rfl rfl (by decide) ?_
  refine fW_aload_n 582 dL_law_581 rfl rfl ?_
  obtain ⟨r9, e9, h⟩ := fBd h
  refine fW_cP (fI_V (as := []) (rest := []) miX11_thrown hg clX11 rfl tc_418 wd_1256 (fRoom_L rfl (by omega) (by omega)) rfl (Nat.le_of_ble_eq_true rfl) dL_law_582) (s_X11_thrown hg  e9) rfl rfl rfl (fun g9 => ?_)
  refine fW_iload 587 dL_law_585 rfl rfl ?_
  refine fW_icmp_eq 590 592 g9 g4 dL_law_587 rfl rfl (fun c10 => ?_) (fun c10 => ?_)
  · replace h := fTt h c10
    refine fW_iload 594 dL_law_592 rfl rfl ?_
    refine fW_if_ne 597 609 g4 dL_law_594 rfl rfl (fun c11 => ?_) (fun c11 => ?_)
    · replace h := fFf h c11
      refine fW_goto 2020 dL_law_609 rfl ?_
      refine fW_wide (c1 := c0 + 6) (s1 := s0 + 36) (by omega) (by omega) ?_
      exact fW_sb (hk r8.2 h) ⟨rfl, rfl, rfl, rfl, rfl, trivial⟩
    · replace h := fTt h c11
      refine fW_aload_n 598 dL_law_597 rfl rfl ?_
      refine fW_iconst 599 dL_law_598 rfl ?_
      refine fW_lald 600 hg tc_439 (by decide) dL_law_599 rfl ?_
      refine fW_iload 602 dL_law_600 rfl rfl ?_
      refine fW_i2l 603 g8 dL_law_602 rfl ?_
      refine fW_lcmp 604 (hR8 439 0) g8 dL_law_603 rfl ?_
      refine fW_if_eq 607 609 (rg_cmp (r8.2 439 0) r8.1) dL_law_604 rfl rfl (fun c12 => ?_) (fun c12 => ?_)
      · replace h := fTt h c12
        refine fW_goto 2020 dL_law_609 rfl ?_
        refine fW_wide (c1 := c0 + 6) (s1 := s0 + 36) (by omega) (by omega) ?_
        exact fW_sb (hk r8.2 h) ⟨rfl, rfl, rfl, rfl, rfl, trivial⟩
      · replace h := fFf h c12
        refine fW_iconst 608 dL_law_607 rfl ?_
        exact absurd h (by simp)
  · replace h := fFf h c10
    refine fW_iconst 591 dL_law_590 rfl ?_
    exact absurd h (by simp)
def law_c10 (sc : Int → Int) (sn : Int) (k : fMem → Option Int) (i : Int) (M : fMem) : Option Int := (if 0 ≤ i + 1 ∧ i + 1 < sn then (if 0 ≤ i + 2 ∧ i + 2 < sn then (if 0 ≤ i + 3 ∧ i + 3 < sn then (if 0 ≤ i + 4 ∧ i + 4 < sn then (if (sc (i + 4)) = 0 then ((f_L_bounds (sc (i + 1)) (sc (i + 2)) (sc (i + 3)) 0 M).bind fun (r6 : Int × fMem) => (if 0 ≤ i + 1 ∧ i + 1 < sn then (if 0 ≤ i + 2 ∧ i + 2 < sn then (if 0 ≤ i + 3 ∧ i + 3 < sn then (if 0 ≤ i + 4 ∧ i + 4 < sn then (if (sc (i + 4)) = 0 then ((f_X11_bounds_ (sc (i + 1)) (sc (i + 2)) (sc (i + 3)) 0 r6.2).bind fun (r12 : Int × fMem) => ((f_X11_thrown r12.2).bind fun (r13 : Int) => (if r13 = r6.1 then (if r6.1 = 0 then (if (cmpI (r12.2 439 0) r12.1) = 0 then k r12.2 else some 0) else k r12.2) else some 0))) else ((f_X11_bounds_ (sc (i + 1)) (sc (i + 2)) (sc (i + 3)) 1 r6.2).bind fun (r17 : Int × fMem) => ((f_X11_thrown r17.2).bind fun (r18 : Int) => (if r18 = r6.1 then (if r6.1 = 0 then (if (cmpI (r17.2 439 0) r17.1) = 0 then k r17.2 else some 0) else k r17.2) else some 0)))) else none) else none) else none) else none)) else ((f_L_bounds (sc (i + 1)) (sc (i + 2)) (sc (i + 3)) 1 M).bind fun (r22 : Int × fMem) => (if 0 ≤ i + 1 ∧ i + 1 < sn then (if 0 ≤ i + 2 ∧ i + 2 < sn then (if 0 ≤ i + 3 ∧ i + 3 < sn then (if 0 ≤ i + 4 ∧ i + 4 < sn then (if (sc (i + 4)) = 0 then ((f_X11_bounds_ (sc (i + 1)) (sc (i + 2)) (sc (i + 3)) 0 r22.2).bind fun (r28 : Int × fMem) => ((f_X11_thrown r28.2).bind fun (r29 : Int) => (if r29 = r22.1 then (if r22.1 = 0 then (if (cmpI (r28.2 439 0) r28.1) = 0 then k r28.2 else some 0) else k r28.2) else some 0))) else ((f_X11_bounds_ (sc (i + 1)) (sc (i + 2)) (sc (i + 3)) 1 r22.2).bind fun (r33 : Int × fMem) => ((f_X11_thrown r33.2).bind fun (r34 : Int) => (if r34 = r22.1 then (if r22.1 = 0 then (if (cmpI (r33.2 439 0) r33.1) = 0 then k r33.2 else some 0) else k r33.2) else some 0)))) else none) else none) else none) else none))) else none) else none) else none) else none)
set_option maxRecDepth 100000 in
set_option maxHeartbeats 4000000 in
theorem t_law_c10 {G : fG} (hg : gbt G = true) (hL3 : gsn G ≤ 3072) {sc : Int → Int} {sn : Int} (hsc : scr G = sc) (hsn : (gsn G : Int) = sn) (rsc : ∀ i, rg (sc i)) {c0 s0 : Nat} (hc : c0 ≤ 600000) (hs : s0 ≤ 7200000) {k : fMem → Option Int} {i : Int} (gi : rg i) {M : fMem} (hk : ∀ N, k N = some 1 → fW G mL_law (fEL G) (c0 + 6) (s0 + 36) 2020 [some (.ref (gsb G)), some (rv G 0), some (rv G 418), some (rv G 439), some (iv i), none, none] [] N) (h : law_c10 sc sn k i M = some 1) : fW G mL_law (fEL G) c0 s0 612 [some (.ref (gsb G)), some (rv G 0), some (rv G 418), some (rv G 439), some (iv i), none, none] [] M := by
  rw [law_c10] at h
  refine fW_rg (fun hR => ?_)
  refine fW_aload_n 613 dL_law_612 rfl rfl ?_
  refine fW_aload_n 614 dL_law_613 rfl rfl ?_
  refine fW_iload 616 dL_law_614 rfl rfl ?_
  refine fW_iconst 617 dL_law_616 rfl ?_
  refine fW_iadd 618 dL_law_617 rfl ?_
  obtain ⟨c1, h⟩ := fS h
  refine fW_sld 619 hL3 (by rw [← hsn] at c1; exact c1) dL_law_618 rfl ?_
  rw [show scr G (i + 1) = sc (i + 1) from congrFun hsc _]
  refine fW_aload_n 620 dL_law_619 rfl rfl ?_
  refine fW_iload 622 dL_law_620 rfl rfl ?_
  refine fW_iconst 623 dL_law_622 rfl ?_
  refine fW_iadd 624 dL_law_623 rfl ?_
  obtain ⟨c2, h⟩ := fS h
  refine fW_sld 625 hL3 (by rw [← hsn] at c2; exact c2) dL_law_624 rfl ?_
  rw [show scr G (i + 2) = sc (i + 2) from congrFun hsc _]
  refine fW_aload_n 626 dL_law_625 rfl rfl ?_
  refine fW_iload 628 dL_law_626 rfl rfl ?_
  refine fW_iconst 629 dL_law_628 rfl ?_
  refine fW_iadd 630 dL_law_629 rfl ?_
  obtain ⟨c3, h⟩ := fS h
  refine fW_sld 631 hL3 (by rw [← hsn] at c3; exact c3) dL_law_630 rfl ?_
  rw [show scr G (i + 3) = sc (i + 3) from congrFun hsc _]
  refine fW_aload_n 632 dL_law_631 rfl rfl ?_
  refine fW_iload 634 dL_law_632 rfl rfl ?_
  refine fW_iconst 635 dL_law_634 rfl ?_
  refine fW_iadd 636 dL_law_635 rfl ?_
  obtain ⟨c4, h⟩ := fS h
  refine fW_sld 637 hL3 (by rw [← hsn] at c4; exact c4) dL_law_636 rfl ?_
  rw [show scr G (i + 4) = sc (i + 4) from congrFun hsc _]
  refine fW_if_eq 640 644 (rsc (i + 4)) dL_law_637 rfl rfl (fun c5 => ?_) (fun c5 => ?_)
  · replace h := fTt h c5
    refine fW_iconst 645 dL_law_644 rfl ?_
    refine fW_aload_n 646 dL_law_645 rfl rfl ?_
    obtain ⟨r6, e6, h⟩ := fBd h
    refine fW_invH (as := [rv G 0, iv (sc (i + 1)), iv (sc (i + 2)), iv (sc (i + 3)), iv 0, rv G 439]) (rest := []) miL_bounds wd_896 (fRoom_L rfl (by omega) (by omega)) rfl (Nat.le_of_ble_eq_true rfl) dL_law_646 (s_L_bounds hg (rsc (i + 1)) (rsc (i + 2)) (rsc (i + 3)) (by decide) e6) rfl (fun v9 N9 q9 => ?_)
    obtain ⟨rfl, rfl, g6⟩ := q9
    show fW G mL_law (fEL G) (c0 + 4) (s0 + 24) 649 [some (.ref (gsb G)), some (rv G 0), some (rv G 418), some (rv G 439), some (iv i), none, none] (iv r6.1 :: []) r6.2
    refine fW_rg (fun hR6 => ?_)
    refine fW_istore 651 (ls' := [some (.ref (gsb G)), some (rv G 0), some (rv G 418), some (rv G 439), some (iv i), some (iv r6.1), none]) dL_law_649 rfl rfl (by decide) ?_
    refine fW_aload_n 652 dL_law_651 rfl rfl ?_
    refine fW_aload_n 653 dL_law_652 rfl rfl ?_
    refine fW_iload 655 dL_law_653 rfl rfl ?_
    refine fW_iconst 656 dL_law_655 rfl ?_
    refine fW_iadd 657 dL_law_656 rfl ?_
    obtain ⟨c7, h⟩ := fS h
    refine fW_sld 658 hL3 (by rw [← hsn] at c7; exact c7) dL_law_657 rfl ?_
    rw [show scr G (i + 1) = sc (i + 1) from congrFun hsc _]
    refine fW_aload_n 659 dL_law_658 rfl rfl ?_
    refine fW_iload 661 dL_law_659 rfl rfl ?_
    refine fW_iconst 662 dL_law_661 rfl ?_
    refine fW_iadd 663 dL_law_662 rfl ?_
    obtain ⟨c8, h⟩ := fS h
    refine fW_sld 664 hL3 (by rw [← hsn] at c8; exact c8) dL_law_663 rfl ?_
    rw [show scr G (i + 2) = sc (i + 2) from congrFun hsc _]
    refine fW_aload_n 665 dL_law_664 rfl rfl ?_
    refine fW_iload 667 dL_law_665 rfl rfl ?_
    refine fW_iconst 668 dL_law_667 rfl ?_
    refine fW_iadd 669 dL_law_668 rfl ?_
    obtain ⟨c9, h⟩ := fS h
    refine fW_sld 670 hL3 (by rw [← hsn] at c9; exact c9) dL_law_669 rfl ?_
    rw [show scr G (i + 3) = sc (i + 3) from congrFun hsc _]
    refine fW_aload_n 671 dL_law_670 rfl rfl ?_
    refine fW_iload 673 dL_law_671 rfl rfl ?_
    refine fW_iconst 674 dL_law_673 rfl ?_
    refine fW_iadd 675 dL_law_674 rfl ?_
    obtain ⟨c10, h⟩ := fS h
    refine fW_sld 676 hL3 (by rw [← hsn] at c10; exact c10) dL_law_675 rfl ?_
    rw [show scr G (i + 4) = sc (i + 4) from congrFun hsc _]
    refine fW_if_eq 679 683 (rsc (i + 4)) dL_law_676 rfl rfl (fun c11 => ?_) (fun c11 => ?_)
    · replace h := fTt h c11
      refine fW_iconst 684 dL_law_683 rfl ?_
      obtain ⟨r12, e12, h⟩ := fBd h
      refine fW_cP (fI_V (as := [iv (sc (i + 1)), iv (sc (i + 2)), iv (sc (i + 3)), iv 0]) (rest := []) miX11_bounds_ hg clX11 rfl tc_418 wd_1501 (fRoom_L rfl (by omega) (by omega)) rfl (Nat.le_of_ble_eq_true rfl) dL_law_684) (s_X11_bounds_ hg (rsc (i + 1)) (rsc (i + 2)) (rsc (i + 3)) (by decide) e12) rfl rfl rfl (fun g12 => ?_)
      refine fW_rg (fun hR12 => ?_)
      refine fW_istore 689 (ls' := [some (.ref (gsb G)), some (rv G 0), some (rv G 418), some (rv G 439), some (iv i), some (iv r6.1), some (iv r12.1)]) dL_law_687 rfl rfl (by decide) ?_
      refine fW_aload_n 690 dL_law_689 rfl rfl ?_
      obtain ⟨r13, e13, h⟩ := fBd h
      refine fW_cP (fI_V (as := []) (rest := []) miX11_thrown hg clX11 rfl tc_418 wd_1256 (fRoom_L rfl (by omega) (by omega)) rfl (Nat.le_of_ble_eq_true rfl) dL_law_690) (s_X11_thrown hg  e13) rfl rfl rfl (fun g13 => ?_)
      refine fW_iload 695 dL_law_693 rfl rfl ?_
      refine fW_icmp_eq 698 700 g13 g6 dL_law_695 rfl rfl (fun c14 => ?_) (fun c14 => ?_)
      · replace h := fTt h c14
        refine fW_iload 702 dL_law_700 rfl rfl ?_
        refine fW_if_ne 705 717 g6 dL_law_702 rfl rfl (fun c15 => ?_) (fun c15 => ?_)
        · replace h := fFf h c15
          refine fW_goto 2020 dL_law_717 rfl ?_
          refine fW_wide (c1 := c0 + 6) (s1 := s0 + 36) (by omega) (by omega) ?_
          exact fW_sb (hk r12.2 h) ⟨rfl, rfl, rfl, rfl, rfl, trivial⟩
        · replace h := fTt h c15
          refine fW_aload_n 706 dL_law_705 rfl rfl ?_
          refine fW_iconst 707 dL_law_706 rfl ?_
          refine fW_lald 708 hg tc_439 (by decide) dL_law_707 rfl ?_
          refine fW_iload 710 dL_law_708 rfl rfl ?_
          refine fW_i2l 711 g12 dL_law_710 rfl ?_
          refine fW_lcmp 712 (hR12 439 0) g12 dL_law_711 rfl ?_
          refine fW_if_eq 715 717 (rg_cmp (r12.2 439 0) r12.1) dL_law_712 rfl rfl (fun c16 => ?_) (fun c16 => ?_)
          · replace h := fTt h c16
            refine fW_goto 2020 dL_law_717 rfl ?_
            refine fW_wide (c1 := c0 + 6) (s1 := s0 + 36) (by omega) (by omega) ?_
            exact fW_sb (hk r12.2 h) ⟨rfl, rfl, rfl, rfl, rfl, trivial⟩
          · replace h := fFf h c16
            refine fW_iconst 716 dL_law_715 rfl ?_
            exact absurd h (by simp)
      · replace h := fFf h c14
        refine fW_iconst 699 dL_law_698 rfl ?_
        exact absurd h (by simp)
    · replace h := fFf h c11
      refine fW_iconst 680 dL_law_679 rfl ?_
      refine fW_goto 684 dL_law_680 rfl ?_
      obtain ⟨r17, e17, h⟩ := fBd h
      refine fW_cP (fI_V (as := [iv (sc (i + 1)), iv (sc (i + 2)), iv (sc (i + 3)), iv 1]) (rest := []) miX11_bounds_ hg clX11 rfl tc_418 wd_1501 (fRoom_L rfl (by omega) (by omega)) rfl (Nat.le_of_ble_eq_true rfl) dL_law_684) (s_X11_bounds_ hg (rsc (i + 1)) (rsc (i + 2)) (rsc (i + 3)) (by decide) e17) rfl rfl rfl (fun g17 => ?_)
      refine fW_rg (fun hR17 => ?_)
      refine fW_istore 689 (ls' := [some (.ref (gsb G)), some (rv G 0), some (rv G 418), some (rv G 439), some (iv i), some (iv r6.1), some (iv r17.1)]) dL_law_687 rfl rfl (by decide) ?_
      refine fW_aload_n 690 dL_law_689 rfl rfl ?_
      obtain ⟨r18, e18, h⟩ := fBd h
      refine fW_cP (fI_V (as := []) (rest := []) miX11_thrown hg clX11 rfl tc_418 wd_1256 (fRoom_L rfl (by omega) (by omega)) rfl (Nat.le_of_ble_eq_true rfl) dL_law_690) (s_X11_thrown hg  e18) rfl rfl rfl (fun g18 => ?_)
      refine fW_iload 695 dL_law_693 rfl rfl ?_
      refine fW_icmp_eq 698 700 g18 g6 dL_law_695 rfl rfl (fun c19 => ?_) (fun c19 => ?_)
      · replace h := fTt h c19
        refine fW_iload 702 dL_law_700 rfl rfl ?_
        refine fW_if_ne 705 717 g6 dL_law_702 rfl rfl (fun c20 => ?_) (fun c20 => ?_)
        · replace h := fFf h c20
          refine fW_goto 2020 dL_law_717 rfl ?_
          refine fW_wide (c1 := c0 + 6) (s1 := s0 + 36) (by omega) (by omega) ?_
          exact fW_sb (hk r17.2 h) ⟨rfl, rfl, rfl, rfl, rfl, trivial⟩
        · replace h := fTt h c20
          refine fW_aload_n 706 dL_law_705 rfl rfl ?_
          refine fW_iconst 707 dL_law_706 rfl ?_
          refine fW_lald 708 hg tc_439 (by decide) dL_law_707 rfl ?_
          refine fW_iload 710 dL_law_708 rfl rfl ?_
          refine fW_i2l 711 g17 dL_law_710 rfl ?_
          refine fW_lcmp 712 (hR17 439 0) g17 dL_law_711 rfl ?_
          refine fW_if_eq 715 717 (rg_cmp (r17.2 439 0) r17.1) dL_law_712 rfl rfl (fun c21 => ?_) (fun c21 => ?_)
          · replace h := fTt h c21
            refine fW_goto 2020 dL_law_717 rfl ?_
            refine fW_wide (c1 := c0 + 6) (s1 := s0 + 36) (by omega) (by omega) ?_
            exact fW_sb (hk r17.2 h) ⟨rfl, rfl, rfl, rfl, rfl, trivial⟩
          · replace h := fFf h c21
            refine fW_iconst 716 dL_law_715 rfl ?_
            exact absurd h (by simp)
      · replace h := fFf h c19
        refine fW_iconst 699 dL_law_698 rfl ?_
        exact absurd h (by simp)
  · replace h := fFf h c5
    refine fW_iconst 641 dL_law_640 rfl ?_
    refine fW_goto 645 dL_law_641 rfl ?_
    refine fW_aload_n 646 dL_law_645 rfl rfl ?_
    obtain ⟨r22, e22, h⟩ := fBd h
    refine fW_invH (as := [rv G 0, iv (sc (i + 1)), iv (sc (i + 2)), iv (sc (i + 3)), iv 1, rv G 439]) (rest := []) miL_bounds wd_896 (fRoom_L rfl (by omega) (by omega)) rfl (Nat.le_of_ble_eq_true rfl) dL_law_646 (s_L_bounds hg (rsc (i + 1)) (rsc (i + 2)) (rsc (i + 3)) (by decide) e22) rfl (fun v9 N9 q9 => ?_)
    obtain ⟨rfl, rfl, g22⟩ := q9
    show fW G mL_law (fEL G) (c0 + 4) (s0 + 24) 649 [some (.ref (gsb G)), some (rv G 0), some (rv G 418), some (rv G 439), some (iv i), none, none] (iv r22.1 :: []) r22.2
    refine fW_rg (fun hR22 => ?_)
    refine fW_istore 651 (ls' := [some (.ref (gsb G)), some (rv G 0), some (rv G 418), some (rv G 439), some (iv i), some (iv r22.1), none]) dL_law_649 rfl rfl (by decide) ?_
    refine fW_aload_n 652 dL_law_651 rfl rfl ?_
    refine fW_aload_n 653 dL_law_652 rfl rfl ?_
    refine fW_iload 655 dL_law_653 rfl rfl ?_
    refine fW_iconst 656 dL_law_655 rfl ?_
    refine fW_iadd 657 dL_law_656 rfl ?_
    obtain ⟨c23, h⟩ := fS h
    refine fW_sld 658 hL3 (by rw [← hsn] at c23; exact c23) dL_law_657 rfl ?_
    rw [show scr G (i + 1) = sc (i + 1) from congrFun hsc _]
    refine fW_aload_n 659 dL_law_658 rfl rfl ?_
    refine fW_iload 661 dL_law_659 rfl rfl ?_
    refine fW_iconst 662 dL_law_661 rfl ?_
    refine fW_iadd 663 dL_law_662 rfl ?_
    obtain ⟨c24, h⟩ := fS h
    refine fW_sld 664 hL3 (by rw [← hsn] at c24; exact c24) dL_law_663 rfl ?_
    rw [show scr G (i + 2) = sc (i + 2) from congrFun hsc _]
    refine fW_aload_n 665 dL_law_664 rfl rfl ?_
    refine fW_iload 667 dL_law_665 rfl rfl ?_
    refine fW_iconst 668 dL_law_667 rfl ?_
    refine fW_iadd 669 dL_law_668 rfl ?_
    obtain ⟨c25, h⟩ := fS h
    refine fW_sld 670 hL3 (by rw [← hsn] at c25; exact c25) dL_law_669 rfl ?_
    rw [show scr G (i + 3) = sc (i + 3) from congrFun hsc _]
    refine fW_aload_n 671 dL_law_670 rfl rfl ?_
    refine fW_iload 673 dL_law_671 rfl rfl ?_
    refine fW_iconst 674 dL_law_673 rfl ?_
    refine fW_iadd 675 dL_law_674 rfl ?_
    obtain ⟨c26, h⟩ := fS h
    refine fW_sld 676 hL3 (by rw [← hsn] at c26; exact c26) dL_law_675 rfl ?_
    rw [show scr G (i + 4) = sc (i + 4) from congrFun hsc _]
    refine fW_if_eq 679 683 (rsc (i + 4)) dL_law_676 rfl rfl (fun c27 => ?_) (fun c27 => ?_)
    · replace h := fTt h c27
      refine fW_iconst 684 dL_law_683 rfl ?_
      obtain ⟨r28, e28, h⟩ := fBd h
      refine fW_cP (fI_V (as := [iv (sc (i + 1)), iv (sc (i + 2)), iv (sc (i + 3)), iv 0]) (rest := []) miX11_bounds_ hg clX11 rfl tc_418 wd_1501 (fRoom_L rfl (by omega) (by omega)) rfl (Nat.le_of_ble_eq_true rfl) dL_law_684) (s_X11_bounds_ hg (rsc (i + 1)) (rsc (i + 2)) (rsc (i + 3)) (by decide) e28) rfl rfl rfl (fun g28 => ?_)
      refine fW_rg (fun hR28 => ?_)
      refine fW_istore 689 (ls' := [some (.ref (gsb G)), some (rv G 0), some (rv G 418), some (rv G 439), some (iv i), some (iv r22.1), some (iv r28.1)]) dL_law_687 rfl rfl (by decide) ?_
      refine fW_aload_n 690 dL_law_689 rfl rfl ?_
      obtain ⟨r29, e29, h⟩ := fBd h
      refine fW_cP (fI_V (as := []) (rest := []) miX11_thrown hg clX11 rfl tc_418 wd_1256 (fRoom_L rfl (by omega) (by omega)) rfl (Nat.le_of_ble_eq_true rfl) dL_law_690) (s_X11_thrown hg  e29) rfl rfl rfl (fun g29 => ?_)
      refine fW_iload 695 dL_law_693 rfl rfl ?_
      refine fW_icmp_eq 698 700 g29 g22 dL_law_695 rfl rfl (fun c30 => ?_) (fun c30 => ?_)
      · replace h := fTt h c30
        refine fW_iload 702 dL_law_700 rfl rfl ?_
        refine fW_if_ne 705 717 g22 dL_law_702 rfl rfl (fun c31 => ?_) (fun c31 => ?_)
        · replace h := fFf h c31
          refine fW_goto 2020 dL_law_717 rfl ?_
          refine fW_wide (c1 := c0 + 6) (s1 := s0 + 36) (by omega) (by omega) ?_
          exact fW_sb (hk r28.2 h) ⟨rfl, rfl, rfl, rfl, rfl, trivial⟩
        · replace h := fTt h c31
          refine fW_aload_n 706 dL_law_705 rfl rfl ?_
          refine fW_iconst 707 dL_law_706 rfl ?_
          refine fW_lald 708 hg tc_439 (by decide) dL_law_707 rfl ?_
          refine fW_iload 710 dL_law_708 rfl rfl ?_
          refine fW_i2l 711 g28 dL_law_710 rfl ?_
          refine fW_lcmp 712 (hR28 439 0) g28 dL_law_711 rfl ?_
          refine fW_if_eq 715 717 (rg_cmp (r28.2 439 0) r28.1) dL_law_712 rfl rfl (fun c32 => ?_) (fun c32 => ?_)
          · replace h := fTt h c32
            refine fW_goto 2020 dL_law_717 rfl ?_
            refine fW_wide (c1 := c0 + 6) (s1 := s0 + 36) (by omega) (by omega) ?_
            exact fW_sb (hk r28.2 h) ⟨rfl, rfl, rfl, rfl, rfl, trivial⟩
          · replace h := fFf h c32
            refine fW_iconst 716 dL_law_715 rfl ?_
            exact absurd h (by simp)
      · replace h := fFf h c30
        refine fW_iconst 699 dL_law_698 rfl ?_
        exact absurd h (by simp)
    · replace h := fFf h c27
      refine fW_iconst 680 dL_law_679 rfl ?_
      refine fW_goto 684 dL_law_680 rfl ?_
      obtain ⟨r33, e33, h⟩ := fBd h
      refine fW_cP (fI_V (as := [iv (sc (i + 1)), iv (sc (i + 2)), iv (sc (i + 3)), iv 1]) (rest := []) miX11_bounds_ hg clX11 rfl tc_418 wd_1501 (fRoom_L rfl (by omega) (by omega)) rfl (Nat.le_of_ble_eq_true rfl) dL_law_684) (s_X11_bounds_ hg (rsc (i + 1)) (rsc (i + 2)) (rsc (i + 3)) (by decide) e33) rfl rfl rfl (fun g33 => ?_)
      refine fW_rg (fun hR33 => ?_)
      refine fW_istore 689 (ls' := [some (.ref (gsb G)), some (rv G 0), some (rv G 418), some (rv G 439), some (iv i), some (iv r22.1), some (iv r33.1)]) dL_law_687 rfl rfl (by decide) ?_
      refine fW_aload_n 690 dL_law_689 rfl rfl ?_
      obtain ⟨r34, e34, h⟩ := fBd h
      refine fW_cP (fI_V (as := []) (rest := []) miX11_thrown hg clX11 rfl tc_418 wd_1256 (fRoom_L rfl (by omega) (by omega)) rfl (Nat.le_of_ble_eq_true rfl) dL_law_690) (s_X11_thrown hg  e34) rfl rfl rfl (fun g34 => ?_)
      refine fW_iload 695 dL_law_693 rfl rfl ?_
      refine fW_icmp_eq 698 700 g34 g22 dL_law_695 rfl rfl (fun c35 => ?_) (fun c35 => ?_)
      · replace h := fTt h c35
        refine fW_iload 702 dL_law_700 rfl rfl ?_
        refine fW_if_ne 705 717 g22 dL_law_702 rfl rfl (fun c36 => ?_) (fun c36 => ?_)
        · replace h := fFf h c36
          refine fW_goto 2020 dL_law_717 rfl ?_
          refine fW_wide (c1 := c0 + 6) (s1 := s0 + 36) (by omega) (by omega) ?_
          exact fW_sb (hk r33.2 h) ⟨rfl, rfl, rfl, rfl, rfl, trivial⟩
        · replace h := fTt h c36
          refine fW_aload_n 706 dL_law_705 rfl rfl ?_
          refine fW_iconst 707 dL_law_706 rfl ?_
          refine fW_lald 708 hg tc_439 (by decide) dL_law_707 rfl ?_
          refine fW_iload 710 dL_law_708 rfl rfl ?_
          refine fW_i2l 711 g33 dL_law_710 rfl ?_
          refine fW_lcmp 712 (hR33 439 0) g33 dL_law_711 rfl ?_
          refine fW_if_eq 715 717 (rg_cmp (r33.2 439 0) r33.1) dL_law_712 rfl rfl (fun c37 => ?_) (fun c37 => ?_)
          · replace h := fTt h c37
            refine fW_goto 2020 dL_law_717 rfl ?_
            refine fW_wide (c1 := c0 + 6) (s1 := s0 + 36) (by omega) (by omega) ?_
            exact fW_sb (hk r33.2 h) ⟨rfl, rfl, rfl, rfl, rfl, trivial⟩
          · replace h := fFf h c37
            refine fW_iconst 716 dL_law_715 rfl ?_
            exact absurd h (by simp)
      · replace h := fFf h c35
        refine fW_iconst 699 dL_law_698 rfl ?_
        exact absurd h (by simp)
def law_c11 (sc : Int → Int) (sn : Int) (k : fMem → Option Int) (i : Int) (M : fMem) : Option Int := (if 0 ≤ i + 1 ∧ i + 1 < sn then (if 0 ≤ i + 2 ∧ i + 2 < sn then (if 0 ≤ i + 3 ∧ i + 3 < sn then ((f_L_route (sc (i + 1)) (sc (i + 2)) (sc (i + 3)) M).bind fun (r4 : Int × fMem) => (if 0 ≤ i + 1 ∧ i + 1 < sn then (if 0 ≤ i + 2 ∧ i + 2 < sn then (if 0 ≤ i + 3 ∧ i + 3 < sn then ((f_X11_route (sc (i + 1)) (sc (i + 2)) (sc (i + 3)) r4.2).bind fun (r8 : Int × fMem) => ((f_X11_thrown r8.2).bind fun (r9 : Int) => (if r9 = r4.1 then (if r4.1 = 0 then (if (cmpI (r8.2 439 0) r8.1) = 0 then k r8.2 else some 0) else k r8.2) else some 0))) else none) else none) else none)) else none) else none) else none)
set_option maxRecDepth 100000 in
set_option maxHeartbeats 4000000 in
theorem t_law_c11 {G : fG} (hg : gbt G = true) (hL3 : gsn G ≤ 3072) {sc : Int → Int} {sn : Int} (hsc : scr G = sc) (hsn : (gsn G : Int) = sn) (rsc : ∀ i, rg (sc i)) {c0 s0 : Nat} (hc : c0 ≤ 600000) (hs : s0 ≤ 7200000) {k : fMem → Option Int} {i : Int} (gi : rg i) {M : fMem} (hk : ∀ N, k N = some 1 → fW G mL_law (fEL G) (c0 + 6) (s0 + 36) 2020 [some (.ref (gsb G)), some (rv G 0), some (rv G 418), some (rv G 439), some (iv i), none, none] [] N) (h : law_c11 sc sn k i M = some 1) : fW G mL_law (fEL G) c0 s0 720 [some (.ref (gsb G)), some (rv G 0), some (rv G 418), some (rv G 439), some (iv i), none, none] [] M := by
  rw [law_c11] at h
  refine fW_rg (fun hR => ?_)
  refine fW_aload_n 721 dL_law_720 rfl rfl ?_
  refine fW_aload_n 722 dL_law_721 rfl rfl ?_
  refine fW_iload 724 dL_law_722 rfl rfl ?_
  refine fW_iconst 725 dL_law_724 rfl ?_
  refine fW_iadd 726 dL_law_725 rfl ?_
  obtain ⟨c1, h⟩ := fS h
  refine fW_sld 727 hL3 (by rw [← hsn] at c1; exact c1) dL_law_726 rfl ?_
  rw [show scr G (i + 1) = sc (i + 1) from congrFun hsc _]
  refine fW_aload_n 728 dL_law_727 rfl rfl ?_
  refine fW_iload 730 dL_law_728 rfl rfl ?_
  refine fW_iconst 731 dL_law_730 rfl ?_
  refine fW_iadd 732 dL_law_731 rfl ?_
  obtain ⟨c2, h⟩ := fS h
  refine fW_sld 733 hL3 (by rw [← hsn] at c2; exact c2) dL_law_732 rfl ?_
  rw [show scr G (i + 2) = sc (i + 2) from congrFun hsc _]
  refine fW_aload_n 734 dL_law_733 rfl rfl ?_
  refine fW_iload 736 dL_law_734 rfl rfl ?_
  refine fW_iconst 737 dL_law_736 rfl ?_
  refine fW_iadd 738 dL_law_737 rfl ?_
  obtain ⟨c3, h⟩ := fS h
  refine fW_sld 739 hL3 (by rw [← hsn] at c3; exact c3) dL_law_738 rfl ?_
  rw [show scr G (i + 3) = sc (i + 3) from congrFun hsc _]
  refine fW_aload_n 740 dL_law_739 rfl rfl ?_
  obtain ⟨r4, e4, h⟩ := fBd h
  refine fW_invH (as := [rv G 0, iv (sc (i + 1)), iv (sc (i + 2)), iv (sc (i + 3)), rv G 439]) (rest := []) miL_route wd_903 (fRoom_L rfl (by omega) (by omega)) rfl (Nat.le_of_ble_eq_true rfl) dL_law_740 (s_L_route hg (rsc (i + 1)) (rsc (i + 2)) (rsc (i + 3)) e4) rfl (fun v9 N9 q9 => ?_)
  obtain ⟨rfl, rfl, g4⟩ := q9
  show fW G mL_law (fEL G) (c0 + 3) (s0 + 18) 743 [some (.ref (gsb G)), some (rv G 0), some (rv G 418), some (rv G 439), some (iv i), none, none] (iv r4.1 :: []) r4.2
  refine fW_rg (fun hR4 => ?_)
  refine fW_istore 745 (ls' := [some (.ref (gsb G)), some (rv G 0), some (rv G 418), some (rv G 439), some (iv i), some (iv r4.1), none]) dL_law_743 rfl rfl (by decide) ?_
  refine fW_aload_n 746 dL_law_745 rfl rfl ?_
  refine fW_aload_n 747 dL_law_746 rfl rfl ?_
  refine fW_iload 749 dL_law_747 rfl rfl ?_
  refine fW_iconst 750 dL_law_749 rfl ?_
  refine fW_iadd 751 dL_law_750 rfl ?_
  obtain ⟨c5, h⟩ := fS h
  refine fW_sld 752 hL3 (by rw [← hsn] at c5; exact c5) dL_law_751 rfl ?_
  rw [show scr G (i + 1) = sc (i + 1) from congrFun hsc _]
  refine fW_aload_n 753 dL_law_752 rfl rfl ?_
  refine fW_iload 755 dL_law_753 rfl rfl ?_
  refine fW_iconst 756 dL_law_755 rfl ?_
  refine fW_iadd 757 dL_law_756 rfl ?_
  obtain ⟨c6, h⟩ := fS h
  refine fW_sld 758 hL3 (by rw [← hsn] at c6; exact c6) dL_law_757 rfl ?_
  rw [show scr G (i + 2) = sc (i + 2) from congrFun hsc _]
  refine fW_aload_n 759 dL_law_758 rfl rfl ?_
  refine fW_iload 761 dL_law_759 rfl rfl ?_
  refine fW_iconst 762 dL_law_761 rfl ?_
  refine fW_iadd 763 dL_law_762 rfl ?_
  obtain ⟨c7, h⟩ := fS h
  refine fW_sld 764 hL3 (by rw [← hsn] at c7; exact c7) dL_law_763 rfl ?_
  rw [show scr G (i + 3) = sc (i + 3) from congrFun hsc _]
  obtain ⟨r8, e8, h⟩ := fBd h
  refine fW_cP (fI_V (as := [iv (sc (i + 1)), iv (sc (i + 2)), iv (sc (i + 3))]) (rest := []) miX11_route hg clX11 rfl tc_418 wd_1479 (fRoom_L rfl (by omega) (by omega)) rfl (Nat.le_of_ble_eq_true rfl) dL_law_764) (s_X11_route hg (rsc (i + 1)) (rsc (i + 2)) (rsc (i + 3)) e8) rfl rfl rfl (fun g8 => ?_)
  refine fW_rg (fun hR8 => ?_)
  refine fW_istore 769 (ls' := [some (.ref (gsb G)), some (rv G 0), some (rv G 418), some (rv G 439), some (iv i), some (iv r4.1), some (iv r8.1)]) dL_law_767 rfl rfl (by decide) ?_
  refine fW_aload_n 770 dL_law_769 rfl rfl ?_
  obtain ⟨r9, e9, h⟩ := fBd h
  refine fW_cP (fI_V (as := []) (rest := []) miX11_thrown hg clX11 rfl tc_418 wd_1256 (fRoom_L rfl (by omega) (by omega)) rfl (Nat.le_of_ble_eq_true rfl) dL_law_770) (s_X11_thrown hg  e9) rfl rfl rfl (fun g9 => ?_)
  refine fW_iload 775 dL_law_773 rfl rfl ?_
  refine fW_icmp_eq 778 780 g9 g4 dL_law_775 rfl rfl (fun c10 => ?_) (fun c10 => ?_)
  · replace h := fTt h c10
    refine fW_iload 782 dL_law_780 rfl rfl ?_
    refine fW_if_ne 785 797 g4 dL_law_782 rfl rfl (fun c11 => ?_) (fun c11 => ?_)
    · replace h := fFf h c11
      refine fW_goto 2020 dL_law_797 rfl ?_
      refine fW_wide (c1 := c0 + 6) (s1 := s0 + 36) (by omega) (by omega) ?_
      exact fW_sb (hk r8.2 h) ⟨rfl, rfl, rfl, rfl, rfl, trivial⟩
    · replace h := fTt h c11
      refine fW_aload_n 786 dL_law_785 rfl rfl ?_
      refine fW_iconst 787 dL_law_786 rfl ?_
      refine fW_lald 788 hg tc_439 (by decide) dL_law_787 rfl ?_
      refine fW_iload 790 dL_law_788 rfl rfl ?_
      refine fW_i2l 791 g8 dL_law_790 rfl ?_
      refine fW_lcmp 792 (hR8 439 0) g8 dL_law_791 rfl ?_
      refine fW_if_eq 795 797 (rg_cmp (r8.2 439 0) r8.1) dL_law_792 rfl rfl (fun c12 => ?_) (fun c12 => ?_)
      · replace h := fTt h c12
        refine fW_goto 2020 dL_law_797 rfl ?_
        refine fW_wide (c1 := c0 + 6) (s1 := s0 + 36) (by omega) (by omega) ?_
        exact fW_sb (hk r8.2 h) ⟨rfl, rfl, rfl, rfl, rfl, trivial⟩
      · replace h := fFf h c12
        refine fW_iconst 796 dL_law_795 rfl ?_
        exact absurd h (by simp)
  · replace h := fFf h c10
    refine fW_iconst 779 dL_law_778 rfl ?_
    exact absurd h (by simp)
def law_c12 (sc : Int → Int) (sn : Int) (k : fMem → Option Int) (i : Int) (M : fMem) : Option Int := (if 0 ≤ i + 1 ∧ i + 1 < sn then ((f_L_next (sc (i + 1)) M).bind fun (r2 : Int × fMem) => (if 0 ≤ i + 1 ∧ i + 1 < sn then ((f_X11_next (sc (i + 1)) r2.2).bind fun (r4 : Int × fMem) => ((f_X11_thrown r4.2).bind fun (r5 : Int) => (if r5 = r2.1 then (if r2.1 = 0 then (if (cmpI (r4.2 439 0) r4.1) = 0 then k r4.2 else some 0) else k r4.2) else some 0))) else none)) else none)
set_option maxRecDepth 100000 in
set_option maxHeartbeats 4000000 in
theorem t_law_c12 {G : fG} (hg : gbt G = true) (hL3 : gsn G ≤ 3072) {sc : Int → Int} {sn : Int} (hsc : scr G = sc) (hsn : (gsn G : Int) = sn) (rsc : ∀ i, rg (sc i)) {c0 s0 : Nat} (hc : c0 ≤ 600000) (hs : s0 ≤ 7200000) {k : fMem → Option Int} {i : Int} (gi : rg i) {M : fMem} (hk : ∀ N, k N = some 1 → fW G mL_law (fEL G) (c0 + 6) (s0 + 36) 2020 [some (.ref (gsb G)), some (rv G 0), some (rv G 418), some (rv G 439), some (iv i), none, none] [] N) (h : law_c12 sc sn k i M = some 1) : fW G mL_law (fEL G) c0 s0 800 [some (.ref (gsb G)), some (rv G 0), some (rv G 418), some (rv G 439), some (iv i), none, none] [] M := by
  rw [law_c12] at h
  refine fW_rg (fun hR => ?_)
  refine fW_aload_n 801 dL_law_800 rfl rfl ?_
  refine fW_aload_n 802 dL_law_801 rfl rfl ?_
  refine fW_iload 804 dL_law_802 rfl rfl ?_
  refine fW_iconst 805 dL_law_804 rfl ?_
  refine fW_iadd 806 dL_law_805 rfl ?_
  obtain ⟨c1, h⟩ := fS h
  refine fW_sld 807 hL3 (by rw [← hsn] at c1; exact c1) dL_law_806 rfl ?_
  rw [show scr G (i + 1) = sc (i + 1) from congrFun hsc _]
  refine fW_aload_n 808 dL_law_807 rfl rfl ?_
  obtain ⟨r2, e2, h⟩ := fBd h
  refine fW_invH (as := [rv G 0, iv (sc (i + 1)), rv G 439]) (rest := []) miL_next wd_916 (fRoom_L rfl (by omega) (by omega)) rfl (Nat.le_of_ble_eq_true rfl) dL_law_808 (s_L_next hg (rsc (i + 1)) e2) rfl (fun v9 N9 q9 => ?_)
  obtain ⟨rfl, rfl, g2⟩ := q9
  show fW G mL_law (fEL G) (c0 + 1) (s0 + 6) 811 [some (.ref (gsb G)), some (rv G 0), some (rv G 418), some (rv G 439), some (iv i), none, none] (iv r2.1 :: []) r2.2
  refine fW_rg (fun hR2 => ?_)
  refine fW_istore 813 (ls' := [some (.ref (gsb G)), some (rv G 0), some (rv G 418), some (rv G 439), some (iv i), some (iv r2.1), none]) dL_law_811 rfl rfl (by decide) ?_
  refine fW_aload_n 814 dL_law_813 rfl rfl ?_
  refine fW_aload_n 815 dL_law_814 rfl rfl ?_
  refine fW_iload 817 dL_law_815 rfl rfl ?_
  refine fW_iconst 818 dL_law_817 rfl ?_
  refine fW_iadd 819 dL_law_818 rfl ?_
  obtain ⟨c3, h⟩ := fS h
  refine fW_sld 820 hL3 (by rw [← hsn] at c3; exact c3) dL_law_819 rfl ?_
  rw [show scr G (i + 1) = sc (i + 1) from congrFun hsc _]
  obtain ⟨r4, e4, h⟩ := fBd h
  refine fW_cP (fI_V (as := [iv (sc (i + 1))]) (rest := []) miX11_next hg clX11 rfl tc_418 wd_1392 (fRoom_L rfl (by omega) (by omega)) rfl (Nat.le_of_ble_eq_true rfl) dL_law_820) (s_X11_next hg (rsc (i + 1)) e4) rfl rfl rfl (fun g4 => ?_)
  refine fW_rg (fun hR4 => ?_)
  refine fW_istore 825 (ls' := [some (.ref (gsb G)), some (rv G 0), some (rv G 418), some (rv G 439), some (iv i), some (iv r2.1), some (iv r4.1)]) dL_law_823 rfl rfl (by decide) ?_
  refine fW_aload_n 826 dL_law_825 rfl rfl ?_
  obtain ⟨r5, e5, h⟩ := fBd h
  refine fW_cP (fI_V (as := []) (rest := []) miX11_thrown hg clX11 rfl tc_418 wd_1256 (fRoom_L rfl (by omega) (by omega)) rfl (Nat.le_of_ble_eq_true rfl) dL_law_826) (s_X11_thrown hg  e5) rfl rfl rfl (fun g5 => ?_)
  refine fW_iload 831 dL_law_829 rfl rfl ?_
  refine fW_icmp_eq 834 836 g5 g2 dL_law_831 rfl rfl (fun c6 => ?_) (fun c6 => ?_)
  · replace h := fTt h c6
    refine fW_iload 838 dL_law_836 rfl rfl ?_
    refine fW_if_ne 841 853 g2 dL_law_838 rfl rfl (fun c7 => ?_) (fun c7 => ?_)
    · replace h := fFf h c7
      refine fW_goto 2020 dL_law_853 rfl ?_
      refine fW_wide (c1 := c0 + 6) (s1 := s0 + 36) (by omega) (by omega) ?_
      exact fW_sb (hk r4.2 h) ⟨rfl, rfl, rfl, rfl, rfl, trivial⟩
    · replace h := fTt h c7
      refine fW_aload_n 842 dL_law_841 rfl rfl ?_
      refine fW_iconst 843 dL_law_842 rfl ?_
      refine fW_lald 844 hg tc_439 (by decide) dL_law_843 rfl ?_
      refine fW_iload 846 dL_law_844 rfl rfl ?_
      refine fW_i2l 847 g4 dL_law_846 rfl ?_
      refine fW_lcmp 848 (hR4 439 0) g4 dL_law_847 rfl ?_
      refine fW_if_eq 851 853 (rg_cmp (r4.2 439 0) r4.1) dL_law_848 rfl rfl (fun c8 => ?_) (fun c8 => ?_)
      · replace h := fTt h c8
        refine fW_goto 2020 dL_law_853 rfl ?_
        refine fW_wide (c1 := c0 + 6) (s1 := s0 + 36) (by omega) (by omega) ?_
        exact fW_sb (hk r4.2 h) ⟨rfl, rfl, rfl, rfl, rfl, trivial⟩
      · replace h := fFf h c8
        refine fW_iconst 852 dL_law_851 rfl ?_
        exact absurd h (by simp)
  · replace h := fFf h c6
    refine fW_iconst 835 dL_law_834 rfl ?_
    exact absurd h (by simp)
def law_c13 (sc : Int → Int) (sn : Int) (k : fMem → Option Int) (i : Int) (M : fMem) : Option Int := (if 0 ≤ i + 1 ∧ i + 1 < sn then ((f_L_nth (sc (i + 1)) M).bind fun (r2 : Int × fMem) => (if 0 ≤ i + 1 ∧ i + 1 < sn then ((f_X11_nth (sc (i + 1)) r2.2).bind fun (r4 : Int × fMem) => ((f_X11_thrown r4.2).bind fun (r5 : Int) => (if r5 = r2.1 then (if r2.1 = 0 then (if (cmpI (r4.2 439 0) r4.1) = 0 then k r4.2 else some 0) else k r4.2) else some 0))) else none)) else none)
set_option maxRecDepth 100000 in
set_option maxHeartbeats 4000000 in
theorem t_law_c13 {G : fG} (hg : gbt G = true) (hL3 : gsn G ≤ 3072) {sc : Int → Int} {sn : Int} (hsc : scr G = sc) (hsn : (gsn G : Int) = sn) (rsc : ∀ i, rg (sc i)) {c0 s0 : Nat} (hc : c0 ≤ 600000) (hs : s0 ≤ 7200000) {k : fMem → Option Int} {i : Int} (gi : rg i) {M : fMem} (hk : ∀ N, k N = some 1 → fW G mL_law (fEL G) (c0 + 6) (s0 + 36) 2020 [some (.ref (gsb G)), some (rv G 0), some (rv G 418), some (rv G 439), some (iv i), none, none] [] N) (h : law_c13 sc sn k i M = some 1) : fW G mL_law (fEL G) c0 s0 856 [some (.ref (gsb G)), some (rv G 0), some (rv G 418), some (rv G 439), some (iv i), none, none] [] M := by
  rw [law_c13] at h
  refine fW_rg (fun hR => ?_)
  refine fW_aload_n 857 dL_law_856 rfl rfl ?_
  refine fW_aload_n 858 dL_law_857 rfl rfl ?_
  refine fW_iload 860 dL_law_858 rfl rfl ?_
  refine fW_iconst 861 dL_law_860 rfl ?_
  refine fW_iadd 862 dL_law_861 rfl ?_
  obtain ⟨c1, h⟩ := fS h
  refine fW_sld 863 hL3 (by rw [← hsn] at c1; exact c1) dL_law_862 rfl ?_
  rw [show scr G (i + 1) = sc (i + 1) from congrFun hsc _]
  refine fW_aload_n 864 dL_law_863 rfl rfl ?_
  obtain ⟨r2, e2, h⟩ := fBd h
  refine fW_invH (as := [rv G 0, iv (sc (i + 1)), rv G 439]) (rest := []) miL_nth wd_923 (fRoom_L rfl (by omega) (by omega)) rfl (Nat.le_of_ble_eq_true rfl) dL_law_864 (s_L_nth hg (rsc (i + 1)) e2) rfl (fun v9 N9 q9 => ?_)
  obtain ⟨rfl, rfl, g2⟩ := q9
  show fW G mL_law (fEL G) (c0 + 1) (s0 + 6) 867 [some (.ref (gsb G)), some (rv G 0), some (rv G 418), some (rv G 439), some (iv i), none, none] (iv r2.1 :: []) r2.2
  refine fW_rg (fun hR2 => ?_)
  refine fW_istore 869 (ls' := [some (.ref (gsb G)), some (rv G 0), some (rv G 418), some (rv G 439), some (iv i), some (iv r2.1), none]) dL_law_867 rfl rfl (by decide) ?_
  refine fW_aload_n 870 dL_law_869 rfl rfl ?_
  refine fW_aload_n 871 dL_law_870 rfl rfl ?_
  refine fW_iload 873 dL_law_871 rfl rfl ?_
  refine fW_iconst 874 dL_law_873 rfl ?_
  refine fW_iadd 875 dL_law_874 rfl ?_
  obtain ⟨c3, h⟩ := fS h
  refine fW_sld 876 hL3 (by rw [← hsn] at c3; exact c3) dL_law_875 rfl ?_
  rw [show scr G (i + 1) = sc (i + 1) from congrFun hsc _]
  obtain ⟨r4, e4, h⟩ := fBd h
  refine fW_cP (fI_V (as := [iv (sc (i + 1))]) (rest := []) miX11_nth hg clX11 rfl tc_418 wd_1400 (fRoom_L rfl (by omega) (by omega)) rfl (Nat.le_of_ble_eq_true rfl) dL_law_876) (s_X11_nth hg (rsc (i + 1)) e4) rfl rfl rfl (fun g4 => ?_)
  refine fW_rg (fun hR4 => ?_)
  refine fW_istore 881 (ls' := [some (.ref (gsb G)), some (rv G 0), some (rv G 418), some (rv G 439), some (iv i), some (iv r2.1), some (iv r4.1)]) dL_law_879 rfl rfl (by decide) ?_
  refine fW_aload_n 882 dL_law_881 rfl rfl ?_
  obtain ⟨r5, e5, h⟩ := fBd h
  refine fW_cP (fI_V (as := []) (rest := []) miX11_thrown hg clX11 rfl tc_418 wd_1256 (fRoom_L rfl (by omega) (by omega)) rfl (Nat.le_of_ble_eq_true rfl) dL_law_882) (s_X11_thrown hg  e5) rfl rfl rfl (fun g5 => ?_)
  refine fW_iload 887 dL_law_885 rfl rfl ?_
  refine fW_icmp_eq 890 892 g5 g2 dL_law_887 rfl rfl (fun c6 => ?_) (fun c6 => ?_)
  · replace h := fTt h c6
    refine fW_iload 894 dL_law_892 rfl rfl ?_
    refine fW_if_ne 897 909 g2 dL_law_894 rfl rfl (fun c7 => ?_) (fun c7 => ?_)
    · replace h := fFf h c7
      refine fW_goto 2020 dL_law_909 rfl ?_
      refine fW_wide (c1 := c0 + 6) (s1 := s0 + 36) (by omega) (by omega) ?_
      exact fW_sb (hk r4.2 h) ⟨rfl, rfl, rfl, rfl, rfl, trivial⟩
    · replace h := fTt h c7
      refine fW_aload_n 898 dL_law_897 rfl rfl ?_
      refine fW_iconst 899 dL_law_898 rfl ?_
      refine fW_lald 900 hg tc_439 (by decide) dL_law_899 rfl ?_
      refine fW_iload 902 dL_law_900 rfl rfl ?_
      refine fW_i2l 903 g4 dL_law_902 rfl ?_
      refine fW_lcmp 904 (hR4 439 0) g4 dL_law_903 rfl ?_
      refine fW_if_eq 907 909 (rg_cmp (r4.2 439 0) r4.1) dL_law_904 rfl rfl (fun c8 => ?_) (fun c8 => ?_)
      · replace h := fTt h c8
        refine fW_goto 2020 dL_law_909 rfl ?_
        refine fW_wide (c1 := c0 + 6) (s1 := s0 + 36) (by omega) (by omega) ?_
        exact fW_sb (hk r4.2 h) ⟨rfl, rfl, rfl, rfl, rfl, trivial⟩
      · replace h := fFf h c8
        refine fW_iconst 908 dL_law_907 rfl ?_
        exact absurd h (by simp)
  · replace h := fFf h c6
    refine fW_iconst 891 dL_law_890 rfl ?_
    exact absurd h (by simp)
def law_c14 (sc : Int → Int) (sn : Int) (k : fMem → Option Int) (i : Int) (M : fMem) : Option Int := (if 0 ≤ i + 1 ∧ i + 1 < sn then ((f_L_waste (sc (i + 1)) M).bind fun (r2 : Int × fMem) => (if 0 ≤ i + 1 ∧ i + 1 < sn then ((f_X11_waste (sc (i + 1)) r2.2).bind fun (r4 : Int × fMem) => ((f_X11_thrown r4.2).bind fun (r5 : Int) => (if r5 = r2.1 then (if r2.1 = 0 then (if (cmpI (r4.2 439 0) r4.1) = 0 then k r4.2 else some 0) else k r4.2) else some 0))) else none)) else none)
set_option maxRecDepth 100000 in
set_option maxHeartbeats 4000000 in
theorem t_law_c14 {G : fG} (hg : gbt G = true) (hL3 : gsn G ≤ 3072) {sc : Int → Int} {sn : Int} (hsc : scr G = sc) (hsn : (gsn G : Int) = sn) (rsc : ∀ i, rg (sc i)) {c0 s0 : Nat} (hc : c0 ≤ 600000) (hs : s0 ≤ 7200000) {k : fMem → Option Int} {i : Int} (gi : rg i) {M : fMem} (hk : ∀ N, k N = some 1 → fW G mL_law (fEL G) (c0 + 6) (s0 + 36) 2020 [some (.ref (gsb G)), some (rv G 0), some (rv G 418), some (rv G 439), some (iv i), none, none] [] N) (h : law_c14 sc sn k i M = some 1) : fW G mL_law (fEL G) c0 s0 912 [some (.ref (gsb G)), some (rv G 0), some (rv G 418), some (rv G 439), some (iv i), none, none] [] M := by
  rw [law_c14] at h
  refine fW_rg (fun hR => ?_)
  refine fW_aload_n 913 dL_law_912 rfl rfl ?_
  refine fW_aload_n 914 dL_law_913 rfl rfl ?_
  refine fW_iload 916 dL_law_914 rfl rfl ?_
  refine fW_iconst 917 dL_law_916 rfl ?_
  refine fW_iadd 918 dL_law_917 rfl ?_
  obtain ⟨c1, h⟩ := fS h
  refine fW_sld 919 hL3 (by rw [← hsn] at c1; exact c1) dL_law_918 rfl ?_
  rw [show scr G (i + 1) = sc (i + 1) from congrFun hsc _]
  refine fW_aload_n 920 dL_law_919 rfl rfl ?_
  obtain ⟨r2, e2, h⟩ := fBd h
  refine fW_invH (as := [rv G 0, iv (sc (i + 1)), rv G 439]) (rest := []) miL_waste wd_931 (fRoom_L rfl (by omega) (by omega)) rfl (Nat.le_of_ble_eq_true rfl) dL_law_920 (s_L_waste hg (rsc (i + 1)) e2) rfl (fun v9 N9 q9 => ?_)
  obtain ⟨rfl, rfl, g2⟩ := q9
  show fW G mL_law (fEL G) (c0 + 1) (s0 + 6) 923 [some (.ref (gsb G)), some (rv G 0), some (rv G 418), some (rv G 439), some (iv i), none, none] (iv r2.1 :: []) r2.2
  refine fW_rg (fun hR2 => ?_)
  refine fW_istore 925 (ls' := [some (.ref (gsb G)), some (rv G 0), some (rv G 418), some (rv G 439), some (iv i), some (iv r2.1), none]) dL_law_923 rfl rfl (by decide) ?_
  refine fW_aload_n 926 dL_law_925 rfl rfl ?_
  refine fW_aload_n 927 dL_law_926 rfl rfl ?_
  refine fW_iload 929 dL_law_927 rfl rfl ?_
  refine fW_iconst 930 dL_law_929 rfl ?_
  refine fW_iadd 931 dL_law_930 rfl ?_
  obtain ⟨c3, h⟩ := fS h
  refine fW_sld 932 hL3 (by rw [← hsn] at c3; exact c3) dL_law_931 rfl ?_
  rw [show scr G (i + 1) = sc (i + 1) from congrFun hsc _]
  obtain ⟨r4, e4, h⟩ := fBd h
  refine fW_cP (fI_V (as := [iv (sc (i + 1))]) (rest := []) miX11_waste hg clX11 rfl tc_418 wd_1415 (fRoom_L rfl (by omega) (by omega)) rfl (Nat.le_of_ble_eq_true rfl) dL_law_932) (s_X11_waste hg (rsc (i + 1)) e4) rfl rfl rfl (fun g4 => ?_)
  refine fW_rg (fun hR4 => ?_)
  refine fW_istore 937 (ls' := [some (.ref (gsb G)), some (rv G 0), some (rv G 418), some (rv G 439), some (iv i), some (iv r2.1), some (iv r4.1)]) dL_law_935 rfl rfl (by decide) ?_
  refine fW_aload_n 938 dL_law_937 rfl rfl ?_
  obtain ⟨r5, e5, h⟩ := fBd h
  refine fW_cP (fI_V (as := []) (rest := []) miX11_thrown hg clX11 rfl tc_418 wd_1256 (fRoom_L rfl (by omega) (by omega)) rfl (Nat.le_of_ble_eq_true rfl) dL_law_938) (s_X11_thrown hg  e5) rfl rfl rfl (fun g5 => ?_)
  refine fW_iload 943 dL_law_941 rfl rfl ?_
  refine fW_icmp_eq 946 948 g5 g2 dL_law_943 rfl rfl (fun c6 => ?_) (fun c6 => ?_)
  · replace h := fTt h c6
    refine fW_iload 950 dL_law_948 rfl rfl ?_
    refine fW_if_ne 953 965 g2 dL_law_950 rfl rfl (fun c7 => ?_) (fun c7 => ?_)
    · replace h := fFf h c7
      refine fW_goto 2020 dL_law_965 rfl ?_
      refine fW_wide (c1 := c0 + 6) (s1 := s0 + 36) (by omega) (by omega) ?_
      exact fW_sb (hk r4.2 h) ⟨rfl, rfl, rfl, rfl, rfl, trivial⟩
    · replace h := fTt h c7
      refine fW_aload_n 954 dL_law_953 rfl rfl ?_
      refine fW_iconst 955 dL_law_954 rfl ?_
      refine fW_lald 956 hg tc_439 (by decide) dL_law_955 rfl ?_
      refine fW_iload 958 dL_law_956 rfl rfl ?_
      refine fW_i2l 959 g4 dL_law_958 rfl ?_
      refine fW_lcmp 960 (hR4 439 0) g4 dL_law_959 rfl ?_
      refine fW_if_eq 963 965 (rg_cmp (r4.2 439 0) r4.1) dL_law_960 rfl rfl (fun c8 => ?_) (fun c8 => ?_)
      · replace h := fTt h c8
        refine fW_goto 2020 dL_law_965 rfl ?_
        refine fW_wide (c1 := c0 + 6) (s1 := s0 + 36) (by omega) (by omega) ?_
        exact fW_sb (hk r4.2 h) ⟨rfl, rfl, rfl, rfl, rfl, trivial⟩
      · replace h := fFf h c8
        refine fW_iconst 964 dL_law_963 rfl ?_
        exact absurd h (by simp)
  · replace h := fFf h c6
    refine fW_iconst 947 dL_law_946 rfl ?_
    exact absurd h (by simp)
def law_c15 (sc : Int → Int) (sn : Int) (k : fMem → Option Int) (i : Int) (M : fMem) : Option Int := (if 0 ≤ i + 1 ∧ i + 1 < sn then (if 0 ≤ i + 2 ∧ i + 2 < sn then ((f_L_many (sc (i + 1)) (sc (i + 2)) M).bind fun (r3 : Int × fMem) => (if 0 ≤ i + 1 ∧ i + 1 < sn then (if 0 ≤ i + 2 ∧ i + 2 < sn then ((f_X11_many (sc (i + 1)) (sc (i + 2)) r3.2).bind fun (r6 : Int × fMem) => ((f_X11_thrown r6.2).bind fun (r7 : Int) => (if r7 = r3.1 then (if r3.1 = 0 then (if (cmpI (r6.2 439 0) r6.1) = 0 then k r6.2 else some 0) else k r6.2) else some 0))) else none) else none)) else none) else none)
set_option maxRecDepth 100000 in
set_option maxHeartbeats 4000000 in
theorem t_law_c15 {G : fG} (hg : gbt G = true) (hL3 : gsn G ≤ 3072) {sc : Int → Int} {sn : Int} (hsc : scr G = sc) (hsn : (gsn G : Int) = sn) (rsc : ∀ i, rg (sc i)) {c0 s0 : Nat} (hc : c0 ≤ 600000) (hs : s0 ≤ 7200000) {k : fMem → Option Int} {i : Int} (gi : rg i) {M : fMem} (hk : ∀ N, k N = some 1 → fW G mL_law (fEL G) (c0 + 6) (s0 + 36) 2020 [some (.ref (gsb G)), some (rv G 0), some (rv G 418), some (rv G 439), some (iv i), none, none] [] N) (h : law_c15 sc sn k i M = some 1) : fW G mL_law (fEL G) c0 s0 968 [some (.ref (gsb G)), some (rv G 0), some (rv G 418), some (rv G 439), some (iv i), none, none] [] M := by
  rw [law_c15] at h
  refine fW_rg (fun hR => ?_)
  refine fW_aload_n 969 dL_law_968 rfl rfl ?_
  refine fW_aload_n 970 dL_law_969 rfl rfl ?_
  refine fW_iload 972 dL_law_970 rfl rfl ?_
  refine fW_iconst 973 dL_law_972 rfl ?_
  refine fW_iadd 974 dL_law_973 rfl ?_
  obtain ⟨c1, h⟩ := fS h
  refine fW_sld 975 hL3 (by rw [← hsn] at c1; exact c1) dL_law_974 rfl ?_
  rw [show scr G (i + 1) = sc (i + 1) from congrFun hsc _]
  refine fW_aload_n 976 dL_law_975 rfl rfl ?_
  refine fW_iload 978 dL_law_976 rfl rfl ?_
  refine fW_iconst 979 dL_law_978 rfl ?_
  refine fW_iadd 980 dL_law_979 rfl ?_
  obtain ⟨c2, h⟩ := fS h
  refine fW_sld 981 hL3 (by rw [← hsn] at c2; exact c2) dL_law_980 rfl ?_
  rw [show scr G (i + 2) = sc (i + 2) from congrFun hsc _]
  refine fW_aload_n 982 dL_law_981 rfl rfl ?_
  obtain ⟨r3, e3, h⟩ := fBd h
  refine fW_invH (as := [rv G 0, iv (sc (i + 1)), iv (sc (i + 2)), rv G 439]) (rest := []) miL_many wd_946 (fRoom_L rfl (by omega) (by omega)) rfl (Nat.le_of_ble_eq_true rfl) dL_law_982 (s_L_many hg (rsc (i + 1)) (rsc (i + 2)) e3) rfl (fun v9 N9 q9 => ?_)
  obtain ⟨rfl, rfl, g3⟩ := q9
  show fW G mL_law (fEL G) (c0 + 2) (s0 + 12) 985 [some (.ref (gsb G)), some (rv G 0), some (rv G 418), some (rv G 439), some (iv i), none, none] (iv r3.1 :: []) r3.2
  refine fW_rg (fun hR3 => ?_)
  refine fW_istore 987 (ls' := [some (.ref (gsb G)), some (rv G 0), some (rv G 418), some (rv G 439), some (iv i), some (iv r3.1), none]) dL_law_985 rfl rfl (by decide) ?_
  refine fW_aload_n 988 dL_law_987 rfl rfl ?_
  refine fW_aload_n 989 dL_law_988 rfl rfl ?_
  refine fW_iload 991 dL_law_989 rfl rfl ?_
  refine fW_iconst 992 dL_law_991 rfl ?_
  refine fW_iadd 993 dL_law_992 rfl ?_
  obtain ⟨c4, h⟩ := fS h
  refine fW_sld 994 hL3 (by rw [← hsn] at c4; exact c4) dL_law_993 rfl ?_
  rw [show scr G (i + 1) = sc (i + 1) from congrFun hsc _]
  refine fW_aload_n 995 dL_law_994 rfl rfl ?_
  refine fW_iload 997 dL_law_995 rfl rfl ?_
  refine fW_iconst 998 dL_law_997 rfl ?_
  refine fW_iadd 999 dL_law_998 rfl ?_
  obtain ⟨c5, h⟩ := fS h
  refine fW_sld 1000 hL3 (by rw [← hsn] at c5; exact c5) dL_law_999 rfl ?_
  rw [show scr G (i + 2) = sc (i + 2) from congrFun hsc _]
  obtain ⟨r6, e6, h⟩ := fBd h
  refine fW_cP (fI_V (as := [iv (sc (i + 1)), iv (sc (i + 2))]) (rest := []) miX11_many hg clX11 rfl tc_418 wd_1404 (fRoom_L rfl (by omega) (by omega)) rfl (Nat.le_of_ble_eq_true rfl) dL_law_1000) (s_X11_many hg (rsc (i + 1)) (rsc (i + 2)) e6) rfl rfl rfl (fun g6 => ?_)
  refine fW_rg (fun hR6 => ?_)
  refine fW_istore 1005 (ls' := [some (.ref (gsb G)), some (rv G 0), some (rv G 418), some (rv G 439), some (iv i), some (iv r3.1), some (iv r6.1)]) dL_law_1003 rfl rfl (by decide) ?_
  refine fW_aload_n 1006 dL_law_1005 rfl rfl ?_
  obtain ⟨r7, e7, h⟩ := fBd h
  refine fW_cP (fI_V (as := []) (rest := []) miX11_thrown hg clX11 rfl tc_418 wd_1256 (fRoom_L rfl (by omega) (by omega)) rfl (Nat.le_of_ble_eq_true rfl) dL_law_1006) (s_X11_thrown hg  e7) rfl rfl rfl (fun g7 => ?_)
  refine fW_iload 1011 dL_law_1009 rfl rfl ?_
  refine fW_icmp_eq 1014 1016 g7 g3 dL_law_1011 rfl rfl (fun c8 => ?_) (fun c8 => ?_)
  · replace h := fTt h c8
    refine fW_iload 1018 dL_law_1016 rfl rfl ?_
    refine fW_if_ne 1021 1033 g3 dL_law_1018 rfl rfl (fun c9 => ?_) (fun c9 => ?_)
    · replace h := fFf h c9
      refine fW_goto 2020 dL_law_1033 rfl ?_
      refine fW_wide (c1 := c0 + 6) (s1 := s0 + 36) (by omega) (by omega) ?_
      exact fW_sb (hk r6.2 h) ⟨rfl, rfl, rfl, rfl, rfl, trivial⟩
    · replace h := fTt h c9
      refine fW_aload_n 1022 dL_law_1021 rfl rfl ?_
      refine fW_iconst 1023 dL_law_1022 rfl ?_
      refine fW_lald 1024 hg tc_439 (by decide) dL_law_1023 rfl ?_
      refine fW_iload 1026 dL_law_1024 rfl rfl ?_
      refine fW_i2l 1027 g6 dL_law_1026 rfl ?_
      refine fW_lcmp 1028 (hR6 439 0) g6 dL_law_1027 rfl ?_
      refine fW_if_eq 1031 1033 (rg_cmp (r6.2 439 0) r6.1) dL_law_1028 rfl rfl (fun c10 => ?_) (fun c10 => ?_)
      · replace h := fTt h c10
        refine fW_goto 2020 dL_law_1033 rfl ?_
        refine fW_wide (c1 := c0 + 6) (s1 := s0 + 36) (by omega) (by omega) ?_
        exact fW_sb (hk r6.2 h) ⟨rfl, rfl, rfl, rfl, rfl, trivial⟩
      · replace h := fFf h c10
        refine fW_iconst 1032 dL_law_1031 rfl ?_
        exact absurd h (by simp)
  · replace h := fFf h c8
    refine fW_iconst 1015 dL_law_1014 rfl ?_
    exact absurd h (by simp)
def law_c16 (sc : Int → Int) (sn : Int) (k : fMem → Option Int) (i : Int) (M : fMem) : Option Int := (if 0 ≤ i + 1 ∧ i + 1 < sn then (if 0 ≤ i + 2 ∧ i + 2 < sn then ((f_L_trace (sc (i + 1)) (sc (i + 2)) M).bind fun (r3 : Int × fMem) => (if 0 ≤ i + 1 ∧ i + 1 < sn then (if 0 ≤ i + 2 ∧ i + 2 < sn then ((f_X11_trace (sc (i + 1)) (sc (i + 2)) r3.2).bind fun (r6 : Int × fMem) => ((f_X11_thrown r6.2).bind fun (r7 : Int) => (if r7 = r3.1 then (if r3.1 = 0 then (if (cmpI (r6.2 439 0) r6.1) = 0 then k r6.2 else some 0) else k r6.2) else some 0))) else none) else none)) else none) else none)
set_option maxRecDepth 100000 in
set_option maxHeartbeats 4000000 in
theorem t_law_c16 {G : fG} (hg : gbt G = true) (hL3 : gsn G ≤ 3072) {sc : Int → Int} {sn : Int} (hsc : scr G = sc) (hsn : (gsn G : Int) = sn) (rsc : ∀ i, rg (sc i)) {c0 s0 : Nat} (hc : c0 ≤ 600000) (hs : s0 ≤ 7200000) {k : fMem → Option Int} {i : Int} (gi : rg i) {M : fMem} (hk : ∀ N, k N = some 1 → fW G mL_law (fEL G) (c0 + 6) (s0 + 36) 2020 [some (.ref (gsb G)), some (rv G 0), some (rv G 418), some (rv G 439), some (iv i), none, none] [] N) (h : law_c16 sc sn k i M = some 1) : fW G mL_law (fEL G) c0 s0 1036 [some (.ref (gsb G)), some (rv G 0), some (rv G 418), some (rv G 439), some (iv i), none, none] [] M := by
  rw [law_c16] at h
  refine fW_rg (fun hR => ?_)
  refine fW_aload_n 1037 dL_law_1036 rfl rfl ?_
  refine fW_aload_n 1038 dL_law_1037 rfl rfl ?_
  refine fW_iload 1040 dL_law_1038 rfl rfl ?_
  refine fW_iconst 1041 dL_law_1040 rfl ?_
  refine fW_iadd 1042 dL_law_1041 rfl ?_
  obtain ⟨c1, h⟩ := fS h
  refine fW_sld 1043 hL3 (by rw [← hsn] at c1; exact c1) dL_law_1042 rfl ?_
  rw [show scr G (i + 1) = sc (i + 1) from congrFun hsc _]
  refine fW_aload_n 1044 dL_law_1043 rfl rfl ?_
  refine fW_iload 1046 dL_law_1044 rfl rfl ?_
  refine fW_iconst 1047 dL_law_1046 rfl ?_
  refine fW_iadd 1048 dL_law_1047 rfl ?_
  obtain ⟨c2, h⟩ := fS h
  refine fW_sld 1049 hL3 (by rw [← hsn] at c2; exact c2) dL_law_1048 rfl ?_
  rw [show scr G (i + 2) = sc (i + 2) from congrFun hsc _]
  refine fW_aload_n 1050 dL_law_1049 rfl rfl ?_
  obtain ⟨r3, e3, h⟩ := fBd h
  refine fW_invH (as := [rv G 0, iv (sc (i + 1)), iv (sc (i + 2)), rv G 439]) (rest := []) miL_trace wd_953 (fRoom_L rfl (by omega) (by omega)) rfl (Nat.le_of_ble_eq_true rfl) dL_law_1050 (s_L_trace hg (rsc (i + 1)) (rsc (i + 2)) e3) rfl (fun v9 N9 q9 => ?_)
  obtain ⟨rfl, rfl, g3⟩ := q9
  show fW G mL_law (fEL G) (c0 + 2) (s0 + 12) 1053 [some (.ref (gsb G)), some (rv G 0), some (rv G 418), some (rv G 439), some (iv i), none, none] (iv r3.1 :: []) r3.2
  refine fW_rg (fun hR3 => ?_)
  refine fW_istore 1055 (ls' := [some (.ref (gsb G)), some (rv G 0), some (rv G 418), some (rv G 439), some (iv i), some (iv r3.1), none]) dL_law_1053 rfl rfl (by decide) ?_
  refine fW_aload_n 1056 dL_law_1055 rfl rfl ?_
  refine fW_aload_n 1057 dL_law_1056 rfl rfl ?_
  refine fW_iload 1059 dL_law_1057 rfl rfl ?_
  refine fW_iconst 1060 dL_law_1059 rfl ?_
  refine fW_iadd 1061 dL_law_1060 rfl ?_
  obtain ⟨c4, h⟩ := fS h
  refine fW_sld 1062 hL3 (by rw [← hsn] at c4; exact c4) dL_law_1061 rfl ?_
  rw [show scr G (i + 1) = sc (i + 1) from congrFun hsc _]
  refine fW_aload_n 1063 dL_law_1062 rfl rfl ?_
  refine fW_iload 1065 dL_law_1063 rfl rfl ?_
  refine fW_iconst 1066 dL_law_1065 rfl ?_
  refine fW_iadd 1067 dL_law_1066 rfl ?_
  obtain ⟨c5, h⟩ := fS h
  refine fW_sld 1068 hL3 (by rw [← hsn] at c5; exact c5) dL_law_1067 rfl ?_
  rw [show scr G (i + 2) = sc (i + 2) from congrFun hsc _]
  obtain ⟨r6, e6, h⟩ := fBd h
  refine fW_cP (fI_V (as := [iv (sc (i + 1)), iv (sc (i + 2))]) (rest := []) miX11_trace hg clX11 rfl tc_418 wd_1408 (fRoom_L rfl (by omega) (by omega)) rfl (Nat.le_of_ble_eq_true rfl) dL_law_1068) (s_X11_trace hg (rsc (i + 1)) (rsc (i + 2)) e6) rfl rfl rfl (fun g6 => ?_)
  refine fW_rg (fun hR6 => ?_)
  refine fW_istore 1073 (ls' := [some (.ref (gsb G)), some (rv G 0), some (rv G 418), some (rv G 439), some (iv i), some (iv r3.1), some (iv r6.1)]) dL_law_1071 rfl rfl (by decide) ?_
  refine fW_aload_n 1074 dL_law_1073 rfl rfl ?_
  obtain ⟨r7, e7, h⟩ := fBd h
  refine fW_cP (fI_V (as := []) (rest := []) miX11_thrown hg clX11 rfl tc_418 wd_1256 (fRoom_L rfl (by omega) (by omega)) rfl (Nat.le_of_ble_eq_true rfl) dL_law_1074) (s_X11_thrown hg  e7) rfl rfl rfl (fun g7 => ?_)
  refine fW_iload 1079 dL_law_1077 rfl rfl ?_
  refine fW_icmp_eq 1082 1084 g7 g3 dL_law_1079 rfl rfl (fun c8 => ?_) (fun c8 => ?_)
  · replace h := fTt h c8
    refine fW_iload 1086 dL_law_1084 rfl rfl ?_
    refine fW_if_ne 1089 1101 g3 dL_law_1086 rfl rfl (fun c9 => ?_) (fun c9 => ?_)
    · replace h := fFf h c9
      refine fW_goto 2020 dL_law_1101 rfl ?_
      refine fW_wide (c1 := c0 + 6) (s1 := s0 + 36) (by omega) (by omega) ?_
      exact fW_sb (hk r6.2 h) ⟨rfl, rfl, rfl, rfl, rfl, trivial⟩
    · replace h := fTt h c9
      refine fW_aload_n 1090 dL_law_1089 rfl rfl ?_
      refine fW_iconst 1091 dL_law_1090 rfl ?_
      refine fW_lald 1092 hg tc_439 (by decide) dL_law_1091 rfl ?_
      refine fW_iload 1094 dL_law_1092 rfl rfl ?_
      refine fW_i2l 1095 g6 dL_law_1094 rfl ?_
      refine fW_lcmp 1096 (hR6 439 0) g6 dL_law_1095 rfl ?_
      refine fW_if_eq 1099 1101 (rg_cmp (r6.2 439 0) r6.1) dL_law_1096 rfl rfl (fun c10 => ?_) (fun c10 => ?_)
      · replace h := fTt h c10
        refine fW_goto 2020 dL_law_1101 rfl ?_
        refine fW_wide (c1 := c0 + 6) (s1 := s0 + 36) (by omega) (by omega) ?_
        exact fW_sb (hk r6.2 h) ⟨rfl, rfl, rfl, rfl, rfl, trivial⟩
      · replace h := fFf h c10
        refine fW_iconst 1100 dL_law_1099 rfl ?_
        exact absurd h (by simp)
  · replace h := fFf h c8
    refine fW_iconst 1083 dL_law_1082 rfl ?_
    exact absurd h (by simp)
def law_c17 (sc : Int → Int) (sn : Int) (k : fMem → Option Int) (i : Int) (M : fMem) : Option Int := (if 0 ≤ i + 1 ∧ i + 1 < sn then (if 0 ≤ i + 2 ∧ i + 2 < sn then ((f_L_level (sc (i + 1)) (sc (i + 2)) M).bind fun (r3 : Int × fMem) => (if 0 ≤ i + 1 ∧ i + 1 < sn then (if 0 ≤ i + 2 ∧ i + 2 < sn then ((f_X11_level (sc (i + 1)) (sc (i + 2)) r3.2).bind fun (r6 : Int × fMem) => ((f_X11_thrown r6.2).bind fun (r7 : Int) => (if r7 = r3.1 then (if r3.1 = 0 then (if (cmpI (r6.2 439 0) r6.1) = 0 then k r6.2 else some 0) else k r6.2) else some 0))) else none) else none)) else none) else none)
set_option maxRecDepth 100000 in
set_option maxHeartbeats 4000000 in
theorem t_law_c17 {G : fG} (hg : gbt G = true) (hL3 : gsn G ≤ 3072) {sc : Int → Int} {sn : Int} (hsc : scr G = sc) (hsn : (gsn G : Int) = sn) (rsc : ∀ i, rg (sc i)) {c0 s0 : Nat} (hc : c0 ≤ 600000) (hs : s0 ≤ 7200000) {k : fMem → Option Int} {i : Int} (gi : rg i) {M : fMem} (hk : ∀ N, k N = some 1 → fW G mL_law (fEL G) (c0 + 6) (s0 + 36) 2020 [some (.ref (gsb G)), some (rv G 0), some (rv G 418), some (rv G 439), some (iv i), none, none] [] N) (h : law_c17 sc sn k i M = some 1) : fW G mL_law (fEL G) c0 s0 1104 [some (.ref (gsb G)), some (rv G 0), some (rv G 418), some (rv G 439), some (iv i), none, none] [] M := by
  rw [law_c17] at h
  refine fW_rg (fun hR => ?_)
  refine fW_aload_n 1105 dL_law_1104 rfl rfl ?_
  refine fW_aload_n 1106 dL_law_1105 rfl rfl ?_
  refine fW_iload 1108 dL_law_1106 rfl rfl ?_
  refine fW_iconst 1109 dL_law_1108 rfl ?_
  refine fW_iadd 1110 dL_law_1109 rfl ?_
  obtain ⟨c1, h⟩ := fS h
  refine fW_sld 1111 hL3 (by rw [← hsn] at c1; exact c1) dL_law_1110 rfl ?_
  rw [show scr G (i + 1) = sc (i + 1) from congrFun hsc _]
  refine fW_aload_n 1112 dL_law_1111 rfl rfl ?_
  refine fW_iload 1114 dL_law_1112 rfl rfl ?_
  refine fW_iconst 1115 dL_law_1114 rfl ?_
  refine fW_iadd 1116 dL_law_1115 rfl ?_
  obtain ⟨c2, h⟩ := fS h
  refine fW_sld 1117 hL3 (by rw [← hsn] at c2; exact c2) dL_law_1116 rfl ?_
  rw [show scr G (i + 2) = sc (i + 2) from congrFun hsc _]
  refine fW_aload_n 1118 dL_law_1117 rfl rfl ?_
  obtain ⟨r3, e3, h⟩ := fBd h
  refine fW_invH (as := [rv G 0, iv (sc (i + 1)), iv (sc (i + 2)), rv G 439]) (rest := []) miL_level wd_965 (fRoom_L rfl (by omega) (by omega)) rfl (Nat.le_of_ble_eq_true rfl) dL_law_1118 (s_L_level hg (rsc (i + 1)) (rsc (i + 2)) e3) rfl (fun v9 N9 q9 => ?_)
  obtain ⟨rfl, rfl, g3⟩ := q9
  show fW G mL_law (fEL G) (c0 + 2) (s0 + 12) 1121 [some (.ref (gsb G)), some (rv G 0), some (rv G 418), some (rv G 439), some (iv i), none, none] (iv r3.1 :: []) r3.2
  refine fW_rg (fun hR3 => ?_)
  refine fW_istore 1123 (ls' := [some (.ref (gsb G)), some (rv G 0), some (rv G 418), some (rv G 439), some (iv i), some (iv r3.1), none]) dL_law_1121 rfl rfl (by decide) ?_
  refine fW_aload_n 1124 dL_law_1123 rfl rfl ?_
  refine fW_aload_n 1125 dL_law_1124 rfl rfl ?_
  refine fW_iload 1127 dL_law_1125 rfl rfl ?_
  refine fW_iconst 1128 dL_law_1127 rfl ?_
  refine fW_iadd 1129 dL_law_1128 rfl ?_
  obtain ⟨c4, h⟩ := fS h
  refine fW_sld 1130 hL3 (by rw [← hsn] at c4; exact c4) dL_law_1129 rfl ?_
  rw [show scr G (i + 1) = sc (i + 1) from congrFun hsc _]
  refine fW_aload_n 1131 dL_law_1130 rfl rfl ?_
  refine fW_iload 1133 dL_law_1131 rfl rfl ?_
  refine fW_iconst 1134 dL_law_1133 rfl ?_
  refine fW_iadd 1135 dL_law_1134 rfl ?_
  obtain ⟨c5, h⟩ := fS h
  refine fW_sld 1136 hL3 (by rw [← hsn] at c5; exact c5) dL_law_1135 rfl ?_
  rw [show scr G (i + 2) = sc (i + 2) from congrFun hsc _]
  obtain ⟨r6, e6, h⟩ := fBd h
  refine fW_cP (fI_V (as := [iv (sc (i + 1)), iv (sc (i + 2))]) (rest := []) miX11_level hg clX11 rfl tc_418 wd_1505 (fRoom_L rfl (by omega) (by omega)) rfl (Nat.le_of_ble_eq_true rfl) dL_law_1136) (s_X11_level hg (rsc (i + 1)) (rsc (i + 2)) e6) rfl rfl rfl (fun g6 => ?_)
  refine fW_rg (fun hR6 => ?_)
  refine fW_istore 1141 (ls' := [some (.ref (gsb G)), some (rv G 0), some (rv G 418), some (rv G 439), some (iv i), some (iv r3.1), some (iv r6.1)]) dL_law_1139 rfl rfl (by decide) ?_
  refine fW_aload_n 1142 dL_law_1141 rfl rfl ?_
  obtain ⟨r7, e7, h⟩ := fBd h
  refine fW_cP (fI_V (as := []) (rest := []) miX11_thrown hg clX11 rfl tc_418 wd_1256 (fRoom_L rfl (by omega) (by omega)) rfl (Nat.le_of_ble_eq_true rfl) dL_law_1142) (s_X11_thrown hg  e7) rfl rfl rfl (fun g7 => ?_)
  refine fW_iload 1147 dL_law_1145 rfl rfl ?_
  refine fW_icmp_eq 1150 1152 g7 g3 dL_law_1147 rfl rfl (fun c8 => ?_) (fun c8 => ?_)
  · replace h := fTt h c8
    refine fW_iload 1154 dL_law_1152 rfl rfl ?_
    refine fW_if_ne 1157 1169 g3 dL_law_1154 rfl rfl (fun c9 => ?_) (fun c9 => ?_)
    · replace h := fFf h c9
      refine fW_goto 2020 dL_law_1169 rfl ?_
      refine fW_wide (c1 := c0 + 6) (s1 := s0 + 36) (by omega) (by omega) ?_
      exact fW_sb (hk r6.2 h) ⟨rfl, rfl, rfl, rfl, rfl, trivial⟩
    · replace h := fTt h c9
      refine fW_aload_n 1158 dL_law_1157 rfl rfl ?_
      refine fW_iconst 1159 dL_law_1158 rfl ?_
      refine fW_lald 1160 hg tc_439 (by decide) dL_law_1159 rfl ?_
      refine fW_iload 1162 dL_law_1160 rfl rfl ?_
      refine fW_i2l 1163 g6 dL_law_1162 rfl ?_
      refine fW_lcmp 1164 (hR6 439 0) g6 dL_law_1163 rfl ?_
      refine fW_if_eq 1167 1169 (rg_cmp (r6.2 439 0) r6.1) dL_law_1164 rfl rfl (fun c10 => ?_) (fun c10 => ?_)
      · replace h := fTt h c10
        refine fW_goto 2020 dL_law_1169 rfl ?_
        refine fW_wide (c1 := c0 + 6) (s1 := s0 + 36) (by omega) (by omega) ?_
        exact fW_sb (hk r6.2 h) ⟨rfl, rfl, rfl, rfl, rfl, trivial⟩
      · replace h := fFf h c10
        refine fW_iconst 1168 dL_law_1167 rfl ?_
        exact absurd h (by simp)
  · replace h := fFf h c8
    refine fW_iconst 1151 dL_law_1150 rfl ?_
    exact absurd h (by simp)
def law_c18 (sc : Int → Int) (sn : Int) (k : fMem → Option Int) (i : Int) (M : fMem) : Option Int := (if 0 ≤ i + 1 ∧ i + 1 < sn then (if 0 ≤ i + 2 ∧ i + 2 < sn then (if 0 ≤ i + 3 ∧ i + 3 < sn then ((f_L_row (sc (i + 1)) (sc (i + 2)) (sc (i + 3)) M).bind fun (r4 : Int × fMem) => (if 0 ≤ i + 1 ∧ i + 1 < sn then (if 0 ≤ i + 2 ∧ i + 2 < sn then (if 0 ≤ i + 3 ∧ i + 3 < sn then ((f_X11_row (sc (i + 1)) (sc (i + 2)) (sc (i + 3)) r4.2).bind fun (r8 : Int × fMem) => ((f_X11_thrown r8.2).bind fun (r9 : Int) => (if r9 = r4.1 then (if r4.1 = 0 then (if (cmpI (r8.2 439 0) r8.1) = 0 then k r8.2 else some 0) else k r8.2) else some 0))) else none) else none) else none)) else none) else none) else none)
set_option maxRecDepth 100000 in
set_option maxHeartbeats 4000000 in
theorem t_law_c18 {G : fG} (hg : gbt G = true) (hL3 : gsn G ≤ 3072) {sc : Int → Int} {sn : Int} (hsc : scr G = sc) (hsn : (gsn G : Int) = sn) (rsc : ∀ i, rg (sc i)) {c0 s0 : Nat} (hc : c0 ≤ 600000) (hs : s0 ≤ 7200000) {k : fMem → Option Int} {i : Int} (gi : rg i) {M : fMem} (hk : ∀ N, k N = some 1 → fW G mL_law (fEL G) (c0 + 6) (s0 + 36) 2020 [some (.ref (gsb G)), some (rv G 0), some (rv G 418), some (rv G 439), some (iv i), none, none] [] N) (h : law_c18 sc sn k i M = some 1) : fW G mL_law (fEL G) c0 s0 1172 [some (.ref (gsb G)), some (rv G 0), some (rv G 418), some (rv G 439), some (iv i), none, none] [] M := by
  rw [law_c18] at h
  refine fW_rg (fun hR => ?_)
  refine fW_aload_n 1173 dL_law_1172 rfl rfl ?_
  refine fW_aload_n 1174 dL_law_1173 rfl rfl ?_
  refine fW_iload 1176 dL_law_1174 rfl rfl ?_
  refine fW_iconst 1177 dL_law_1176 rfl ?_
  refine fW_iadd 1178 dL_law_1177 rfl ?_
  obtain ⟨c1, h⟩ := fS h
  refine fW_sld 1179 hL3 (by rw [← hsn] at c1; exact c1) dL_law_1178 rfl ?_
  rw [show scr G (i + 1) = sc (i + 1) from congrFun hsc _]
  refine fW_aload_n 1180 dL_law_1179 rfl rfl ?_
  refine fW_iload 1182 dL_law_1180 rfl rfl ?_
  refine fW_iconst 1183 dL_law_1182 rfl ?_
  refine fW_iadd 1184 dL_law_1183 rfl ?_
  obtain ⟨c2, h⟩ := fS h
  refine fW_sld 1185 hL3 (by rw [← hsn] at c2; exact c2) dL_law_1184 rfl ?_
  rw [show scr G (i + 2) = sc (i + 2) from congrFun hsc _]
  refine fW_aload_n 1186 dL_law_1185 rfl rfl ?_
  refine fW_iload 1188 dL_law_1186 rfl rfl ?_
  refine fW_iconst 1189 dL_law_1188 rfl ?_
  refine fW_iadd 1190 dL_law_1189 rfl ?_
  obtain ⟨c3, h⟩ := fS h
  refine fW_sld 1191 hL3 (by rw [← hsn] at c3; exact c3) dL_law_1190 rfl ?_
  rw [show scr G (i + 3) = sc (i + 3) from congrFun hsc _]
  refine fW_aload_n 1192 dL_law_1191 rfl rfl ?_
  obtain ⟨r4, e4, h⟩ := fBd h
  refine fW_invH (as := [rv G 0, iv (sc (i + 1)), iv (sc (i + 2)), iv (sc (i + 3)), rv G 439]) (rest := []) miL_row wd_983 (fRoom_L rfl (by omega) (by omega)) rfl (Nat.le_of_ble_eq_true rfl) dL_law_1192 (s_L_row hg (rsc (i + 1)) (rsc (i + 2)) (rsc (i + 3)) e4) rfl (fun v9 N9 q9 => ?_)
  obtain ⟨rfl, rfl, g4⟩ := q9
  show fW G mL_law (fEL G) (c0 + 3) (s0 + 18) 1195 [some (.ref (gsb G)), some (rv G 0), some (rv G 418), some (rv G 439), some (iv i), none, none] (iv r4.1 :: []) r4.2
  refine fW_rg (fun hR4 => ?_)
  refine fW_istore 1197 (ls' := [some (.ref (gsb G)), some (rv G 0), some (rv G 418), some (rv G 439), some (iv i), some (iv r4.1), none]) dL_law_1195 rfl rfl (by decide) ?_
  refine fW_aload_n 1198 dL_law_1197 rfl rfl ?_
  refine fW_aload_n 1199 dL_law_1198 rfl rfl ?_
  refine fW_iload 1201 dL_law_1199 rfl rfl ?_
  refine fW_iconst 1202 dL_law_1201 rfl ?_
  refine fW_iadd 1203 dL_law_1202 rfl ?_
  obtain ⟨c5, h⟩ := fS h
  refine fW_sld 1204 hL3 (by rw [← hsn] at c5; exact c5) dL_law_1203 rfl ?_
  rw [show scr G (i + 1) = sc (i + 1) from congrFun hsc _]
  refine fW_aload_n 1205 dL_law_1204 rfl rfl ?_
  refine fW_iload 1207 dL_law_1205 rfl rfl ?_
  refine fW_iconst 1208 dL_law_1207 rfl ?_
  refine fW_iadd 1209 dL_law_1208 rfl ?_
  obtain ⟨c6, h⟩ := fS h
  refine fW_sld 1210 hL3 (by rw [← hsn] at c6; exact c6) dL_law_1209 rfl ?_
  rw [show scr G (i + 2) = sc (i + 2) from congrFun hsc _]
  refine fW_aload_n 1211 dL_law_1210 rfl rfl ?_
  refine fW_iload 1213 dL_law_1211 rfl rfl ?_
  refine fW_iconst 1214 dL_law_1213 rfl ?_
  refine fW_iadd 1215 dL_law_1214 rfl ?_
  obtain ⟨c7, h⟩ := fS h
  refine fW_sld 1216 hL3 (by rw [← hsn] at c7; exact c7) dL_law_1215 rfl ?_
  rw [show scr G (i + 3) = sc (i + 3) from congrFun hsc _]
  obtain ⟨r8, e8, h⟩ := fBd h
  refine fW_cP (fI_V (as := [iv (sc (i + 1)), iv (sc (i + 2)), iv (sc (i + 3))]) (rest := []) miX11_row hg clX11 rfl tc_418 wd_1517 (fRoom_L rfl (by omega) (by omega)) rfl (Nat.le_of_ble_eq_true rfl) dL_law_1216) (s_X11_row hg (rsc (i + 1)) (rsc (i + 2)) (rsc (i + 3)) e8) rfl rfl rfl (fun g8 => ?_)
  refine fW_rg (fun hR8 => ?_)
  refine fW_istore 1221 (ls' := [some (.ref (gsb G)), some (rv G 0), some (rv G 418), some (rv G 439), some (iv i), some (iv r4.1), some (iv r8.1)]) dL_law_1219 rfl rfl (by decide) ?_
  refine fW_aload_n 1222 dL_law_1221 rfl rfl ?_
  obtain ⟨r9, e9, h⟩ := fBd h
  refine fW_cP (fI_V (as := []) (rest := []) miX11_thrown hg clX11 rfl tc_418 wd_1256 (fRoom_L rfl (by omega) (by omega)) rfl (Nat.le_of_ble_eq_true rfl) dL_law_1222) (s_X11_thrown hg  e9) rfl rfl rfl (fun g9 => ?_)
  refine fW_iload 1227 dL_law_1225 rfl rfl ?_
  refine fW_icmp_eq 1230 1232 g9 g4 dL_law_1227 rfl rfl (fun c10 => ?_) (fun c10 => ?_)
  · replace h := fTt h c10
    refine fW_iload 1234 dL_law_1232 rfl rfl ?_
    refine fW_if_ne 1237 1249 g4 dL_law_1234 rfl rfl (fun c11 => ?_) (fun c11 => ?_)
    · replace h := fFf h c11
      refine fW_goto 2020 dL_law_1249 rfl ?_
      refine fW_wide (c1 := c0 + 6) (s1 := s0 + 36) (by omega) (by omega) ?_
      exact fW_sb (hk r8.2 h) ⟨rfl, rfl, rfl, rfl, rfl, trivial⟩
    · replace h := fTt h c11
      refine fW_aload_n 1238 dL_law_1237 rfl rfl ?_
      refine fW_iconst 1239 dL_law_1238 rfl ?_
      refine fW_lald 1240 hg tc_439 (by decide) dL_law_1239 rfl ?_
      refine fW_iload 1242 dL_law_1240 rfl rfl ?_
      refine fW_i2l 1243 g8 dL_law_1242 rfl ?_
      refine fW_lcmp 1244 (hR8 439 0) g8 dL_law_1243 rfl ?_
      refine fW_if_eq 1247 1249 (rg_cmp (r8.2 439 0) r8.1) dL_law_1244 rfl rfl (fun c12 => ?_) (fun c12 => ?_)
      · replace h := fTt h c12
        refine fW_goto 2020 dL_law_1249 rfl ?_
        refine fW_wide (c1 := c0 + 6) (s1 := s0 + 36) (by omega) (by omega) ?_
        exact fW_sb (hk r8.2 h) ⟨rfl, rfl, rfl, rfl, rfl, trivial⟩
      · replace h := fFf h c12
        refine fW_iconst 1248 dL_law_1247 rfl ?_
        exact absurd h (by simp)
  · replace h := fFf h c10
    refine fW_iconst 1231 dL_law_1230 rfl ?_
    exact absurd h (by simp)
def law_c19 (sc : Int → Int) (sn : Int) (k : fMem → Option Int) (i : Int) (M : fMem) : Option Int := (if 0 ≤ i + 1 ∧ i + 1 < sn then (if 0 ≤ i + 2 ∧ i + 2 < sn then (if 0 ≤ i + 3 ∧ i + 3 < sn then (if 0 ≤ i + 4 ∧ i + 4 < sn then ((f_L_thing (sc (i + 1)) (sc (i + 2)) (sc (i + 3)) (sc (i + 4)) M).bind fun (r5 : Int × fMem) => (if 0 ≤ i + 1 ∧ i + 1 < sn then (if 0 ≤ i + 2 ∧ i + 2 < sn then (if 0 ≤ i + 3 ∧ i + 3 < sn then (if 0 ≤ i + 4 ∧ i + 4 < sn then ((f_X11_thing (sc (i + 1)) (sc (i + 2)) (sc (i + 3)) (sc (i + 4)) r5.2).bind fun (r10 : Int × fMem) => ((f_X11_thrown r10.2).bind fun (r11 : Int) => (if r11 = r5.1 then (if r5.1 = 0 then (if (cmpI (r10.2 439 0) r10.1) = 0 then k r10.2 else some 0) else k r10.2) else some 0))) else none) else none) else none) else none)) else none) else none) else none) else none)
set_option maxRecDepth 100000 in
set_option maxHeartbeats 4000000 in
theorem t_law_c19 {G : fG} (hg : gbt G = true) (hL3 : gsn G ≤ 3072) {sc : Int → Int} {sn : Int} (hsc : scr G = sc) (hsn : (gsn G : Int) = sn) (rsc : ∀ i, rg (sc i)) {c0 s0 : Nat} (hc : c0 ≤ 600000) (hs : s0 ≤ 7200000) {k : fMem → Option Int} {i : Int} (gi : rg i) {M : fMem} (hk : ∀ N, k N = some 1 → fW G mL_law (fEL G) (c0 + 6) (s0 + 36) 2020 [some (.ref (gsb G)), some (rv G 0), some (rv G 418), some (rv G 439), some (iv i), none, none] [] N) (h : law_c19 sc sn k i M = some 1) : fW G mL_law (fEL G) c0 s0 1252 [some (.ref (gsb G)), some (rv G 0), some (rv G 418), some (rv G 439), some (iv i), none, none] [] M := by
  rw [law_c19] at h
  refine fW_rg (fun hR => ?_)
  refine fW_aload_n 1253 dL_law_1252 rfl rfl ?_
  refine fW_aload_n 1254 dL_law_1253 rfl rfl ?_
  refine fW_iload 1256 dL_law_1254 rfl rfl ?_
  refine fW_iconst 1257 dL_law_1256 rfl ?_
  refine fW_iadd 1258 dL_law_1257 rfl ?_
  obtain ⟨c1, h⟩ := fS h
  refine fW_sld 1259 hL3 (by rw [← hsn] at c1; exact c1) dL_law_1258 rfl ?_
  rw [show scr G (i + 1) = sc (i + 1) from congrFun hsc _]
  refine fW_aload_n 1260 dL_law_1259 rfl rfl ?_
  refine fW_iload 1262 dL_law_1260 rfl rfl ?_
  refine fW_iconst 1263 dL_law_1262 rfl ?_
  refine fW_iadd 1264 dL_law_1263 rfl ?_
  obtain ⟨c2, h⟩ := fS h
  refine fW_sld 1265 hL3 (by rw [← hsn] at c2; exact c2) dL_law_1264 rfl ?_
  rw [show scr G (i + 2) = sc (i + 2) from congrFun hsc _]
  refine fW_aload_n 1266 dL_law_1265 rfl rfl ?_
  refine fW_iload 1268 dL_law_1266 rfl rfl ?_
  refine fW_iconst 1269 dL_law_1268 rfl ?_
  refine fW_iadd 1270 dL_law_1269 rfl ?_
  obtain ⟨c3, h⟩ := fS h
  refine fW_sld 1271 hL3 (by rw [← hsn] at c3; exact c3) dL_law_1270 rfl ?_
  rw [show scr G (i + 3) = sc (i + 3) from congrFun hsc _]
  refine fW_aload_n 1272 dL_law_1271 rfl rfl ?_
  refine fW_iload 1274 dL_law_1272 rfl rfl ?_
  refine fW_iconst 1275 dL_law_1274 rfl ?_
  refine fW_iadd 1276 dL_law_1275 rfl ?_
  obtain ⟨c4, h⟩ := fS h
  refine fW_sld 1277 hL3 (by rw [← hsn] at c4; exact c4) dL_law_1276 rfl ?_
  rw [show scr G (i + 4) = sc (i + 4) from congrFun hsc _]
  refine fW_aload_n 1278 dL_law_1277 rfl rfl ?_
  obtain ⟨r5, e5, h⟩ := fBd h
  refine fW_invH (as := [rv G 0, iv (sc (i + 1)), iv (sc (i + 2)), iv (sc (i + 3)), iv (sc (i + 4)), rv G 439]) (rest := []) miL_thing wd_998 (fRoom_L rfl (by omega) (by omega)) rfl (Nat.le_of_ble_eq_true rfl) dL_law_1278 (s_L_thing hg (rsc (i + 1)) (rsc (i + 2)) (rsc (i + 3)) (rsc (i + 4)) e5) rfl (fun v9 N9 q9 => ?_)
  obtain ⟨rfl, rfl, g5⟩ := q9
  show fW G mL_law (fEL G) (c0 + 4) (s0 + 24) 1281 [some (.ref (gsb G)), some (rv G 0), some (rv G 418), some (rv G 439), some (iv i), none, none] (iv r5.1 :: []) r5.2
  refine fW_rg (fun hR5 => ?_)
  refine fW_istore 1283 (ls' := [some (.ref (gsb G)), some (rv G 0), some (rv G 418), some (rv G 439), some (iv i), some (iv r5.1), none]) dL_law_1281 rfl rfl (by decide) ?_
  refine fW_aload_n 1284 dL_law_1283 rfl rfl ?_
  refine fW_aload_n 1285 dL_law_1284 rfl rfl ?_
  refine fW_iload 1287 dL_law_1285 rfl rfl ?_
  refine fW_iconst 1288 dL_law_1287 rfl ?_
  refine fW_iadd 1289 dL_law_1288 rfl ?_
  obtain ⟨c6, h⟩ := fS h
  refine fW_sld 1290 hL3 (by rw [← hsn] at c6; exact c6) dL_law_1289 rfl ?_
  rw [show scr G (i + 1) = sc (i + 1) from congrFun hsc _]
  refine fW_aload_n 1291 dL_law_1290 rfl rfl ?_
  refine fW_iload 1293 dL_law_1291 rfl rfl ?_
  refine fW_iconst 1294 dL_law_1293 rfl ?_
  refine fW_iadd 1295 dL_law_1294 rfl ?_
  obtain ⟨c7, h⟩ := fS h
  refine fW_sld 1296 hL3 (by rw [← hsn] at c7; exact c7) dL_law_1295 rfl ?_
  rw [show scr G (i + 2) = sc (i + 2) from congrFun hsc _]
  refine fW_aload_n 1297 dL_law_1296 rfl rfl ?_
  refine fW_iload 1299 dL_law_1297 rfl rfl ?_
  refine fW_iconst 1300 dL_law_1299 rfl ?_
  refine fW_iadd 1301 dL_law_1300 rfl ?_
  obtain ⟨c8, h⟩ := fS h
  refine fW_sld 1302 hL3 (by rw [← hsn] at c8; exact c8) dL_law_1301 rfl ?_
  rw [show scr G (i + 3) = sc (i + 3) from congrFun hsc _]
  refine fW_aload_n 1303 dL_law_1302 rfl rfl ?_
  refine fW_iload 1305 dL_law_1303 rfl rfl ?_
  refine fW_iconst 1306 dL_law_1305 rfl ?_
  refine fW_iadd 1307 dL_law_1306 rfl ?_
  obtain ⟨c9, h⟩ := fS h
  refine fW_sld 1308 hL3 (by rw [← hsn] at c9; exact c9) dL_law_1307 rfl ?_
  rw [show scr G (i + 4) = sc (i + 4) from congrFun hsc _]
  obtain ⟨r10, e10, h⟩ := fBd h
  refine fW_cP (fI_V (as := [iv (sc (i + 1)), iv (sc (i + 2)), iv (sc (i + 3)), iv (sc (i + 4))]) (rest := []) miX11_thing hg clX11 rfl tc_418 wd_1529 (fRoom_L rfl (by omega) (by omega)) rfl (Nat.le_of_ble_eq_true rfl) dL_law_1308) (s_X11_thing hg (rsc (i + 1)) (rsc (i + 2)) (rsc (i + 3)) (rsc (i + 4)) e10) rfl rfl rfl (fun g10 => ?_)
  refine fW_rg (fun hR10 => ?_)
  refine fW_istore 1313 (ls' := [some (.ref (gsb G)), some (rv G 0), some (rv G 418), some (rv G 439), some (iv i), some (iv r5.1), some (iv r10.1)]) dL_law_1311 rfl rfl (by decide) ?_
  refine fW_aload_n 1314 dL_law_1313 rfl rfl ?_
  obtain ⟨r11, e11, h⟩ := fBd h
  refine fW_cP (fI_V (as := []) (rest := []) miX11_thrown hg clX11 rfl tc_418 wd_1256 (fRoom_L rfl (by omega) (by omega)) rfl (Nat.le_of_ble_eq_true rfl) dL_law_1314) (s_X11_thrown hg  e11) rfl rfl rfl (fun g11 => ?_)
  refine fW_iload 1319 dL_law_1317 rfl rfl ?_
  refine fW_icmp_eq 1322 1324 g11 g5 dL_law_1319 rfl rfl (fun c12 => ?_) (fun c12 => ?_)
  · replace h := fTt h c12
    refine fW_iload 1326 dL_law_1324 rfl rfl ?_
    refine fW_if_ne 1329 1341 g5 dL_law_1326 rfl rfl (fun c13 => ?_) (fun c13 => ?_)
    · replace h := fFf h c13
      refine fW_goto 2020 dL_law_1341 rfl ?_
      refine fW_wide (c1 := c0 + 6) (s1 := s0 + 36) (by omega) (by omega) ?_
      exact fW_sb (hk r10.2 h) ⟨rfl, rfl, rfl, rfl, rfl, trivial⟩
    · replace h := fTt h c13
      refine fW_aload_n 1330 dL_law_1329 rfl rfl ?_
      refine fW_iconst 1331 dL_law_1330 rfl ?_
      refine fW_lald 1332 hg tc_439 (by decide) dL_law_1331 rfl ?_
      refine fW_iload 1334 dL_law_1332 rfl rfl ?_
      refine fW_i2l 1335 g10 dL_law_1334 rfl ?_
      refine fW_lcmp 1336 (hR10 439 0) g10 dL_law_1335 rfl ?_
      refine fW_if_eq 1339 1341 (rg_cmp (r10.2 439 0) r10.1) dL_law_1336 rfl rfl (fun c14 => ?_) (fun c14 => ?_)
      · replace h := fTt h c14
        refine fW_goto 2020 dL_law_1341 rfl ?_
        refine fW_wide (c1 := c0 + 6) (s1 := s0 + 36) (by omega) (by omega) ?_
        exact fW_sb (hk r10.2 h) ⟨rfl, rfl, rfl, rfl, rfl, trivial⟩
      · replace h := fFf h c14
        refine fW_iconst 1340 dL_law_1339 rfl ?_
        exact absurd h (by simp)
  · replace h := fFf h c12
    refine fW_iconst 1323 dL_law_1322 rfl ?_
    exact absurd h (by simp)
def law_c20 (sc : Int → Int) (sn : Int) (k : fMem → Option Int) (i : Int) (M : fMem) : Option Int := (if 0 ≤ i + 1 ∧ i + 1 < sn then (if 0 ≤ i + 2 ∧ i + 2 < sn then (if 0 ≤ i + 3 ∧ i + 3 < sn then (if 0 ≤ i + 4 ∧ i + 4 < sn then ((f_L_entry (sc (i + 1)) (sc (i + 2)) (sc (i + 3)) (sc (i + 4)) M).bind fun (r5 : Int × fMem) => (if 0 ≤ i + 1 ∧ i + 1 < sn then (if 0 ≤ i + 2 ∧ i + 2 < sn then (if 0 ≤ i + 3 ∧ i + 3 < sn then (if 0 ≤ i + 4 ∧ i + 4 < sn then ((f_X11_entry (sc (i + 1)) (sc (i + 2)) (sc (i + 3)) (sc (i + 4)) r5.2).bind fun (r10 : Int × fMem) => ((f_X11_thrown r10.2).bind fun (r11 : Int) => (if r11 = r5.1 then (if r5.1 = 0 then (if (cmpI (r10.2 439 0) r10.1) = 0 then k r10.2 else some 0) else k r10.2) else some 0))) else none) else none) else none) else none)) else none) else none) else none) else none)
set_option maxRecDepth 100000 in
set_option maxHeartbeats 4000000 in
theorem t_law_c20 {G : fG} (hg : gbt G = true) (hL3 : gsn G ≤ 3072) {sc : Int → Int} {sn : Int} (hsc : scr G = sc) (hsn : (gsn G : Int) = sn) (rsc : ∀ i, rg (sc i)) {c0 s0 : Nat} (hc : c0 ≤ 600000) (hs : s0 ≤ 7200000) {k : fMem → Option Int} {i : Int} (gi : rg i) {M : fMem} (hk : ∀ N, k N = some 1 → fW G mL_law (fEL G) (c0 + 6) (s0 + 36) 2020 [some (.ref (gsb G)), some (rv G 0), some (rv G 418), some (rv G 439), some (iv i), none, none] [] N) (h : law_c20 sc sn k i M = some 1) : fW G mL_law (fEL G) c0 s0 1344 [some (.ref (gsb G)), some (rv G 0), some (rv G 418), some (rv G 439), some (iv i), none, none] [] M := by
  rw [law_c20] at h
  refine fW_rg (fun hR => ?_)
  refine fW_aload_n 1345 dL_law_1344 rfl rfl ?_
  refine fW_aload_n 1346 dL_law_1345 rfl rfl ?_
  refine fW_iload 1348 dL_law_1346 rfl rfl ?_
  refine fW_iconst 1349 dL_law_1348 rfl ?_
  refine fW_iadd 1350 dL_law_1349 rfl ?_
  obtain ⟨c1, h⟩ := fS h
  refine fW_sld 1351 hL3 (by rw [← hsn] at c1; exact c1) dL_law_1350 rfl ?_
  rw [show scr G (i + 1) = sc (i + 1) from congrFun hsc _]
  refine fW_aload_n 1352 dL_law_1351 rfl rfl ?_
  refine fW_iload 1354 dL_law_1352 rfl rfl ?_
  refine fW_iconst 1355 dL_law_1354 rfl ?_
  refine fW_iadd 1356 dL_law_1355 rfl ?_
  obtain ⟨c2, h⟩ := fS h
  refine fW_sld 1357 hL3 (by rw [← hsn] at c2; exact c2) dL_law_1356 rfl ?_
  rw [show scr G (i + 2) = sc (i + 2) from congrFun hsc _]
  refine fW_aload_n 1358 dL_law_1357 rfl rfl ?_
  refine fW_iload 1360 dL_law_1358 rfl rfl ?_
  refine fW_iconst 1361 dL_law_1360 rfl ?_
  refine fW_iadd 1362 dL_law_1361 rfl ?_
  obtain ⟨c3, h⟩ := fS h
  refine fW_sld 1363 hL3 (by rw [← hsn] at c3; exact c3) dL_law_1362 rfl ?_
  rw [show scr G (i + 3) = sc (i + 3) from congrFun hsc _]
  refine fW_aload_n 1364 dL_law_1363 rfl rfl ?_
  refine fW_iload 1366 dL_law_1364 rfl rfl ?_
  refine fW_iconst 1367 dL_law_1366 rfl ?_
  refine fW_iadd 1368 dL_law_1367 rfl ?_
  obtain ⟨c4, h⟩ := fS h
  refine fW_sld 1369 hL3 (by rw [← hsn] at c4; exact c4) dL_law_1368 rfl ?_
  rw [show scr G (i + 4) = sc (i + 4) from congrFun hsc _]
  refine fW_aload_n 1370 dL_law_1369 rfl rfl ?_
  obtain ⟨r5, e5, h⟩ := fBd h
  refine fW_invH (as := [rv G 0, iv (sc (i + 1)), iv (sc (i + 2)), iv (sc (i + 3)), iv (sc (i + 4)), rv G 439]) (rest := []) miL_entry wd_1008 (fRoom_L rfl (by omega) (by omega)) rfl (Nat.le_of_ble_eq_true rfl) dL_law_1370 (s_L_entry hg (rsc (i + 1)) (rsc (i + 2)) (rsc (i + 3)) (rsc (i + 4)) e5) rfl (fun v9 N9 q9 => ?_)
  obtain ⟨rfl, rfl, g5⟩ := q9
  show fW G mL_law (fEL G) (c0 + 5) (s0 + 30) 1373 [some (.ref (gsb G)), some (rv G 0), some (rv G 418), some (rv G 439), some (iv i), none, none] (iv r5.1 :: []) r5.2
  refine fW_rg (fun hR5 => ?_)
  refine fW_istore 1375 (ls' := [some (.ref (gsb G)), some (rv G 0), some (rv G 418), some (rv G 439), some (iv i), some (iv r5.1), none]) dL_law_1373 rfl rfl (by decide) ?_
  refine fW_aload_n 1376 dL_law_1375 rfl rfl ?_
  refine fW_aload_n 1377 dL_law_1376 rfl rfl ?_
  refine fW_iload 1379 dL_law_1377 rfl rfl ?_
  refine fW_iconst 1380 dL_law_1379 rfl ?_
  refine fW_iadd 1381 dL_law_1380 rfl ?_
  obtain ⟨c6, h⟩ := fS h
  refine fW_sld 1382 hL3 (by rw [← hsn] at c6; exact c6) dL_law_1381 rfl ?_
  rw [show scr G (i + 1) = sc (i + 1) from congrFun hsc _]
  refine fW_aload_n 1383 dL_law_1382 rfl rfl ?_
  refine fW_iload 1385 dL_law_1383 rfl rfl ?_
  refine fW_iconst 1386 dL_law_1385 rfl ?_
  refine fW_iadd 1387 dL_law_1386 rfl ?_
  obtain ⟨c7, h⟩ := fS h
  refine fW_sld 1388 hL3 (by rw [← hsn] at c7; exact c7) dL_law_1387 rfl ?_
  rw [show scr G (i + 2) = sc (i + 2) from congrFun hsc _]
  refine fW_aload_n 1389 dL_law_1388 rfl rfl ?_
  refine fW_iload 1391 dL_law_1389 rfl rfl ?_
  refine fW_iconst 1392 dL_law_1391 rfl ?_
  refine fW_iadd 1393 dL_law_1392 rfl ?_
  obtain ⟨c8, h⟩ := fS h
  refine fW_sld 1394 hL3 (by rw [← hsn] at c8; exact c8) dL_law_1393 rfl ?_
  rw [show scr G (i + 3) = sc (i + 3) from congrFun hsc _]
  refine fW_aload_n 1395 dL_law_1394 rfl rfl ?_
  refine fW_iload 1397 dL_law_1395 rfl rfl ?_
  refine fW_iconst 1398 dL_law_1397 rfl ?_
  refine fW_iadd 1399 dL_law_1398 rfl ?_
  obtain ⟨c9, h⟩ := fS h
  refine fW_sld 1400 hL3 (by rw [← hsn] at c9; exact c9) dL_law_1399 rfl ?_
  rw [show scr G (i + 4) = sc (i + 4) from congrFun hsc _]
  obtain ⟨r10, e10, h⟩ := fBd h
  refine fW_cP (fI_V (as := [iv (sc (i + 1)), iv (sc (i + 2)), iv (sc (i + 3)), iv (sc (i + 4))]) (rest := []) miX11_entry hg clX11 rfl tc_418 wd_1533 (fRoom_L rfl (by omega) (by omega)) rfl (Nat.le_of_ble_eq_true rfl) dL_law_1400) (s_X11_entry hg (rsc (i + 1)) (rsc (i + 2)) (rsc (i + 3)) (rsc (i + 4)) e10) rfl rfl rfl (fun g10 => ?_)
  refine fW_rg (fun hR10 => ?_)
  refine fW_istore 1405 (ls' := [some (.ref (gsb G)), some (rv G 0), some (rv G 418), some (rv G 439), some (iv i), some (iv r5.1), some (iv r10.1)]) dL_law_1403 rfl rfl (by decide) ?_
  refine fW_aload_n 1406 dL_law_1405 rfl rfl ?_
  obtain ⟨r11, e11, h⟩ := fBd h
  refine fW_cP (fI_V (as := []) (rest := []) miX11_thrown hg clX11 rfl tc_418 wd_1256 (fRoom_L rfl (by omega) (by omega)) rfl (Nat.le_of_ble_eq_true rfl) dL_law_1406) (s_X11_thrown hg  e11) rfl rfl rfl (fun g11 => ?_)
  refine fW_iload 1411 dL_law_1409 rfl rfl ?_
  refine fW_icmp_eq 1414 1416 g11 g5 dL_law_1411 rfl rfl (fun c12 => ?_) (fun c12 => ?_)
  · replace h := fTt h c12
    refine fW_iload 1418 dL_law_1416 rfl rfl ?_
    refine fW_if_ne 1421 1433 g5 dL_law_1418 rfl rfl (fun c13 => ?_) (fun c13 => ?_)
    · replace h := fFf h c13
      refine fW_goto 2020 dL_law_1433 rfl ?_
      refine fW_wide (c1 := c0 + 6) (s1 := s0 + 36) (by omega) (by omega) ?_
      exact fW_sb (hk r10.2 h) ⟨rfl, rfl, rfl, rfl, rfl, trivial⟩
    · replace h := fTt h c13
      refine fW_aload_n 1422 dL_law_1421 rfl rfl ?_
      refine fW_iconst 1423 dL_law_1422 rfl ?_
      refine fW_lald 1424 hg tc_439 (by decide) dL_law_1423 rfl ?_
      refine fW_iload 1426 dL_law_1424 rfl rfl ?_
      refine fW_i2l 1427 g10 dL_law_1426 rfl ?_
      refine fW_lcmp 1428 (hR10 439 0) g10 dL_law_1427 rfl ?_
      refine fW_if_eq 1431 1433 (rg_cmp (r10.2 439 0) r10.1) dL_law_1428 rfl rfl (fun c14 => ?_) (fun c14 => ?_)
      · replace h := fTt h c14
        refine fW_goto 2020 dL_law_1433 rfl ?_
        refine fW_wide (c1 := c0 + 6) (s1 := s0 + 36) (by omega) (by omega) ?_
        exact fW_sb (hk r10.2 h) ⟨rfl, rfl, rfl, rfl, rfl, trivial⟩
      · replace h := fFf h c14
        refine fW_iconst 1432 dL_law_1431 rfl ?_
        exact absurd h (by simp)
  · replace h := fFf h c12
    refine fW_iconst 1415 dL_law_1414 rfl ?_
    exact absurd h (by simp)
def law_c21 (sc : Int → Int) (sn : Int) (k : fMem → Option Int) (i : Int) (M : fMem) : Option Int := (if 0 ≤ i + 1 ∧ i + 1 < sn then ((f_L_count (sc (i + 1)) M).bind fun (r2 : Int × fMem) => (if 0 ≤ i + 1 ∧ i + 1 < sn then ((f_X11_count (sc (i + 1)) r2.2).bind fun (r4 : Int × fMem) => ((f_X11_thrown r4.2).bind fun (r5 : Int) => (if r5 = r2.1 then (if r2.1 = 0 then (if (cmpI (r4.2 439 0) r4.1) = 0 then k r4.2 else some 0) else k r4.2) else some 0))) else none)) else none)
set_option maxRecDepth 100000 in
set_option maxHeartbeats 4000000 in
theorem t_law_c21 {G : fG} (hg : gbt G = true) (hL3 : gsn G ≤ 3072) {sc : Int → Int} {sn : Int} (hsc : scr G = sc) (hsn : (gsn G : Int) = sn) (rsc : ∀ i, rg (sc i)) {c0 s0 : Nat} (hc : c0 ≤ 600000) (hs : s0 ≤ 7200000) {k : fMem → Option Int} {i : Int} (gi : rg i) {M : fMem} (hk : ∀ N, k N = some 1 → fW G mL_law (fEL G) (c0 + 6) (s0 + 36) 2020 [some (.ref (gsb G)), some (rv G 0), some (rv G 418), some (rv G 439), some (iv i), none, none] [] N) (h : law_c21 sc sn k i M = some 1) : fW G mL_law (fEL G) c0 s0 1436 [some (.ref (gsb G)), some (rv G 0), some (rv G 418), some (rv G 439), some (iv i), none, none] [] M := by
  rw [law_c21] at h
  refine fW_rg (fun hR => ?_)
  refine fW_aload_n 1437 dL_law_1436 rfl rfl ?_
  refine fW_aload_n 1438 dL_law_1437 rfl rfl ?_
  refine fW_iload 1440 dL_law_1438 rfl rfl ?_
  refine fW_iconst 1441 dL_law_1440 rfl ?_
  refine fW_iadd 1442 dL_law_1441 rfl ?_
  obtain ⟨c1, h⟩ := fS h
  refine fW_sld 1443 hL3 (by rw [← hsn] at c1; exact c1) dL_law_1442 rfl ?_
  rw [show scr G (i + 1) = sc (i + 1) from congrFun hsc _]
  refine fW_aload_n 1444 dL_law_1443 rfl rfl ?_
  obtain ⟨r2, e2, h⟩ := fBd h
  refine fW_invH (as := [rv G 0, iv (sc (i + 1)), rv G 439]) (rest := []) miL_count wd_1028 (fRoom_L rfl (by omega) (by omega)) rfl (Nat.le_of_ble_eq_true rfl) dL_law_1444 (s_L_count hg (rsc (i + 1)) e2) rfl (fun v9 N9 q9 => ?_)
  obtain ⟨rfl, rfl, g2⟩ := q9
  show fW G mL_law (fEL G) (c0 + 1) (s0 + 6) 1447 [some (.ref (gsb G)), some (rv G 0), some (rv G 418), some (rv G 439), some (iv i), none, none] (iv r2.1 :: []) r2.2
  refine fW_rg (fun hR2 => ?_)
  refine fW_istore 1449 (ls' := [some (.ref (gsb G)), some (rv G 0), some (rv G 418), some (rv G 439), some (iv i), some (iv r2.1), none]) dL_law_1447 rfl rfl (by decide) ?_
  refine fW_aload_n 1450 dL_law_1449 rfl rfl ?_
  refine fW_aload_n 1451 dL_law_1450 rfl rfl ?_
  refine fW_iload 1453 dL_law_1451 rfl rfl ?_
  refine fW_iconst 1454 dL_law_1453 rfl ?_
  refine fW_iadd 1455 dL_law_1454 rfl ?_
  obtain ⟨c3, h⟩ := fS h
  refine fW_sld 1456 hL3 (by rw [← hsn] at c3; exact c3) dL_law_1455 rfl ?_
  rw [show scr G (i + 1) = sc (i + 1) from congrFun hsc _]
  obtain ⟨r4, e4, h⟩ := fBd h
  refine fW_cP (fI_V (as := [iv (sc (i + 1))]) (rest := []) miX11_count hg clX11 rfl tc_418 wd_1537 (fRoom_L rfl (by omega) (by omega)) rfl (Nat.le_of_ble_eq_true rfl) dL_law_1456) (s_X11_count hg (rsc (i + 1)) e4) rfl rfl rfl (fun g4 => ?_)
  refine fW_rg (fun hR4 => ?_)
  refine fW_istore 1461 (ls' := [some (.ref (gsb G)), some (rv G 0), some (rv G 418), some (rv G 439), some (iv i), some (iv r2.1), some (iv r4.1)]) dL_law_1459 rfl rfl (by decide) ?_
  refine fW_aload_n 1462 dL_law_1461 rfl rfl ?_
  obtain ⟨r5, e5, h⟩ := fBd h
  refine fW_cP (fI_V (as := []) (rest := []) miX11_thrown hg clX11 rfl tc_418 wd_1256 (fRoom_L rfl (by omega) (by omega)) rfl (Nat.le_of_ble_eq_true rfl) dL_law_1462) (s_X11_thrown hg  e5) rfl rfl rfl (fun g5 => ?_)
  refine fW_iload 1467 dL_law_1465 rfl rfl ?_
  refine fW_icmp_eq 1470 1472 g5 g2 dL_law_1467 rfl rfl (fun c6 => ?_) (fun c6 => ?_)
  · replace h := fTt h c6
    refine fW_iload 1474 dL_law_1472 rfl rfl ?_
    refine fW_if_ne 1477 1489 g2 dL_law_1474 rfl rfl (fun c7 => ?_) (fun c7 => ?_)
    · replace h := fFf h c7
      refine fW_goto 2020 dL_law_1489 rfl ?_
      refine fW_wide (c1 := c0 + 6) (s1 := s0 + 36) (by omega) (by omega) ?_
      exact fW_sb (hk r4.2 h) ⟨rfl, rfl, rfl, rfl, rfl, trivial⟩
    · replace h := fTt h c7
      refine fW_aload_n 1478 dL_law_1477 rfl rfl ?_
      refine fW_iconst 1479 dL_law_1478 rfl ?_
      refine fW_lald 1480 hg tc_439 (by decide) dL_law_1479 rfl ?_
      refine fW_iload 1482 dL_law_1480 rfl rfl ?_
      refine fW_i2l 1483 g4 dL_law_1482 rfl ?_
      refine fW_lcmp 1484 (hR4 439 0) g4 dL_law_1483 rfl ?_
      refine fW_if_eq 1487 1489 (rg_cmp (r4.2 439 0) r4.1) dL_law_1484 rfl rfl (fun c8 => ?_) (fun c8 => ?_)
      · replace h := fTt h c8
        refine fW_goto 2020 dL_law_1489 rfl ?_
        refine fW_wide (c1 := c0 + 6) (s1 := s0 + 36) (by omega) (by omega) ?_
        exact fW_sb (hk r4.2 h) ⟨rfl, rfl, rfl, rfl, rfl, trivial⟩
      · replace h := fFf h c8
        refine fW_iconst 1488 dL_law_1487 rfl ?_
        exact absurd h (by simp)
  · replace h := fFf h c6
    refine fW_iconst 1471 dL_law_1470 rfl ?_
    exact absurd h (by simp)
def law_c22 (sc : Int → Int) (sn : Int) (k : fMem → Option Int) (i : Int) (M : fMem) : Option Int := (if 0 ≤ i + 1 ∧ i + 1 < sn then ((f_L_toll (sc (i + 1)) M).bind fun (r2 : Int × fMem) => (if 0 ≤ i + 1 ∧ i + 1 < sn then ((f_X11_toll (sc (i + 1)) r2.2).bind fun (r4 : Int × fMem) => ((f_X11_thrown r4.2).bind fun (r5 : Int) => (if r5 = r2.1 then (if r2.1 = 0 then (if (cmpI (r4.2 439 0) r4.1) = 0 then k r4.2 else some 0) else k r4.2) else some 0))) else none)) else none)
set_option maxRecDepth 100000 in
set_option maxHeartbeats 4000000 in
theorem t_law_c22 {G : fG} (hg : gbt G = true) (hL3 : gsn G ≤ 3072) {sc : Int → Int} {sn : Int} (hsc : scr G = sc) (hsn : (gsn G : Int) = sn) (rsc : ∀ i, rg (sc i)) {c0 s0 : Nat} (hc : c0 ≤ 600000) (hs : s0 ≤ 7200000) {k : fMem → Option Int} {i : Int} (gi : rg i) {M : fMem} (hk : ∀ N, k N = some 1 → fW G mL_law (fEL G) (c0 + 6) (s0 + 36) 2020 [some (.ref (gsb G)), some (rv G 0), some (rv G 418), some (rv G 439), some (iv i), none, none] [] N) (h : law_c22 sc sn k i M = some 1) : fW G mL_law (fEL G) c0 s0 1492 [some (.ref (gsb G)), some (rv G 0), some (rv G 418), some (rv G 439), some (iv i), none, none] [] M := by
  rw [law_c22] at h
  refine fW_rg (fun hR => ?_)
  refine fW_aload_n 1493 dL_law_1492 rfl rfl ?_
  refine fW_aload_n 1494 dL_law_1493 rfl rfl ?_
  refine fW_iload 1496 dL_law_1494 rfl rfl ?_
  refine fW_iconst 1497 dL_law_1496 rfl ?_
  refine fW_iadd 1498 dL_law_1497 rfl ?_
  obtain ⟨c1, h⟩ := fS h
  refine fW_sld 1499 hL3 (by rw [← hsn] at c1; exact c1) dL_law_1498 rfl ?_
  rw [show scr G (i + 1) = sc (i + 1) from congrFun hsc _]
  refine fW_aload_n 1500 dL_law_1499 rfl rfl ?_
  obtain ⟨r2, e2, h⟩ := fBd h
  refine fW_invH (as := [rv G 0, iv (sc (i + 1)), rv G 439]) (rest := []) miL_toll wd_1058 (fRoom_L rfl (by omega) (by omega)) rfl (Nat.le_of_ble_eq_true rfl) dL_law_1500 (s_L_toll hg (rsc (i + 1)) e2) rfl (fun v9 N9 q9 => ?_)
  obtain ⟨rfl, rfl, g2⟩ := q9
  show fW G mL_law (fEL G) (c0 + 1) (s0 + 6) 1503 [some (.ref (gsb G)), some (rv G 0), some (rv G 418), some (rv G 439), some (iv i), none, none] (iv r2.1 :: []) r2.2
  refine fW_rg (fun hR2 => ?_)
  refine fW_istore 1505 (ls' := [some (.ref (gsb G)), some (rv G 0), some (rv G 418), some (rv G 439), some (iv i), some (iv r2.1), none]) dL_law_1503 rfl rfl (by decide) ?_
  refine fW_aload_n 1506 dL_law_1505 rfl rfl ?_
  refine fW_aload_n 1507 dL_law_1506 rfl rfl ?_
  refine fW_iload 1509 dL_law_1507 rfl rfl ?_
  refine fW_iconst 1510 dL_law_1509 rfl ?_
  refine fW_iadd 1511 dL_law_1510 rfl ?_
  obtain ⟨c3, h⟩ := fS h
  refine fW_sld 1512 hL3 (by rw [← hsn] at c3; exact c3) dL_law_1511 rfl ?_
  rw [show scr G (i + 1) = sc (i + 1) from congrFun hsc _]
  obtain ⟨r4, e4, h⟩ := fBd h
  refine fW_cP (fI_V (as := [iv (sc (i + 1))]) (rest := []) miX11_toll hg clX11 rfl tc_418 wd_1557 (fRoom_L rfl (by omega) (by omega)) rfl (Nat.le_of_ble_eq_true rfl) dL_law_1512) (s_X11_toll hg (rsc (i + 1)) e4) rfl rfl rfl (fun g4 => ?_)
  refine fW_rg (fun hR4 => ?_)
  refine fW_istore 1517 (ls' := [some (.ref (gsb G)), some (rv G 0), some (rv G 418), some (rv G 439), some (iv i), some (iv r2.1), some (iv r4.1)]) dL_law_1515 rfl rfl (by decide) ?_
  refine fW_aload_n 1518 dL_law_1517 rfl rfl ?_
  obtain ⟨r5, e5, h⟩ := fBd h
  refine fW_cP (fI_V (as := []) (rest := []) miX11_thrown hg clX11 rfl tc_418 wd_1256 (fRoom_L rfl (by omega) (by omega)) rfl (Nat.le_of_ble_eq_true rfl) dL_law_1518) (s_X11_thrown hg  e5) rfl rfl rfl (fun g5 => ?_)
  refine fW_iload 1523 dL_law_1521 rfl rfl ?_
  refine fW_icmp_eq 1526 1528 g5 g2 dL_law_1523 rfl rfl (fun c6 => ?_) (fun c6 => ?_)
  · replace h := fTt h c6
    refine fW_iload 1530 dL_law_1528 rfl rfl ?_
    refine fW_if_ne 1533 1545 g2 dL_law_1530 rfl rfl (fun c7 => ?_) (fun c7 => ?_)
    · replace h := fFf h c7
      refine fW_goto 2020 dL_law_1545 rfl ?_
      refine fW_wide (c1 := c0 + 6) (s1 := s0 + 36) (by omega) (by omega) ?_
      exact fW_sb (hk r4.2 h) ⟨rfl, rfl, rfl, rfl, rfl, trivial⟩
    · replace h := fTt h c7
      refine fW_aload_n 1534 dL_law_1533 rfl rfl ?_
      refine fW_iconst 1535 dL_law_1534 rfl ?_
      refine fW_lald 1536 hg tc_439 (by decide) dL_law_1535 rfl ?_
      refine fW_iload 1538 dL_law_1536 rfl rfl ?_
      refine fW_i2l 1539 g4 dL_law_1538 rfl ?_
      refine fW_lcmp 1540 (hR4 439 0) g4 dL_law_1539 rfl ?_
      refine fW_if_eq 1543 1545 (rg_cmp (r4.2 439 0) r4.1) dL_law_1540 rfl rfl (fun c8 => ?_) (fun c8 => ?_)
      · replace h := fTt h c8
        refine fW_goto 2020 dL_law_1545 rfl ?_
        refine fW_wide (c1 := c0 + 6) (s1 := s0 + 36) (by omega) (by omega) ?_
        exact fW_sb (hk r4.2 h) ⟨rfl, rfl, rfl, rfl, rfl, trivial⟩
      · replace h := fFf h c8
        refine fW_iconst 1544 dL_law_1543 rfl ?_
        exact absurd h (by simp)
  · replace h := fFf h c6
    refine fW_iconst 1527 dL_law_1526 rfl ?_
    exact absurd h (by simp)
def law_c23 (sc : Int → Int) (sn : Int) (k : fMem → Option Int) (i : Int) (M : fMem) : Option Int := (if 0 ≤ i + 1 ∧ i + 1 < sn then (if 0 ≤ i + 2 ∧ i + 2 < sn then ((f_L_ahead (sc (i + 1)) (sc (i + 2)) M).bind fun (r3 : Int × fMem) => (if 0 ≤ i + 1 ∧ i + 1 < sn then (if 0 ≤ i + 2 ∧ i + 2 < sn then ((f_X11_ahead (sc (i + 1)) (sc (i + 2)) r3.2).bind fun (r6 : Int × fMem) => ((f_X11_thrown r6.2).bind fun (r7 : Int) => (if r7 = r3.1 then (if r3.1 = 0 then (if (cmpI (r6.2 439 0) r6.1) = 0 then k r6.2 else some 0) else k r6.2) else some 0))) else none) else none)) else none) else none)
set_option maxRecDepth 100000 in
set_option maxHeartbeats 4000000 in
theorem t_law_c23 {G : fG} (hg : gbt G = true) (hL3 : gsn G ≤ 3072) {sc : Int → Int} {sn : Int} (hsc : scr G = sc) (hsn : (gsn G : Int) = sn) (rsc : ∀ i, rg (sc i)) {c0 s0 : Nat} (hc : c0 ≤ 600000) (hs : s0 ≤ 7200000) {k : fMem → Option Int} {i : Int} (gi : rg i) {M : fMem} (hk : ∀ N, k N = some 1 → fW G mL_law (fEL G) (c0 + 6) (s0 + 36) 2020 [some (.ref (gsb G)), some (rv G 0), some (rv G 418), some (rv G 439), some (iv i), none, none] [] N) (h : law_c23 sc sn k i M = some 1) : fW G mL_law (fEL G) c0 s0 1548 [some (.ref (gsb G)), some (rv G 0), some (rv G 418), some (rv G 439), some (iv i), none, none] [] M := by
  rw [law_c23] at h
  refine fW_rg (fun hR => ?_)
  refine fW_aload_n 1549 dL_law_1548 rfl rfl ?_
  refine fW_aload_n 1550 dL_law_1549 rfl rfl ?_
  refine fW_iload 1552 dL_law_1550 rfl rfl ?_
  refine fW_iconst 1553 dL_law_1552 rfl ?_
  refine fW_iadd 1554 dL_law_1553 rfl ?_
  obtain ⟨c1, h⟩ := fS h
  refine fW_sld 1555 hL3 (by rw [← hsn] at c1; exact c1) dL_law_1554 rfl ?_
  rw [show scr G (i + 1) = sc (i + 1) from congrFun hsc _]
  refine fW_aload_n 1556 dL_law_1555 rfl rfl ?_
  refine fW_iload 1558 dL_law_1556 rfl rfl ?_
  refine fW_iconst 1559 dL_law_1558 rfl ?_
  refine fW_iadd 1560 dL_law_1559 rfl ?_
  obtain ⟨c2, h⟩ := fS h
  refine fW_sld 1561 hL3 (by rw [← hsn] at c2; exact c2) dL_law_1560 rfl ?_
  rw [show scr G (i + 2) = sc (i + 2) from congrFun hsc _]
  refine fW_aload_n 1562 dL_law_1561 rfl rfl ?_
  obtain ⟨r3, e3, h⟩ := fBd h
  refine fW_invH (as := [rv G 0, iv (sc (i + 1)), iv (sc (i + 2)), rv G 439]) (rest := []) miL_ahead wd_1070 (fRoom_L rfl (by omega) (by omega)) rfl (Nat.le_of_ble_eq_true rfl) dL_law_1562 (s_L_ahead hg (rsc (i + 1)) (rsc (i + 2)) e3) rfl (fun v9 N9 q9 => ?_)
  obtain ⟨rfl, rfl, g3⟩ := q9
  show fW G mL_law (fEL G) (c0 + 2) (s0 + 12) 1565 [some (.ref (gsb G)), some (rv G 0), some (rv G 418), some (rv G 439), some (iv i), none, none] (iv r3.1 :: []) r3.2
  refine fW_rg (fun hR3 => ?_)
  refine fW_istore 1567 (ls' := [some (.ref (gsb G)), some (rv G 0), some (rv G 418), some (rv G 439), some (iv i), some (iv r3.1), none]) dL_law_1565 rfl rfl (by decide) ?_
  refine fW_aload_n 1568 dL_law_1567 rfl rfl ?_
  refine fW_aload_n 1569 dL_law_1568 rfl rfl ?_
  refine fW_iload 1571 dL_law_1569 rfl rfl ?_
  refine fW_iconst 1572 dL_law_1571 rfl ?_
  refine fW_iadd 1573 dL_law_1572 rfl ?_
  obtain ⟨c4, h⟩ := fS h
  refine fW_sld 1574 hL3 (by rw [← hsn] at c4; exact c4) dL_law_1573 rfl ?_
  rw [show scr G (i + 1) = sc (i + 1) from congrFun hsc _]
  refine fW_aload_n 1575 dL_law_1574 rfl rfl ?_
  refine fW_iload 1577 dL_law_1575 rfl rfl ?_
  refine fW_iconst 1578 dL_law_1577 rfl ?_
  refine fW_iadd 1579 dL_law_1578 rfl ?_
  obtain ⟨c5, h⟩ := fS h
  refine fW_sld 1580 hL3 (by rw [← hsn] at c5; exact c5) dL_law_1579 rfl ?_
  rw [show scr G (i + 2) = sc (i + 2) from congrFun hsc _]
  obtain ⟨r6, e6, h⟩ := fBd h
  refine fW_cP (fI_V (as := [iv (sc (i + 1)), iv (sc (i + 2))]) (rest := []) miX11_ahead hg clX11 rfl tc_418 wd_1561 (fRoom_L rfl (by omega) (by omega)) rfl (Nat.le_of_ble_eq_true rfl) dL_law_1580) (s_X11_ahead hg (rsc (i + 1)) (rsc (i + 2)) e6) rfl rfl rfl (fun g6 => ?_)
  refine fW_rg (fun hR6 => ?_)
  refine fW_istore 1585 (ls' := [some (.ref (gsb G)), some (rv G 0), some (rv G 418), some (rv G 439), some (iv i), some (iv r3.1), some (iv r6.1)]) dL_law_1583 rfl rfl (by decide) ?_
  refine fW_aload_n 1586 dL_law_1585 rfl rfl ?_
  obtain ⟨r7, e7, h⟩ := fBd h
  refine fW_cP (fI_V (as := []) (rest := []) miX11_thrown hg clX11 rfl tc_418 wd_1256 (fRoom_L rfl (by omega) (by omega)) rfl (Nat.le_of_ble_eq_true rfl) dL_law_1586) (s_X11_thrown hg  e7) rfl rfl rfl (fun g7 => ?_)
  refine fW_iload 1591 dL_law_1589 rfl rfl ?_
  refine fW_icmp_eq 1594 1596 g7 g3 dL_law_1591 rfl rfl (fun c8 => ?_) (fun c8 => ?_)
  · replace h := fTt h c8
    refine fW_iload 1598 dL_law_1596 rfl rfl ?_
    refine fW_if_ne 1601 1613 g3 dL_law_1598 rfl rfl (fun c9 => ?_) (fun c9 => ?_)
    · replace h := fFf h c9
      refine fW_goto 2020 dL_law_1613 rfl ?_
      refine fW_wide (c1 := c0 + 6) (s1 := s0 + 36) (by omega) (by omega) ?_
      exact fW_sb (hk r6.2 h) ⟨rfl, rfl, rfl, rfl, rfl, trivial⟩
    · replace h := fTt h c9
      refine fW_aload_n 1602 dL_law_1601 rfl rfl ?_
      refine fW_iconst 1603 dL_law_1602 rfl ?_
      refine fW_lald 1604 hg tc_439 (by decide) dL_law_1603 rfl ?_
      refine fW_iload 1606 dL_law_1604 rfl rfl ?_
      refine fW_i2l 1607 g6 dL_law_1606 rfl ?_
      refine fW_lcmp 1608 (hR6 439 0) g6 dL_law_1607 rfl ?_
      refine fW_if_eq 1611 1613 (rg_cmp (r6.2 439 0) r6.1) dL_law_1608 rfl rfl (fun c10 => ?_) (fun c10 => ?_)
      · replace h := fTt h c10
        refine fW_goto 2020 dL_law_1613 rfl ?_
        refine fW_wide (c1 := c0 + 6) (s1 := s0 + 36) (by omega) (by omega) ?_
        exact fW_sb (hk r6.2 h) ⟨rfl, rfl, rfl, rfl, rfl, trivial⟩
      · replace h := fFf h c10
        refine fW_iconst 1612 dL_law_1611 rfl ?_
        exact absurd h (by simp)
  · replace h := fFf h c8
    refine fW_iconst 1595 dL_law_1594 rfl ?_
    exact absurd h (by simp)
def law_c24 (sc : Int → Int) (sn : Int) (k : fMem → Option Int) (i : Int) (M : fMem) : Option Int := (if 0 ≤ i + 1 ∧ i + 1 < sn then ((f_L_calm (sc (i + 1)) M).bind fun (r2 : Int × fMem) => (if 0 ≤ i + 1 ∧ i + 1 < sn then ((f_X11_calm (sc (i + 1)) r2.2).bind fun (r4 : Int × fMem) => ((f_X11_thrown r4.2).bind fun (r5 : Int) => (if r5 = r2.1 then (if r2.1 = 0 then (if (cmpI (r4.2 439 0) r4.1) = 0 then k r4.2 else some 0) else k r4.2) else some 0))) else none)) else none)
set_option maxRecDepth 100000 in
set_option maxHeartbeats 4000000 in
theorem t_law_c24 {G : fG} (hg : gbt G = true) (hL3 : gsn G ≤ 3072) {sc : Int → Int} {sn : Int} (hsc : scr G = sc) (hsn : (gsn G : Int) = sn) (rsc : ∀ i, rg (sc i)) {c0 s0 : Nat} (hc : c0 ≤ 600000) (hs : s0 ≤ 7200000) {k : fMem → Option Int} {i : Int} (gi : rg i) {M : fMem} (hk : ∀ N, k N = some 1 → fW G mL_law (fEL G) (c0 + 6) (s0 + 36) 2020 [some (.ref (gsb G)), some (rv G 0), some (rv G 418), some (rv G 439), some (iv i), none, none] [] N) (h : law_c24 sc sn k i M = some 1) : fW G mL_law (fEL G) c0 s0 1616 [some (.ref (gsb G)), some (rv G 0), some (rv G 418), some (rv G 439), some (iv i), none, none] [] M := by
  rw [law_c24] at h
  refine fW_rg (fun hR => ?_)
  refine fW_aload_n 1617 dL_law_1616 rfl rfl ?_
  refine fW_aload_n 1618 dL_law_1617 rfl rfl ?_
  refine fW_iload 1620 dL_law_1618 rfl rfl ?_
  refine fW_iconst 1621 dL_law_1620 rfl ?_
  refine fW_iadd 1622 dL_law_1621 rfl ?_
  obtain ⟨c1, h⟩ := fS h
  refine fW_sld 1623 hL3 (by rw [← hsn] at c1; exact c1) dL_law_1622 rfl ?_
  rw [show scr G (i + 1) = sc (i + 1) from congrFun hsc _]
  refine fW_aload_n 1624 dL_law_1623 rfl rfl ?_
  obtain ⟨r2, e2, h⟩ := fBd h
  refine fW_invH (as := [rv G 0, iv (sc (i + 1)), rv G 439]) (rest := []) miL_calm wd_1112 (fRoom_L rfl (by omega) (by omega)) rfl (Nat.le_of_ble_eq_true rfl) dL_law_1624 (s_L_calm hg (rsc (i + 1)) e2) rfl (fun v9 N9 q9 => ?_)
  obtain ⟨rfl, rfl, g2⟩ := q9
  show fW G mL_law (fEL G) (c0 + 1) (s0 + 6) 1627 [some (.ref (gsb G)), some (rv G 0), some (rv G 418), some (rv G 439), some (iv i), none, none] (iv r2.1 :: []) r2.2
  refine fW_rg (fun hR2 => ?_)
  refine fW_istore 1629 (ls' := [some (.ref (gsb G)), some (rv G 0), some (rv G 418), some (rv G 439), some (iv i), some (iv r2.1), none]) dL_law_1627 rfl rfl (by decide) ?_
  refine fW_aload_n 1630 dL_law_1629 rfl rfl ?_
  refine fW_aload_n 1631 dL_law_1630 rfl rfl ?_
  refine fW_iload 1633 dL_law_1631 rfl rfl ?_
  refine fW_iconst 1634 dL_law_1633 rfl ?_
  refine fW_iadd 1635 dL_law_1634 rfl ?_
  obtain ⟨c3, h⟩ := fS h
  refine fW_sld 1636 hL3 (by rw [← hsn] at c3; exact c3) dL_law_1635 rfl ?_
  rw [show scr G (i + 1) = sc (i + 1) from congrFun hsc _]
  obtain ⟨r4, e4, h⟩ := fBd h
  refine fW_cP (fI_V (as := [iv (sc (i + 1))]) (rest := []) miX11_calm hg clX11 rfl tc_418 wd_1577 (fRoom_L rfl (by omega) (by omega)) rfl (Nat.le_of_ble_eq_true rfl) dL_law_1636) (s_X11_calm hg (rsc (i + 1)) e4) rfl rfl rfl (fun g4 => ?_)
  refine fW_rg (fun hR4 => ?_)
  refine fW_istore 1641 (ls' := [some (.ref (gsb G)), some (rv G 0), some (rv G 418), some (rv G 439), some (iv i), some (iv r2.1), some (iv r4.1)]) dL_law_1639 rfl rfl (by decide) ?_
  refine fW_aload_n 1642 dL_law_1641 rfl rfl ?_
  obtain ⟨r5, e5, h⟩ := fBd h
  refine fW_cP (fI_V (as := []) (rest := []) miX11_thrown hg clX11 rfl tc_418 wd_1256 (fRoom_L rfl (by omega) (by omega)) rfl (Nat.le_of_ble_eq_true rfl) dL_law_1642) (s_X11_thrown hg  e5) rfl rfl rfl (fun g5 => ?_)
  refine fW_iload 1647 dL_law_1645 rfl rfl ?_
  refine fW_icmp_eq 1650 1652 g5 g2 dL_law_1647 rfl rfl (fun c6 => ?_) (fun c6 => ?_)
  · replace h := fTt h c6
    refine fW_iload 1654 dL_law_1652 rfl rfl ?_
    refine fW_if_ne 1657 1669 g2 dL_law_1654 rfl rfl (fun c7 => ?_) (fun c7 => ?_)
    · replace h := fFf h c7
      refine fW_goto 2020 dL_law_1669 rfl ?_
      refine fW_wide (c1 := c0 + 6) (s1 := s0 + 36) (by omega) (by omega) ?_
      exact fW_sb (hk r4.2 h) ⟨rfl, rfl, rfl, rfl, rfl, trivial⟩
    · replace h := fTt h c7
      refine fW_aload_n 1658 dL_law_1657 rfl rfl ?_
      refine fW_iconst 1659 dL_law_1658 rfl ?_
      refine fW_lald 1660 hg tc_439 (by decide) dL_law_1659 rfl ?_
      refine fW_iload 1662 dL_law_1660 rfl rfl ?_
      refine fW_i2l 1663 g4 dL_law_1662 rfl ?_
      refine fW_lcmp 1664 (hR4 439 0) g4 dL_law_1663 rfl ?_
      refine fW_if_eq 1667 1669 (rg_cmp (r4.2 439 0) r4.1) dL_law_1664 rfl rfl (fun c8 => ?_) (fun c8 => ?_)
      · replace h := fTt h c8
        refine fW_goto 2020 dL_law_1669 rfl ?_
        refine fW_wide (c1 := c0 + 6) (s1 := s0 + 36) (by omega) (by omega) ?_
        exact fW_sb (hk r4.2 h) ⟨rfl, rfl, rfl, rfl, rfl, trivial⟩
      · replace h := fFf h c8
        refine fW_iconst 1668 dL_law_1667 rfl ?_
        exact absurd h (by simp)
  · replace h := fFf h c6
    refine fW_iconst 1651 dL_law_1650 rfl ?_
    exact absurd h (by simp)
def law_c25 (sc : Int → Int) (sn : Int) (k : fMem → Option Int) (i : Int) (M : fMem) : Option Int := (if 0 ≤ i + 1 ∧ i + 1 < sn then ((f_L_due (sc (i + 1)) M).bind fun (r2 : Int × fMem) => (if 0 ≤ i + 1 ∧ i + 1 < sn then ((f_X11_due (sc (i + 1)) r2.2).bind fun (r4 : Int × fMem) => ((f_X11_thrown r4.2).bind fun (r5 : Int) => (if r5 = r2.1 then (if r2.1 = 0 then (if (cmpI (r4.2 439 0) r4.1) = 0 then k r4.2 else some 0) else k r4.2) else some 0))) else none)) else none)
set_option maxRecDepth 100000 in
set_option maxHeartbeats 4000000 in
theorem t_law_c25 {G : fG} (hg : gbt G = true) (hL3 : gsn G ≤ 3072) {sc : Int → Int} {sn : Int} (hsc : scr G = sc) (hsn : (gsn G : Int) = sn) (rsc : ∀ i, rg (sc i)) {c0 s0 : Nat} (hc : c0 ≤ 600000) (hs : s0 ≤ 7200000) {k : fMem → Option Int} {i : Int} (gi : rg i) {M : fMem} (hk : ∀ N, k N = some 1 → fW G mL_law (fEL G) (c0 + 6) (s0 + 36) 2020 [some (.ref (gsb G)), some (rv G 0), some (rv G 418), some (rv G 439), some (iv i), none, none] [] N) (h : law_c25 sc sn k i M = some 1) : fW G mL_law (fEL G) c0 s0 1672 [some (.ref (gsb G)), some (rv G 0), some (rv G 418), some (rv G 439), some (iv i), none, none] [] M := by
  rw [law_c25] at h
  refine fW_rg (fun hR => ?_)
  refine fW_aload_n 1673 dL_law_1672 rfl rfl ?_
  refine fW_aload_n 1674 dL_law_1673 rfl rfl ?_
  refine fW_iload 1676 dL_law_1674 rfl rfl ?_
  refine fW_iconst 1677 dL_law_1676 rfl ?_
  refine fW_iadd 1678 dL_law_1677 rfl ?_
  obtain ⟨c1, h⟩ := fS h
  refine fW_sld 1679 hL3 (by rw [← hsn] at c1; exact c1) dL_law_1678 rfl ?_
  rw [show scr G (i + 1) = sc (i + 1) from congrFun hsc _]
  refine fW_aload_n 1680 dL_law_1679 rfl rfl ?_
  obtain ⟨r2, e2, h⟩ := fBd h
  refine fW_invH (as := [rv G 0, iv (sc (i + 1)), rv G 439]) (rest := []) miL_due wd_1123 (fRoom_L rfl (by omega) (by omega)) rfl (Nat.le_of_ble_eq_true rfl) dL_law_1680 (s_L_due hg (rsc (i + 1)) e2) rfl (fun v9 N9 q9 => ?_)
  obtain ⟨rfl, rfl, g2⟩ := q9
  show fW G mL_law (fEL G) (c0 + 1) (s0 + 6) 1683 [some (.ref (gsb G)), some (rv G 0), some (rv G 418), some (rv G 439), some (iv i), none, none] (iv r2.1 :: []) r2.2
  refine fW_rg (fun hR2 => ?_)
  refine fW_istore 1685 (ls' := [some (.ref (gsb G)), some (rv G 0), some (rv G 418), some (rv G 439), some (iv i), some (iv r2.1), none]) dL_law_1683 rfl rfl (by decide) ?_
  refine fW_aload_n 1686 dL_law_1685 rfl rfl ?_
  refine fW_aload_n 1687 dL_law_1686 rfl rfl ?_
  refine fW_iload 1689 dL_law_1687 rfl rfl ?_
  refine fW_iconst 1690 dL_law_1689 rfl ?_
  refine fW_iadd 1691 dL_law_1690 rfl ?_
  obtain ⟨c3, h⟩ := fS h
  refine fW_sld 1692 hL3 (by rw [← hsn] at c3; exact c3) dL_law_1691 rfl ?_
  rw [show scr G (i + 1) = sc (i + 1) from congrFun hsc _]
  obtain ⟨r4, e4, h⟩ := fBd h
  refine fW_cP (fI_V (as := [iv (sc (i + 1))]) (rest := []) miX11_due hg clX11 rfl tc_418 wd_1585 (fRoom_L rfl (by omega) (by omega)) rfl (Nat.le_of_ble_eq_true rfl) dL_law_1692) (s_X11_due hg (rsc (i + 1)) e4) rfl rfl rfl (fun g4 => ?_)
  refine fW_rg (fun hR4 => ?_)
  refine fW_istore 1697 (ls' := [some (.ref (gsb G)), some (rv G 0), some (rv G 418), some (rv G 439), some (iv i), some (iv r2.1), some (iv r4.1)]) dL_law_1695 rfl rfl (by decide) ?_
  refine fW_aload_n 1698 dL_law_1697 rfl rfl ?_
  obtain ⟨r5, e5, h⟩ := fBd h
  refine fW_cP (fI_V (as := []) (rest := []) miX11_thrown hg clX11 rfl tc_418 wd_1256 (fRoom_L rfl (by omega) (by omega)) rfl (Nat.le_of_ble_eq_true rfl) dL_law_1698) (s_X11_thrown hg  e5) rfl rfl rfl (fun g5 => ?_)
  refine fW_iload 1703 dL_law_1701 rfl rfl ?_
  refine fW_icmp_eq 1706 1708 g5 g2 dL_law_1703 rfl rfl (fun c6 => ?_) (fun c6 => ?_)
  · replace h := fTt h c6
    refine fW_iload 1710 dL_law_1708 rfl rfl ?_
    refine fW_if_ne 1713 1725 g2 dL_law_1710 rfl rfl (fun c7 => ?_) (fun c7 => ?_)
    · replace h := fFf h c7
      refine fW_goto 2020 dL_law_1725 rfl ?_
      refine fW_wide (c1 := c0 + 6) (s1 := s0 + 36) (by omega) (by omega) ?_
      exact fW_sb (hk r4.2 h) ⟨rfl, rfl, rfl, rfl, rfl, trivial⟩
    · replace h := fTt h c7
      refine fW_aload_n 1714 dL_law_1713 rfl rfl ?_
      refine fW_iconst 1715 dL_law_1714 rfl ?_
      refine fW_lald 1716 hg tc_439 (by decide) dL_law_1715 rfl ?_
      refine fW_iload 1718 dL_law_1716 rfl rfl ?_
      refine fW_i2l 1719 g4 dL_law_1718 rfl ?_
      refine fW_lcmp 1720 (hR4 439 0) g4 dL_law_1719 rfl ?_
      refine fW_if_eq 1723 1725 (rg_cmp (r4.2 439 0) r4.1) dL_law_1720 rfl rfl (fun c8 => ?_) (fun c8 => ?_)
      · replace h := fTt h c8
        refine fW_goto 2020 dL_law_1725 rfl ?_
        refine fW_wide (c1 := c0 + 6) (s1 := s0 + 36) (by omega) (by omega) ?_
        exact fW_sb (hk r4.2 h) ⟨rfl, rfl, rfl, rfl, rfl, trivial⟩
      · replace h := fFf h c8
        refine fW_iconst 1724 dL_law_1723 rfl ?_
        exact absurd h (by simp)
  · replace h := fFf h c6
    refine fW_iconst 1707 dL_law_1706 rfl ?_
    exact absurd h (by simp)
def law_c26 (sc : Int → Int) (sn : Int) (k : fMem → Option Int) (i : Int) (M : fMem) : Option Int := ((f_X10_pack M).bind fun (r1 : Int × fMem) => ((f_X11_pack r1.2).bind fun (r2 : Int × fMem) => (if r1.1 = r2.1 then k r2.2 else some 0)))
set_option maxRecDepth 100000 in
set_option maxHeartbeats 4000000 in
theorem t_law_c26 {G : fG} (hg : gbt G = true) (hL3 : gsn G ≤ 3072) {sc : Int → Int} {sn : Int} (hsc : scr G = sc) (hsn : (gsn G : Int) = sn) (rsc : ∀ i, rg (sc i)) {c0 s0 : Nat} (hc : c0 ≤ 600000) (hs : s0 ≤ 7200000) {k : fMem → Option Int} {i : Int} (gi : rg i) {M : fMem} (hk : ∀ N, k N = some 1 → fW G mL_law (fEL G) (c0 + 6) (s0 + 36) 2020 [some (.ref (gsb G)), some (rv G 0), some (rv G 418), some (rv G 439), some (iv i), none, none] [] N) (h : law_c26 sc sn k i M = some 1) : fW G mL_law (fEL G) c0 s0 1728 [some (.ref (gsb G)), some (rv G 0), some (rv G 418), some (rv G 439), some (iv i), none, none] [] M := by
  rw [law_c26] at h
  refine fW_rg (fun hR => ?_)
  refine fW_aload_n 1729 dL_law_1728 rfl rfl ?_
  obtain ⟨r1, e1, h⟩ := fBd h
  refine fW_cP (fI_V (as := []) (rest := []) miX10_pack hg clX10 rfl tc_0 wd_622 (fRoom_L rfl (by omega) (by omega)) rfl (Nat.le_of_ble_eq_true rfl) dL_law_1729) (s_X10_pack hg  e1) rfl rfl rfl (fun g1 => ?_)
  refine fW_rg (fun hR1 => ?_)
  refine fW_aload_n 1733 dL_law_1732 rfl rfl ?_
  obtain ⟨r2, e2, h⟩ := fBd h
  refine fW_cP (fI_V (as := []) (rest := [iv r1.1]) miX11_pack hg clX11 rfl tc_418 wd_1589 (fRoom_L rfl (by omega) (by omega)) rfl (Nat.le_of_ble_eq_true rfl) dL_law_1733) (s_X11_pack hg  e2) rfl rfl rfl (fun g2 => ?_)
  refine fW_rg (fun hR2 => ?_)
  refine fW_icmp_eq 1739 2020 g1 g2 dL_law_1736 rfl rfl (fun c3 => ?_) (fun c3 => ?_)
  · replace h := fTt h c3
    refine fW_wide (c1 := c0 + 6) (s1 := s0 + 36) (by omega) (by omega) ?_
    exact fW_sb (hk r2.2 h) ⟨rfl, rfl, rfl, rfl, rfl, trivial⟩
  · replace h := fFf h c3
    refine fW_iconst 1740 dL_law_1739 rfl ?_
    exact absurd h (by simp)
def law_c27 (sc : Int → Int) (sn : Int) (k : fMem → Option Int) (i : Int) (M : fMem) : Option Int := (if 0 ≤ i + 1 ∧ i + 1 < sn then ((f_X10_view (sc (i + 1)) M).bind fun (r2 : Int × fMem) => (if 0 ≤ i + 1 ∧ i + 1 < sn then ((f_X11_view (sc (i + 1)) r2.2).bind fun (r4 : Int × fMem) => (if r2.1 = r4.1 then k r4.2 else some 0)) else none)) else none)
set_option maxRecDepth 100000 in
set_option maxHeartbeats 4000000 in
theorem t_law_c27 {G : fG} (hg : gbt G = true) (hL3 : gsn G ≤ 3072) {sc : Int → Int} {sn : Int} (hsc : scr G = sc) (hsn : (gsn G : Int) = sn) (rsc : ∀ i, rg (sc i)) {c0 s0 : Nat} (hc : c0 ≤ 600000) (hs : s0 ≤ 7200000) {k : fMem → Option Int} {i : Int} (gi : rg i) {M : fMem} (hk : ∀ N, k N = some 1 → fW G mL_law (fEL G) (c0 + 6) (s0 + 36) 2020 [some (.ref (gsb G)), some (rv G 0), some (rv G 418), some (rv G 439), some (iv i), none, none] [] N) (h : law_c27 sc sn k i M = some 1) : fW G mL_law (fEL G) c0 s0 1741 [some (.ref (gsb G)), some (rv G 0), some (rv G 418), some (rv G 439), some (iv i), none, none] [] M := by
  rw [law_c27] at h
  refine fW_rg (fun hR => ?_)
  refine fW_aload_n 1742 dL_law_1741 rfl rfl ?_
  refine fW_aload_n 1743 dL_law_1742 rfl rfl ?_
  refine fW_iload 1745 dL_law_1743 rfl rfl ?_
  refine fW_iconst 1746 dL_law_1745 rfl ?_
  refine fW_iadd 1747 dL_law_1746 rfl ?_
  obtain ⟨c1, h⟩ := fS h
  refine fW_sld 1748 hL3 (by rw [← hsn] at c1; exact c1) dL_law_1747 rfl ?_
  rw [show scr G (i + 1) = sc (i + 1) from congrFun hsc _]
  obtain ⟨r2, e2, h⟩ := fBd h
  refine fW_cP (fI_V (as := [iv (sc (i + 1))]) (rest := []) miX10_view hg clX10 rfl tc_0 wd_668 (fRoom_L rfl (by omega) (by omega)) rfl (Nat.le_of_ble_eq_true rfl) dL_law_1748) (s_X10_view hg (rsc (i + 1)) e2) rfl rfl rfl (fun g2 => ?_)
  refine fW_rg (fun hR2 => ?_)
  refine fW_aload_n 1752 dL_law_1751 rfl rfl ?_
  refine fW_aload_n 1753 dL_law_1752 rfl rfl ?_
  refine fW_iload 1755 dL_law_1753 rfl rfl ?_
  refine fW_iconst 1756 dL_law_1755 rfl ?_
  refine fW_iadd 1757 dL_law_1756 rfl ?_
  obtain ⟨c3, h⟩ := fS h
  refine fW_sld 1758 hL3 (by rw [← hsn] at c3; exact c3) dL_law_1757 rfl ?_
  rw [show scr G (i + 1) = sc (i + 1) from congrFun hsc _]
  obtain ⟨r4, e4, h⟩ := fBd h
  refine fW_cP (fI_V (as := [iv (sc (i + 1))]) (rest := [iv r2.1]) miX11_view hg clX11 rfl tc_418 wd_1597 (fRoom_L rfl (by omega) (by omega)) rfl (Nat.le_of_ble_eq_true rfl) dL_law_1758) (s_X11_view hg (rsc (i + 1)) e4) rfl rfl rfl (fun g4 => ?_)
  refine fW_rg (fun hR4 => ?_)
  refine fW_icmp_eq 1764 2020 g2 g4 dL_law_1761 rfl rfl (fun c5 => ?_) (fun c5 => ?_)
  · replace h := fTt h c5
    refine fW_wide (c1 := c0 + 6) (s1 := s0 + 36) (by omega) (by omega) ?_
    exact fW_sb (hk r4.2 h) ⟨rfl, rfl, rfl, rfl, rfl, trivial⟩
  · replace h := fFf h c5
    refine fW_iconst 1765 dL_law_1764 rfl ?_
    exact absurd h (by simp)
def law_c28 (sc : Int → Int) (sn : Int) (k : fMem → Option Int) (i : Int) (M : fMem) : Option Int := (if 0 ≤ i + 1 ∧ i + 1 < sn then ((f_X10_leave (sc (i + 1)) M).bind fun (r2 : Int × fMem) => (if 0 ≤ i + 1 ∧ i + 1 < sn then ((f_X11_leave (sc (i + 1)) r2.2).bind fun (r4 : Int × fMem) => (if r2.1 = r4.1 then k r4.2 else some 0)) else none)) else none)
set_option maxRecDepth 100000 in
set_option maxHeartbeats 4000000 in
theorem t_law_c28 {G : fG} (hg : gbt G = true) (hL3 : gsn G ≤ 3072) {sc : Int → Int} {sn : Int} (hsc : scr G = sc) (hsn : (gsn G : Int) = sn) (rsc : ∀ i, rg (sc i)) {c0 s0 : Nat} (hc : c0 ≤ 600000) (hs : s0 ≤ 7200000) {k : fMem → Option Int} {i : Int} (gi : rg i) {M : fMem} (hk : ∀ N, k N = some 1 → fW G mL_law (fEL G) (c0 + 6) (s0 + 36) 2020 [some (.ref (gsb G)), some (rv G 0), some (rv G 418), some (rv G 439), some (iv i), none, none] [] N) (h : law_c28 sc sn k i M = some 1) : fW G mL_law (fEL G) c0 s0 1766 [some (.ref (gsb G)), some (rv G 0), some (rv G 418), some (rv G 439), some (iv i), none, none] [] M := by
  rw [law_c28] at h
  refine fW_rg (fun hR => ?_)
  refine fW_aload_n 1767 dL_law_1766 rfl rfl ?_
  refine fW_aload_n 1768 dL_law_1767 rfl rfl ?_
  refine fW_iload 1770 dL_law_1768 rfl rfl ?_
  refine fW_iconst 1771 dL_law_1770 rfl ?_
  refine fW_iadd 1772 dL_law_1771 rfl ?_
  obtain ⟨c1, h⟩ := fS h
  refine fW_sld 1773 hL3 (by rw [← hsn] at c1; exact c1) dL_law_1772 rfl ?_
  rw [show scr G (i + 1) = sc (i + 1) from congrFun hsc _]
  obtain ⟨r2, e2, h⟩ := fBd h
  refine fW_cP (fI_V (as := [iv (sc (i + 1))]) (rest := []) miX10_leave hg clX10 rfl tc_0 wd_687 (fRoom_L rfl (by omega) (by omega)) rfl (Nat.le_of_ble_eq_true rfl) dL_law_1773) (s_X10_leave hg (rsc (i + 1)) e2) rfl rfl rfl (fun g2 => ?_)
  refine fW_rg (fun hR2 => ?_)
  refine fW_aload_n 1777 dL_law_1776 rfl rfl ?_
  refine fW_aload_n 1778 dL_law_1777 rfl rfl ?_
  refine fW_iload 1780 dL_law_1778 rfl rfl ?_
  refine fW_iconst 1781 dL_law_1780 rfl ?_
  refine fW_iadd 1782 dL_law_1781 rfl ?_
  obtain ⟨c3, h⟩ := fS h
  refine fW_sld 1783 hL3 (by rw [← hsn] at c3; exact c3) dL_law_1782 rfl ?_
  rw [show scr G (i + 1) = sc (i + 1) from congrFun hsc _]
  obtain ⟨r4, e4, h⟩ := fBd h
  refine fW_cP (fI_V (as := [iv (sc (i + 1))]) (rest := [iv r2.1]) miX11_leave hg clX11 rfl tc_418 wd_1616 (fRoom_L rfl (by omega) (by omega)) rfl (Nat.le_of_ble_eq_true rfl) dL_law_1783) (s_X11_leave hg (rsc (i + 1)) e4) rfl rfl rfl (fun g4 => ?_)
  refine fW_rg (fun hR4 => ?_)
  refine fW_icmp_eq 1789 2020 g2 g4 dL_law_1786 rfl rfl (fun c5 => ?_) (fun c5 => ?_)
  · replace h := fTt h c5
    refine fW_wide (c1 := c0 + 6) (s1 := s0 + 36) (by omega) (by omega) ?_
    exact fW_sb (hk r4.2 h) ⟨rfl, rfl, rfl, rfl, rfl, trivial⟩
  · replace h := fFf h c5
    refine fW_iconst 1790 dL_law_1789 rfl ?_
    exact absurd h (by simp)
def law_c29 (sc : Int → Int) (sn : Int) (k : fMem → Option Int) (i : Int) (M : fMem) : Option Int := (if 0 ≤ i + 1 ∧ i + 1 < sn then (if 0 ≤ i + 2 ∧ i + 2 < sn then ((f_L_seen (sc (i + 1)) (sc (i + 2)) M).bind fun (r3 : Int × fMem) => (if 0 ≤ i + 1 ∧ i + 1 < sn then (if 0 ≤ i + 2 ∧ i + 2 < sn then ((f_X11_seen (sc (i + 1)) (sc (i + 2)) r3.2).bind fun (r6 : Int × fMem) => ((f_X11_thrown r6.2).bind fun (r7 : Int) => (if r7 = r3.1 then (if r3.1 = 0 then (if (cmpI (r6.2 439 0) r6.1) = 0 then k r6.2 else some 0) else k r6.2) else some 0))) else none) else none)) else none) else none)
set_option maxRecDepth 100000 in
set_option maxHeartbeats 4000000 in
theorem t_law_c29 {G : fG} (hg : gbt G = true) (hL3 : gsn G ≤ 3072) {sc : Int → Int} {sn : Int} (hsc : scr G = sc) (hsn : (gsn G : Int) = sn) (rsc : ∀ i, rg (sc i)) {c0 s0 : Nat} (hc : c0 ≤ 600000) (hs : s0 ≤ 7200000) {k : fMem → Option Int} {i : Int} (gi : rg i) {M : fMem} (hk : ∀ N, k N = some 1 → fW G mL_law (fEL G) (c0 + 6) (s0 + 36) 2020 [some (.ref (gsb G)), some (rv G 0), some (rv G 418), some (rv G 439), some (iv i), none, none] [] N) (h : law_c29 sc sn k i M = some 1) : fW G mL_law (fEL G) c0 s0 1791 [some (.ref (gsb G)), some (rv G 0), some (rv G 418), some (rv G 439), some (iv i), none, none] [] M := by
  rw [law_c29] at h
  refine fW_rg (fun hR => ?_)
  refine fW_aload_n 1792 dL_law_1791 rfl rfl ?_
  refine fW_aload_n 1793 dL_law_1792 rfl rfl ?_
  refine fW_iload 1795 dL_law_1793 rfl rfl ?_
  refine fW_iconst 1796 dL_law_1795 rfl ?_
  refine fW_iadd 1797 dL_law_1796 rfl ?_
  obtain ⟨c1, h⟩ := fS h
  refine fW_sld 1798 hL3 (by rw [← hsn] at c1; exact c1) dL_law_1797 rfl ?_
  rw [show scr G (i + 1) = sc (i + 1) from congrFun hsc _]
  refine fW_aload_n 1799 dL_law_1798 rfl rfl ?_
  refine fW_iload 1801 dL_law_1799 rfl rfl ?_
  refine fW_iconst 1802 dL_law_1801 rfl ?_
  refine fW_iadd 1803 dL_law_1802 rfl ?_
  obtain ⟨c2, h⟩ := fS h
  refine fW_sld 1804 hL3 (by rw [← hsn] at c2; exact c2) dL_law_1803 rfl ?_
  rw [show scr G (i + 2) = sc (i + 2) from congrFun hsc _]
  refine fW_aload_n 1805 dL_law_1804 rfl rfl ?_
  obtain ⟨r3, e3, h⟩ := fBd h
  refine fW_invH (as := [rv G 0, iv (sc (i + 1)), iv (sc (i + 2)), rv G 439]) (rest := []) miL_seen wd_1130 (fRoom_L rfl (by omega) (by omega)) rfl (Nat.le_of_ble_eq_true rfl) dL_law_1805 (s_L_seen hg (rsc (i + 1)) (rsc (i + 2)) e3) rfl (fun v9 N9 q9 => ?_)
  obtain ⟨rfl, rfl, g3⟩ := q9
  show fW G mL_law (fEL G) (c0 + 2) (s0 + 12) 1808 [some (.ref (gsb G)), some (rv G 0), some (rv G 418), some (rv G 439), some (iv i), none, none] (iv r3.1 :: []) r3.2
  refine fW_rg (fun hR3 => ?_)
  refine fW_istore 1810 (ls' := [some (.ref (gsb G)), some (rv G 0), some (rv G 418), some (rv G 439), some (iv i), some (iv r3.1), none]) dL_law_1808 rfl rfl (by decide) ?_
  refine fW_aload_n 1811 dL_law_1810 rfl rfl ?_
  refine fW_aload_n 1812 dL_law_1811 rfl rfl ?_
  refine fW_iload 1814 dL_law_1812 rfl rfl ?_
  refine fW_iconst 1815 dL_law_1814 rfl ?_
  refine fW_iadd 1816 dL_law_1815 rfl ?_
  obtain ⟨c4, h⟩ := fS h
  refine fW_sld 1817 hL3 (by rw [← hsn] at c4; exact c4) dL_law_1816 rfl ?_
  rw [show scr G (i + 1) = sc (i + 1) from congrFun hsc _]
  refine fW_aload_n 1818 dL_law_1817 rfl rfl ?_
  refine fW_iload 1820 dL_law_1818 rfl rfl ?_
  refine fW_iconst 1821 dL_law_1820 rfl ?_
  refine fW_iadd 1822 dL_law_1821 rfl ?_
  obtain ⟨c5, h⟩ := fS h
  refine fW_sld 1823 hL3 (by rw [← hsn] at c5; exact c5) dL_law_1822 rfl ?_
  rw [show scr G (i + 2) = sc (i + 2) from congrFun hsc _]
  obtain ⟨r6, e6, h⟩ := fBd h
  refine fW_cP (fI_V (as := [iv (sc (i + 1)), iv (sc (i + 2))]) (rest := []) miX11_seen hg clX11 rfl tc_418 wd_1624 (fRoom_L rfl (by omega) (by omega)) rfl (Nat.le_of_ble_eq_true rfl) dL_law_1823) (s_X11_seen hg (rsc (i + 1)) (rsc (i + 2)) e6) rfl rfl rfl (fun g6 => ?_)
  refine fW_rg (fun hR6 => ?_)
  refine fW_istore 1828 (ls' := [some (.ref (gsb G)), some (rv G 0), some (rv G 418), some (rv G 439), some (iv i), some (iv r3.1), some (iv r6.1)]) dL_law_1826 rfl rfl (by decide) ?_
  refine fW_aload_n 1829 dL_law_1828 rfl rfl ?_
  obtain ⟨r7, e7, h⟩ := fBd h
  refine fW_cP (fI_V (as := []) (rest := []) miX11_thrown hg clX11 rfl tc_418 wd_1256 (fRoom_L rfl (by omega) (by omega)) rfl (Nat.le_of_ble_eq_true rfl) dL_law_1829) (s_X11_thrown hg  e7) rfl rfl rfl (fun g7 => ?_)
  refine fW_iload 1834 dL_law_1832 rfl rfl ?_
  refine fW_icmp_eq 1837 1839 g7 g3 dL_law_1834 rfl rfl (fun c8 => ?_) (fun c8 => ?_)
  · replace h := fTt h c8
    refine fW_iload 1841 dL_law_1839 rfl rfl ?_
    refine fW_if_ne 1844 1856 g3 dL_law_1841 rfl rfl (fun c9 => ?_) (fun c9 => ?_)
    · replace h := fFf h c9
      refine fW_goto 2020 dL_law_1856 rfl ?_
      refine fW_wide (c1 := c0 + 6) (s1 := s0 + 36) (by omega) (by omega) ?_
      exact fW_sb (hk r6.2 h) ⟨rfl, rfl, rfl, rfl, rfl, trivial⟩
    · replace h := fTt h c9
      refine fW_aload_n 1845 dL_law_1844 rfl rfl ?_
      refine fW_iconst 1846 dL_law_1845 rfl ?_
      refine fW_lald 1847 hg tc_439 (by decide) dL_law_1846 rfl ?_
      refine fW_iload 1849 dL_law_1847 rfl rfl ?_
      refine fW_i2l 1850 g6 dL_law_1849 rfl ?_
      refine fW_lcmp 1851 (hR6 439 0) g6 dL_law_1850 rfl ?_
      refine fW_if_eq 1854 1856 (rg_cmp (r6.2 439 0) r6.1) dL_law_1851 rfl rfl (fun c10 => ?_) (fun c10 => ?_)
      · replace h := fTt h c10
        refine fW_goto 2020 dL_law_1856 rfl ?_
        refine fW_wide (c1 := c0 + 6) (s1 := s0 + 36) (by omega) (by omega) ?_
        exact fW_sb (hk r6.2 h) ⟨rfl, rfl, rfl, rfl, rfl, trivial⟩
      · replace h := fFf h c10
        refine fW_iconst 1855 dL_law_1854 rfl ?_
        exact absurd h (by simp)
  · replace h := fFf h c8
    refine fW_iconst 1838 dL_law_1837 rfl ?_
    exact absurd h (by simp)
def law_c30 (sc : Int → Int) (sn : Int) (k : fMem → Option Int) (i : Int) (M : fMem) : Option Int := (if 0 ≤ i + 1 ∧ i + 1 < sn then (if 0 ≤ i + 2 ∧ i + 2 < sn then ((f_L_against (sc (i + 1)) (sc (i + 2)) M).bind fun (r3 : Int × fMem) => (if 0 ≤ i + 1 ∧ i + 1 < sn then (if 0 ≤ i + 2 ∧ i + 2 < sn then ((f_X11_against (sc (i + 1)) (sc (i + 2)) r3.2).bind fun (r6 : Int × fMem) => ((f_X11_thrown r6.2).bind fun (r7 : Int) => (if r7 = r3.1 then (if r3.1 = 0 then (if (cmpI (r6.2 439 0) r6.1) = 0 then k r6.2 else some 0) else k r6.2) else some 0))) else none) else none)) else none) else none)
set_option maxRecDepth 100000 in
set_option maxHeartbeats 4000000 in
theorem t_law_c30 {G : fG} (hg : gbt G = true) (hL3 : gsn G ≤ 3072) {sc : Int → Int} {sn : Int} (hsc : scr G = sc) (hsn : (gsn G : Int) = sn) (rsc : ∀ i, rg (sc i)) {c0 s0 : Nat} (hc : c0 ≤ 600000) (hs : s0 ≤ 7200000) {k : fMem → Option Int} {i : Int} (gi : rg i) {M : fMem} (hk : ∀ N, k N = some 1 → fW G mL_law (fEL G) (c0 + 6) (s0 + 36) 2020 [some (.ref (gsb G)), some (rv G 0), some (rv G 418), some (rv G 439), some (iv i), none, none] [] N) (h : law_c30 sc sn k i M = some 1) : fW G mL_law (fEL G) c0 s0 1859 [some (.ref (gsb G)), some (rv G 0), some (rv G 418), some (rv G 439), some (iv i), none, none] [] M := by
  rw [law_c30] at h
  refine fW_rg (fun hR => ?_)
  refine fW_aload_n 1860 dL_law_1859 rfl rfl ?_
  refine fW_aload_n 1861 dL_law_1860 rfl rfl ?_
  refine fW_iload 1863 dL_law_1861 rfl rfl ?_
  refine fW_iconst 1864 dL_law_1863 rfl ?_
  refine fW_iadd 1865 dL_law_1864 rfl ?_
  obtain ⟨c1, h⟩ := fS h
  refine fW_sld 1866 hL3 (by rw [← hsn] at c1; exact c1) dL_law_1865 rfl ?_
  rw [show scr G (i + 1) = sc (i + 1) from congrFun hsc _]
  refine fW_aload_n 1867 dL_law_1866 rfl rfl ?_
  refine fW_iload 1869 dL_law_1867 rfl rfl ?_
  refine fW_iconst 1870 dL_law_1869 rfl ?_
  refine fW_iadd 1871 dL_law_1870 rfl ?_
  obtain ⟨c2, h⟩ := fS h
  refine fW_sld 1872 hL3 (by rw [← hsn] at c2; exact c2) dL_law_1871 rfl ?_
  rw [show scr G (i + 2) = sc (i + 2) from congrFun hsc _]
  refine fW_aload_n 1873 dL_law_1872 rfl rfl ?_
  obtain ⟨r3, e3, h⟩ := fBd h
  refine fW_invH (as := [rv G 0, iv (sc (i + 1)), iv (sc (i + 2)), rv G 439]) (rest := []) miL_against wd_1142 (fRoom_L rfl (by omega) (by omega)) rfl (Nat.le_of_ble_eq_true rfl) dL_law_1873 (s_L_against hg (rsc (i + 1)) (rsc (i + 2)) e3) rfl (fun v9 N9 q9 => ?_)
  obtain ⟨rfl, rfl, g3⟩ := q9
  show fW G mL_law (fEL G) (c0 + 2) (s0 + 12) 1876 [some (.ref (gsb G)), some (rv G 0), some (rv G 418), some (rv G 439), some (iv i), none, none] (iv r3.1 :: []) r3.2
  refine fW_rg (fun hR3 => ?_)
  refine fW_istore 1878 (ls' := [some (.ref (gsb G)), some (rv G 0), some (rv G 418), some (rv G 439), some (iv i), some (iv r3.1), none]) dL_law_1876 rfl rfl (by decide) ?_
  refine fW_aload_n 1879 dL_law_1878 rfl rfl ?_
  refine fW_aload_n 1880 dL_law_1879 rfl rfl ?_
  refine fW_iload 1882 dL_law_1880 rfl rfl ?_
  refine fW_iconst 1883 dL_law_1882 rfl ?_
  refine fW_iadd 1884 dL_law_1883 rfl ?_
  obtain ⟨c4, h⟩ := fS h
  refine fW_sld 1885 hL3 (by rw [← hsn] at c4; exact c4) dL_law_1884 rfl ?_
  rw [show scr G (i + 1) = sc (i + 1) from congrFun hsc _]
  refine fW_aload_n 1886 dL_law_1885 rfl rfl ?_
  refine fW_iload 1888 dL_law_1886 rfl rfl ?_
  refine fW_iconst 1889 dL_law_1888 rfl ?_
  refine fW_iadd 1890 dL_law_1889 rfl ?_
  obtain ⟨c5, h⟩ := fS h
  refine fW_sld 1891 hL3 (by rw [← hsn] at c5; exact c5) dL_law_1890 rfl ?_
  rw [show scr G (i + 2) = sc (i + 2) from congrFun hsc _]
  obtain ⟨r6, e6, h⟩ := fBd h
  refine fW_cP (fI_V (as := [iv (sc (i + 1)), iv (sc (i + 2))]) (rest := []) miX11_against hg clX11 rfl tc_418 wd_1636 (fRoom_L rfl (by omega) (by omega)) rfl (Nat.le_of_ble_eq_true rfl) dL_law_1891) (s_X11_against hg (rsc (i + 1)) (rsc (i + 2)) e6) rfl rfl rfl (fun g6 => ?_)
  refine fW_rg (fun hR6 => ?_)
  refine fW_istore 1896 (ls' := [some (.ref (gsb G)), some (rv G 0), some (rv G 418), some (rv G 439), some (iv i), some (iv r3.1), some (iv r6.1)]) dL_law_1894 rfl rfl (by decide) ?_
  refine fW_aload_n 1897 dL_law_1896 rfl rfl ?_
  obtain ⟨r7, e7, h⟩ := fBd h
  refine fW_cP (fI_V (as := []) (rest := []) miX11_thrown hg clX11 rfl tc_418 wd_1256 (fRoom_L rfl (by omega) (by omega)) rfl (Nat.le_of_ble_eq_true rfl) dL_law_1897) (s_X11_thrown hg  e7) rfl rfl rfl (fun g7 => ?_)
  refine fW_iload 1902 dL_law_1900 rfl rfl ?_
  refine fW_icmp_eq 1905 1907 g7 g3 dL_law_1902 rfl rfl (fun c8 => ?_) (fun c8 => ?_)
  · replace h := fTt h c8
    refine fW_iload 1909 dL_law_1907 rfl rfl ?_
    refine fW_if_ne 1912 1924 g3 dL_law_1909 rfl rfl (fun c9 => ?_) (fun c9 => ?_)
    · replace h := fFf h c9
      refine fW_goto 2020 dL_law_1924 rfl ?_
      refine fW_wide (c1 := c0 + 6) (s1 := s0 + 36) (by omega) (by omega) ?_
      exact fW_sb (hk r6.2 h) ⟨rfl, rfl, rfl, rfl, rfl, trivial⟩
    · replace h := fTt h c9
      refine fW_aload_n 1913 dL_law_1912 rfl rfl ?_
      refine fW_iconst 1914 dL_law_1913 rfl ?_
      refine fW_lald 1915 hg tc_439 (by decide) dL_law_1914 rfl ?_
      refine fW_iload 1917 dL_law_1915 rfl rfl ?_
      refine fW_i2l 1918 g6 dL_law_1917 rfl ?_
      refine fW_lcmp 1919 (hR6 439 0) g6 dL_law_1918 rfl ?_
      refine fW_if_eq 1922 1924 (rg_cmp (r6.2 439 0) r6.1) dL_law_1919 rfl rfl (fun c10 => ?_) (fun c10 => ?_)
      · replace h := fTt h c10
        refine fW_goto 2020 dL_law_1924 rfl ?_
        refine fW_wide (c1 := c0 + 6) (s1 := s0 + 36) (by omega) (by omega) ?_
        exact fW_sb (hk r6.2 h) ⟨rfl, rfl, rfl, rfl, rfl, trivial⟩
      · replace h := fFf h c10
        refine fW_iconst 1923 dL_law_1922 rfl ?_
        exact absurd h (by simp)
  · replace h := fFf h c8
    refine fW_iconst 1906 dL_law_1905 rfl ?_
    exact absurd h (by simp)
def law_c31 (sc : Int → Int) (sn : Int) (k : fMem → Option Int) (i : Int) (M : fMem) : Option Int := (if 0 ≤ i + 1 ∧ i + 1 < sn then (if 0 ≤ i + 2 ∧ i + 2 < sn then ((f_L_between (sc (i + 1)) (sc (i + 2)) M).bind fun (r3 : Int × fMem) => (if 0 ≤ i + 1 ∧ i + 1 < sn then (if 0 ≤ i + 2 ∧ i + 2 < sn then ((f_X11_between (sc (i + 1)) (sc (i + 2)) r3.2).bind fun (r6 : Int × fMem) => ((f_X11_thrown r6.2).bind fun (r7 : Int) => (if r7 = r3.1 then (if r3.1 = 0 then (if (cmpI (r6.2 439 0) r6.1) = 0 then k r6.2 else some 0) else k r6.2) else some 0))) else none) else none)) else none) else none)
set_option maxRecDepth 100000 in
set_option maxHeartbeats 4000000 in
theorem t_law_c31 {G : fG} (hg : gbt G = true) (hL3 : gsn G ≤ 3072) {sc : Int → Int} {sn : Int} (hsc : scr G = sc) (hsn : (gsn G : Int) = sn) (rsc : ∀ i, rg (sc i)) {c0 s0 : Nat} (hc : c0 ≤ 600000) (hs : s0 ≤ 7200000) {k : fMem → Option Int} {i : Int} (gi : rg i) {M : fMem} (hk : ∀ N, k N = some 1 → fW G mL_law (fEL G) (c0 + 6) (s0 + 36) 2020 [some (.ref (gsb G)), some (rv G 0), some (rv G 418), some (rv G 439), some (iv i), none, none] [] N) (h : law_c31 sc sn k i M = some 1) : fW G mL_law (fEL G) c0 s0 1927 [some (.ref (gsb G)), some (rv G 0), some (rv G 418), some (rv G 439), some (iv i), none, none] [] M := by
  rw [law_c31] at h
  refine fW_rg (fun hR => ?_)
  refine fW_aload_n 1928 dL_law_1927 rfl rfl ?_
  refine fW_aload_n 1929 dL_law_1928 rfl rfl ?_
  refine fW_iload 1931 dL_law_1929 rfl rfl ?_
  refine fW_iconst 1932 dL_law_1931 rfl ?_
  refine fW_iadd 1933 dL_law_1932 rfl ?_
  obtain ⟨c1, h⟩ := fS h
  refine fW_sld 1934 hL3 (by rw [← hsn] at c1; exact c1) dL_law_1933 rfl ?_
  rw [show scr G (i + 1) = sc (i + 1) from congrFun hsc _]
  refine fW_aload_n 1935 dL_law_1934 rfl rfl ?_
  refine fW_iload 1937 dL_law_1935 rfl rfl ?_
  refine fW_iconst 1938 dL_law_1937 rfl ?_
  refine fW_iadd 1939 dL_law_1938 rfl ?_
  obtain ⟨c2, h⟩ := fS h
  refine fW_sld 1940 hL3 (by rw [← hsn] at c2; exact c2) dL_law_1939 rfl ?_
  rw [show scr G (i + 2) = sc (i + 2) from congrFun hsc _]
  refine fW_aload_n 1941 dL_law_1940 rfl rfl ?_
  obtain ⟨r3, e3, h⟩ := fBd h
  refine fW_invH (as := [rv G 0, iv (sc (i + 1)), iv (sc (i + 2)), rv G 439]) (rest := []) miL_between wd_1161 (fRoom_L rfl (by omega) (by omega)) rfl (Nat.le_of_ble_eq_true rfl) dL_law_1941 (s_L_between hg (rsc (i + 1)) (rsc (i + 2)) e3) rfl (fun v9 N9 q9 => ?_)
  obtain ⟨rfl, rfl, g3⟩ := q9
  show fW G mL_law (fEL G) (c0 + 2) (s0 + 12) 1944 [some (.ref (gsb G)), some (rv G 0), some (rv G 418), some (rv G 439), some (iv i), none, none] (iv r3.1 :: []) r3.2
  refine fW_rg (fun hR3 => ?_)
  refine fW_istore 1946 (ls' := [some (.ref (gsb G)), some (rv G 0), some (rv G 418), some (rv G 439), some (iv i), some (iv r3.1), none]) dL_law_1944 rfl rfl (by decide) ?_
  refine fW_aload_n 1947 dL_law_1946 rfl rfl ?_
  refine fW_aload_n 1948 dL_law_1947 rfl rfl ?_
  refine fW_iload 1950 dL_law_1948 rfl rfl ?_
  refine fW_iconst 1951 dL_law_1950 rfl ?_
  refine fW_iadd 1952 dL_law_1951 rfl ?_
  obtain ⟨c4, h⟩ := fS h
  refine fW_sld 1953 hL3 (by rw [← hsn] at c4; exact c4) dL_law_1952 rfl ?_
  rw [show scr G (i + 1) = sc (i + 1) from congrFun hsc _]
  refine fW_aload_n 1954 dL_law_1953 rfl rfl ?_
  refine fW_iload 1956 dL_law_1954 rfl rfl ?_
  refine fW_iconst 1957 dL_law_1956 rfl ?_
  refine fW_iadd 1958 dL_law_1957 rfl ?_
  obtain ⟨c5, h⟩ := fS h
  refine fW_sld 1959 hL3 (by rw [← hsn] at c5; exact c5) dL_law_1958 rfl ?_
  rw [show scr G (i + 2) = sc (i + 2) from congrFun hsc _]
  obtain ⟨r6, e6, h⟩ := fBd h
  refine fW_cP (fI_V (as := [iv (sc (i + 1)), iv (sc (i + 2))]) (rest := []) miX11_between hg clX11 rfl tc_418 wd_1644 (fRoom_L rfl (by omega) (by omega)) rfl (Nat.le_of_ble_eq_true rfl) dL_law_1959) (s_X11_between hg (rsc (i + 1)) (rsc (i + 2)) e6) rfl rfl rfl (fun g6 => ?_)
  refine fW_rg (fun hR6 => ?_)
  refine fW_istore 1964 (ls' := [some (.ref (gsb G)), some (rv G 0), some (rv G 418), some (rv G 439), some (iv i), some (iv r3.1), some (iv r6.1)]) dL_law_1962 rfl rfl (by decide) ?_
  refine fW_aload_n 1965 dL_law_1964 rfl rfl ?_
  obtain ⟨r7, e7, h⟩ := fBd h
  refine fW_cP (fI_V (as := []) (rest := []) miX11_thrown hg clX11 rfl tc_418 wd_1256 (fRoom_L rfl (by omega) (by omega)) rfl (Nat.le_of_ble_eq_true rfl) dL_law_1965) (s_X11_thrown hg  e7) rfl rfl rfl (fun g7 => ?_)
  refine fW_iload 1970 dL_law_1968 rfl rfl ?_
  refine fW_icmp_eq 1973 1975 g7 g3 dL_law_1970 rfl rfl (fun c8 => ?_) (fun c8 => ?_)
  · replace h := fTt h c8
    refine fW_iload 1977 dL_law_1975 rfl rfl ?_
    refine fW_if_ne 1980 1992 g3 dL_law_1977 rfl rfl (fun c9 => ?_) (fun c9 => ?_)
    · replace h := fFf h c9
      refine fW_goto 2020 dL_law_1992 rfl ?_
      refine fW_wide (c1 := c0 + 6) (s1 := s0 + 36) (by omega) (by omega) ?_
      exact fW_sb (hk r6.2 h) ⟨rfl, rfl, rfl, rfl, rfl, trivial⟩
    · replace h := fTt h c9
      refine fW_aload_n 1981 dL_law_1980 rfl rfl ?_
      refine fW_iconst 1982 dL_law_1981 rfl ?_
      refine fW_lald 1983 hg tc_439 (by decide) dL_law_1982 rfl ?_
      refine fW_iload 1985 dL_law_1983 rfl rfl ?_
      refine fW_i2l 1986 g6 dL_law_1985 rfl ?_
      refine fW_lcmp 1987 (hR6 439 0) g6 dL_law_1986 rfl ?_
      refine fW_if_eq 1990 1992 (rg_cmp (r6.2 439 0) r6.1) dL_law_1987 rfl rfl (fun c10 => ?_) (fun c10 => ?_)
      · replace h := fTt h c10
        refine fW_goto 2020 dL_law_1992 rfl ?_
        refine fW_wide (c1 := c0 + 6) (s1 := s0 + 36) (by omega) (by omega) ?_
        exact fW_sb (hk r6.2 h) ⟨rfl, rfl, rfl, rfl, rfl, trivial⟩
      · replace h := fFf h c10
        refine fW_iconst 1991 dL_law_1990 rfl ?_
        exact absurd h (by simp)
  · replace h := fFf h c8
    refine fW_iconst 1974 dL_law_1973 rfl ?_
    exact absurd h (by simp)
def law_c32 (sc : Int → Int) (sn : Int) (k : fMem → Option Int) (i : Int) (M : fMem) : Option Int := (if 0 ≤ i + 1 ∧ i + 1 < sn then ((f_X10_restore (sc (i + 1)) M).bind fun (r2 : Int × fMem) => (if 0 ≤ i + 1 ∧ i + 1 < sn then ((f_X11_restore (sc (i + 1)) r2.2).bind fun (r4 : Int × fMem) => (if r2.1 = r4.1 then k r4.2 else some 0)) else none)) else none)
set_option maxRecDepth 100000 in
set_option maxHeartbeats 4000000 in
theorem t_law_c32 {G : fG} (hg : gbt G = true) (hL3 : gsn G ≤ 3072) {sc : Int → Int} {sn : Int} (hsc : scr G = sc) (hsn : (gsn G : Int) = sn) (rsc : ∀ i, rg (sc i)) {c0 s0 : Nat} (hc : c0 ≤ 600000) (hs : s0 ≤ 7200000) {k : fMem → Option Int} {i : Int} (gi : rg i) {M : fMem} (hk : ∀ N, k N = some 1 → fW G mL_law (fEL G) (c0 + 6) (s0 + 36) 2020 [some (.ref (gsb G)), some (rv G 0), some (rv G 418), some (rv G 439), some (iv i), none, none] [] N) (h : law_c32 sc sn k i M = some 1) : fW G mL_law (fEL G) c0 s0 1995 [some (.ref (gsb G)), some (rv G 0), some (rv G 418), some (rv G 439), some (iv i), none, none] [] M := by
  rw [law_c32] at h
  refine fW_rg (fun hR => ?_)
  refine fW_aload_n 1996 dL_law_1995 rfl rfl ?_
  refine fW_aload_n 1997 dL_law_1996 rfl rfl ?_
  refine fW_iload 1999 dL_law_1997 rfl rfl ?_
  refine fW_iconst 2000 dL_law_1999 rfl ?_
  refine fW_iadd 2001 dL_law_2000 rfl ?_
  obtain ⟨c1, h⟩ := fS h
  refine fW_sld 2002 hL3 (by rw [← hsn] at c1; exact c1) dL_law_2001 rfl ?_
  rw [show scr G (i + 1) = sc (i + 1) from congrFun hsc _]
  obtain ⟨r2, e2, h⟩ := fBd h
  refine fW_cP (fI_V (as := [iv (sc (i + 1))]) (rest := []) miX10_restore hg clX10 rfl tc_0 wd_695 (fRoom_L rfl (by omega) (by omega)) rfl (Nat.le_of_ble_eq_true rfl) dL_law_2002) (s_X10_restore hg (rsc (i + 1)) e2) rfl rfl rfl (fun g2 => ?_)
  refine fW_rg (fun hR2 => ?_)
  refine fW_aload_n 2006 dL_law_2005 rfl rfl ?_
  refine fW_aload_n 2007 dL_law_2006 rfl rfl ?_
  refine fW_iload 2009 dL_law_2007 rfl rfl ?_
  refine fW_iconst 2010 dL_law_2009 rfl ?_
  refine fW_iadd 2011 dL_law_2010 rfl ?_
  obtain ⟨c3, h⟩ := fS h
  refine fW_sld 2012 hL3 (by rw [← hsn] at c3; exact c3) dL_law_2011 rfl ?_
  rw [show scr G (i + 1) = sc (i + 1) from congrFun hsc _]
  obtain ⟨r4, e4, h⟩ := fBd h
  refine fW_cP (fI_V (as := [iv (sc (i + 1))]) (rest := [iv r2.1]) miX11_restore hg clX11 rfl tc_418 wd_1648 (fRoom_L rfl (by omega) (by omega)) rfl (Nat.le_of_ble_eq_true rfl) dL_law_2012) (s_X11_restore hg (rsc (i + 1)) e4) rfl rfl rfl (fun g4 => ?_)
  refine fW_rg (fun hR4 => ?_)
  refine fW_icmp_eq 2018 2020 g2 g4 dL_law_2015 rfl rfl (fun c5 => ?_) (fun c5 => ?_)
  · replace h := fTt h c5
    refine fW_wide (c1 := c0 + 6) (s1 := s0 + 36) (by omega) (by omega) ?_
    exact fW_sb (hk r4.2 h) ⟨rfl, rfl, rfl, rfl, rfl, trivial⟩
  · replace h := fFf h c5
    refine fW_iconst 2019 dL_law_2018 rfl ?_
    exact absurd h (by simp)
end LAWC
