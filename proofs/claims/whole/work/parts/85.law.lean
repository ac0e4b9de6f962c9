/-! THE LAW'S CASES (by wip/whole/x44.py): JI is any invariant; ja_JC says of a call that class (through the wrapper) and reference go on from JI to JI and agree -/
theorem s_thrown (l : Launch) {Z : jZ} {D : jD} (h8 : Z.2.1 100 = (8, 28)) : ja_M l (mX8_thrown 0 0) [.ref 100] Z D (ja_jr (some (.int (D 100 0))) Z D) ja_x0 := by
  refine ja_Mof (lv := [some (.ref 100)]) (by decide +kernel) rfl rfl (Nat.le_of_ble_eq_true rfl) rfl ?_
  refine ja_aload_n (i := 0) dX8_thrown_0 rfl rfl ?_
  refine ja_getI fl_X8_85 h8 rfl dX8_thrown_1 ?_
  exact ja_iret rfl rfl dX8_thrown_4 (Nat.zero_le _) (Nat.zero_le _) ⟨rfl, rfl, rfl⟩
def ja_SH (Z : jZ) : Prop := Z.2.1 0 = (7, 13) ∧ Z.2.1 100 = (8, 28) ∧ Z.2.1 200 = (13, 1) ∧ Z.2.1 201 = (14, 1)
def ty_i : Value → Prop := fun b => ∃ y : Int32, b = .int y
def ty_b : Value → Prop := fun b => ∃ y : Bool, b = .int (bI y)
def ty_l : Value → Prop := fun b => ∃ y : Int64, b = .long y
def ty_f : Value → Prop := fun b => ∃ y : UInt32, b = .float y
def ty_d : Value → Prop := fun b => ∃ y : UInt64, b = .double y
def eqv_i : Value → UInt64 → Prop := fun b x => ∃ y : Int32, b = .int y ∧ x.toInt64 = y.toInt64
def eqv_b : Value → UInt64 → Prop := fun b x => ∃ y : Bool, b = .int (bI y) ∧ x.toInt64 = if y then 1 else 0
def eqv_l : Value → UInt64 → Prop := fun b x => ∃ y : Int64, b = .long y ∧ x.toInt64 = y
def eqv_f : Value → UInt64 → Prop := fun b x => ∃ y : UInt32, b = .float y ∧ vf_n64 (FP.f2d y) ∧ x = FP.f2d y ∧ Op.cmpValue (FP.dcmp x x) .l = 0
def eqv_d : Value → UInt64 → Prop := fun b x => ∃ y : UInt64, b = .double y ∧ x = y ∧ Op.cmpValue (FP.dcmp x x) .l = 0
def ja_JC (l : Launch) (JI : Nat → jZ → jD → Prop) (Mw Mm : Nat → Nat → jM) (av : List Value) (oid : Nat) (ty : Value → Prop) (eqv : Value → UInt64 → Prop) : Prop := ∀ n Z D, n < 512 → JI n Z D → ∃ (c s : Nat) (kr1 : Option Value → jZ → jD → Prop), c ≤ 4 ∧ s ≤ 776 ∧ ja_M l (Mw c s) (.ref 0 :: (av ++ [.ref oid])) Z D kr1 ja_x0 ∧
  ∀ v Z1 D1, kr1 v Z1 D1 → ∃ k : Nat, k < 100 ∧ v = some (.int (nI k)) ∧ ja_SH Z1 ∧ ∃ kr2 : Option Value → jZ → jD → Prop, ja_M l (Mm 0 0) (.ref 100 :: av) Z1 D1 kr2 ja_x0 ∧
    ∀ w Z2 D2, kr2 w Z2 D2 → ja_SH Z2 ∧ D2 100 0 = nI k ∧ JI (n + 1) Z2 D2 ∧ ∃ b, w = some b ∧ ty b ∧ (k = 0 → eqv b (Z2.2.2.2 oid 0))
def ja_JS (l : Launch) (JI : Nat → jZ → jD → Prop) : Prop := ∀ n Z D, n < 512 → JI n Z D → ∃ (b : Bool) (kr1 : Option Value → jZ → jD → Prop), ja_M l (mX7_isSound 0 0) [.ref 0] Z D kr1 ja_x0 ∧
  ∀ v Z1 D1, kr1 v Z1 D1 → v = some (.int (bI b)) ∧ ja_SH Z1 ∧ ∃ kr2 : Option Value → jZ → jD → Prop, ja_M l (mX8_isSound 0 0) [.ref 100] Z1 D1 kr2 ja_x0 ∧
    ∀ w Z2 D2, kr2 w Z2 D2 → w = some (.int (bI b)) ∧ ja_SH Z2 ∧ JI (n + 1) Z2 D2
abbrev mL_law (nm : String) (tb : List (Nat × Nat × Nat × Nat)) : jM := (⟨RL, nm, "([I)Z"⟩, code, 9, ret, room_1, tb)
theorem lg_cmp_self (x : Int64) : lg_cmp x x = 0 := by
  unfold lg_cmp
  rw [if_neg (fun h => Int64.lt_irrefl h), if_pos rfl]
theorem nI_z {k : Nat} (h : k < 100) (e : nI k = 0) : k = 0 := nI_j (by omega) (by omega) (e.trans (show (0 : Int32) = nI 0 by decide))
theorem nI_7 (n : Nat) : nI (7 * n) + Int32.ofInt 7 = nI (7 * (n + 1)) := by
  rw [show Int32.ofInt 7 = nI 7 by decide, show 7 * (n + 1) = 7 * n + 7 by omega]
  exact (Int32.ofNat_add (7 * n) 7).symm
section LAW
variable {nm : String} {tb : List (Nat × Nat × Nat × Nat)} {l : Launch} {JI : Nat → jZ → jD → Prop} {sc : Nat × (Nat → Int32)} {Qf : jQ} {L n c9 s9 : Nat} {xs : Nat → Int32} {Z : jZ} {D : jD}
theorem ja_wid2 {M : jM} {pc : Nat} {lv : List (Option Value)} {st : List Value} {c s : Nat} (h1 : c9 ≤ c) (h2 : s9 ≤ s) (k : ja_A l M sc Qf pc lv st Z D c s) : ja_A l M sc Qf pc lv st Z D c9 s9 := by
  intro p e s0 m args below meth c0 G tc ad0 L0 ad H locs ls C I hl hs
  exact W.widen h1 h2 (k p e s0 m args below meth c0 G tc ad0 L0 ad H locs ls C I hl hs)
/-- the loop's head and its cases' -/
def la_lv (i : Nat) : List (Option Value) := [some (.ref 900), some (.ref 0), some (.ref 100), some (.ref 200), some (.ref 201), some (.int (nI i)), none, none, none]
theorem la_tail {b6 b7 b8 : Option Value} (kk : ja_A l (mL_law nm tb) sc Qf 28 (la_lv (7 * (n + 1))) [] Z D (c9 + 4) (s9 + 776)) {c s : Nat} (hc : c ≤ c9 + 4) (hs : s ≤ s9 + 776) : ja_A l (mL_law nm tb) sc Qf 3130 [some (.ref 900), some (.ref 0), some (.ref 100), some (.ref 200), some (.ref 201), some (.int (nI (7 * n))), b6, b7, b8] [] Z D c s := by
  refine ja_iinc (v := nI (7 * (n + 1))) dL_law_3130 rfl (nI_7 n) rfl (Nat.le_of_ble_eq_true rfl) ?_
  refine ja_goto dL_law_3133 (tgt := 28) (by decide) ?_
  refine ja_forget (i := 6) (ja_forget (i := 7) (ja_forget (i := 8) ?_))
  exact ja_wid2 hc hs kk
theorem la_begin (hS : ∀ n Z D, JI n Z D → ja_SH Z) (hC : ∀ (p0 : Int32), ja_JC l JI mL_begin mX8_begin [.int p0] 200 ty_i eqv_i) (hsc : sc = (L + 1, xs)) (hL : L ≤ 3584) (h7 : 7 * n + 7 ≤ L) (h4 : c9 + 4 ≤ 603072) (h5 : s9 + 776 ≤ 7211114) (hI : JI n Z D) (kk : ∀ Z2 D2, JI (n + 1) Z2 D2 → ja_A l (mL_law nm tb) sc Qf 28 (la_lv (7 * (n + 1))) [] Z2 D2 (c9 + 4) (s9 + 776)) : ja_A l (mL_law nm tb) sc Qf 220 (la_lv (7 * n)) [] Z D c9 s9 := by
  have hn : n < 512 := by omega
  obtain ⟨c, s, kr1, hc4, hs7, hM, h1⟩ := (hC ((xs (7 * n + 1)))) n Z D hn hI
  refine ja_aload_n (i := 1) dL_law_220 rfl rfl ?_
  refine ja_aload_n (i := 0) dL_law_221 rfl rfl ?_
  refine ja_iload dL_law_222 rfl ?_
  refine ja_iconst (v := nI 1) dL_law_224 (by decide +kernel) ?_
  refine ja_iaddN dL_law_225 ?_
  refine ja_sld (j := 7 * n + 1) hsc rfl (by omega) (by omega) dL_law_226 ?_
  refine ja_aload_n (i := 3) dL_law_227 rfl rfl ?_
  refine ja_callSW (st := []) hM (ch_L_begin c s) st_L_begin lk_L_157 ⟨Nat.le_of_ble_eq_true rfl, Nat.le_of_ble_eq_true rfl⟩ dL_law_228 rfl rfl (Nat.le_of_ble_eq_true rfl) (show c9 + c ≤ 603072 by omega) (show s9 + s ≤ 7211114 by omega) (fun _ _ _ h => h.elim) (fun v Z1 D1 hv => ?_)
  obtain ⟨k, hk, rfl, hS1, kr2, hM2, h2⟩ := h1 _ _ _ hv
  refine ja_istore dL_law_231 rfl (Nat.le_of_ble_eq_true rfl) ?_
  refine ja_aload_n (i := 2) dL_law_233 rfl rfl ?_
  refine ja_aload_n (i := 0) dL_law_234 rfl rfl ?_
  refine ja_iload dL_law_235 rfl ?_
  refine ja_iconst (v := nI 1) dL_law_237 (by decide +kernel) ?_
  refine ja_iaddN dL_law_238 ?_
  refine ja_sld (j := 7 * n + 1) hsc rfl (by omega) (by omega) dL_law_239 ?_
  refine ja_callV (av := [.int ((xs (7 * n + 1)))]) (st := []) hM2 (ce_X8_begin 0 0) im_X8_begin se_X8_begin lk_L_162 k_X8 hS1.2.1 ⟨Nat.le_of_ble_eq_true rfl, Nat.le_of_ble_eq_true rfl⟩ dL_law_240 rfl rfl (Nat.le_of_ble_eq_true rfl) (show c9 + c + 0 ≤ 603072 by omega) (show s9 + s + 0 ≤ 7211114 by omega) (fun _ _ _ h => h.elim) (fun w Z2 D2 hw => ?_)
  obtain ⟨hS2, ht, hJ, b, rfl, ⟨y, rfl⟩, he⟩ := h2 _ _ _ hw
  refine ja_istore dL_law_243 rfl (Nat.le_of_ble_eq_true rfl) ?_
  refine ja_aload_n (i := 2) dL_law_245 rfl rfl ?_
  refine ja_cVr (st := []) (s_thrown l hS2.2.1) rfl rfl (ce_X8_thrown 0 0) im_X8_thrown se_X8_thrown lk_L_163 k_X8 hS2.2.1 ⟨Nat.le_of_ble_eq_true rfl, Nat.le_of_ble_eq_true rfl⟩ dL_law_246 rfl rfl (Nat.le_of_ble_eq_true rfl) (show c9 + c + 0 ≤ 603072 by omega) (show s9 + s + 0 ≤ 7211114 by omega) ?_
  refine ja_top (y := nI k) ht ?_
  refine ja_iload dL_law_249 rfl ?_
  refine ja_icmp_eq dL_law_251 (tgt := 256) (by decide) (fun c0 => ?_) (fun c0 => absurd rfl c0)
  refine ja_iload dL_law_256 rfl ?_
  refine ja_if_ne dL_law_258 (tgt := 273) (by decide) (fun c0 => ?_) (fun c0 => ?_)
  · skip
    refine ja_goto dL_law_273 (tgt := 3130) (by decide) ?_
    exact la_tail (kk _ _ hJ) (show c9 + c + 0 ≤ c9 + 4 by omega) (show s9 + s + 0 ≤ s9 + 776 by omega)
  · have hk0 := nI_z hk c0
    obtain ⟨y2, hy, hx⟩ := he hk0
    cases hy
    refine ja_aload_n (i := 3) dL_law_261 rfl rfl ?_
    refine ja_iconst (v := nI 0) dL_law_262 (by decide +kernel) ?_
    refine ja_lald (n := 1) (j := 0) hS2.2.2.1 rfl (by decide) (by decide) dL_law_263 ?_
    refine ja_iload dL_law_264 rfl ?_
    refine ja_i2l dL_law_266 rfl ?_
    refine ja_lcmp dL_law_267 ?_
    refine ja_top (y := 0) (by rw [hx]; exact lg_cmp_self _) ?_
    refine ja_if_eq dL_law_268 (tgt := 273) (by decide) (fun c0 => ?_) (fun c0 => absurd rfl c0)
    refine ja_goto dL_law_273 (tgt := 3130) (by decide) ?_
    exact la_tail (kk _ _ hJ) (show c9 + c + 0 ≤ c9 + 4 by omega) (show s9 + s + 0 ≤ s9 + 776 by omega)
theorem la_paint (hS : ∀ n Z D, JI n Z D → ja_SH Z) (hC : ∀ (p0 p1 p2 p3 p4 p5 : Int32), ja_JC l JI mL_paint mX8_paint [.int p0, .int p1, .int p2, .int p3, .int p4, .int p5] 200 ty_i eqv_i) (hsc : sc = (L + 1, xs)) (hL : L ≤ 3584) (h7 : 7 * n + 7 ≤ L) (h4 : c9 + 4 ≤ 603072) (h5 : s9 + 776 ≤ 7211114) (hI : JI n Z D) (kk : ∀ Z2 D2, JI (n + 1) Z2 D2 → ja_A l (mL_law nm tb) sc Qf 28 (la_lv (7 * (n + 1))) [] Z2 D2 (c9 + 4) (s9 + 776)) : ja_A l (mL_law nm tb) sc Qf 276 (la_lv (7 * n)) [] Z D c9 s9 := by
  have hn : n < 512 := by omega
  obtain ⟨c, s, kr1, hc4, hs7, hM, h1⟩ := (hC ((xs (7 * n + 1))) ((xs (7 * n + 2))) ((xs (7 * n + 3))) ((xs (7 * n + 4))) ((xs (7 * n + 5))) ((xs (7 * n + 6)))) n Z D hn hI
  refine ja_aload_n (i := 1) dL_law_276 rfl rfl ?_
  refine ja_aload_n (i := 0) dL_law_277 rfl rfl ?_
  refine ja_iload dL_law_278 rfl ?_
  refine ja_iconst (v := nI 1) dL_law_280 (by decide +kernel) ?_
  refine ja_iaddN dL_law_281 ?_
  refine ja_sld (j := 7 * n + 1) hsc rfl (by omega) (by omega) dL_law_282 ?_
  refine ja_aload_n (i := 0) dL_law_283 rfl rfl ?_
  refine ja_iload dL_law_284 rfl ?_
  refine ja_iconst (v := nI 2) dL_law_286 (by decide +kernel) ?_
  refine ja_iaddN dL_law_287 ?_
  refine ja_sld (j := 7 * n + 2) hsc rfl (by omega) (by omega) dL_law_288 ?_
  refine ja_aload_n (i := 0) dL_law_289 rfl rfl ?_
  refine ja_iload dL_law_290 rfl ?_
  refine ja_iconst (v := nI 3) dL_law_292 (by decide +kernel) ?_
  refine ja_iaddN dL_law_293 ?_
  refine ja_sld (j := 7 * n + 3) hsc rfl (by omega) (by omega) dL_law_294 ?_
  refine ja_aload_n (i := 0) dL_law_295 rfl rfl ?_
  refine ja_iload dL_law_296 rfl ?_
  refine ja_iconst (v := nI 4) dL_law_298 (by decide +kernel) ?_
  refine ja_iaddN dL_law_299 ?_
  refine ja_sld (j := 7 * n + 4) hsc rfl (by omega) (by omega) dL_law_300 ?_
  refine ja_aload_n (i := 0) dL_law_301 rfl rfl ?_
  refine ja_iload dL_law_302 rfl ?_
  refine ja_iconst (v := nI 5) dL_law_304 (by decide +kernel) ?_
  refine ja_iaddN dL_law_305 ?_
  refine ja_sld (j := 7 * n + 5) hsc rfl (by omega) (by omega) dL_law_306 ?_
  refine ja_aload_n (i := 0) dL_law_307 rfl rfl ?_
  refine ja_iload dL_law_308 rfl ?_
  refine ja_bipush (v := nI 6) dL_law_310 (by decide +kernel) ?_
  refine ja_iaddN dL_law_312 ?_
  refine ja_sld (j := 7 * n + 6) hsc rfl (by omega) (by omega) dL_law_313 ?_
  refine ja_aload_n (i := 3) dL_law_314 rfl rfl ?_
  refine ja_callSW (st := []) hM (ch_L_paint c s) st_L_paint lk_L_166 ⟨Nat.le_of_ble_eq_true rfl, Nat.le_of_ble_eq_true rfl⟩ dL_law_315 rfl rfl (Nat.le_of_ble_eq_true rfl) (show c9 + c ≤ 603072 by omega) (show s9 + s ≤ 7211114 by omega) (fun _ _ _ h => h.elim) (fun v Z1 D1 hv => ?_)
  obtain ⟨k, hk, rfl, hS1, kr2, hM2, h2⟩ := h1 _ _ _ hv
  refine ja_istore dL_law_318 rfl (Nat.le_of_ble_eq_true rfl) ?_
  refine ja_aload_n (i := 2) dL_law_320 rfl rfl ?_
  refine ja_aload_n (i := 0) dL_law_321 rfl rfl ?_
  refine ja_iload dL_law_322 rfl ?_
  refine ja_iconst (v := nI 1) dL_law_324 (by decide +kernel) ?_
  refine ja_iaddN dL_law_325 ?_
  refine ja_sld (j := 7 * n + 1) hsc rfl (by omega) (by omega) dL_law_326 ?_
  refine ja_aload_n (i := 0) dL_law_327 rfl rfl ?_
  refine ja_iload dL_law_328 rfl ?_
  refine ja_iconst (v := nI 2) dL_law_330 (by decide +kernel) ?_
  refine ja_iaddN dL_law_331 ?_
  refine ja_sld (j := 7 * n + 2) hsc rfl (by omega) (by omega) dL_law_332 ?_
  refine ja_aload_n (i := 0) dL_law_333 rfl rfl ?_
  refine ja_iload dL_law_334 rfl ?_
  refine ja_iconst (v := nI 3) dL_law_336 (by decide +kernel) ?_
  refine ja_iaddN dL_law_337 ?_
  refine ja_sld (j := 7 * n + 3) hsc rfl (by omega) (by omega) dL_law_338 ?_
  refine ja_aload_n (i := 0) dL_law_339 rfl rfl ?_
  refine ja_iload dL_law_340 rfl ?_
  refine ja_iconst (v := nI 4) dL_law_342 (by decide +kernel) ?_
  refine ja_iaddN dL_law_343 ?_
  refine ja_sld (j := 7 * n + 4) hsc rfl (by omega) (by omega) dL_law_344 ?_
  refine ja_aload_n (i := 0) dL_law_345 rfl rfl ?_
  refine ja_iload dL_law_346 rfl ?_
  refine ja_iconst (v := nI 5) dL_law_348 (by decide +kernel) ?_
  refine ja_iaddN dL_law_349 ?_
  refine ja_sld (j := 7 * n + 5) hsc rfl (by omega) (by omega) dL_law_350 ?_
  refine ja_aload_n (i := 0) dL_law_351 rfl rfl ?_
  refine ja_iload dL_law_352 rfl ?_
  refine ja_bipush (v := nI 6) dL_law_354 (by decide +kernel) ?_
  refine ja_iaddN dL_law_356 ?_
  refine ja_sld (j := 7 * n + 6) hsc rfl (by omega) (by omega) dL_law_357 ?_
  refine ja_callV (av := [.int ((xs (7 * n + 1))), .int ((xs (7 * n + 2))), .int ((xs (7 * n + 3))), .int ((xs (7 * n + 4))), .int ((xs (7 * n + 5))), .int ((xs (7 * n + 6)))]) (st := []) hM2 (ce_X8_paint 0 0) im_X8_paint se_X8_paint lk_L_169 k_X8 hS1.2.1 ⟨Nat.le_of_ble_eq_true rfl, Nat.le_of_ble_eq_true rfl⟩ dL_law_358 rfl rfl (Nat.le_of_ble_eq_true rfl) (show c9 + c + 0 ≤ 603072 by omega) (show s9 + s + 0 ≤ 7211114 by omega) (fun _ _ _ h => h.elim) (fun w Z2 D2 hw => ?_)
  obtain ⟨hS2, ht, hJ, b, rfl, ⟨y, rfl⟩, he⟩ := h2 _ _ _ hw
  refine ja_istore dL_law_361 rfl (Nat.le_of_ble_eq_true rfl) ?_
  refine ja_aload_n (i := 2) dL_law_363 rfl rfl ?_
  refine ja_cVr (st := []) (s_thrown l hS2.2.1) rfl rfl (ce_X8_thrown 0 0) im_X8_thrown se_X8_thrown lk_L_163 k_X8 hS2.2.1 ⟨Nat.le_of_ble_eq_true rfl, Nat.le_of_ble_eq_true rfl⟩ dL_law_364 rfl rfl (Nat.le_of_ble_eq_true rfl) (show c9 + c + 0 ≤ 603072 by omega) (show s9 + s + 0 ≤ 7211114 by omega) ?_
  refine ja_top (y := nI k) ht ?_
  refine ja_iload dL_law_367 rfl ?_
  refine ja_icmp_eq dL_law_369 (tgt := 374) (by decide) (fun c0 => ?_) (fun c0 => absurd rfl c0)
  refine ja_iload dL_law_374 rfl ?_
  refine ja_if_ne dL_law_376 (tgt := 391) (by decide) (fun c0 => ?_) (fun c0 => ?_)
  · skip
    refine ja_goto dL_law_391 (tgt := 3130) (by decide) ?_
    exact la_tail (kk _ _ hJ) (show c9 + c + 0 ≤ c9 + 4 by omega) (show s9 + s + 0 ≤ s9 + 776 by omega)
  · have hk0 := nI_z hk c0
    obtain ⟨y2, hy, hx⟩ := he hk0
    cases hy
    refine ja_aload_n (i := 3) dL_law_379 rfl rfl ?_
    refine ja_iconst (v := nI 0) dL_law_380 (by decide +kernel) ?_
    refine ja_lald (n := 1) (j := 0) hS2.2.2.1 rfl (by decide) (by decide) dL_law_381 ?_
    refine ja_iload dL_law_382 rfl ?_
    refine ja_i2l dL_law_384 rfl ?_
    refine ja_lcmp dL_law_385 ?_
    refine ja_top (y := 0) (by rw [hx]; exact lg_cmp_self _) ?_
    refine ja_if_eq dL_law_386 (tgt := 391) (by decide) (fun c0 => ?_) (fun c0 => absurd rfl c0)
    refine ja_goto dL_law_391 (tgt := 3130) (by decide) ?_
    exact la_tail (kk _ _ hJ) (show c9 + c + 0 ≤ c9 + 4 by omega) (show s9 + s + 0 ≤ s9 + 776 by omega)
theorem la_split (hS : ∀ n Z D, JI n Z D → ja_SH Z) (hC : ∀ (p0 p1 p2 p3 p4 : Int32), ja_JC l JI mL_split mX8_split [.int p0, .int p1, .int p2, .int p3, .int p4] 200 ty_i eqv_i) (hsc : sc = (L + 1, xs)) (hL : L ≤ 3584) (h7 : 7 * n + 7 ≤ L) (h4 : c9 + 4 ≤ 603072) (h5 : s9 + 776 ≤ 7211114) (hI : JI n Z D) (kk : ∀ Z2 D2, JI (n + 1) Z2 D2 → ja_A l (mL_law nm tb) sc Qf 28 (la_lv (7 * (n + 1))) [] Z2 D2 (c9 + 4) (s9 + 776)) : ja_A l (mL_law nm tb) sc Qf 394 (la_lv (7 * n)) [] Z D c9 s9 := by
  have hn : n < 512 := by omega
  obtain ⟨c, s, kr1, hc4, hs7, hM, h1⟩ := (hC ((xs (7 * n + 1))) ((xs (7 * n + 2))) ((xs (7 * n + 3))) (((xs (7 * n + 4)).toUInt32 % 65536).toInt32) ((xs (7 * n + 5)))) n Z D hn hI
  refine ja_aload_n (i := 1) dL_law_394 rfl rfl ?_
  refine ja_aload_n (i := 0) dL_law_395 rfl rfl ?_
  refine ja_iload dL_law_396 rfl ?_
  refine ja_iconst (v := nI 1) dL_law_398 (by decide +kernel) ?_
  refine ja_iaddN dL_law_399 ?_
  refine ja_sld (j := 7 * n + 1) hsc rfl (by omega) (by omega) dL_law_400 ?_
  refine ja_aload_n (i := 0) dL_law_401 rfl rfl ?_
  refine ja_iload dL_law_402 rfl ?_
  refine ja_iconst (v := nI 2) dL_law_404 (by decide +kernel) ?_
  refine ja_iaddN dL_law_405 ?_
  refine ja_sld (j := 7 * n + 2) hsc rfl (by omega) (by omega) dL_law_406 ?_
  refine ja_aload_n (i := 0) dL_law_407 rfl rfl ?_
  refine ja_iload dL_law_408 rfl ?_
  refine ja_iconst (v := nI 3) dL_law_410 (by decide +kernel) ?_
  refine ja_iaddN dL_law_411 ?_
  refine ja_sld (j := 7 * n + 3) hsc rfl (by omega) (by omega) dL_law_412 ?_
  refine ja_aload_n (i := 0) dL_law_413 rfl rfl ?_
  refine ja_iload dL_law_414 rfl ?_
  refine ja_iconst (v := nI 4) dL_law_416 (by decide +kernel) ?_
  refine ja_iaddN dL_law_417 ?_
  refine ja_sld (j := 7 * n + 4) hsc rfl (by omega) (by omega) dL_law_418 ?_
  refine ja_i2c dL_law_419 rfl ?_
  refine ja_aload_n (i := 0) dL_law_420 rfl rfl ?_
  refine ja_iload dL_law_421 rfl ?_
  refine ja_iconst (v := nI 5) dL_law_423 (by decide +kernel) ?_
  refine ja_iaddN dL_law_424 ?_
  refine ja_sld (j := 7 * n + 5) hsc rfl (by omega) (by omega) dL_law_425 ?_
  refine ja_aload_n (i := 3) dL_law_426 rfl rfl ?_
  refine ja_callSW (st := []) hM (ch_L_split c s) st_L_split lk_L_170 ⟨Nat.le_of_ble_eq_true rfl, Nat.le_of_ble_eq_true rfl⟩ dL_law_427 rfl rfl (Nat.le_of_ble_eq_true rfl) (show c9 + c ≤ 603072 by omega) (show s9 + s ≤ 7211114 by omega) (fun _ _ _ h => h.elim) (fun v Z1 D1 hv => ?_)
  obtain ⟨k, hk, rfl, hS1, kr2, hM2, h2⟩ := h1 _ _ _ hv
  refine ja_istore dL_law_430 rfl (Nat.le_of_ble_eq_true rfl) ?_
  refine ja_aload_n (i := 2) dL_law_432 rfl rfl ?_
  refine ja_aload_n (i := 0) dL_law_433 rfl rfl ?_
  refine ja_iload dL_law_434 rfl ?_
  refine ja_iconst (v := nI 1) dL_law_436 (by decide +kernel) ?_
  refine ja_iaddN dL_law_437 ?_
  refine ja_sld (j := 7 * n + 1) hsc rfl (by omega) (by omega) dL_law_438 ?_
  refine ja_aload_n (i := 0) dL_law_439 rfl rfl ?_
  refine ja_iload dL_law_440 rfl ?_
  refine ja_iconst (v := nI 2) dL_law_442 (by decide +kernel) ?_
  refine ja_iaddN dL_law_443 ?_
  refine ja_sld (j := 7 * n + 2) hsc rfl (by omega) (by omega) dL_law_444 ?_
  refine ja_aload_n (i := 0) dL_law_445 rfl rfl ?_
  refine ja_iload dL_law_446 rfl ?_
  refine ja_iconst (v := nI 3) dL_law_448 (by decide +kernel) ?_
  refine ja_iaddN dL_law_449 ?_
  refine ja_sld (j := 7 * n + 3) hsc rfl (by omega) (by omega) dL_law_450 ?_
  refine ja_aload_n (i := 0) dL_law_451 rfl rfl ?_
  refine ja_iload dL_law_452 rfl ?_
  refine ja_iconst (v := nI 4) dL_law_454 (by decide +kernel) ?_
  refine ja_iaddN dL_law_455 ?_
  refine ja_sld (j := 7 * n + 4) hsc rfl (by omega) (by omega) dL_law_456 ?_
  refine ja_i2c dL_law_457 rfl ?_
  refine ja_aload_n (i := 0) dL_law_458 rfl rfl ?_
  refine ja_iload dL_law_459 rfl ?_
  refine ja_iconst (v := nI 5) dL_law_461 (by decide +kernel) ?_
  refine ja_iaddN dL_law_462 ?_
  refine ja_sld (j := 7 * n + 5) hsc rfl (by omega) (by omega) dL_law_463 ?_
  refine ja_callV (av := [.int ((xs (7 * n + 1))), .int ((xs (7 * n + 2))), .int ((xs (7 * n + 3))), .int (((xs (7 * n + 4)).toUInt32 % 65536).toInt32), .int ((xs (7 * n + 5)))]) (st := []) hM2 (ce_X8_split 0 0) im_X8_split se_X8_split lk_L_173 k_X8 hS1.2.1 ⟨Nat.le_of_ble_eq_true rfl, Nat.le_of_ble_eq_true rfl⟩ dL_law_464 rfl rfl (Nat.le_of_ble_eq_true rfl) (show c9 + c + 0 ≤ 603072 by omega) (show s9 + s + 0 ≤ 7211114 by omega) (fun _ _ _ h => h.elim) (fun w Z2 D2 hw => ?_)
  obtain ⟨hS2, ht, hJ, b, rfl, ⟨y, rfl⟩, he⟩ := h2 _ _ _ hw
  refine ja_istore dL_law_467 rfl (Nat.le_of_ble_eq_true rfl) ?_
  refine ja_aload_n (i := 2) dL_law_469 rfl rfl ?_
  refine ja_cVr (st := []) (s_thrown l hS2.2.1) rfl rfl (ce_X8_thrown 0 0) im_X8_thrown se_X8_thrown lk_L_163 k_X8 hS2.2.1 ⟨Nat.le_of_ble_eq_true rfl, Nat.le_of_ble_eq_true rfl⟩ dL_law_470 rfl rfl (Nat.le_of_ble_eq_true rfl) (show c9 + c + 0 ≤ 603072 by omega) (show s9 + s + 0 ≤ 7211114 by omega) ?_
  refine ja_top (y := nI k) ht ?_
  refine ja_iload dL_law_473 rfl ?_
  refine ja_icmp_eq dL_law_475 (tgt := 480) (by decide) (fun c0 => ?_) (fun c0 => absurd rfl c0)
  refine ja_iload dL_law_480 rfl ?_
  refine ja_if_ne dL_law_482 (tgt := 497) (by decide) (fun c0 => ?_) (fun c0 => ?_)
  · skip
    refine ja_goto dL_law_497 (tgt := 3130) (by decide) ?_
    exact la_tail (kk _ _ hJ) (show c9 + c + 0 ≤ c9 + 4 by omega) (show s9 + s + 0 ≤ s9 + 776 by omega)
  · have hk0 := nI_z hk c0
    obtain ⟨y2, hy, hx⟩ := he hk0
    cases hy
    refine ja_aload_n (i := 3) dL_law_485 rfl rfl ?_
    refine ja_iconst (v := nI 0) dL_law_486 (by decide +kernel) ?_
    refine ja_lald (n := 1) (j := 0) hS2.2.2.1 rfl (by decide) (by decide) dL_law_487 ?_
    refine ja_iload dL_law_488 rfl ?_
    refine ja_i2l dL_law_490 rfl ?_
    refine ja_lcmp dL_law_491 ?_
    refine ja_top (y := 0) (by rw [hx]; exact lg_cmp_self _) ?_
    refine ja_if_eq dL_law_492 (tgt := 497) (by decide) (fun c0 => ?_) (fun c0 => absurd rfl c0)
    refine ja_goto dL_law_497 (tgt := 3130) (by decide) ?_
    exact la_tail (kk _ _ hJ) (show c9 + c + 0 ≤ c9 + 4 by omega) (show s9 + s + 0 ≤ s9 + 776 by omega)
theorem la_merge (hS : ∀ n Z D, JI n Z D → ja_SH Z) (hC : ∀ (p0 p1 p2 : Int32), ja_JC l JI mL_merge mX8_merge [.int p0, .int p1, .int p2] 200 ty_i eqv_i) (hsc : sc = (L + 1, xs)) (hL : L ≤ 3584) (h7 : 7 * n + 7 ≤ L) (h4 : c9 + 4 ≤ 603072) (h5 : s9 + 776 ≤ 7211114) (hI : JI n Z D) (kk : ∀ Z2 D2, JI (n + 1) Z2 D2 → ja_A l (mL_law nm tb) sc Qf 28 (la_lv (7 * (n + 1))) [] Z2 D2 (c9 + 4) (s9 + 776)) : ja_A l (mL_law nm tb) sc Qf 500 (la_lv (7 * n)) [] Z D c9 s9 := by
  have hn : n < 512 := by omega
  obtain ⟨c, s, kr1, hc4, hs7, hM, h1⟩ := (hC ((xs (7 * n + 1))) ((xs (7 * n + 2))) ((xs (7 * n + 3)))) n Z D hn hI
  refine ja_aload_n (i := 1) dL_law_500 rfl rfl ?_
  refine ja_aload_n (i := 0) dL_law_501 rfl rfl ?_
  refine ja_iload dL_law_502 rfl ?_
  refine ja_iconst (v := nI 1) dL_law_504 (by decide +kernel) ?_
  refine ja_iaddN dL_law_505 ?_
  refine ja_sld (j := 7 * n + 1) hsc rfl (by omega) (by omega) dL_law_506 ?_
  refine ja_aload_n (i := 0) dL_law_507 rfl rfl ?_
  refine ja_iload dL_law_508 rfl ?_
  refine ja_iconst (v := nI 2) dL_law_510 (by decide +kernel) ?_
  refine ja_iaddN dL_law_511 ?_
  refine ja_sld (j := 7 * n + 2) hsc rfl (by omega) (by omega) dL_law_512 ?_
  refine ja_aload_n (i := 0) dL_law_513 rfl rfl ?_
  refine ja_iload dL_law_514 rfl ?_
  refine ja_iconst (v := nI 3) dL_law_516 (by decide +kernel) ?_
  refine ja_iaddN dL_law_517 ?_
  refine ja_sld (j := 7 * n + 3) hsc rfl (by omega) (by omega) dL_law_518 ?_
  refine ja_aload_n (i := 3) dL_law_519 rfl rfl ?_
  refine ja_callSW (st := []) hM (ch_L_merge c s) st_L_merge lk_L_174 ⟨Nat.le_of_ble_eq_true rfl, Nat.le_of_ble_eq_true rfl⟩ dL_law_520 rfl rfl (Nat.le_of_ble_eq_true rfl) (show c9 + c ≤ 603072 by omega) (show s9 + s ≤ 7211114 by omega) (fun _ _ _ h => h.elim) (fun v Z1 D1 hv => ?_)
  obtain ⟨k, hk, rfl, hS1, kr2, hM2, h2⟩ := h1 _ _ _ hv
  refine ja_istore dL_law_523 rfl (Nat.le_of_ble_eq_true rfl) ?_
  refine ja_aload_n (i := 2) dL_law_525 rfl rfl ?_
  refine ja_aload_n (i := 0) dL_law_526 rfl rfl ?_
  refine ja_iload dL_law_527 rfl ?_
  refine ja_iconst (v := nI 1) dL_law_529 (by decide +kernel) ?_
  refine ja_iaddN dL_law_530 ?_
  refine ja_sld (j := 7 * n + 1) hsc rfl (by omega) (by omega) dL_law_531 ?_
  refine ja_aload_n (i := 0) dL_law_532 rfl rfl ?_
  refine ja_iload dL_law_533 rfl ?_
  refine ja_iconst (v := nI 2) dL_law_535 (by decide +kernel) ?_
  refine ja_iaddN dL_law_536 ?_
  refine ja_sld (j := 7 * n + 2) hsc rfl (by omega) (by omega) dL_law_537 ?_
  refine ja_aload_n (i := 0) dL_law_538 rfl rfl ?_
  refine ja_iload dL_law_539 rfl ?_
  refine ja_iconst (v := nI 3) dL_law_541 (by decide +kernel) ?_
  refine ja_iaddN dL_law_542 ?_
  refine ja_sld (j := 7 * n + 3) hsc rfl (by omega) (by omega) dL_law_543 ?_
  refine ja_callV (av := [.int ((xs (7 * n + 1))), .int ((xs (7 * n + 2))), .int ((xs (7 * n + 3)))]) (st := []) hM2 (ce_X8_merge 0 0) im_X8_merge se_X8_merge lk_L_177 k_X8 hS1.2.1 ⟨Nat.le_of_ble_eq_true rfl, Nat.le_of_ble_eq_true rfl⟩ dL_law_544 rfl rfl (Nat.le_of_ble_eq_true rfl) (show c9 + c + 0 ≤ 603072 by omega) (show s9 + s + 0 ≤ 7211114 by omega) (fun _ _ _ h => h.elim) (fun w Z2 D2 hw => ?_)
  obtain ⟨hS2, ht, hJ, b, rfl, ⟨y, rfl⟩, he⟩ := h2 _ _ _ hw
  refine ja_istore dL_law_547 rfl (Nat.le_of_ble_eq_true rfl) ?_
  refine ja_aload_n (i := 2) dL_law_549 rfl rfl ?_
  refine ja_cVr (st := []) (s_thrown l hS2.2.1) rfl rfl (ce_X8_thrown 0 0) im_X8_thrown se_X8_thrown lk_L_163 k_X8 hS2.2.1 ⟨Nat.le_of_ble_eq_true rfl, Nat.le_of_ble_eq_true rfl⟩ dL_law_550 rfl rfl (Nat.le_of_ble_eq_true rfl) (show c9 + c + 0 ≤ 603072 by omega) (show s9 + s + 0 ≤ 7211114 by omega) ?_
  refine ja_top (y := nI k) ht ?_
  refine ja_iload dL_law_553 rfl ?_
  refine ja_icmp_eq dL_law_555 (tgt := 560) (by decide) (fun c0 => ?_) (fun c0 => absurd rfl c0)
  refine ja_iload dL_law_560 rfl ?_
  refine ja_if_ne dL_law_562 (tgt := 577) (by decide) (fun c0 => ?_) (fun c0 => ?_)
  · skip
    refine ja_goto dL_law_577 (tgt := 3130) (by decide) ?_
    exact la_tail (kk _ _ hJ) (show c9 + c + 0 ≤ c9 + 4 by omega) (show s9 + s + 0 ≤ s9 + 776 by omega)
  · have hk0 := nI_z hk c0
    obtain ⟨y2, hy, hx⟩ := he hk0
    cases hy
    refine ja_aload_n (i := 3) dL_law_565 rfl rfl ?_
    refine ja_iconst (v := nI 0) dL_law_566 (by decide +kernel) ?_
    refine ja_lald (n := 1) (j := 0) hS2.2.2.1 rfl (by decide) (by decide) dL_law_567 ?_
    refine ja_iload dL_law_568 rfl ?_
    refine ja_i2l dL_law_570 rfl ?_
    refine ja_lcmp dL_law_571 ?_
    refine ja_top (y := 0) (by rw [hx]; exact lg_cmp_self _) ?_
    refine ja_if_eq dL_law_572 (tgt := 577) (by decide) (fun c0 => ?_) (fun c0 => absurd rfl c0)
    refine ja_goto dL_law_577 (tgt := 3130) (by decide) ?_
    exact la_tail (kk _ _ hJ) (show c9 + c + 0 ≤ c9 + 4 by omega) (show s9 + s + 0 ≤ s9 + 776 by omega)
theorem la_setValue (hS : ∀ n Z D, JI n Z D → ja_SH Z) (hC : ∀ (p0 p1 p2 : Int32), ja_JC l JI mL_setValue mX8_setValue [.int p0, .int p1, .int p2] 200 ty_i eqv_i) (hsc : sc = (L + 1, xs)) (hL : L ≤ 3584) (h7 : 7 * n + 7 ≤ L) (h4 : c9 + 4 ≤ 603072) (h5 : s9 + 776 ≤ 7211114) (hI : JI n Z D) (kk : ∀ Z2 D2, JI (n + 1) Z2 D2 → ja_A l (mL_law nm tb) sc Qf 28 (la_lv (7 * (n + 1))) [] Z2 D2 (c9 + 4) (s9 + 776)) : ja_A l (mL_law nm tb) sc Qf 580 (la_lv (7 * n)) [] Z D c9 s9 := by
  have hn : n < 512 := by omega
  obtain ⟨c, s, kr1, hc4, hs7, hM, h1⟩ := (hC ((xs (7 * n + 1))) ((xs (7 * n + 2))) ((xs (7 * n + 3)))) n Z D hn hI
  refine ja_aload_n (i := 1) dL_law_580 rfl rfl ?_
  refine ja_aload_n (i := 0) dL_law_581 rfl rfl ?_
  refine ja_iload dL_law_582 rfl ?_
  refine ja_iconst (v := nI 1) dL_law_584 (by decide +kernel) ?_
  refine ja_iaddN dL_law_585 ?_
  refine ja_sld (j := 7 * n + 1) hsc rfl (by omega) (by omega) dL_law_586 ?_
  refine ja_aload_n (i := 0) dL_law_587 rfl rfl ?_
  refine ja_iload dL_law_588 rfl ?_
  refine ja_iconst (v := nI 2) dL_law_590 (by decide +kernel) ?_
  refine ja_iaddN dL_law_591 ?_
  refine ja_sld (j := 7 * n + 2) hsc rfl (by omega) (by omega) dL_law_592 ?_
  refine ja_aload_n (i := 0) dL_law_593 rfl rfl ?_
  refine ja_iload dL_law_594 rfl ?_
  refine ja_iconst (v := nI 3) dL_law_596 (by decide +kernel) ?_
  refine ja_iaddN dL_law_597 ?_
  refine ja_sld (j := 7 * n + 3) hsc rfl (by omega) (by omega) dL_law_598 ?_
  refine ja_aload_n (i := 3) dL_law_599 rfl rfl ?_
  refine ja_callSW (st := []) hM (ch_L_setValue c s) st_L_setValue lk_L_178 ⟨Nat.le_of_ble_eq_true rfl, Nat.le_of_ble_eq_true rfl⟩ dL_law_600 rfl rfl (Nat.le_of_ble_eq_true rfl) (show c9 + c ≤ 603072 by omega) (show s9 + s ≤ 7211114 by omega) (fun _ _ _ h => h.elim) (fun v Z1 D1 hv => ?_)
  obtain ⟨k, hk, rfl, hS1, kr2, hM2, h2⟩ := h1 _ _ _ hv
  refine ja_istore dL_law_603 rfl (Nat.le_of_ble_eq_true rfl) ?_
  refine ja_aload_n (i := 2) dL_law_605 rfl rfl ?_
  refine ja_aload_n (i := 0) dL_law_606 rfl rfl ?_
  refine ja_iload dL_law_607 rfl ?_
  refine ja_iconst (v := nI 1) dL_law_609 (by decide +kernel) ?_
  refine ja_iaddN dL_law_610 ?_
  refine ja_sld (j := 7 * n + 1) hsc rfl (by omega) (by omega) dL_law_611 ?_
  refine ja_aload_n (i := 0) dL_law_612 rfl rfl ?_
  refine ja_iload dL_law_613 rfl ?_
  refine ja_iconst (v := nI 2) dL_law_615 (by decide +kernel) ?_
  refine ja_iaddN dL_law_616 ?_
  refine ja_sld (j := 7 * n + 2) hsc rfl (by omega) (by omega) dL_law_617 ?_
  refine ja_aload_n (i := 0) dL_law_618 rfl rfl ?_
  refine ja_iload dL_law_619 rfl ?_
  refine ja_iconst (v := nI 3) dL_law_621 (by decide +kernel) ?_
  refine ja_iaddN dL_law_622 ?_
  refine ja_sld (j := 7 * n + 3) hsc rfl (by omega) (by omega) dL_law_623 ?_
  refine ja_callV (av := [.int ((xs (7 * n + 1))), .int ((xs (7 * n + 2))), .int ((xs (7 * n + 3)))]) (st := []) hM2 (ce_X8_setValue 0 0) im_X8_setValue se_X8_setValue lk_L_180 k_X8 hS1.2.1 ⟨Nat.le_of_ble_eq_true rfl, Nat.le_of_ble_eq_true rfl⟩ dL_law_624 rfl rfl (Nat.le_of_ble_eq_true rfl) (show c9 + c + 0 ≤ 603072 by omega) (show s9 + s + 0 ≤ 7211114 by omega) (fun _ _ _ h => h.elim) (fun w Z2 D2 hw => ?_)
  obtain ⟨hS2, ht, hJ, b, rfl, ⟨y, rfl⟩, he⟩ := h2 _ _ _ hw
  refine ja_istore dL_law_627 rfl (Nat.le_of_ble_eq_true rfl) ?_
  refine ja_aload_n (i := 2) dL_law_629 rfl rfl ?_
  refine ja_cVr (st := []) (s_thrown l hS2.2.1) rfl rfl (ce_X8_thrown 0 0) im_X8_thrown se_X8_thrown lk_L_163 k_X8 hS2.2.1 ⟨Nat.le_of_ble_eq_true rfl, Nat.le_of_ble_eq_true rfl⟩ dL_law_630 rfl rfl (Nat.le_of_ble_eq_true rfl) (show c9 + c + 0 ≤ 603072 by omega) (show s9 + s + 0 ≤ 7211114 by omega) ?_
  refine ja_top (y := nI k) ht ?_
  refine ja_iload dL_law_633 rfl ?_
  refine ja_icmp_eq dL_law_635 (tgt := 640) (by decide) (fun c0 => ?_) (fun c0 => absurd rfl c0)
  refine ja_iload dL_law_640 rfl ?_
  refine ja_if_ne dL_law_642 (tgt := 657) (by decide) (fun c0 => ?_) (fun c0 => ?_)
  · skip
    refine ja_goto dL_law_657 (tgt := 3130) (by decide) ?_
    exact la_tail (kk _ _ hJ) (show c9 + c + 0 ≤ c9 + 4 by omega) (show s9 + s + 0 ≤ s9 + 776 by omega)
  · have hk0 := nI_z hk c0
    obtain ⟨y2, hy, hx⟩ := he hk0
    cases hy
    refine ja_aload_n (i := 3) dL_law_645 rfl rfl ?_
    refine ja_iconst (v := nI 0) dL_law_646 (by decide +kernel) ?_
    refine ja_lald (n := 1) (j := 0) hS2.2.2.1 rfl (by decide) (by decide) dL_law_647 ?_
    refine ja_iload dL_law_648 rfl ?_
    refine ja_i2l dL_law_650 rfl ?_
    refine ja_lcmp dL_law_651 ?_
    refine ja_top (y := 0) (by rw [hx]; exact lg_cmp_self _) ?_
    refine ja_if_eq dL_law_652 (tgt := 657) (by decide) (fun c0 => ?_) (fun c0 => absurd rfl c0)
    refine ja_goto dL_law_657 (tgt := 3130) (by decide) ?_
    exact la_tail (kk _ _ hJ) (show c9 + c + 0 ≤ c9 + 4 by omega) (show s9 + s + 0 ≤ s9 + 776 by omega)
theorem la_setDivides (hS : ∀ n Z D, JI n Z D → ja_SH Z) (hC : ∀ (p0 : Int32) (p1 : Bool), ja_JC l JI mL_setDivides mX8_setDivides [.int p0, .int (bI p1)] 200 ty_b eqv_b) (hsc : sc = (L + 1, xs)) (hL : L ≤ 3584) (h7 : 7 * n + 7 ≤ L) (h4 : c9 + 4 ≤ 603072) (h5 : s9 + 776 ≤ 7211114) (hI : JI n Z D) (kk : ∀ Z2 D2, JI (n + 1) Z2 D2 → ja_A l (mL_law nm tb) sc Qf 28 (la_lv (7 * (n + 1))) [] Z2 D2 (c9 + 4) (s9 + 776)) : ja_A l (mL_law nm tb) sc Qf 660 (la_lv (7 * n)) [] Z D c9 s9 := by
  have hn : n < 512 := by omega
  by_cases e : xs (7 * n + 2) = 0
  · skip
    obtain ⟨c, s, kr1, hc4, hs7, hM, h1⟩ := (hC ((xs (7 * n + 1))) (false)) n Z D hn hI
    refine ja_aload_n (i := 1) dL_law_660 rfl rfl ?_
    refine ja_aload_n (i := 0) dL_law_661 rfl rfl ?_
    refine ja_iload dL_law_662 rfl ?_
    refine ja_iconst (v := nI 1) dL_law_664 (by decide +kernel) ?_
    refine ja_iaddN dL_law_665 ?_
    refine ja_sld (j := 7 * n + 1) hsc rfl (by omega) (by omega) dL_law_666 ?_
    refine ja_aload_n (i := 0) dL_law_667 rfl rfl ?_
    refine ja_iload dL_law_668 rfl ?_
    refine ja_iconst (v := nI 2) dL_law_670 (by decide +kernel) ?_
    refine ja_iaddN dL_law_671 ?_
    refine ja_sld (j := 7 * n + 2) hsc rfl (by omega) (by omega) dL_law_672 ?_
    refine ja_if_eq dL_law_673 (tgt := 680) (by decide) (fun c0 => ?_) (fun c0 => absurd e c0)
    refine ja_iconst (v := bI false) dL_law_680 (by decide +kernel) ?_
    refine ja_aload_n (i := 3) dL_law_681 rfl rfl ?_
    refine ja_callSW (st := []) hM (ch_L_setDivides c s) st_L_setDivides lk_L_181 ⟨Nat.le_of_ble_eq_true rfl, Nat.le_of_ble_eq_true rfl⟩ dL_law_682 rfl rfl (Nat.le_of_ble_eq_true rfl) (show c9 + c ≤ 603072 by omega) (show s9 + s ≤ 7211114 by omega) (fun _ _ _ h => h.elim) (fun v Z1 D1 hv => ?_)
    obtain ⟨k, hk, rfl, hS1, kr2, hM2, h2⟩ := h1 _ _ _ hv
    refine ja_istore dL_law_685 rfl (Nat.le_of_ble_eq_true rfl) ?_
    refine ja_aload_n (i := 2) dL_law_687 rfl rfl ?_
    refine ja_aload_n (i := 0) dL_law_688 rfl rfl ?_
    refine ja_iload dL_law_689 rfl ?_
    refine ja_iconst (v := nI 1) dL_law_691 (by decide +kernel) ?_
    refine ja_iaddN dL_law_692 ?_
    refine ja_sld (j := 7 * n + 1) hsc rfl (by omega) (by omega) dL_law_693 ?_
    refine ja_aload_n (i := 0) dL_law_694 rfl rfl ?_
    refine ja_iload dL_law_695 rfl ?_
    refine ja_iconst (v := nI 2) dL_law_697 (by decide +kernel) ?_
    refine ja_iaddN dL_law_698 ?_
    refine ja_sld (j := 7 * n + 2) hsc rfl (by omega) (by omega) dL_law_699 ?_
    refine ja_if_eq dL_law_700 (tgt := 707) (by decide) (fun c0 => ?_) (fun c0 => absurd e c0)
    refine ja_iconst (v := bI false) dL_law_707 (by decide +kernel) ?_
    refine ja_callV (av := [.int ((xs (7 * n + 1))), .int (bI false)]) (st := []) hM2 (ce_X8_setDivides 0 0) im_X8_setDivides se_X8_setDivides lk_L_184 k_X8 hS1.2.1 ⟨Nat.le_of_ble_eq_true rfl, Nat.le_of_ble_eq_true rfl⟩ dL_law_708 rfl rfl (Nat.le_of_ble_eq_true rfl) (show c9 + c + 0 ≤ 603072 by omega) (show s9 + s + 0 ≤ 7211114 by omega) (fun _ _ _ h => h.elim) (fun w Z2 D2 hw => ?_)
    obtain ⟨hS2, ht, hJ, b, rfl, ⟨y, rfl⟩, he⟩ := h2 _ _ _ hw
    cases y
    · skip
      refine ja_istore dL_law_711 rfl (Nat.le_of_ble_eq_true rfl) ?_
      refine ja_aload_n (i := 2) dL_law_713 rfl rfl ?_
      refine ja_cVr (st := []) (s_thrown l hS2.2.1) rfl rfl (ce_X8_thrown 0 0) im_X8_thrown se_X8_thrown lk_L_163 k_X8 hS2.2.1 ⟨Nat.le_of_ble_eq_true rfl, Nat.le_of_ble_eq_true rfl⟩ dL_law_714 rfl rfl (Nat.le_of_ble_eq_true rfl) (show c9 + c + 0 ≤ 603072 by omega) (show s9 + s + 0 ≤ 7211114 by omega) ?_
      refine ja_top (y := nI k) ht ?_
      refine ja_iload dL_law_717 rfl ?_
      refine ja_icmp_eq dL_law_719 (tgt := 724) (by decide) (fun c0 => ?_) (fun c0 => absurd rfl c0)
      refine ja_iload dL_law_724 rfl ?_
      refine ja_if_ne dL_law_726 (tgt := 748) (by decide) (fun c0 => ?_) (fun c0 => ?_)
      · skip
        refine ja_goto dL_law_748 (tgt := 3130) (by decide) ?_
        exact la_tail (kk _ _ hJ) (show c9 + c + 0 ≤ c9 + 4 by omega) (show s9 + s + 0 ≤ s9 + 776 by omega)
      · have hk0 := nI_z hk c0
        obtain ⟨y2, hy, hx⟩ := he hk0
        have hy3 : false = y2 := bI_inj (Value.int.inj hy)
        subst hy3
        refine ja_aload_n (i := 3) dL_law_729 rfl rfl ?_
        refine ja_iconst (v := bI false) dL_law_730 (by decide +kernel) ?_
        refine ja_lald (n := 1) (j := 0) hS2.2.2.1 rfl (by decide) (by decide) dL_law_731 ?_
        refine ja_iload dL_law_732 rfl ?_
        refine ja_if_eq dL_law_734 (tgt := 741) (by decide) (fun c0 => ?_) (fun c0 => absurd (show bI false = 0 by decide) c0)
        refine ja_lconst (v := 0) dL_law_741 (by decide +kernel) ?_
        refine ja_lcmp dL_law_742 ?_
        refine ja_top (y := 0) (by rw [hx]; exact lg_cmp_self _) ?_
        refine ja_if_eq dL_law_743 (tgt := 748) (by decide) (fun c0 => ?_) (fun c0 => absurd rfl c0)
        refine ja_goto dL_law_748 (tgt := 3130) (by decide) ?_
        exact la_tail (kk _ _ hJ) (show c9 + c + 0 ≤ c9 + 4 by omega) (show s9 + s + 0 ≤ s9 + 776 by omega)
    · skip
      refine ja_istore dL_law_711 rfl (Nat.le_of_ble_eq_true rfl) ?_
      refine ja_aload_n (i := 2) dL_law_713 rfl rfl ?_
      refine ja_cVr (st := []) (s_thrown l hS2.2.1) rfl rfl (ce_X8_thrown 0 0) im_X8_thrown se_X8_thrown lk_L_163 k_X8 hS2.2.1 ⟨Nat.le_of_ble_eq_true rfl, Nat.le_of_ble_eq_true rfl⟩ dL_law_714 rfl rfl (Nat.le_of_ble_eq_true rfl) (show c9 + c + 0 ≤ 603072 by omega) (show s9 + s + 0 ≤ 7211114 by omega) ?_
      refine ja_top (y := nI k) ht ?_
      refine ja_iload dL_law_717 rfl ?_
      refine ja_icmp_eq dL_law_719 (tgt := 724) (by decide) (fun c0 => ?_) (fun c0 => absurd rfl c0)
      refine ja_iload dL_law_724 rfl ?_
      refine ja_if_ne dL_law_726 (tgt := 748) (by decide) (fun c0 => ?_) (fun c0 => ?_)
      · skip
        refine ja_goto dL_law_748 (tgt := 3130) (by decide) ?_
        exact la_tail (kk _ _ hJ) (show c9 + c + 0 ≤ c9 + 4 by omega) (show s9 + s + 0 ≤ s9 + 776 by omega)
      · have hk0 := nI_z hk c0
        obtain ⟨y2, hy, hx⟩ := he hk0
        have hy3 : true = y2 := bI_inj (Value.int.inj hy)
        subst hy3
        refine ja_aload_n (i := 3) dL_law_729 rfl rfl ?_
        refine ja_iconst (v := bI false) dL_law_730 (by decide +kernel) ?_
        refine ja_lald (n := 1) (j := 0) hS2.2.2.1 rfl (by decide) (by decide) dL_law_731 ?_
        refine ja_iload dL_law_732 rfl ?_
        refine ja_if_eq dL_law_734 (tgt := 741) (by decide) (fun c0 => absurd c0 (by decide)) (fun c0 => ?_)
        refine ja_lconst (v := 1) dL_law_737 (by decide +kernel) ?_
        refine ja_goto dL_law_738 (tgt := 742) (by decide) ?_
        refine ja_lcmp dL_law_742 ?_
        refine ja_top (y := 0) (by rw [hx]; exact lg_cmp_self _) ?_
        refine ja_if_eq dL_law_743 (tgt := 748) (by decide) (fun c0 => ?_) (fun c0 => absurd rfl c0)
        refine ja_goto dL_law_748 (tgt := 3130) (by decide) ?_
        exact la_tail (kk _ _ hJ) (show c9 + c + 0 ≤ c9 + 4 by omega) (show s9 + s + 0 ≤ s9 + 776 by omega)
  · skip
    obtain ⟨c, s, kr1, hc4, hs7, hM, h1⟩ := (hC ((xs (7 * n + 1))) (true)) n Z D hn hI
    refine ja_aload_n (i := 1) dL_law_660 rfl rfl ?_
    refine ja_aload_n (i := 0) dL_law_661 rfl rfl ?_
    refine ja_iload dL_law_662 rfl ?_
    refine ja_iconst (v := nI 1) dL_law_664 (by decide +kernel) ?_
    refine ja_iaddN dL_law_665 ?_
    refine ja_sld (j := 7 * n + 1) hsc rfl (by omega) (by omega) dL_law_666 ?_
    refine ja_aload_n (i := 0) dL_law_667 rfl rfl ?_
    refine ja_iload dL_law_668 rfl ?_
    refine ja_iconst (v := nI 2) dL_law_670 (by decide +kernel) ?_
    refine ja_iaddN dL_law_671 ?_
    refine ja_sld (j := 7 * n + 2) hsc rfl (by omega) (by omega) dL_law_672 ?_
    refine ja_if_eq dL_law_673 (tgt := 680) (by decide) (fun c0 => absurd c0 e) (fun c0 => ?_)
    refine ja_iconst (v := bI true) dL_law_676 (by decide +kernel) ?_
    refine ja_goto dL_law_677 (tgt := 681) (by decide) ?_
    refine ja_aload_n (i := 3) dL_law_681 rfl rfl ?_
    refine ja_callSW (st := []) hM (ch_L_setDivides c s) st_L_setDivides lk_L_181 ⟨Nat.le_of_ble_eq_true rfl, Nat.le_of_ble_eq_true rfl⟩ dL_law_682 rfl rfl (Nat.le_of_ble_eq_true rfl) (show c9 + c ≤ 603072 by omega) (show s9 + s ≤ 7211114 by omega) (fun _ _ _ h => h.elim) (fun v Z1 D1 hv => ?_)
    obtain ⟨k, hk, rfl, hS1, kr2, hM2, h2⟩ := h1 _ _ _ hv
    refine ja_istore dL_law_685 rfl (Nat.le_of_ble_eq_true rfl) ?_
    refine ja_aload_n (i := 2) dL_law_687 rfl rfl ?_
    refine ja_aload_n (i := 0) dL_law_688 rfl rfl ?_
    refine ja_iload dL_law_689 rfl ?_
    refine ja_iconst (v := nI 1) dL_law_691 (by decide +kernel) ?_
    refine ja_iaddN dL_law_692 ?_
    refine ja_sld (j := 7 * n + 1) hsc rfl (by omega) (by omega) dL_law_693 ?_
    refine ja_aload_n (i := 0) dL_law_694 rfl rfl ?_
    refine ja_iload dL_law_695 rfl ?_
    refine ja_iconst (v := nI 2) dL_law_697 (by decide +kernel) ?_
    refine ja_iaddN dL_law_698 ?_
    refine ja_sld (j := 7 * n + 2) hsc rfl (by omega) (by omega) dL_law_699 ?_
    refine ja_if_eq dL_law_700 (tgt := 707) (by decide) (fun c0 => absurd c0 e) (fun c0 => ?_)
    refine ja_iconst (v := bI true) dL_law_703 (by decide +kernel) ?_
    refine ja_goto dL_law_704 (tgt := 708) (by decide) ?_
    refine ja_callV (av := [.int ((xs (7 * n + 1))), .int (bI true)]) (st := []) hM2 (ce_X8_setDivides 0 0) im_X8_setDivides se_X8_setDivides lk_L_184 k_X8 hS1.2.1 ⟨Nat.le_of_ble_eq_true rfl, Nat.le_of_ble_eq_true rfl⟩ dL_law_708 rfl rfl (Nat.le_of_ble_eq_true rfl) (show c9 + c + 0 ≤ 603072 by omega) (show s9 + s + 0 ≤ 7211114 by omega) (fun _ _ _ h => h.elim) (fun w Z2 D2 hw => ?_)
    obtain ⟨hS2, ht, hJ, b, rfl, ⟨y, rfl⟩, he⟩ := h2 _ _ _ hw
    cases y
    · skip
      refine ja_istore dL_law_711 rfl (Nat.le_of_ble_eq_true rfl) ?_
      refine ja_aload_n (i := 2) dL_law_713 rfl rfl ?_
      refine ja_cVr (st := []) (s_thrown l hS2.2.1) rfl rfl (ce_X8_thrown 0 0) im_X8_thrown se_X8_thrown lk_L_163 k_X8 hS2.2.1 ⟨Nat.le_of_ble_eq_true rfl, Nat.le_of_ble_eq_true rfl⟩ dL_law_714 rfl rfl (Nat.le_of_ble_eq_true rfl) (show c9 + c + 0 ≤ 603072 by omega) (show s9 + s + 0 ≤ 7211114 by omega) ?_
      refine ja_top (y := nI k) ht ?_
      refine ja_iload dL_law_717 rfl ?_
      refine ja_icmp_eq dL_law_719 (tgt := 724) (by decide) (fun c0 => ?_) (fun c0 => absurd rfl c0)
      refine ja_iload dL_law_724 rfl ?_
      refine ja_if_ne dL_law_726 (tgt := 748) (by decide) (fun c0 => ?_) (fun c0 => ?_)
      · skip
        refine ja_goto dL_law_748 (tgt := 3130) (by decide) ?_
        exact la_tail (kk _ _ hJ) (show c9 + c + 0 ≤ c9 + 4 by omega) (show s9 + s + 0 ≤ s9 + 776 by omega)
      · have hk0 := nI_z hk c0
        obtain ⟨y2, hy, hx⟩ := he hk0
        have hy3 : false = y2 := bI_inj (Value.int.inj hy)
        subst hy3
        refine ja_aload_n (i := 3) dL_law_729 rfl rfl ?_
        refine ja_iconst (v := bI false) dL_law_730 (by decide +kernel) ?_
        refine ja_lald (n := 1) (j := 0) hS2.2.2.1 rfl (by decide) (by decide) dL_law_731 ?_
        refine ja_iload dL_law_732 rfl ?_
        refine ja_if_eq dL_law_734 (tgt := 741) (by decide) (fun c0 => ?_) (fun c0 => absurd (show bI false = 0 by decide) c0)
        refine ja_lconst (v := 0) dL_law_741 (by decide +kernel) ?_
        refine ja_lcmp dL_law_742 ?_
        refine ja_top (y := 0) (by rw [hx]; exact lg_cmp_self _) ?_
        refine ja_if_eq dL_law_743 (tgt := 748) (by decide) (fun c0 => ?_) (fun c0 => absurd rfl c0)
        refine ja_goto dL_law_748 (tgt := 3130) (by decide) ?_
        exact la_tail (kk _ _ hJ) (show c9 + c + 0 ≤ c9 + 4 by omega) (show s9 + s + 0 ≤ s9 + 776 by omega)
    · skip
      refine ja_istore dL_law_711 rfl (Nat.le_of_ble_eq_true rfl) ?_
      refine ja_aload_n (i := 2) dL_law_713 rfl rfl ?_
      refine ja_cVr (st := []) (s_thrown l hS2.2.1) rfl rfl (ce_X8_thrown 0 0) im_X8_thrown se_X8_thrown lk_L_163 k_X8 hS2.2.1 ⟨Nat.le_of_ble_eq_true rfl, Nat.le_of_ble_eq_true rfl⟩ dL_law_714 rfl rfl (Nat.le_of_ble_eq_true rfl) (show c9 + c + 0 ≤ 603072 by omega) (show s9 + s + 0 ≤ 7211114 by omega) ?_
      refine ja_top (y := nI k) ht ?_
      refine ja_iload dL_law_717 rfl ?_
      refine ja_icmp_eq dL_law_719 (tgt := 724) (by decide) (fun c0 => ?_) (fun c0 => absurd rfl c0)
      refine ja_iload dL_law_724 rfl ?_
      refine ja_if_ne dL_law_726 (tgt := 748) (by decide) (fun c0 => ?_) (fun c0 => ?_)
      · skip
        refine ja_goto dL_law_748 (tgt := 3130) (by decide) ?_
        exact la_tail (kk _ _ hJ) (show c9 + c + 0 ≤ c9 + 4 by omega) (show s9 + s + 0 ≤ s9 + 776 by omega)
      · have hk0 := nI_z hk c0
        obtain ⟨y2, hy, hx⟩ := he hk0
        have hy3 : true = y2 := bI_inj (Value.int.inj hy)
        subst hy3
        refine ja_aload_n (i := 3) dL_law_729 rfl rfl ?_
        refine ja_iconst (v := bI false) dL_law_730 (by decide +kernel) ?_
        refine ja_lald (n := 1) (j := 0) hS2.2.2.1 rfl (by decide) (by decide) dL_law_731 ?_
        refine ja_iload dL_law_732 rfl ?_
        refine ja_if_eq dL_law_734 (tgt := 741) (by decide) (fun c0 => absurd c0 (by decide)) (fun c0 => ?_)
        refine ja_lconst (v := 1) dL_law_737 (by decide +kernel) ?_
        refine ja_goto dL_law_738 (tgt := 742) (by decide) ?_
        refine ja_lcmp dL_law_742 ?_
        refine ja_top (y := 0) (by rw [hx]; exact lg_cmp_self _) ?_
        refine ja_if_eq dL_law_743 (tgt := 748) (by decide) (fun c0 => ?_) (fun c0 => absurd rfl c0)
        refine ja_goto dL_law_748 (tgt := 3130) (by decide) ?_
        exact la_tail (kk _ _ hJ) (show c9 + c + 0 ≤ c9 + 4 by omega) (show s9 + s + 0 ≤ s9 + 776 by omega)
theorem la_sign (hS : ∀ n Z D, JI n Z D → ja_SH Z) (hC : ∀ (p0 : Int32), ja_JC l JI mL_sign mX8_sign [.int p0] 200 ty_i eqv_i) (hsc : sc = (L + 1, xs)) (hL : L ≤ 3584) (h7 : 7 * n + 7 ≤ L) (h4 : c9 + 4 ≤ 603072) (h5 : s9 + 776 ≤ 7211114) (hI : JI n Z D) (kk : ∀ Z2 D2, JI (n + 1) Z2 D2 → ja_A l (mL_law nm tb) sc Qf 28 (la_lv (7 * (n + 1))) [] Z2 D2 (c9 + 4) (s9 + 776)) : ja_A l (mL_law nm tb) sc Qf 751 (la_lv (7 * n)) [] Z D c9 s9 := by
  have hn : n < 512 := by omega
  obtain ⟨c, s, kr1, hc4, hs7, hM, h1⟩ := (hC ((xs (7 * n + 1)))) n Z D hn hI
  refine ja_aload_n (i := 1) dL_law_751 rfl rfl ?_
  refine ja_aload_n (i := 0) dL_law_752 rfl rfl ?_
  refine ja_iload dL_law_753 rfl ?_
  refine ja_iconst (v := nI 1) dL_law_755 (by decide +kernel) ?_
  refine ja_iaddN dL_law_756 ?_
  refine ja_sld (j := 7 * n + 1) hsc rfl (by omega) (by omega) dL_law_757 ?_
  refine ja_aload_n (i := 3) dL_law_758 rfl rfl ?_
  refine ja_callSW (st := []) hM (ch_L_sign c s) st_L_sign lk_L_185 ⟨Nat.le_of_ble_eq_true rfl, Nat.le_of_ble_eq_true rfl⟩ dL_law_759 rfl rfl (Nat.le_of_ble_eq_true rfl) (show c9 + c ≤ 603072 by omega) (show s9 + s ≤ 7211114 by omega) (fun _ _ _ h => h.elim) (fun v Z1 D1 hv => ?_)
  obtain ⟨k, hk, rfl, hS1, kr2, hM2, h2⟩ := h1 _ _ _ hv
  refine ja_istore dL_law_762 rfl (Nat.le_of_ble_eq_true rfl) ?_
  refine ja_aload_n (i := 2) dL_law_764 rfl rfl ?_
  refine ja_aload_n (i := 0) dL_law_765 rfl rfl ?_
  refine ja_iload dL_law_766 rfl ?_
  refine ja_iconst (v := nI 1) dL_law_768 (by decide +kernel) ?_
  refine ja_iaddN dL_law_769 ?_
  refine ja_sld (j := 7 * n + 1) hsc rfl (by omega) (by omega) dL_law_770 ?_
  refine ja_callV (av := [.int ((xs (7 * n + 1)))]) (st := []) hM2 (ce_X8_sign 0 0) im_X8_sign se_X8_sign lk_L_187 k_X8 hS1.2.1 ⟨Nat.le_of_ble_eq_true rfl, Nat.le_of_ble_eq_true rfl⟩ dL_law_771 rfl rfl (Nat.le_of_ble_eq_true rfl) (show c9 + c + 0 ≤ 603072 by omega) (show s9 + s + 0 ≤ 7211114 by omega) (fun _ _ _ h => h.elim) (fun w Z2 D2 hw => ?_)
  obtain ⟨hS2, ht, hJ, b, rfl, ⟨y, rfl⟩, he⟩ := h2 _ _ _ hw
  refine ja_istore dL_law_774 rfl (Nat.le_of_ble_eq_true rfl) ?_
  refine ja_aload_n (i := 2) dL_law_776 rfl rfl ?_
  refine ja_cVr (st := []) (s_thrown l hS2.2.1) rfl rfl (ce_X8_thrown 0 0) im_X8_thrown se_X8_thrown lk_L_163 k_X8 hS2.2.1 ⟨Nat.le_of_ble_eq_true rfl, Nat.le_of_ble_eq_true rfl⟩ dL_law_777 rfl rfl (Nat.le_of_ble_eq_true rfl) (show c9 + c + 0 ≤ 603072 by omega) (show s9 + s + 0 ≤ 7211114 by omega) ?_
  refine ja_top (y := nI k) ht ?_
  refine ja_iload dL_law_780 rfl ?_
  refine ja_icmp_eq dL_law_782 (tgt := 787) (by decide) (fun c0 => ?_) (fun c0 => absurd rfl c0)
  refine ja_iload dL_law_787 rfl ?_
  refine ja_if_ne dL_law_789 (tgt := 804) (by decide) (fun c0 => ?_) (fun c0 => ?_)
  · skip
    refine ja_goto dL_law_804 (tgt := 3130) (by decide) ?_
    exact la_tail (kk _ _ hJ) (show c9 + c + 0 ≤ c9 + 4 by omega) (show s9 + s + 0 ≤ s9 + 776 by omega)
  · have hk0 := nI_z hk c0
    obtain ⟨y2, hy, hx⟩ := he hk0
    cases hy
    refine ja_aload_n (i := 3) dL_law_792 rfl rfl ?_
    refine ja_iconst (v := nI 0) dL_law_793 (by decide +kernel) ?_
    refine ja_lald (n := 1) (j := 0) hS2.2.2.1 rfl (by decide) (by decide) dL_law_794 ?_
    refine ja_iload dL_law_795 rfl ?_
    refine ja_i2l dL_law_797 rfl ?_
    refine ja_lcmp dL_law_798 ?_
    refine ja_top (y := 0) (by rw [hx]; exact lg_cmp_self _) ?_
    refine ja_if_eq dL_law_799 (tgt := 804) (by decide) (fun c0 => ?_) (fun c0 => absurd rfl c0)
    refine ja_goto dL_law_804 (tgt := 3130) (by decide) ?_
    exact la_tail (kk _ _ hJ) (show c9 + c + 0 ≤ c9 + 4 by omega) (show s9 + s + 0 ≤ s9 + 776 by omega)
theorem la_keep (hS : ∀ n Z D, JI n Z D → ja_SH Z) (hC : ja_JC l JI mL_keep mX8_keep [] 200 ty_i eqv_i) (hsc : sc = (L + 1, xs)) (hL : L ≤ 3584) (h7 : 7 * n + 7 ≤ L) (h4 : c9 + 4 ≤ 603072) (h5 : s9 + 776 ≤ 7211114) (hI : JI n Z D) (kk : ∀ Z2 D2, JI (n + 1) Z2 D2 → ja_A l (mL_law nm tb) sc Qf 28 (la_lv (7 * (n + 1))) [] Z2 D2 (c9 + 4) (s9 + 776)) : ja_A l (mL_law nm tb) sc Qf 807 (la_lv (7 * n)) [] Z D c9 s9 := by
  have hn : n < 512 := by omega
  obtain ⟨c, s, kr1, hc4, hs7, hM, h1⟩ := (hC) n Z D hn hI
  refine ja_aload_n (i := 1) dL_law_807 rfl rfl ?_
  refine ja_aload_n (i := 3) dL_law_808 rfl rfl ?_
  refine ja_callSW (st := []) hM (ch_L_keep c s) st_L_keep lk_L_188 ⟨Nat.le_of_ble_eq_true rfl, Nat.le_of_ble_eq_true rfl⟩ dL_law_809 rfl rfl (Nat.le_of_ble_eq_true rfl) (show c9 + c ≤ 603072 by omega) (show s9 + s ≤ 7211114 by omega) (fun _ _ _ h => h.elim) (fun v Z1 D1 hv => ?_)
  obtain ⟨k, hk, rfl, hS1, kr2, hM2, h2⟩ := h1 _ _ _ hv
  refine ja_istore dL_law_812 rfl (Nat.le_of_ble_eq_true rfl) ?_
  refine ja_aload_n (i := 2) dL_law_814 rfl rfl ?_
  refine ja_callV (av := []) (st := []) hM2 (ce_X8_keep 0 0) im_X8_keep se_X8_keep lk_L_191 k_X8 hS1.2.1 ⟨Nat.le_of_ble_eq_true rfl, Nat.le_of_ble_eq_true rfl⟩ dL_law_815 rfl rfl (Nat.le_of_ble_eq_true rfl) (show c9 + c + 0 ≤ 603072 by omega) (show s9 + s + 0 ≤ 7211114 by omega) (fun _ _ _ h => h.elim) (fun w Z2 D2 hw => ?_)
  obtain ⟨hS2, ht, hJ, b, rfl, ⟨y, rfl⟩, he⟩ := h2 _ _ _ hw
  refine ja_istore dL_law_818 rfl (Nat.le_of_ble_eq_true rfl) ?_
  refine ja_aload_n (i := 2) dL_law_820 rfl rfl ?_
  refine ja_cVr (st := []) (s_thrown l hS2.2.1) rfl rfl (ce_X8_thrown 0 0) im_X8_thrown se_X8_thrown lk_L_163 k_X8 hS2.2.1 ⟨Nat.le_of_ble_eq_true rfl, Nat.le_of_ble_eq_true rfl⟩ dL_law_821 rfl rfl (Nat.le_of_ble_eq_true rfl) (show c9 + c + 0 ≤ 603072 by omega) (show s9 + s + 0 ≤ 7211114 by omega) ?_
  refine ja_top (y := nI k) ht ?_
  refine ja_iload dL_law_824 rfl ?_
  refine ja_icmp_eq dL_law_826 (tgt := 831) (by decide) (fun c0 => ?_) (fun c0 => absurd rfl c0)
  refine ja_iload dL_law_831 rfl ?_
  refine ja_if_ne dL_law_833 (tgt := 848) (by decide) (fun c0 => ?_) (fun c0 => ?_)
  · skip
    refine ja_goto dL_law_848 (tgt := 3130) (by decide) ?_
    exact la_tail (kk _ _ hJ) (show c9 + c + 0 ≤ c9 + 4 by omega) (show s9 + s + 0 ≤ s9 + 776 by omega)
  · have hk0 := nI_z hk c0
    obtain ⟨y2, hy, hx⟩ := he hk0
    cases hy
    refine ja_aload_n (i := 3) dL_law_836 rfl rfl ?_
    refine ja_iconst (v := nI 0) dL_law_837 (by decide +kernel) ?_
    refine ja_lald (n := 1) (j := 0) hS2.2.2.1 rfl (by decide) (by decide) dL_law_838 ?_
    refine ja_iload dL_law_839 rfl ?_
    refine ja_i2l dL_law_841 rfl ?_
    refine ja_lcmp dL_law_842 ?_
    refine ja_top (y := 0) (by rw [hx]; exact lg_cmp_self _) ?_
    refine ja_if_eq dL_law_843 (tgt := 848) (by decide) (fun c0 => ?_) (fun c0 => absurd rfl c0)
    refine ja_goto dL_law_848 (tgt := 3130) (by decide) ?_
    exact la_tail (kk _ _ hJ) (show c9 + c + 0 ≤ c9 + 4 by omega) (show s9 + s + 0 ≤ s9 + 776 by omega)
theorem la_drop (hS : ∀ n Z D, JI n Z D → ja_SH Z) (hC : ja_JC l JI mL_drop mX8_drop [] 200 ty_i eqv_i) (hsc : sc = (L + 1, xs)) (hL : L ≤ 3584) (h7 : 7 * n + 7 ≤ L) (h4 : c9 + 4 ≤ 603072) (h5 : s9 + 776 ≤ 7211114) (hI : JI n Z D) (kk : ∀ Z2 D2, JI (n + 1) Z2 D2 → ja_A l (mL_law nm tb) sc Qf 28 (la_lv (7 * (n + 1))) [] Z2 D2 (c9 + 4) (s9 + 776)) : ja_A l (mL_law nm tb) sc Qf 851 (la_lv (7 * n)) [] Z D c9 s9 := by
  have hn : n < 512 := by omega
  obtain ⟨c, s, kr1, hc4, hs7, hM, h1⟩ := (hC) n Z D hn hI
  refine ja_aload_n (i := 1) dL_law_851 rfl rfl ?_
  refine ja_aload_n (i := 3) dL_law_852 rfl rfl ?_
  refine ja_callSW (st := []) hM (ch_L_drop c s) st_L_drop lk_L_192 ⟨Nat.le_of_ble_eq_true rfl, Nat.le_of_ble_eq_true rfl⟩ dL_law_853 rfl rfl (Nat.le_of_ble_eq_true rfl) (show c9 + c ≤ 603072 by omega) (show s9 + s ≤ 7211114 by omega) (fun _ _ _ h => h.elim) (fun v Z1 D1 hv => ?_)
  obtain ⟨k, hk, rfl, hS1, kr2, hM2, h2⟩ := h1 _ _ _ hv
  refine ja_istore dL_law_856 rfl (Nat.le_of_ble_eq_true rfl) ?_
  refine ja_aload_n (i := 2) dL_law_858 rfl rfl ?_
  refine ja_callV (av := []) (st := []) hM2 (ce_X8_drop 0 0) im_X8_drop se_X8_drop lk_L_194 k_X8 hS1.2.1 ⟨Nat.le_of_ble_eq_true rfl, Nat.le_of_ble_eq_true rfl⟩ dL_law_859 rfl rfl (Nat.le_of_ble_eq_true rfl) (show c9 + c + 0 ≤ 603072 by omega) (show s9 + s + 0 ≤ 7211114 by omega) (fun _ _ _ h => h.elim) (fun w Z2 D2 hw => ?_)
  obtain ⟨hS2, ht, hJ, b, rfl, ⟨y, rfl⟩, he⟩ := h2 _ _ _ hw
  refine ja_istore dL_law_862 rfl (Nat.le_of_ble_eq_true rfl) ?_
  refine ja_aload_n (i := 2) dL_law_864 rfl rfl ?_
  refine ja_cVr (st := []) (s_thrown l hS2.2.1) rfl rfl (ce_X8_thrown 0 0) im_X8_thrown se_X8_thrown lk_L_163 k_X8 hS2.2.1 ⟨Nat.le_of_ble_eq_true rfl, Nat.le_of_ble_eq_true rfl⟩ dL_law_865 rfl rfl (Nat.le_of_ble_eq_true rfl) (show c9 + c + 0 ≤ 603072 by omega) (show s9 + s + 0 ≤ 7211114 by omega) ?_
  refine ja_top (y := nI k) ht ?_
  refine ja_iload dL_law_868 rfl ?_
  refine ja_icmp_eq dL_law_870 (tgt := 875) (by decide) (fun c0 => ?_) (fun c0 => absurd rfl c0)
  refine ja_iload dL_law_875 rfl ?_
  refine ja_if_ne dL_law_877 (tgt := 892) (by decide) (fun c0 => ?_) (fun c0 => ?_)
  · skip
    refine ja_goto dL_law_892 (tgt := 3130) (by decide) ?_
    exact la_tail (kk _ _ hJ) (show c9 + c + 0 ≤ c9 + 4 by omega) (show s9 + s + 0 ≤ s9 + 776 by omega)
  · have hk0 := nI_z hk c0
    obtain ⟨y2, hy, hx⟩ := he hk0
    cases hy
    refine ja_aload_n (i := 3) dL_law_880 rfl rfl ?_
    refine ja_iconst (v := nI 0) dL_law_881 (by decide +kernel) ?_
    refine ja_lald (n := 1) (j := 0) hS2.2.2.1 rfl (by decide) (by decide) dL_law_882 ?_
    refine ja_iload dL_law_883 rfl ?_
    refine ja_i2l dL_law_885 rfl ?_
    refine ja_lcmp dL_law_886 ?_
    refine ja_top (y := 0) (by rw [hx]; exact lg_cmp_self _) ?_
    refine ja_if_eq dL_law_887 (tgt := 892) (by decide) (fun c0 => ?_) (fun c0 => absurd rfl c0)
    refine ja_goto dL_law_892 (tgt := 3130) (by decide) ?_
    exact la_tail (kk _ _ hJ) (show c9 + c + 0 ≤ c9 + 4 by omega) (show s9 + s + 0 ≤ s9 + 776 by omega)
theorem la_addRule (hS : ∀ n Z D, JI n Z D → ja_SH Z) (hC : ∀ (p0 p1 p2 : Int32), ja_JC l JI mL_addRule mX8_addRule [.int p0, .int p1, .int p2] 200 ty_i eqv_i) (hsc : sc = (L + 1, xs)) (hL : L ≤ 3584) (h7 : 7 * n + 7 ≤ L) (h4 : c9 + 4 ≤ 603072) (h5 : s9 + 776 ≤ 7211114) (hI : JI n Z D) (kk : ∀ Z2 D2, JI (n + 1) Z2 D2 → ja_A l (mL_law nm tb) sc Qf 28 (la_lv (7 * (n + 1))) [] Z2 D2 (c9 + 4) (s9 + 776)) : ja_A l (mL_law nm tb) sc Qf 895 (la_lv (7 * n)) [] Z D c9 s9 := by
  have hn : n < 512 := by omega
  obtain ⟨c, s, kr1, hc4, hs7, hM, h1⟩ := (hC (((xs (7 * n + 1)).toUInt32 % 65536).toInt32) ((xs (7 * n + 2))) ((xs (7 * n + 3)))) n Z D hn hI
  refine ja_aload_n (i := 1) dL_law_895 rfl rfl ?_
  refine ja_aload_n (i := 0) dL_law_896 rfl rfl ?_
  refine ja_iload dL_law_897 rfl ?_
  refine ja_iconst (v := nI 1) dL_law_899 (by decide +kernel) ?_
  refine ja_iaddN dL_law_900 ?_
  refine ja_sld (j := 7 * n + 1) hsc rfl (by omega) (by omega) dL_law_901 ?_
  refine ja_i2c dL_law_902 rfl ?_
  refine ja_aload_n (i := 0) dL_law_903 rfl rfl ?_
  refine ja_iload dL_law_904 rfl ?_
  refine ja_iconst (v := nI 2) dL_law_906 (by decide +kernel) ?_
  refine ja_iaddN dL_law_907 ?_
  refine ja_sld (j := 7 * n + 2) hsc rfl (by omega) (by omega) dL_law_908 ?_
  refine ja_aload_n (i := 0) dL_law_909 rfl rfl ?_
  refine ja_iload dL_law_910 rfl ?_
  refine ja_iconst (v := nI 3) dL_law_912 (by decide +kernel) ?_
  refine ja_iaddN dL_law_913 ?_
  refine ja_sld (j := 7 * n + 3) hsc rfl (by omega) (by omega) dL_law_914 ?_
  refine ja_aload_n (i := 3) dL_law_915 rfl rfl ?_
  refine ja_callSW (st := []) hM (ch_L_addRule c s) st_L_addRule lk_L_195 ⟨Nat.le_of_ble_eq_true rfl, Nat.le_of_ble_eq_true rfl⟩ dL_law_916 rfl rfl (Nat.le_of_ble_eq_true rfl) (show c9 + c ≤ 603072 by omega) (show s9 + s ≤ 7211114 by omega) (fun _ _ _ h => h.elim) (fun v Z1 D1 hv => ?_)
  obtain ⟨k, hk, rfl, hS1, kr2, hM2, h2⟩ := h1 _ _ _ hv
  refine ja_istore dL_law_919 rfl (Nat.le_of_ble_eq_true rfl) ?_
  refine ja_aload_n (i := 2) dL_law_921 rfl rfl ?_
  refine ja_aload_n (i := 0) dL_law_922 rfl rfl ?_
  refine ja_iload dL_law_923 rfl ?_
  refine ja_iconst (v := nI 1) dL_law_925 (by decide +kernel) ?_
  refine ja_iaddN dL_law_926 ?_
  refine ja_sld (j := 7 * n + 1) hsc rfl (by omega) (by omega) dL_law_927 ?_
  refine ja_i2c dL_law_928 rfl ?_
  refine ja_aload_n (i := 0) dL_law_929 rfl rfl ?_
  refine ja_iload dL_law_930 rfl ?_
  refine ja_iconst (v := nI 2) dL_law_932 (by decide +kernel) ?_
  refine ja_iaddN dL_law_933 ?_
  refine ja_sld (j := 7 * n + 2) hsc rfl (by omega) (by omega) dL_law_934 ?_
  refine ja_aload_n (i := 0) dL_law_935 rfl rfl ?_
  refine ja_iload dL_law_936 rfl ?_
  refine ja_iconst (v := nI 3) dL_law_938 (by decide +kernel) ?_
  refine ja_iaddN dL_law_939 ?_
  refine ja_sld (j := 7 * n + 3) hsc rfl (by omega) (by omega) dL_law_940 ?_
  refine ja_callV (av := [.int (((xs (7 * n + 1)).toUInt32 % 65536).toInt32), .int ((xs (7 * n + 2))), .int ((xs (7 * n + 3)))]) (st := []) hM2 (ce_X8_addRule 0 0) im_X8_addRule se_X8_addRule lk_L_198 k_X8 hS1.2.1 ⟨Nat.le_of_ble_eq_true rfl, Nat.le_of_ble_eq_true rfl⟩ dL_law_941 rfl rfl (Nat.le_of_ble_eq_true rfl) (show c9 + c + 0 ≤ 603072 by omega) (show s9 + s + 0 ≤ 7211114 by omega) (fun _ _ _ h => h.elim) (fun w Z2 D2 hw => ?_)
  obtain ⟨hS2, ht, hJ, b, rfl, ⟨y, rfl⟩, he⟩ := h2 _ _ _ hw
  refine ja_istore dL_law_944 rfl (Nat.le_of_ble_eq_true rfl) ?_
  refine ja_aload_n (i := 2) dL_law_946 rfl rfl ?_
  refine ja_cVr (st := []) (s_thrown l hS2.2.1) rfl rfl (ce_X8_thrown 0 0) im_X8_thrown se_X8_thrown lk_L_163 k_X8 hS2.2.1 ⟨Nat.le_of_ble_eq_true rfl, Nat.le_of_ble_eq_true rfl⟩ dL_law_947 rfl rfl (Nat.le_of_ble_eq_true rfl) (show c9 + c + 0 ≤ 603072 by omega) (show s9 + s + 0 ≤ 7211114 by omega) ?_
  refine ja_top (y := nI k) ht ?_
  refine ja_iload dL_law_950 rfl ?_
  refine ja_icmp_eq dL_law_952 (tgt := 957) (by decide) (fun c0 => ?_) (fun c0 => absurd rfl c0)
  refine ja_iload dL_law_957 rfl ?_
  refine ja_if_ne dL_law_959 (tgt := 974) (by decide) (fun c0 => ?_) (fun c0 => ?_)
  · skip
    refine ja_goto dL_law_974 (tgt := 3130) (by decide) ?_
    exact la_tail (kk _ _ hJ) (show c9 + c + 0 ≤ c9 + 4 by omega) (show s9 + s + 0 ≤ s9 + 776 by omega)
  · have hk0 := nI_z hk c0
    obtain ⟨y2, hy, hx⟩ := he hk0
    cases hy
    refine ja_aload_n (i := 3) dL_law_962 rfl rfl ?_
    refine ja_iconst (v := nI 0) dL_law_963 (by decide +kernel) ?_
    refine ja_lald (n := 1) (j := 0) hS2.2.2.1 rfl (by decide) (by decide) dL_law_964 ?_
    refine ja_iload dL_law_965 rfl ?_
    refine ja_i2l dL_law_967 rfl ?_
    refine ja_lcmp dL_law_968 ?_
    refine ja_top (y := 0) (by rw [hx]; exact lg_cmp_self _) ?_
    refine ja_if_eq dL_law_969 (tgt := 974) (by decide) (fun c0 => ?_) (fun c0 => absurd rfl c0)
    refine ja_goto dL_law_974 (tgt := 3130) (by decide) ?_
    exact la_tail (kk _ _ hJ) (show c9 + c + 0 ≤ c9 + 4 by omega) (show s9 + s + 0 ≤ s9 + 776 by omega)
theorem la_broken (hS : ∀ n Z D, JI n Z D → ja_SH Z) (hC : ∀ (p0 : Int32), ja_JC l JI mL_broken mX8_broken [.int p0] 200 ty_i eqv_i) (hsc : sc = (L + 1, xs)) (hL : L ≤ 3584) (h7 : 7 * n + 7 ≤ L) (h4 : c9 + 4 ≤ 603072) (h5 : s9 + 776 ≤ 7211114) (hI : JI n Z D) (kk : ∀ Z2 D2, JI (n + 1) Z2 D2 → ja_A l (mL_law nm tb) sc Qf 28 (la_lv (7 * (n + 1))) [] Z2 D2 (c9 + 4) (s9 + 776)) : ja_A l (mL_law nm tb) sc Qf 977 (la_lv (7 * n)) [] Z D c9 s9 := by
  have hn : n < 512 := by omega
  obtain ⟨c, s, kr1, hc4, hs7, hM, h1⟩ := (hC ((xs (7 * n + 1)))) n Z D hn hI
  refine ja_aload_n (i := 1) dL_law_977 rfl rfl ?_
  refine ja_aload_n (i := 0) dL_law_978 rfl rfl ?_
  refine ja_iload dL_law_979 rfl ?_
  refine ja_iconst (v := nI 1) dL_law_981 (by decide +kernel) ?_
  refine ja_iaddN dL_law_982 ?_
  refine ja_sld (j := 7 * n + 1) hsc rfl (by omega) (by omega) dL_law_983 ?_
  refine ja_aload_n (i := 3) dL_law_984 rfl rfl ?_
  refine ja_callSW (st := []) hM (ch_L_broken c s) st_L_broken lk_L_199 ⟨Nat.le_of_ble_eq_true rfl, Nat.le_of_ble_eq_true rfl⟩ dL_law_985 rfl rfl (Nat.le_of_ble_eq_true rfl) (show c9 + c ≤ 603072 by omega) (show s9 + s ≤ 7211114 by omega) (fun _ _ _ h => h.elim) (fun v Z1 D1 hv => ?_)
  obtain ⟨k, hk, rfl, hS1, kr2, hM2, h2⟩ := h1 _ _ _ hv
  refine ja_istore dL_law_988 rfl (Nat.le_of_ble_eq_true rfl) ?_
  refine ja_aload_n (i := 2) dL_law_990 rfl rfl ?_
  refine ja_aload_n (i := 0) dL_law_991 rfl rfl ?_
  refine ja_iload dL_law_992 rfl ?_
  refine ja_iconst (v := nI 1) dL_law_994 (by decide +kernel) ?_
  refine ja_iaddN dL_law_995 ?_
  refine ja_sld (j := 7 * n + 1) hsc rfl (by omega) (by omega) dL_law_996 ?_
  refine ja_callV (av := [.int ((xs (7 * n + 1)))]) (st := []) hM2 (ce_X8_broken 0 0) im_X8_broken se_X8_broken lk_L_201 k_X8 hS1.2.1 ⟨Nat.le_of_ble_eq_true rfl, Nat.le_of_ble_eq_true rfl⟩ dL_law_997 rfl rfl (Nat.le_of_ble_eq_true rfl) (show c9 + c + 0 ≤ 603072 by omega) (show s9 + s + 0 ≤ 7211114 by omega) (fun _ _ _ h => h.elim) (fun w Z2 D2 hw => ?_)
  obtain ⟨hS2, ht, hJ, b, rfl, ⟨y, rfl⟩, he⟩ := h2 _ _ _ hw
  refine ja_istore dL_law_1000 rfl (Nat.le_of_ble_eq_true rfl) ?_
  refine ja_aload_n (i := 2) dL_law_1002 rfl rfl ?_
  refine ja_cVr (st := []) (s_thrown l hS2.2.1) rfl rfl (ce_X8_thrown 0 0) im_X8_thrown se_X8_thrown lk_L_163 k_X8 hS2.2.1 ⟨Nat.le_of_ble_eq_true rfl, Nat.le_of_ble_eq_true rfl⟩ dL_law_1003 rfl rfl (Nat.le_of_ble_eq_true rfl) (show c9 + c + 0 ≤ 603072 by omega) (show s9 + s + 0 ≤ 7211114 by omega) ?_
  refine ja_top (y := nI k) ht ?_
  refine ja_iload dL_law_1006 rfl ?_
  refine ja_icmp_eq dL_law_1008 (tgt := 1013) (by decide) (fun c0 => ?_) (fun c0 => absurd rfl c0)
  refine ja_iload dL_law_1013 rfl ?_
  refine ja_if_ne dL_law_1015 (tgt := 1030) (by decide) (fun c0 => ?_) (fun c0 => ?_)
  · skip
    refine ja_goto dL_law_1030 (tgt := 3130) (by decide) ?_
    exact la_tail (kk _ _ hJ) (show c9 + c + 0 ≤ c9 + 4 by omega) (show s9 + s + 0 ≤ s9 + 776 by omega)
  · have hk0 := nI_z hk c0
    obtain ⟨y2, hy, hx⟩ := he hk0
    cases hy
    refine ja_aload_n (i := 3) dL_law_1018 rfl rfl ?_
    refine ja_iconst (v := nI 0) dL_law_1019 (by decide +kernel) ?_
    refine ja_lald (n := 1) (j := 0) hS2.2.2.1 rfl (by decide) (by decide) dL_law_1020 ?_
    refine ja_iload dL_law_1021 rfl ?_
    refine ja_i2l dL_law_1023 rfl ?_
    refine ja_lcmp dL_law_1024 ?_
    refine ja_top (y := 0) (by rw [hx]; exact lg_cmp_self _) ?_
    refine ja_if_eq dL_law_1025 (tgt := 1030) (by decide) (fun c0 => ?_) (fun c0 => absurd rfl c0)
    refine ja_goto dL_law_1030 (tgt := 3130) (by decide) ?_
    exact la_tail (kk _ _ hJ) (show c9 + c + 0 ≤ c9 + 4 by omega) (show s9 + s + 0 ≤ s9 + 776 by omega)
theorem la_leastBroken (hS : ∀ n Z D, JI n Z D → ja_SH Z) (hC : ja_JC l JI mL_leastBroken mX8_leastBroken [] 200 ty_i eqv_i) (hsc : sc = (L + 1, xs)) (hL : L ≤ 3584) (h7 : 7 * n + 7 ≤ L) (h4 : c9 + 4 ≤ 603072) (h5 : s9 + 776 ≤ 7211114) (hI : JI n Z D) (kk : ∀ Z2 D2, JI (n + 1) Z2 D2 → ja_A l (mL_law nm tb) sc Qf 28 (la_lv (7 * (n + 1))) [] Z2 D2 (c9 + 4) (s9 + 776)) : ja_A l (mL_law nm tb) sc Qf 1033 (la_lv (7 * n)) [] Z D c9 s9 := by
  have hn : n < 512 := by omega
  obtain ⟨c, s, kr1, hc4, hs7, hM, h1⟩ := (hC) n Z D hn hI
  refine ja_aload_n (i := 1) dL_law_1033 rfl rfl ?_
  refine ja_aload_n (i := 3) dL_law_1034 rfl rfl ?_
  refine ja_callSW (st := []) hM (ch_L_leastBroken c s) st_L_leastBroken lk_L_202 ⟨Nat.le_of_ble_eq_true rfl, Nat.le_of_ble_eq_true rfl⟩ dL_law_1035 rfl rfl (Nat.le_of_ble_eq_true rfl) (show c9 + c ≤ 603072 by omega) (show s9 + s ≤ 7211114 by omega) (fun _ _ _ h => h.elim) (fun v Z1 D1 hv => ?_)
  obtain ⟨k, hk, rfl, hS1, kr2, hM2, h2⟩ := h1 _ _ _ hv
  refine ja_istore dL_law_1038 rfl (Nat.le_of_ble_eq_true rfl) ?_
  refine ja_aload_n (i := 2) dL_law_1040 rfl rfl ?_
  refine ja_callV (av := []) (st := []) hM2 (ce_X8_leastBroken 0 0) im_X8_leastBroken se_X8_leastBroken lk_L_204 k_X8 hS1.2.1 ⟨Nat.le_of_ble_eq_true rfl, Nat.le_of_ble_eq_true rfl⟩ dL_law_1041 rfl rfl (Nat.le_of_ble_eq_true rfl) (show c9 + c + 0 ≤ 603072 by omega) (show s9 + s + 0 ≤ 7211114 by omega) (fun _ _ _ h => h.elim) (fun w Z2 D2 hw => ?_)
  obtain ⟨hS2, ht, hJ, b, rfl, ⟨y, rfl⟩, he⟩ := h2 _ _ _ hw
  refine ja_istore dL_law_1044 rfl (Nat.le_of_ble_eq_true rfl) ?_
  refine ja_aload_n (i := 2) dL_law_1046 rfl rfl ?_
  refine ja_cVr (st := []) (s_thrown l hS2.2.1) rfl rfl (ce_X8_thrown 0 0) im_X8_thrown se_X8_thrown lk_L_163 k_X8 hS2.2.1 ⟨Nat.le_of_ble_eq_true rfl, Nat.le_of_ble_eq_true rfl⟩ dL_law_1047 rfl rfl (Nat.le_of_ble_eq_true rfl) (show c9 + c + 0 ≤ 603072 by omega) (show s9 + s + 0 ≤ 7211114 by omega) ?_
  refine ja_top (y := nI k) ht ?_
  refine ja_iload dL_law_1050 rfl ?_
  refine ja_icmp_eq dL_law_1052 (tgt := 1057) (by decide) (fun c0 => ?_) (fun c0 => absurd rfl c0)
  refine ja_iload dL_law_1057 rfl ?_
  refine ja_if_ne dL_law_1059 (tgt := 1074) (by decide) (fun c0 => ?_) (fun c0 => ?_)
  · skip
    refine ja_goto dL_law_1074 (tgt := 3130) (by decide) ?_
    exact la_tail (kk _ _ hJ) (show c9 + c + 0 ≤ c9 + 4 by omega) (show s9 + s + 0 ≤ s9 + 776 by omega)
  · have hk0 := nI_z hk c0
    obtain ⟨y2, hy, hx⟩ := he hk0
    cases hy
    refine ja_aload_n (i := 3) dL_law_1062 rfl rfl ?_
    refine ja_iconst (v := nI 0) dL_law_1063 (by decide +kernel) ?_
    refine ja_lald (n := 1) (j := 0) hS2.2.2.1 rfl (by decide) (by decide) dL_law_1064 ?_
    refine ja_iload dL_law_1065 rfl ?_
    refine ja_i2l dL_law_1067 rfl ?_
    refine ja_lcmp dL_law_1068 ?_
    refine ja_top (y := 0) (by rw [hx]; exact lg_cmp_self _) ?_
    refine ja_if_eq dL_law_1069 (tgt := 1074) (by decide) (fun c0 => ?_) (fun c0 => absurd rfl c0)
    refine ja_goto dL_law_1074 (tgt := 3130) (by decide) ?_
    exact la_tail (kk _ _ hJ) (show c9 + c + 0 ≤ c9 + 4 by omega) (show s9 + s + 0 ≤ s9 + 776 by omega)
theorem la_areaAt (hS : ∀ n Z D, JI n Z D → ja_SH Z) (hC : ∀ (p0 p1 : Int32), ja_JC l JI mL_areaAt mX8_areaAt [.int p0, .int p1] 200 ty_i eqv_i) (hsc : sc = (L + 1, xs)) (hL : L ≤ 3584) (h7 : 7 * n + 7 ≤ L) (h4 : c9 + 4 ≤ 603072) (h5 : s9 + 776 ≤ 7211114) (hI : JI n Z D) (kk : ∀ Z2 D2, JI (n + 1) Z2 D2 → ja_A l (mL_law nm tb) sc Qf 28 (la_lv (7 * (n + 1))) [] Z2 D2 (c9 + 4) (s9 + 776)) : ja_A l (mL_law nm tb) sc Qf 1077 (la_lv (7 * n)) [] Z D c9 s9 := by
  have hn : n < 512 := by omega
  obtain ⟨c, s, kr1, hc4, hs7, hM, h1⟩ := (hC ((xs (7 * n + 1))) ((xs (7 * n + 2)))) n Z D hn hI
  refine ja_aload_n (i := 1) dL_law_1077 rfl rfl ?_
  refine ja_aload_n (i := 0) dL_law_1078 rfl rfl ?_
  refine ja_iload dL_law_1079 rfl ?_
  refine ja_iconst (v := nI 1) dL_law_1081 (by decide +kernel) ?_
  refine ja_iaddN dL_law_1082 ?_
  refine ja_sld (j := 7 * n + 1) hsc rfl (by omega) (by omega) dL_law_1083 ?_
  refine ja_aload_n (i := 0) dL_law_1084 rfl rfl ?_
  refine ja_iload dL_law_1085 rfl ?_
  refine ja_iconst (v := nI 2) dL_law_1087 (by decide +kernel) ?_
  refine ja_iaddN dL_law_1088 ?_
  refine ja_sld (j := 7 * n + 2) hsc rfl (by omega) (by omega) dL_law_1089 ?_
  refine ja_aload_n (i := 3) dL_law_1090 rfl rfl ?_
  refine ja_callSW (st := []) hM (ch_L_areaAt c s) st_L_areaAt lk_L_205 ⟨Nat.le_of_ble_eq_true rfl, Nat.le_of_ble_eq_true rfl⟩ dL_law_1091 rfl rfl (Nat.le_of_ble_eq_true rfl) (show c9 + c ≤ 603072 by omega) (show s9 + s ≤ 7211114 by omega) (fun _ _ _ h => h.elim) (fun v Z1 D1 hv => ?_)
  obtain ⟨k, hk, rfl, hS1, kr2, hM2, h2⟩ := h1 _ _ _ hv
  refine ja_istore dL_law_1094 rfl (Nat.le_of_ble_eq_true rfl) ?_
  refine ja_aload_n (i := 2) dL_law_1096 rfl rfl ?_
  refine ja_aload_n (i := 0) dL_law_1097 rfl rfl ?_
  refine ja_iload dL_law_1098 rfl ?_
  refine ja_iconst (v := nI 1) dL_law_1100 (by decide +kernel) ?_
  refine ja_iaddN dL_law_1101 ?_
  refine ja_sld (j := 7 * n + 1) hsc rfl (by omega) (by omega) dL_law_1102 ?_
  refine ja_aload_n (i := 0) dL_law_1103 rfl rfl ?_
  refine ja_iload dL_law_1104 rfl ?_
  refine ja_iconst (v := nI 2) dL_law_1106 (by decide +kernel) ?_
  refine ja_iaddN dL_law_1107 ?_
  refine ja_sld (j := 7 * n + 2) hsc rfl (by omega) (by omega) dL_law_1108 ?_
  refine ja_callV (av := [.int ((xs (7 * n + 1))), .int ((xs (7 * n + 2)))]) (st := []) hM2 (ce_X8_areaAt 0 0) im_X8_areaAt se_X8_areaAt lk_L_208 k_X8 hS1.2.1 ⟨Nat.le_of_ble_eq_true rfl, Nat.le_of_ble_eq_true rfl⟩ dL_law_1109 rfl rfl (Nat.le_of_ble_eq_true rfl) (show c9 + c + 0 ≤ 603072 by omega) (show s9 + s + 0 ≤ 7211114 by omega) (fun _ _ _ h => h.elim) (fun w Z2 D2 hw => ?_)
  obtain ⟨hS2, ht, hJ, b, rfl, ⟨y, rfl⟩, he⟩ := h2 _ _ _ hw
  refine ja_istore dL_law_1112 rfl (Nat.le_of_ble_eq_true rfl) ?_
  refine ja_aload_n (i := 2) dL_law_1114 rfl rfl ?_
  refine ja_cVr (st := []) (s_thrown l hS2.2.1) rfl rfl (ce_X8_thrown 0 0) im_X8_thrown se_X8_thrown lk_L_163 k_X8 hS2.2.1 ⟨Nat.le_of_ble_eq_true rfl, Nat.le_of_ble_eq_true rfl⟩ dL_law_1115 rfl rfl (Nat.le_of_ble_eq_true rfl) (show c9 + c + 0 ≤ 603072 by omega) (show s9 + s + 0 ≤ 7211114 by omega) ?_
  refine ja_top (y := nI k) ht ?_
  refine ja_iload dL_law_1118 rfl ?_
  refine ja_icmp_eq dL_law_1120 (tgt := 1125) (by decide) (fun c0 => ?_) (fun c0 => absurd rfl c0)
  refine ja_iload dL_law_1125 rfl ?_
  refine ja_if_ne dL_law_1127 (tgt := 1142) (by decide) (fun c0 => ?_) (fun c0 => ?_)
  · skip
    refine ja_goto dL_law_1142 (tgt := 3130) (by decide) ?_
    exact la_tail (kk _ _ hJ) (show c9 + c + 0 ≤ c9 + 4 by omega) (show s9 + s + 0 ≤ s9 + 776 by omega)
  · have hk0 := nI_z hk c0
    obtain ⟨y2, hy, hx⟩ := he hk0
    cases hy
    refine ja_aload_n (i := 3) dL_law_1130 rfl rfl ?_
    refine ja_iconst (v := nI 0) dL_law_1131 (by decide +kernel) ?_
    refine ja_lald (n := 1) (j := 0) hS2.2.2.1 rfl (by decide) (by decide) dL_law_1132 ?_
    refine ja_iload dL_law_1133 rfl ?_
    refine ja_i2l dL_law_1135 rfl ?_
    refine ja_lcmp dL_law_1136 ?_
    refine ja_top (y := 0) (by rw [hx]; exact lg_cmp_self _) ?_
    refine ja_if_eq dL_law_1137 (tgt := 1142) (by decide) (fun c0 => ?_) (fun c0 => absurd rfl c0)
    refine ja_goto dL_law_1142 (tgt := 3130) (by decide) ?_
    exact la_tail (kk _ _ hJ) (show c9 + c + 0 ≤ c9 + 4 by omega) (show s9 + s + 0 ≤ s9 + 776 by omega)
theorem la_areaThen (hS : ∀ n Z D, JI n Z D → ja_SH Z) (hC : ∀ (p0 p1 p2 : Int32), ja_JC l JI mL_areaThen mX8_areaThen [.int p0, .int p1, .int p2] 200 ty_i eqv_i) (hsc : sc = (L + 1, xs)) (hL : L ≤ 3584) (h7 : 7 * n + 7 ≤ L) (h4 : c9 + 4 ≤ 603072) (h5 : s9 + 776 ≤ 7211114) (hI : JI n Z D) (kk : ∀ Z2 D2, JI (n + 1) Z2 D2 → ja_A l (mL_law nm tb) sc Qf 28 (la_lv (7 * (n + 1))) [] Z2 D2 (c9 + 4) (s9 + 776)) : ja_A l (mL_law nm tb) sc Qf 1145 (la_lv (7 * n)) [] Z D c9 s9 := by
  have hn : n < 512 := by omega
  obtain ⟨c, s, kr1, hc4, hs7, hM, h1⟩ := (hC ((xs (7 * n + 1))) ((xs (7 * n + 2))) ((xs (7 * n + 3)))) n Z D hn hI
  refine ja_aload_n (i := 1) dL_law_1145 rfl rfl ?_
  refine ja_aload_n (i := 0) dL_law_1146 rfl rfl ?_
  refine ja_iload dL_law_1147 rfl ?_
  refine ja_iconst (v := nI 1) dL_law_1149 (by decide +kernel) ?_
  refine ja_iaddN dL_law_1150 ?_
  refine ja_sld (j := 7 * n + 1) hsc rfl (by omega) (by omega) dL_law_1151 ?_
  refine ja_aload_n (i := 0) dL_law_1152 rfl rfl ?_
  refine ja_iload dL_law_1153 rfl ?_
  refine ja_iconst (v := nI 2) dL_law_1155 (by decide +kernel) ?_
  refine ja_iaddN dL_law_1156 ?_
  refine ja_sld (j := 7 * n + 2) hsc rfl (by omega) (by omega) dL_law_1157 ?_
  refine ja_aload_n (i := 0) dL_law_1158 rfl rfl ?_
  refine ja_iload dL_law_1159 rfl ?_
  refine ja_iconst (v := nI 3) dL_law_1161 (by decide +kernel) ?_
  refine ja_iaddN dL_law_1162 ?_
  refine ja_sld (j := 7 * n + 3) hsc rfl (by omega) (by omega) dL_law_1163 ?_
  refine ja_aload_n (i := 3) dL_law_1164 rfl rfl ?_
  refine ja_callSW (st := []) hM (ch_L_areaThen c s) st_L_areaThen lk_L_209 ⟨Nat.le_of_ble_eq_true rfl, Nat.le_of_ble_eq_true rfl⟩ dL_law_1165 rfl rfl (Nat.le_of_ble_eq_true rfl) (show c9 + c ≤ 603072 by omega) (show s9 + s ≤ 7211114 by omega) (fun _ _ _ h => h.elim) (fun v Z1 D1 hv => ?_)
  obtain ⟨k, hk, rfl, hS1, kr2, hM2, h2⟩ := h1 _ _ _ hv
  refine ja_istore dL_law_1168 rfl (Nat.le_of_ble_eq_true rfl) ?_
  refine ja_aload_n (i := 2) dL_law_1170 rfl rfl ?_
  refine ja_aload_n (i := 0) dL_law_1171 rfl rfl ?_
  refine ja_iload dL_law_1172 rfl ?_
  refine ja_iconst (v := nI 1) dL_law_1174 (by decide +kernel) ?_
  refine ja_iaddN dL_law_1175 ?_
  refine ja_sld (j := 7 * n + 1) hsc rfl (by omega) (by omega) dL_law_1176 ?_
  refine ja_aload_n (i := 0) dL_law_1177 rfl rfl ?_
  refine ja_iload dL_law_1178 rfl ?_
  refine ja_iconst (v := nI 2) dL_law_1180 (by decide +kernel) ?_
  refine ja_iaddN dL_law_1181 ?_
  refine ja_sld (j := 7 * n + 2) hsc rfl (by omega) (by omega) dL_law_1182 ?_
  refine ja_aload_n (i := 0) dL_law_1183 rfl rfl ?_
  refine ja_iload dL_law_1184 rfl ?_
  refine ja_iconst (v := nI 3) dL_law_1186 (by decide +kernel) ?_
  refine ja_iaddN dL_law_1187 ?_
  refine ja_sld (j := 7 * n + 3) hsc rfl (by omega) (by omega) dL_law_1188 ?_
  refine ja_callV (av := [.int ((xs (7 * n + 1))), .int ((xs (7 * n + 2))), .int ((xs (7 * n + 3)))]) (st := []) hM2 (ce_X8_areaThen 0 0) im_X8_areaThen se_X8_areaThen lk_L_211 k_X8 hS1.2.1 ⟨Nat.le_of_ble_eq_true rfl, Nat.le_of_ble_eq_true rfl⟩ dL_law_1189 rfl rfl (Nat.le_of_ble_eq_true rfl) (show c9 + c + 0 ≤ 603072 by omega) (show s9 + s + 0 ≤ 7211114 by omega) (fun _ _ _ h => h.elim) (fun w Z2 D2 hw => ?_)
  obtain ⟨hS2, ht, hJ, b, rfl, ⟨y, rfl⟩, he⟩ := h2 _ _ _ hw
  refine ja_istore dL_law_1192 rfl (Nat.le_of_ble_eq_true rfl) ?_
  refine ja_aload_n (i := 2) dL_law_1194 rfl rfl ?_
  refine ja_cVr (st := []) (s_thrown l hS2.2.1) rfl rfl (ce_X8_thrown 0 0) im_X8_thrown se_X8_thrown lk_L_163 k_X8 hS2.2.1 ⟨Nat.le_of_ble_eq_true rfl, Nat.le_of_ble_eq_true rfl⟩ dL_law_1195 rfl rfl (Nat.le_of_ble_eq_true rfl) (show c9 + c + 0 ≤ 603072 by omega) (show s9 + s + 0 ≤ 7211114 by omega) ?_
  refine ja_top (y := nI k) ht ?_
  refine ja_iload dL_law_1198 rfl ?_
  refine ja_icmp_eq dL_law_1200 (tgt := 1205) (by decide) (fun c0 => ?_) (fun c0 => absurd rfl c0)
  refine ja_iload dL_law_1205 rfl ?_
  refine ja_if_ne dL_law_1207 (tgt := 1222) (by decide) (fun c0 => ?_) (fun c0 => ?_)
  · skip
    refine ja_goto dL_law_1222 (tgt := 3130) (by decide) ?_
    exact la_tail (kk _ _ hJ) (show c9 + c + 0 ≤ c9 + 4 by omega) (show s9 + s + 0 ≤ s9 + 776 by omega)
  · have hk0 := nI_z hk c0
    obtain ⟨y2, hy, hx⟩ := he hk0
    cases hy
    refine ja_aload_n (i := 3) dL_law_1210 rfl rfl ?_
    refine ja_iconst (v := nI 0) dL_law_1211 (by decide +kernel) ?_
    refine ja_lald (n := 1) (j := 0) hS2.2.2.1 rfl (by decide) (by decide) dL_law_1212 ?_
    refine ja_iload dL_law_1213 rfl ?_
    refine ja_i2l dL_law_1215 rfl ?_
    refine ja_lcmp dL_law_1216 ?_
    refine ja_top (y := 0) (by rw [hx]; exact lg_cmp_self _) ?_
    refine ja_if_eq dL_law_1217 (tgt := 1222) (by decide) (fun c0 => ?_) (fun c0 => absurd rfl c0)
    refine ja_goto dL_law_1222 (tgt := 3130) (by decide) ?_
    exact la_tail (kk _ _ hJ) (show c9 + c + 0 ≤ c9 + 4 by omega) (show s9 + s + 0 ≤ s9 + 776 by omega)
theorem la_authorOf (hS : ∀ n Z D, JI n Z D → ja_SH Z) (hC : ∀ (p0 p1 p2 : Int32), ja_JC l JI mL_authorOf mX8_authorOf [.int p0, .int p1, .int p2] 200 ty_i eqv_i) (hsc : sc = (L + 1, xs)) (hL : L ≤ 3584) (h7 : 7 * n + 7 ≤ L) (h4 : c9 + 4 ≤ 603072) (h5 : s9 + 776 ≤ 7211114) (hI : JI n Z D) (kk : ∀ Z2 D2, JI (n + 1) Z2 D2 → ja_A l (mL_law nm tb) sc Qf 28 (la_lv (7 * (n + 1))) [] Z2 D2 (c9 + 4) (s9 + 776)) : ja_A l (mL_law nm tb) sc Qf 1225 (la_lv (7 * n)) [] Z D c9 s9 := by
  have hn : n < 512 := by omega
  obtain ⟨c, s, kr1, hc4, hs7, hM, h1⟩ := (hC ((xs (7 * n + 1))) ((xs (7 * n + 2))) ((xs (7 * n + 3)))) n Z D hn hI
  refine ja_aload_n (i := 1) dL_law_1225 rfl rfl ?_
  refine ja_aload_n (i := 0) dL_law_1226 rfl rfl ?_
  refine ja_iload dL_law_1227 rfl ?_
  refine ja_iconst (v := nI 1) dL_law_1229 (by decide +kernel) ?_
  refine ja_iaddN dL_law_1230 ?_
  refine ja_sld (j := 7 * n + 1) hsc rfl (by omega) (by omega) dL_law_1231 ?_
  refine ja_aload_n (i := 0) dL_law_1232 rfl rfl ?_
  refine ja_iload dL_law_1233 rfl ?_
  refine ja_iconst (v := nI 2) dL_law_1235 (by decide +kernel) ?_
  refine ja_iaddN dL_law_1236 ?_
  refine ja_sld (j := 7 * n + 2) hsc rfl (by omega) (by omega) dL_law_1237 ?_
  refine ja_aload_n (i := 0) dL_law_1238 rfl rfl ?_
  refine ja_iload dL_law_1239 rfl ?_
  refine ja_iconst (v := nI 3) dL_law_1241 (by decide +kernel) ?_
  refine ja_iaddN dL_law_1242 ?_
  refine ja_sld (j := 7 * n + 3) hsc rfl (by omega) (by omega) dL_law_1243 ?_
  refine ja_aload_n (i := 3) dL_law_1244 rfl rfl ?_
  refine ja_callSW (st := []) hM (ch_L_authorOf c s) st_L_authorOf lk_L_212 ⟨Nat.le_of_ble_eq_true rfl, Nat.le_of_ble_eq_true rfl⟩ dL_law_1245 rfl rfl (Nat.le_of_ble_eq_true rfl) (show c9 + c ≤ 603072 by omega) (show s9 + s ≤ 7211114 by omega) (fun _ _ _ h => h.elim) (fun v Z1 D1 hv => ?_)
  obtain ⟨k, hk, rfl, hS1, kr2, hM2, h2⟩ := h1 _ _ _ hv
  refine ja_istore dL_law_1248 rfl (Nat.le_of_ble_eq_true rfl) ?_
  refine ja_aload_n (i := 2) dL_law_1250 rfl rfl ?_
  refine ja_aload_n (i := 0) dL_law_1251 rfl rfl ?_
  refine ja_iload dL_law_1252 rfl ?_
  refine ja_iconst (v := nI 1) dL_law_1254 (by decide +kernel) ?_
  refine ja_iaddN dL_law_1255 ?_
  refine ja_sld (j := 7 * n + 1) hsc rfl (by omega) (by omega) dL_law_1256 ?_
  refine ja_aload_n (i := 0) dL_law_1257 rfl rfl ?_
  refine ja_iload dL_law_1258 rfl ?_
  refine ja_iconst (v := nI 2) dL_law_1260 (by decide +kernel) ?_
  refine ja_iaddN dL_law_1261 ?_
  refine ja_sld (j := 7 * n + 2) hsc rfl (by omega) (by omega) dL_law_1262 ?_
  refine ja_aload_n (i := 0) dL_law_1263 rfl rfl ?_
  refine ja_iload dL_law_1264 rfl ?_
  refine ja_iconst (v := nI 3) dL_law_1266 (by decide +kernel) ?_
  refine ja_iaddN dL_law_1267 ?_
  refine ja_sld (j := 7 * n + 3) hsc rfl (by omega) (by omega) dL_law_1268 ?_
  refine ja_callV (av := [.int ((xs (7 * n + 1))), .int ((xs (7 * n + 2))), .int ((xs (7 * n + 3)))]) (st := []) hM2 (ce_X8_authorOf 0 0) im_X8_authorOf se_X8_authorOf lk_L_214 k_X8 hS1.2.1 ⟨Nat.le_of_ble_eq_true rfl, Nat.le_of_ble_eq_true rfl⟩ dL_law_1269 rfl rfl (Nat.le_of_ble_eq_true rfl) (show c9 + c + 0 ≤ 603072 by omega) (show s9 + s + 0 ≤ 7211114 by omega) (fun _ _ _ h => h.elim) (fun w Z2 D2 hw => ?_)
  obtain ⟨hS2, ht, hJ, b, rfl, ⟨y, rfl⟩, he⟩ := h2 _ _ _ hw
  refine ja_istore dL_law_1272 rfl (Nat.le_of_ble_eq_true rfl) ?_
  refine ja_aload_n (i := 2) dL_law_1274 rfl rfl ?_
  refine ja_cVr (st := []) (s_thrown l hS2.2.1) rfl rfl (ce_X8_thrown 0 0) im_X8_thrown se_X8_thrown lk_L_163 k_X8 hS2.2.1 ⟨Nat.le_of_ble_eq_true rfl, Nat.le_of_ble_eq_true rfl⟩ dL_law_1275 rfl rfl (Nat.le_of_ble_eq_true rfl) (show c9 + c + 0 ≤ 603072 by omega) (show s9 + s + 0 ≤ 7211114 by omega) ?_
  refine ja_top (y := nI k) ht ?_
  refine ja_iload dL_law_1278 rfl ?_
  refine ja_icmp_eq dL_law_1280 (tgt := 1285) (by decide) (fun c0 => ?_) (fun c0 => absurd rfl c0)
  refine ja_iload dL_law_1285 rfl ?_
  refine ja_if_ne dL_law_1287 (tgt := 1302) (by decide) (fun c0 => ?_) (fun c0 => ?_)
  · skip
    refine ja_goto dL_law_1302 (tgt := 3130) (by decide) ?_
    exact la_tail (kk _ _ hJ) (show c9 + c + 0 ≤ c9 + 4 by omega) (show s9 + s + 0 ≤ s9 + 776 by omega)
  · have hk0 := nI_z hk c0
    obtain ⟨y2, hy, hx⟩ := he hk0
    cases hy
    refine ja_aload_n (i := 3) dL_law_1290 rfl rfl ?_
    refine ja_iconst (v := nI 0) dL_law_1291 (by decide +kernel) ?_
    refine ja_lald (n := 1) (j := 0) hS2.2.2.1 rfl (by decide) (by decide) dL_law_1292 ?_
    refine ja_iload dL_law_1293 rfl ?_
    refine ja_i2l dL_law_1295 rfl ?_
    refine ja_lcmp dL_law_1296 ?_
    refine ja_top (y := 0) (by rw [hx]; exact lg_cmp_self _) ?_
    refine ja_if_eq dL_law_1297 (tgt := 1302) (by decide) (fun c0 => ?_) (fun c0 => absurd rfl c0)
    refine ja_goto dL_law_1302 (tgt := 3130) (by decide) ?_
    exact la_tail (kk _ _ hJ) (show c9 + c + 0 ≤ c9 + 4 by omega) (show s9 + s + 0 ≤ s9 + 776 by omega)
theorem la_size (hS : ∀ n Z D, JI n Z D → ja_SH Z) (hC : ∀ (p0 p1 : Int32), ja_JC l JI mL_size mX8_size [.int p0, .int p1] 200 ty_i eqv_i) (hsc : sc = (L + 1, xs)) (hL : L ≤ 3584) (h7 : 7 * n + 7 ≤ L) (h4 : c9 + 4 ≤ 603072) (h5 : s9 + 776 ≤ 7211114) (hI : JI n Z D) (kk : ∀ Z2 D2, JI (n + 1) Z2 D2 → ja_A l (mL_law nm tb) sc Qf 28 (la_lv (7 * (n + 1))) [] Z2 D2 (c9 + 4) (s9 + 776)) : ja_A l (mL_law nm tb) sc Qf 1305 (la_lv (7 * n)) [] Z D c9 s9 := by
  have hn : n < 512 := by omega
  obtain ⟨c, s, kr1, hc4, hs7, hM, h1⟩ := (hC ((xs (7 * n + 1))) ((xs (7 * n + 2)))) n Z D hn hI
  refine ja_aload_n (i := 1) dL_law_1305 rfl rfl ?_
  refine ja_aload_n (i := 0) dL_law_1306 rfl rfl ?_
  refine ja_iload dL_law_1307 rfl ?_
  refine ja_iconst (v := nI 1) dL_law_1309 (by decide +kernel) ?_
  refine ja_iaddN dL_law_1310 ?_
  refine ja_sld (j := 7 * n + 1) hsc rfl (by omega) (by omega) dL_law_1311 ?_
  refine ja_aload_n (i := 0) dL_law_1312 rfl rfl ?_
  refine ja_iload dL_law_1313 rfl ?_
  refine ja_iconst (v := nI 2) dL_law_1315 (by decide +kernel) ?_
  refine ja_iaddN dL_law_1316 ?_
  refine ja_sld (j := 7 * n + 2) hsc rfl (by omega) (by omega) dL_law_1317 ?_
  refine ja_aload_n (i := 3) dL_law_1318 rfl rfl ?_
  refine ja_callSW (st := []) hM (ch_L_size c s) st_L_size lk_L_215 ⟨Nat.le_of_ble_eq_true rfl, Nat.le_of_ble_eq_true rfl⟩ dL_law_1319 rfl rfl (Nat.le_of_ble_eq_true rfl) (show c9 + c ≤ 603072 by omega) (show s9 + s ≤ 7211114 by omega) (fun _ _ _ h => h.elim) (fun v Z1 D1 hv => ?_)
  obtain ⟨k, hk, rfl, hS1, kr2, hM2, h2⟩ := h1 _ _ _ hv
  refine ja_istore dL_law_1322 rfl (Nat.le_of_ble_eq_true rfl) ?_
  refine ja_aload_n (i := 2) dL_law_1324 rfl rfl ?_
  refine ja_aload_n (i := 0) dL_law_1325 rfl rfl ?_
  refine ja_iload dL_law_1326 rfl ?_
  refine ja_iconst (v := nI 1) dL_law_1328 (by decide +kernel) ?_
  refine ja_iaddN dL_law_1329 ?_
  refine ja_sld (j := 7 * n + 1) hsc rfl (by omega) (by omega) dL_law_1330 ?_
  refine ja_aload_n (i := 0) dL_law_1331 rfl rfl ?_
  refine ja_iload dL_law_1332 rfl ?_
  refine ja_iconst (v := nI 2) dL_law_1334 (by decide +kernel) ?_
  refine ja_iaddN dL_law_1335 ?_
  refine ja_sld (j := 7 * n + 2) hsc rfl (by omega) (by omega) dL_law_1336 ?_
  refine ja_callV (av := [.int ((xs (7 * n + 1))), .int ((xs (7 * n + 2)))]) (st := []) hM2 (ce_X8_size 0 0) im_X8_size se_X8_size lk_L_217 k_X8 hS1.2.1 ⟨Nat.le_of_ble_eq_true rfl, Nat.le_of_ble_eq_true rfl⟩ dL_law_1337 rfl rfl (Nat.le_of_ble_eq_true rfl) (show c9 + c + 0 ≤ 603072 by omega) (show s9 + s + 0 ≤ 7211114 by omega) (fun _ _ _ h => h.elim) (fun w Z2 D2 hw => ?_)
  obtain ⟨hS2, ht, hJ, b, rfl, ⟨y, rfl⟩, he⟩ := h2 _ _ _ hw
  refine ja_istore dL_law_1340 rfl (Nat.le_of_ble_eq_true rfl) ?_
  refine ja_aload_n (i := 2) dL_law_1342 rfl rfl ?_
  refine ja_cVr (st := []) (s_thrown l hS2.2.1) rfl rfl (ce_X8_thrown 0 0) im_X8_thrown se_X8_thrown lk_L_163 k_X8 hS2.2.1 ⟨Nat.le_of_ble_eq_true rfl, Nat.le_of_ble_eq_true rfl⟩ dL_law_1343 rfl rfl (Nat.le_of_ble_eq_true rfl) (show c9 + c + 0 ≤ 603072 by omega) (show s9 + s + 0 ≤ 7211114 by omega) ?_
  refine ja_top (y := nI k) ht ?_
  refine ja_iload dL_law_1346 rfl ?_
  refine ja_icmp_eq dL_law_1348 (tgt := 1353) (by decide) (fun c0 => ?_) (fun c0 => absurd rfl c0)
  refine ja_iload dL_law_1353 rfl ?_
  refine ja_if_ne dL_law_1355 (tgt := 1370) (by decide) (fun c0 => ?_) (fun c0 => ?_)
  · skip
    refine ja_goto dL_law_1370 (tgt := 3130) (by decide) ?_
    exact la_tail (kk _ _ hJ) (show c9 + c + 0 ≤ c9 + 4 by omega) (show s9 + s + 0 ≤ s9 + 776 by omega)
  · have hk0 := nI_z hk c0
    obtain ⟨y2, hy, hx⟩ := he hk0
    cases hy
    refine ja_aload_n (i := 3) dL_law_1358 rfl rfl ?_
    refine ja_iconst (v := nI 0) dL_law_1359 (by decide +kernel) ?_
    refine ja_lald (n := 1) (j := 0) hS2.2.2.1 rfl (by decide) (by decide) dL_law_1360 ?_
    refine ja_iload dL_law_1361 rfl ?_
    refine ja_i2l dL_law_1363 rfl ?_
    refine ja_lcmp dL_law_1364 ?_
    refine ja_top (y := 0) (by rw [hx]; exact lg_cmp_self _) ?_
    refine ja_if_eq dL_law_1365 (tgt := 1370) (by decide) (fun c0 => ?_) (fun c0 => absurd rfl c0)
    refine ja_goto dL_law_1370 (tgt := 3130) (by decide) ?_
    exact la_tail (kk _ _ hJ) (show c9 + c + 0 ≤ c9 + 4 by omega) (show s9 + s + 0 ≤ s9 + 776 by omega)
theorem la_value (hS : ∀ n Z D, JI n Z D → ja_SH Z) (hC : ∀ (p0 p1 : Int32), ja_JC l JI mL_value mX8_value [.int p0, .int p1] 200 ty_i eqv_i) (hsc : sc = (L + 1, xs)) (hL : L ≤ 3584) (h7 : 7 * n + 7 ≤ L) (h4 : c9 + 4 ≤ 603072) (h5 : s9 + 776 ≤ 7211114) (hI : JI n Z D) (kk : ∀ Z2 D2, JI (n + 1) Z2 D2 → ja_A l (mL_law nm tb) sc Qf 28 (la_lv (7 * (n + 1))) [] Z2 D2 (c9 + 4) (s9 + 776)) : ja_A l (mL_law nm tb) sc Qf 1373 (la_lv (7 * n)) [] Z D c9 s9 := by
  have hn : n < 512 := by omega
  obtain ⟨c, s, kr1, hc4, hs7, hM, h1⟩ := (hC ((xs (7 * n + 1))) ((xs (7 * n + 2)))) n Z D hn hI
  refine ja_aload_n (i := 1) dL_law_1373 rfl rfl ?_
  refine ja_aload_n (i := 0) dL_law_1374 rfl rfl ?_
  refine ja_iload dL_law_1375 rfl ?_
  refine ja_iconst (v := nI 1) dL_law_1377 (by decide +kernel) ?_
  refine ja_iaddN dL_law_1378 ?_
  refine ja_sld (j := 7 * n + 1) hsc rfl (by omega) (by omega) dL_law_1379 ?_
  refine ja_aload_n (i := 0) dL_law_1380 rfl rfl ?_
  refine ja_iload dL_law_1381 rfl ?_
  refine ja_iconst (v := nI 2) dL_law_1383 (by decide +kernel) ?_
  refine ja_iaddN dL_law_1384 ?_
  refine ja_sld (j := 7 * n + 2) hsc rfl (by omega) (by omega) dL_law_1385 ?_
  refine ja_aload_n (i := 3) dL_law_1386 rfl rfl ?_
  refine ja_callSW (st := []) hM (ch_L_value c s) st_L_value lk_L_218 ⟨Nat.le_of_ble_eq_true rfl, Nat.le_of_ble_eq_true rfl⟩ dL_law_1387 rfl rfl (Nat.le_of_ble_eq_true rfl) (show c9 + c ≤ 603072 by omega) (show s9 + s ≤ 7211114 by omega) (fun _ _ _ h => h.elim) (fun v Z1 D1 hv => ?_)
  obtain ⟨k, hk, rfl, hS1, kr2, hM2, h2⟩ := h1 _ _ _ hv
  refine ja_istore dL_law_1390 rfl (Nat.le_of_ble_eq_true rfl) ?_
  refine ja_aload_n (i := 2) dL_law_1392 rfl rfl ?_
  refine ja_aload_n (i := 0) dL_law_1393 rfl rfl ?_
  refine ja_iload dL_law_1394 rfl ?_
  refine ja_iconst (v := nI 1) dL_law_1396 (by decide +kernel) ?_
  refine ja_iaddN dL_law_1397 ?_
  refine ja_sld (j := 7 * n + 1) hsc rfl (by omega) (by omega) dL_law_1398 ?_
  refine ja_aload_n (i := 0) dL_law_1399 rfl rfl ?_
  refine ja_iload dL_law_1400 rfl ?_
  refine ja_iconst (v := nI 2) dL_law_1402 (by decide +kernel) ?_
  refine ja_iaddN dL_law_1403 ?_
  refine ja_sld (j := 7 * n + 2) hsc rfl (by omega) (by omega) dL_law_1404 ?_
  refine ja_callV (av := [.int ((xs (7 * n + 1))), .int ((xs (7 * n + 2)))]) (st := []) hM2 (ce_X8_value 0 0) im_X8_value se_X8_value lk_L_220 k_X8 hS1.2.1 ⟨Nat.le_of_ble_eq_true rfl, Nat.le_of_ble_eq_true rfl⟩ dL_law_1405 rfl rfl (Nat.le_of_ble_eq_true rfl) (show c9 + c + 0 ≤ 603072 by omega) (show s9 + s + 0 ≤ 7211114 by omega) (fun _ _ _ h => h.elim) (fun w Z2 D2 hw => ?_)
  obtain ⟨hS2, ht, hJ, b, rfl, ⟨y, rfl⟩, he⟩ := h2 _ _ _ hw
  refine ja_istore dL_law_1408 rfl (Nat.le_of_ble_eq_true rfl) ?_
  refine ja_aload_n (i := 2) dL_law_1410 rfl rfl ?_
  refine ja_cVr (st := []) (s_thrown l hS2.2.1) rfl rfl (ce_X8_thrown 0 0) im_X8_thrown se_X8_thrown lk_L_163 k_X8 hS2.2.1 ⟨Nat.le_of_ble_eq_true rfl, Nat.le_of_ble_eq_true rfl⟩ dL_law_1411 rfl rfl (Nat.le_of_ble_eq_true rfl) (show c9 + c + 0 ≤ 603072 by omega) (show s9 + s + 0 ≤ 7211114 by omega) ?_
  refine ja_top (y := nI k) ht ?_
  refine ja_iload dL_law_1414 rfl ?_
  refine ja_icmp_eq dL_law_1416 (tgt := 1421) (by decide) (fun c0 => ?_) (fun c0 => absurd rfl c0)
  refine ja_iload dL_law_1421 rfl ?_
  refine ja_if_ne dL_law_1423 (tgt := 1438) (by decide) (fun c0 => ?_) (fun c0 => ?_)
  · skip
    refine ja_goto dL_law_1438 (tgt := 3130) (by decide) ?_
    exact la_tail (kk _ _ hJ) (show c9 + c + 0 ≤ c9 + 4 by omega) (show s9 + s + 0 ≤ s9 + 776 by omega)
  · have hk0 := nI_z hk c0
    obtain ⟨y2, hy, hx⟩ := he hk0
    cases hy
    refine ja_aload_n (i := 3) dL_law_1426 rfl rfl ?_
    refine ja_iconst (v := nI 0) dL_law_1427 (by decide +kernel) ?_
    refine ja_lald (n := 1) (j := 0) hS2.2.2.1 rfl (by decide) (by decide) dL_law_1428 ?_
    refine ja_iload dL_law_1429 rfl ?_
    refine ja_i2l dL_law_1431 rfl ?_
    refine ja_lcmp dL_law_1432 ?_
    refine ja_top (y := 0) (by rw [hx]; exact lg_cmp_self _) ?_
    refine ja_if_eq dL_law_1433 (tgt := 1438) (by decide) (fun c0 => ?_) (fun c0 => absurd rfl c0)
    refine ja_goto dL_law_1438 (tgt := 3130) (by decide) ?_
    exact la_tail (kk _ _ hJ) (show c9 + c + 0 ≤ c9 + 4 by omega) (show s9 + s + 0 ≤ s9 + 776 by omega)
theorem la_rim (hS : ∀ n Z D, JI n Z D → ja_SH Z) (hC : ∀ (p0 p1 : Int32), ja_JC l JI mL_rim mX8_rim [.int p0, .int p1] 200 ty_i eqv_i) (hsc : sc = (L + 1, xs)) (hL : L ≤ 3584) (h7 : 7 * n + 7 ≤ L) (h4 : c9 + 4 ≤ 603072) (h5 : s9 + 776 ≤ 7211114) (hI : JI n Z D) (kk : ∀ Z2 D2, JI (n + 1) Z2 D2 → ja_A l (mL_law nm tb) sc Qf 28 (la_lv (7 * (n + 1))) [] Z2 D2 (c9 + 4) (s9 + 776)) : ja_A l (mL_law nm tb) sc Qf 1441 (la_lv (7 * n)) [] Z D c9 s9 := by
  have hn : n < 512 := by omega
  obtain ⟨c, s, kr1, hc4, hs7, hM, h1⟩ := (hC ((xs (7 * n + 1))) ((xs (7 * n + 2)))) n Z D hn hI
  refine ja_aload_n (i := 1) dL_law_1441 rfl rfl ?_
  refine ja_aload_n (i := 0) dL_law_1442 rfl rfl ?_
  refine ja_iload dL_law_1443 rfl ?_
  refine ja_iconst (v := nI 1) dL_law_1445 (by decide +kernel) ?_
  refine ja_iaddN dL_law_1446 ?_
  refine ja_sld (j := 7 * n + 1) hsc rfl (by omega) (by omega) dL_law_1447 ?_
  refine ja_aload_n (i := 0) dL_law_1448 rfl rfl ?_
  refine ja_iload dL_law_1449 rfl ?_
  refine ja_iconst (v := nI 2) dL_law_1451 (by decide +kernel) ?_
  refine ja_iaddN dL_law_1452 ?_
  refine ja_sld (j := 7 * n + 2) hsc rfl (by omega) (by omega) dL_law_1453 ?_
  refine ja_aload_n (i := 3) dL_law_1454 rfl rfl ?_
  refine ja_callSW (st := []) hM (ch_L_rim c s) st_L_rim lk_L_221 ⟨Nat.le_of_ble_eq_true rfl, Nat.le_of_ble_eq_true rfl⟩ dL_law_1455 rfl rfl (Nat.le_of_ble_eq_true rfl) (show c9 + c ≤ 603072 by omega) (show s9 + s ≤ 7211114 by omega) (fun _ _ _ h => h.elim) (fun v Z1 D1 hv => ?_)
  obtain ⟨k, hk, rfl, hS1, kr2, hM2, h2⟩ := h1 _ _ _ hv
  refine ja_istore dL_law_1458 rfl (Nat.le_of_ble_eq_true rfl) ?_
  refine ja_aload_n (i := 2) dL_law_1460 rfl rfl ?_
  refine ja_aload_n (i := 0) dL_law_1461 rfl rfl ?_
  refine ja_iload dL_law_1462 rfl ?_
  refine ja_iconst (v := nI 1) dL_law_1464 (by decide +kernel) ?_
  refine ja_iaddN dL_law_1465 ?_
  refine ja_sld (j := 7 * n + 1) hsc rfl (by omega) (by omega) dL_law_1466 ?_
  refine ja_aload_n (i := 0) dL_law_1467 rfl rfl ?_
  refine ja_iload dL_law_1468 rfl ?_
  refine ja_iconst (v := nI 2) dL_law_1470 (by decide +kernel) ?_
  refine ja_iaddN dL_law_1471 ?_
  refine ja_sld (j := 7 * n + 2) hsc rfl (by omega) (by omega) dL_law_1472 ?_
  refine ja_callV (av := [.int ((xs (7 * n + 1))), .int ((xs (7 * n + 2)))]) (st := []) hM2 (ce_X8_rim 0 0) im_X8_rim se_X8_rim lk_L_223 k_X8 hS1.2.1 ⟨Nat.le_of_ble_eq_true rfl, Nat.le_of_ble_eq_true rfl⟩ dL_law_1473 rfl rfl (Nat.le_of_ble_eq_true rfl) (show c9 + c + 0 ≤ 603072 by omega) (show s9 + s + 0 ≤ 7211114 by omega) (fun _ _ _ h => h.elim) (fun w Z2 D2 hw => ?_)
  obtain ⟨hS2, ht, hJ, b, rfl, ⟨y, rfl⟩, he⟩ := h2 _ _ _ hw
  refine ja_istore dL_law_1476 rfl (Nat.le_of_ble_eq_true rfl) ?_
  refine ja_aload_n (i := 2) dL_law_1478 rfl rfl ?_
  refine ja_cVr (st := []) (s_thrown l hS2.2.1) rfl rfl (ce_X8_thrown 0 0) im_X8_thrown se_X8_thrown lk_L_163 k_X8 hS2.2.1 ⟨Nat.le_of_ble_eq_true rfl, Nat.le_of_ble_eq_true rfl⟩ dL_law_1479 rfl rfl (Nat.le_of_ble_eq_true rfl) (show c9 + c + 0 ≤ 603072 by omega) (show s9 + s + 0 ≤ 7211114 by omega) ?_
  refine ja_top (y := nI k) ht ?_
  refine ja_iload dL_law_1482 rfl ?_
  refine ja_icmp_eq dL_law_1484 (tgt := 1489) (by decide) (fun c0 => ?_) (fun c0 => absurd rfl c0)
  refine ja_iload dL_law_1489 rfl ?_
  refine ja_if_ne dL_law_1491 (tgt := 1506) (by decide) (fun c0 => ?_) (fun c0 => ?_)
  · skip
    refine ja_goto dL_law_1506 (tgt := 3130) (by decide) ?_
    exact la_tail (kk _ _ hJ) (show c9 + c + 0 ≤ c9 + 4 by omega) (show s9 + s + 0 ≤ s9 + 776 by omega)
  · have hk0 := nI_z hk c0
    obtain ⟨y2, hy, hx⟩ := he hk0
    cases hy
    refine ja_aload_n (i := 3) dL_law_1494 rfl rfl ?_
    refine ja_iconst (v := nI 0) dL_law_1495 (by decide +kernel) ?_
    refine ja_lald (n := 1) (j := 0) hS2.2.2.1 rfl (by decide) (by decide) dL_law_1496 ?_
    refine ja_iload dL_law_1497 rfl ?_
    refine ja_i2l dL_law_1499 rfl ?_
    refine ja_lcmp dL_law_1500 ?_
    refine ja_top (y := 0) (by rw [hx]; exact lg_cmp_self _) ?_
    refine ja_if_eq dL_law_1501 (tgt := 1506) (by decide) (fun c0 => ?_) (fun c0 => absurd rfl c0)
    refine ja_goto dL_law_1506 (tgt := 3130) (by decide) ?_
    exact la_tail (kk _ _ hJ) (show c9 + c + 0 ≤ c9 + 4 by omega) (show s9 + s + 0 ≤ s9 + 776 by omega)
theorem la_border (hS : ∀ n Z D, JI n Z D → ja_SH Z) (hC : ∀ (p0 p1 p2 : Int32), ja_JC l JI mL_border mX8_border [.int p0, .int p1, .int p2] 200 ty_i eqv_i) (hsc : sc = (L + 1, xs)) (hL : L ≤ 3584) (h7 : 7 * n + 7 ≤ L) (h4 : c9 + 4 ≤ 603072) (h5 : s9 + 776 ≤ 7211114) (hI : JI n Z D) (kk : ∀ Z2 D2, JI (n + 1) Z2 D2 → ja_A l (mL_law nm tb) sc Qf 28 (la_lv (7 * (n + 1))) [] Z2 D2 (c9 + 4) (s9 + 776)) : ja_A l (mL_law nm tb) sc Qf 1509 (la_lv (7 * n)) [] Z D c9 s9 := by
  have hn : n < 512 := by omega
  obtain ⟨c, s, kr1, hc4, hs7, hM, h1⟩ := (hC ((xs (7 * n + 1))) ((xs (7 * n + 2))) ((xs (7 * n + 3)))) n Z D hn hI
  refine ja_aload_n (i := 1) dL_law_1509 rfl rfl ?_
  refine ja_aload_n (i := 0) dL_law_1510 rfl rfl ?_
  refine ja_iload dL_law_1511 rfl ?_
  refine ja_iconst (v := nI 1) dL_law_1513 (by decide +kernel) ?_
  refine ja_iaddN dL_law_1514 ?_
  refine ja_sld (j := 7 * n + 1) hsc rfl (by omega) (by omega) dL_law_1515 ?_
  refine ja_aload_n (i := 0) dL_law_1516 rfl rfl ?_
  refine ja_iload dL_law_1517 rfl ?_
  refine ja_iconst (v := nI 2) dL_law_1519 (by decide +kernel) ?_
  refine ja_iaddN dL_law_1520 ?_
  refine ja_sld (j := 7 * n + 2) hsc rfl (by omega) (by omega) dL_law_1521 ?_
  refine ja_aload_n (i := 0) dL_law_1522 rfl rfl ?_
  refine ja_iload dL_law_1523 rfl ?_
  refine ja_iconst (v := nI 3) dL_law_1525 (by decide +kernel) ?_
  refine ja_iaddN dL_law_1526 ?_
  refine ja_sld (j := 7 * n + 3) hsc rfl (by omega) (by omega) dL_law_1527 ?_
  refine ja_aload_n (i := 3) dL_law_1528 rfl rfl ?_
  refine ja_callSW (st := []) hM (ch_L_border c s) st_L_border lk_L_224 ⟨Nat.le_of_ble_eq_true rfl, Nat.le_of_ble_eq_true rfl⟩ dL_law_1529 rfl rfl (Nat.le_of_ble_eq_true rfl) (show c9 + c ≤ 603072 by omega) (show s9 + s ≤ 7211114 by omega) (fun _ _ _ h => h.elim) (fun v Z1 D1 hv => ?_)
  obtain ⟨k, hk, rfl, hS1, kr2, hM2, h2⟩ := h1 _ _ _ hv
  refine ja_istore dL_law_1532 rfl (Nat.le_of_ble_eq_true rfl) ?_
  refine ja_aload_n (i := 2) dL_law_1534 rfl rfl ?_
  refine ja_aload_n (i := 0) dL_law_1535 rfl rfl ?_
  refine ja_iload dL_law_1536 rfl ?_
  refine ja_iconst (v := nI 1) dL_law_1538 (by decide +kernel) ?_
  refine ja_iaddN dL_law_1539 ?_
  refine ja_sld (j := 7 * n + 1) hsc rfl (by omega) (by omega) dL_law_1540 ?_
  refine ja_aload_n (i := 0) dL_law_1541 rfl rfl ?_
  refine ja_iload dL_law_1542 rfl ?_
  refine ja_iconst (v := nI 2) dL_law_1544 (by decide +kernel) ?_
  refine ja_iaddN dL_law_1545 ?_
  refine ja_sld (j := 7 * n + 2) hsc rfl (by omega) (by omega) dL_law_1546 ?_
  refine ja_aload_n (i := 0) dL_law_1547 rfl rfl ?_
  refine ja_iload dL_law_1548 rfl ?_
  refine ja_iconst (v := nI 3) dL_law_1550 (by decide +kernel) ?_
  refine ja_iaddN dL_law_1551 ?_
  refine ja_sld (j := 7 * n + 3) hsc rfl (by omega) (by omega) dL_law_1552 ?_
  refine ja_callV (av := [.int ((xs (7 * n + 1))), .int ((xs (7 * n + 2))), .int ((xs (7 * n + 3)))]) (st := []) hM2 (ce_X8_border 0 0) im_X8_border se_X8_border lk_L_226 k_X8 hS1.2.1 ⟨Nat.le_of_ble_eq_true rfl, Nat.le_of_ble_eq_true rfl⟩ dL_law_1553 rfl rfl (Nat.le_of_ble_eq_true rfl) (show c9 + c + 0 ≤ 603072 by omega) (show s9 + s + 0 ≤ 7211114 by omega) (fun _ _ _ h => h.elim) (fun w Z2 D2 hw => ?_)
  obtain ⟨hS2, ht, hJ, b, rfl, ⟨y, rfl⟩, he⟩ := h2 _ _ _ hw
  refine ja_istore dL_law_1556 rfl (Nat.le_of_ble_eq_true rfl) ?_
  refine ja_aload_n (i := 2) dL_law_1558 rfl rfl ?_
  refine ja_cVr (st := []) (s_thrown l hS2.2.1) rfl rfl (ce_X8_thrown 0 0) im_X8_thrown se_X8_thrown lk_L_163 k_X8 hS2.2.1 ⟨Nat.le_of_ble_eq_true rfl, Nat.le_of_ble_eq_true rfl⟩ dL_law_1559 rfl rfl (Nat.le_of_ble_eq_true rfl) (show c9 + c + 0 ≤ 603072 by omega) (show s9 + s + 0 ≤ 7211114 by omega) ?_
  refine ja_top (y := nI k) ht ?_
  refine ja_iload dL_law_1562 rfl ?_
  refine ja_icmp_eq dL_law_1564 (tgt := 1569) (by decide) (fun c0 => ?_) (fun c0 => absurd rfl c0)
  refine ja_iload dL_law_1569 rfl ?_
  refine ja_if_ne dL_law_1571 (tgt := 1586) (by decide) (fun c0 => ?_) (fun c0 => ?_)
  · skip
    refine ja_goto dL_law_1586 (tgt := 3130) (by decide) ?_
    exact la_tail (kk _ _ hJ) (show c9 + c + 0 ≤ c9 + 4 by omega) (show s9 + s + 0 ≤ s9 + 776 by omega)
  · have hk0 := nI_z hk c0
    obtain ⟨y2, hy, hx⟩ := he hk0
    cases hy
    refine ja_aload_n (i := 3) dL_law_1574 rfl rfl ?_
    refine ja_iconst (v := nI 0) dL_law_1575 (by decide +kernel) ?_
    refine ja_lald (n := 1) (j := 0) hS2.2.2.1 rfl (by decide) (by decide) dL_law_1576 ?_
    refine ja_iload dL_law_1577 rfl ?_
    refine ja_i2l dL_law_1579 rfl ?_
    refine ja_lcmp dL_law_1580 ?_
    refine ja_top (y := 0) (by rw [hx]; exact lg_cmp_self _) ?_
    refine ja_if_eq dL_law_1581 (tgt := 1586) (by decide) (fun c0 => ?_) (fun c0 => absurd rfl c0)
    refine ja_goto dL_law_1586 (tgt := 3130) (by decide) ?_
    exact la_tail (kk _ _ hJ) (show c9 + c + 0 ≤ c9 + 4 by omega) (show s9 + s + 0 ≤ s9 + 776 by omega)
theorem la_distance (hS : ∀ n Z D, JI n Z D → ja_SH Z) (hC : ∀ (p0 p1 p2 : Int32), ja_JC l JI mL_distance mX8_distance [.int p0, .int p1, .int p2] 200 ty_i eqv_i) (hsc : sc = (L + 1, xs)) (hL : L ≤ 3584) (h7 : 7 * n + 7 ≤ L) (h4 : c9 + 4 ≤ 603072) (h5 : s9 + 776 ≤ 7211114) (hI : JI n Z D) (kk : ∀ Z2 D2, JI (n + 1) Z2 D2 → ja_A l (mL_law nm tb) sc Qf 28 (la_lv (7 * (n + 1))) [] Z2 D2 (c9 + 4) (s9 + 776)) : ja_A l (mL_law nm tb) sc Qf 1589 (la_lv (7 * n)) [] Z D c9 s9 := by
  have hn : n < 512 := by omega
  obtain ⟨c, s, kr1, hc4, hs7, hM, h1⟩ := (hC ((xs (7 * n + 1))) ((xs (7 * n + 2))) ((xs (7 * n + 3)))) n Z D hn hI
  refine ja_aload_n (i := 1) dL_law_1589 rfl rfl ?_
  refine ja_aload_n (i := 0) dL_law_1590 rfl rfl ?_
  refine ja_iload dL_law_1591 rfl ?_
  refine ja_iconst (v := nI 1) dL_law_1593 (by decide +kernel) ?_
  refine ja_iaddN dL_law_1594 ?_
  refine ja_sld (j := 7 * n + 1) hsc rfl (by omega) (by omega) dL_law_1595 ?_
  refine ja_aload_n (i := 0) dL_law_1596 rfl rfl ?_
  refine ja_iload dL_law_1597 rfl ?_
  refine ja_iconst (v := nI 2) dL_law_1599 (by decide +kernel) ?_
  refine ja_iaddN dL_law_1600 ?_
  refine ja_sld (j := 7 * n + 2) hsc rfl (by omega) (by omega) dL_law_1601 ?_
  refine ja_aload_n (i := 0) dL_law_1602 rfl rfl ?_
  refine ja_iload dL_law_1603 rfl ?_
  refine ja_iconst (v := nI 3) dL_law_1605 (by decide +kernel) ?_
  refine ja_iaddN dL_law_1606 ?_
  refine ja_sld (j := 7 * n + 3) hsc rfl (by omega) (by omega) dL_law_1607 ?_
  refine ja_aload_n (i := 3) dL_law_1608 rfl rfl ?_
  refine ja_callSW (st := []) hM (ch_L_distance c s) st_L_distance lk_L_227 ⟨Nat.le_of_ble_eq_true rfl, Nat.le_of_ble_eq_true rfl⟩ dL_law_1609 rfl rfl (Nat.le_of_ble_eq_true rfl) (show c9 + c ≤ 603072 by omega) (show s9 + s ≤ 7211114 by omega) (fun _ _ _ h => h.elim) (fun v Z1 D1 hv => ?_)
  obtain ⟨k, hk, rfl, hS1, kr2, hM2, h2⟩ := h1 _ _ _ hv
  refine ja_istore dL_law_1612 rfl (Nat.le_of_ble_eq_true rfl) ?_
  refine ja_aload_n (i := 2) dL_law_1614 rfl rfl ?_
  refine ja_aload_n (i := 0) dL_law_1615 rfl rfl ?_
  refine ja_iload dL_law_1616 rfl ?_
  refine ja_iconst (v := nI 1) dL_law_1618 (by decide +kernel) ?_
  refine ja_iaddN dL_law_1619 ?_
  refine ja_sld (j := 7 * n + 1) hsc rfl (by omega) (by omega) dL_law_1620 ?_
  refine ja_aload_n (i := 0) dL_law_1621 rfl rfl ?_
  refine ja_iload dL_law_1622 rfl ?_
  refine ja_iconst (v := nI 2) dL_law_1624 (by decide +kernel) ?_
  refine ja_iaddN dL_law_1625 ?_
  refine ja_sld (j := 7 * n + 2) hsc rfl (by omega) (by omega) dL_law_1626 ?_
  refine ja_aload_n (i := 0) dL_law_1627 rfl rfl ?_
  refine ja_iload dL_law_1628 rfl ?_
  refine ja_iconst (v := nI 3) dL_law_1630 (by decide +kernel) ?_
  refine ja_iaddN dL_law_1631 ?_
  refine ja_sld (j := 7 * n + 3) hsc rfl (by omega) (by omega) dL_law_1632 ?_
  refine ja_callV (av := [.int ((xs (7 * n + 1))), .int ((xs (7 * n + 2))), .int ((xs (7 * n + 3)))]) (st := []) hM2 (ce_X8_distance 0 0) im_X8_distance se_X8_distance lk_L_229 k_X8 hS1.2.1 ⟨Nat.le_of_ble_eq_true rfl, Nat.le_of_ble_eq_true rfl⟩ dL_law_1633 rfl rfl (Nat.le_of_ble_eq_true rfl) (show c9 + c + 0 ≤ 603072 by omega) (show s9 + s + 0 ≤ 7211114 by omega) (fun _ _ _ h => h.elim) (fun w Z2 D2 hw => ?_)
  obtain ⟨hS2, ht, hJ, b, rfl, ⟨y, rfl⟩, he⟩ := h2 _ _ _ hw
  refine ja_istore dL_law_1636 rfl (Nat.le_of_ble_eq_true rfl) ?_
  refine ja_aload_n (i := 2) dL_law_1638 rfl rfl ?_
  refine ja_cVr (st := []) (s_thrown l hS2.2.1) rfl rfl (ce_X8_thrown 0 0) im_X8_thrown se_X8_thrown lk_L_163 k_X8 hS2.2.1 ⟨Nat.le_of_ble_eq_true rfl, Nat.le_of_ble_eq_true rfl⟩ dL_law_1639 rfl rfl (Nat.le_of_ble_eq_true rfl) (show c9 + c + 0 ≤ 603072 by omega) (show s9 + s + 0 ≤ 7211114 by omega) ?_
  refine ja_top (y := nI k) ht ?_
  refine ja_iload dL_law_1642 rfl ?_
  refine ja_icmp_eq dL_law_1644 (tgt := 1649) (by decide) (fun c0 => ?_) (fun c0 => absurd rfl c0)
  refine ja_iload dL_law_1649 rfl ?_
  refine ja_if_ne dL_law_1651 (tgt := 1666) (by decide) (fun c0 => ?_) (fun c0 => ?_)
  · skip
    refine ja_goto dL_law_1666 (tgt := 3130) (by decide) ?_
    exact la_tail (kk _ _ hJ) (show c9 + c + 0 ≤ c9 + 4 by omega) (show s9 + s + 0 ≤ s9 + 776 by omega)
  · have hk0 := nI_z hk c0
    obtain ⟨y2, hy, hx⟩ := he hk0
    cases hy
    refine ja_aload_n (i := 3) dL_law_1654 rfl rfl ?_
    refine ja_iconst (v := nI 0) dL_law_1655 (by decide +kernel) ?_
    refine ja_lald (n := 1) (j := 0) hS2.2.2.1 rfl (by decide) (by decide) dL_law_1656 ?_
    refine ja_iload dL_law_1657 rfl ?_
    refine ja_i2l dL_law_1659 rfl ?_
    refine ja_lcmp dL_law_1660 ?_
    refine ja_top (y := 0) (by rw [hx]; exact lg_cmp_self _) ?_
    refine ja_if_eq dL_law_1661 (tgt := 1666) (by decide) (fun c0 => ?_) (fun c0 => absurd rfl c0)
    refine ja_goto dL_law_1666 (tgt := 3130) (by decide) ?_
    exact la_tail (kk _ _ hJ) (show c9 + c + 0 ≤ c9 + 4 by omega) (show s9 + s + 0 ≤ s9 + 776 by omega)
theorem la_nearest (hS : ∀ n Z D, JI n Z D → ja_SH Z) (hC : ∀ (p0 p1 : Int32), ja_JC l JI mL_nearest mX8_nearest [.int p0, .int p1] 200 ty_i eqv_i) (hsc : sc = (L + 1, xs)) (hL : L ≤ 3584) (h7 : 7 * n + 7 ≤ L) (h4 : c9 + 4 ≤ 603072) (h5 : s9 + 776 ≤ 7211114) (hI : JI n Z D) (kk : ∀ Z2 D2, JI (n + 1) Z2 D2 → ja_A l (mL_law nm tb) sc Qf 28 (la_lv (7 * (n + 1))) [] Z2 D2 (c9 + 4) (s9 + 776)) : ja_A l (mL_law nm tb) sc Qf 1669 (la_lv (7 * n)) [] Z D c9 s9 := by
  have hn : n < 512 := by omega
  obtain ⟨c, s, kr1, hc4, hs7, hM, h1⟩ := (hC ((xs (7 * n + 1))) ((xs (7 * n + 2)))) n Z D hn hI
  refine ja_aload_n (i := 1) dL_law_1669 rfl rfl ?_
  refine ja_aload_n (i := 0) dL_law_1670 rfl rfl ?_
  refine ja_iload dL_law_1671 rfl ?_
  refine ja_iconst (v := nI 1) dL_law_1673 (by decide +kernel) ?_
  refine ja_iaddN dL_law_1674 ?_
  refine ja_sld (j := 7 * n + 1) hsc rfl (by omega) (by omega) dL_law_1675 ?_
  refine ja_aload_n (i := 0) dL_law_1676 rfl rfl ?_
  refine ja_iload dL_law_1677 rfl ?_
  refine ja_iconst (v := nI 2) dL_law_1679 (by decide +kernel) ?_
  refine ja_iaddN dL_law_1680 ?_
  refine ja_sld (j := 7 * n + 2) hsc rfl (by omega) (by omega) dL_law_1681 ?_
  refine ja_aload_n (i := 3) dL_law_1682 rfl rfl ?_
  refine ja_callSW (st := []) hM (ch_L_nearest c s) st_L_nearest lk_L_230 ⟨Nat.le_of_ble_eq_true rfl, Nat.le_of_ble_eq_true rfl⟩ dL_law_1683 rfl rfl (Nat.le_of_ble_eq_true rfl) (show c9 + c ≤ 603072 by omega) (show s9 + s ≤ 7211114 by omega) (fun _ _ _ h => h.elim) (fun v Z1 D1 hv => ?_)
  obtain ⟨k, hk, rfl, hS1, kr2, hM2, h2⟩ := h1 _ _ _ hv
  refine ja_istore dL_law_1686 rfl (Nat.le_of_ble_eq_true rfl) ?_
  refine ja_aload_n (i := 2) dL_law_1688 rfl rfl ?_
  refine ja_aload_n (i := 0) dL_law_1689 rfl rfl ?_
  refine ja_iload dL_law_1690 rfl ?_
  refine ja_iconst (v := nI 1) dL_law_1692 (by decide +kernel) ?_
  refine ja_iaddN dL_law_1693 ?_
  refine ja_sld (j := 7 * n + 1) hsc rfl (by omega) (by omega) dL_law_1694 ?_
  refine ja_aload_n (i := 0) dL_law_1695 rfl rfl ?_
  refine ja_iload dL_law_1696 rfl ?_
  refine ja_iconst (v := nI 2) dL_law_1698 (by decide +kernel) ?_
  refine ja_iaddN dL_law_1699 ?_
  refine ja_sld (j := 7 * n + 2) hsc rfl (by omega) (by omega) dL_law_1700 ?_
  refine ja_callV (av := [.int ((xs (7 * n + 1))), .int ((xs (7 * n + 2)))]) (st := []) hM2 (ce_X8_nearest 0 0) im_X8_nearest se_X8_nearest lk_L_232 k_X8 hS1.2.1 ⟨Nat.le_of_ble_eq_true rfl, Nat.le_of_ble_eq_true rfl⟩ dL_law_1701 rfl rfl (Nat.le_of_ble_eq_true rfl) (show c9 + c + 0 ≤ 603072 by omega) (show s9 + s + 0 ≤ 7211114 by omega) (fun _ _ _ h => h.elim) (fun w Z2 D2 hw => ?_)
  obtain ⟨hS2, ht, hJ, b, rfl, ⟨y, rfl⟩, he⟩ := h2 _ _ _ hw
  refine ja_istore dL_law_1704 rfl (Nat.le_of_ble_eq_true rfl) ?_
  refine ja_aload_n (i := 2) dL_law_1706 rfl rfl ?_
  refine ja_cVr (st := []) (s_thrown l hS2.2.1) rfl rfl (ce_X8_thrown 0 0) im_X8_thrown se_X8_thrown lk_L_163 k_X8 hS2.2.1 ⟨Nat.le_of_ble_eq_true rfl, Nat.le_of_ble_eq_true rfl⟩ dL_law_1707 rfl rfl (Nat.le_of_ble_eq_true rfl) (show c9 + c + 0 ≤ 603072 by omega) (show s9 + s + 0 ≤ 7211114 by omega) ?_
  refine ja_top (y := nI k) ht ?_
  refine ja_iload dL_law_1710 rfl ?_
  refine ja_icmp_eq dL_law_1712 (tgt := 1717) (by decide) (fun c0 => ?_) (fun c0 => absurd rfl c0)
  refine ja_iload dL_law_1717 rfl ?_
  refine ja_if_ne dL_law_1719 (tgt := 1734) (by decide) (fun c0 => ?_) (fun c0 => ?_)
  · skip
    refine ja_goto dL_law_1734 (tgt := 3130) (by decide) ?_
    exact la_tail (kk _ _ hJ) (show c9 + c + 0 ≤ c9 + 4 by omega) (show s9 + s + 0 ≤ s9 + 776 by omega)
  · have hk0 := nI_z hk c0
    obtain ⟨y2, hy, hx⟩ := he hk0
    cases hy
    refine ja_aload_n (i := 3) dL_law_1722 rfl rfl ?_
    refine ja_iconst (v := nI 0) dL_law_1723 (by decide +kernel) ?_
    refine ja_lald (n := 1) (j := 0) hS2.2.2.1 rfl (by decide) (by decide) dL_law_1724 ?_
    refine ja_iload dL_law_1725 rfl ?_
    refine ja_i2l dL_law_1727 rfl ?_
    refine ja_lcmp dL_law_1728 ?_
    refine ja_top (y := 0) (by rw [hx]; exact lg_cmp_self _) ?_
    refine ja_if_eq dL_law_1729 (tgt := 1734) (by decide) (fun c0 => ?_) (fun c0 => absurd rfl c0)
    refine ja_goto dL_law_1734 (tgt := 3130) (by decide) ?_
    exact la_tail (kk _ _ hJ) (show c9 + c + 0 ≤ c9 + 4 by omega) (show s9 + s + 0 ≤ s9 + 776 by omega)
theorem la_belt (hS : ∀ n Z D, JI n Z D → ja_SH Z) (hC : ∀ (p0 p1 p2 : Int32), ja_JC l JI mL_belt mX8_belt [.int p0, .int p1, .int p2] 200 ty_i eqv_i) (hsc : sc = (L + 1, xs)) (hL : L ≤ 3584) (h7 : 7 * n + 7 ≤ L) (h4 : c9 + 4 ≤ 603072) (h5 : s9 + 776 ≤ 7211114) (hI : JI n Z D) (kk : ∀ Z2 D2, JI (n + 1) Z2 D2 → ja_A l (mL_law nm tb) sc Qf 28 (la_lv (7 * (n + 1))) [] Z2 D2 (c9 + 4) (s9 + 776)) : ja_A l (mL_law nm tb) sc Qf 1737 (la_lv (7 * n)) [] Z D c9 s9 := by
  have hn : n < 512 := by omega
  obtain ⟨c, s, kr1, hc4, hs7, hM, h1⟩ := (hC ((xs (7 * n + 1))) ((xs (7 * n + 2))) ((xs (7 * n + 3)))) n Z D hn hI
  refine ja_aload_n (i := 1) dL_law_1737 rfl rfl ?_
  refine ja_aload_n (i := 0) dL_law_1738 rfl rfl ?_
  refine ja_iload dL_law_1739 rfl ?_
  refine ja_iconst (v := nI 1) dL_law_1741 (by decide +kernel) ?_
  refine ja_iaddN dL_law_1742 ?_
  refine ja_sld (j := 7 * n + 1) hsc rfl (by omega) (by omega) dL_law_1743 ?_
  refine ja_aload_n (i := 0) dL_law_1744 rfl rfl ?_
  refine ja_iload dL_law_1745 rfl ?_
  refine ja_iconst (v := nI 2) dL_law_1747 (by decide +kernel) ?_
  refine ja_iaddN dL_law_1748 ?_
  refine ja_sld (j := 7 * n + 2) hsc rfl (by omega) (by omega) dL_law_1749 ?_
  refine ja_aload_n (i := 0) dL_law_1750 rfl rfl ?_
  refine ja_iload dL_law_1751 rfl ?_
  refine ja_iconst (v := nI 3) dL_law_1753 (by decide +kernel) ?_
  refine ja_iaddN dL_law_1754 ?_
  refine ja_sld (j := 7 * n + 3) hsc rfl (by omega) (by omega) dL_law_1755 ?_
  refine ja_aload_n (i := 3) dL_law_1756 rfl rfl ?_
  refine ja_callSW (st := []) hM (ch_L_belt c s) st_L_belt lk_L_233 ⟨Nat.le_of_ble_eq_true rfl, Nat.le_of_ble_eq_true rfl⟩ dL_law_1757 rfl rfl (Nat.le_of_ble_eq_true rfl) (show c9 + c ≤ 603072 by omega) (show s9 + s ≤ 7211114 by omega) (fun _ _ _ h => h.elim) (fun v Z1 D1 hv => ?_)
  obtain ⟨k, hk, rfl, hS1, kr2, hM2, h2⟩ := h1 _ _ _ hv
  refine ja_istore dL_law_1760 rfl (Nat.le_of_ble_eq_true rfl) ?_
  refine ja_aload_n (i := 2) dL_law_1762 rfl rfl ?_
  refine ja_aload_n (i := 0) dL_law_1763 rfl rfl ?_
  refine ja_iload dL_law_1764 rfl ?_
  refine ja_iconst (v := nI 1) dL_law_1766 (by decide +kernel) ?_
  refine ja_iaddN dL_law_1767 ?_
  refine ja_sld (j := 7 * n + 1) hsc rfl (by omega) (by omega) dL_law_1768 ?_
  refine ja_aload_n (i := 0) dL_law_1769 rfl rfl ?_
  refine ja_iload dL_law_1770 rfl ?_
  refine ja_iconst (v := nI 2) dL_law_1772 (by decide +kernel) ?_
  refine ja_iaddN dL_law_1773 ?_
  refine ja_sld (j := 7 * n + 2) hsc rfl (by omega) (by omega) dL_law_1774 ?_
  refine ja_aload_n (i := 0) dL_law_1775 rfl rfl ?_
  refine ja_iload dL_law_1776 rfl ?_
  refine ja_iconst (v := nI 3) dL_law_1778 (by decide +kernel) ?_
  refine ja_iaddN dL_law_1779 ?_
  refine ja_sld (j := 7 * n + 3) hsc rfl (by omega) (by omega) dL_law_1780 ?_
  refine ja_callV (av := [.int ((xs (7 * n + 1))), .int ((xs (7 * n + 2))), .int ((xs (7 * n + 3)))]) (st := []) hM2 (ce_X8_belt 0 0) im_X8_belt se_X8_belt lk_L_235 k_X8 hS1.2.1 ⟨Nat.le_of_ble_eq_true rfl, Nat.le_of_ble_eq_true rfl⟩ dL_law_1781 rfl rfl (Nat.le_of_ble_eq_true rfl) (show c9 + c + 0 ≤ 603072 by omega) (show s9 + s + 0 ≤ 7211114 by omega) (fun _ _ _ h => h.elim) (fun w Z2 D2 hw => ?_)
  obtain ⟨hS2, ht, hJ, b, rfl, ⟨y, rfl⟩, he⟩ := h2 _ _ _ hw
  refine ja_istore dL_law_1784 rfl (Nat.le_of_ble_eq_true rfl) ?_
  refine ja_aload_n (i := 2) dL_law_1786 rfl rfl ?_
  refine ja_cVr (st := []) (s_thrown l hS2.2.1) rfl rfl (ce_X8_thrown 0 0) im_X8_thrown se_X8_thrown lk_L_163 k_X8 hS2.2.1 ⟨Nat.le_of_ble_eq_true rfl, Nat.le_of_ble_eq_true rfl⟩ dL_law_1787 rfl rfl (Nat.le_of_ble_eq_true rfl) (show c9 + c + 0 ≤ 603072 by omega) (show s9 + s + 0 ≤ 7211114 by omega) ?_
  refine ja_top (y := nI k) ht ?_
  refine ja_iload dL_law_1790 rfl ?_
  refine ja_icmp_eq dL_law_1792 (tgt := 1797) (by decide) (fun c0 => ?_) (fun c0 => absurd rfl c0)
  refine ja_iload dL_law_1797 rfl ?_
  refine ja_if_ne dL_law_1799 (tgt := 1814) (by decide) (fun c0 => ?_) (fun c0 => ?_)
  · skip
    refine ja_goto dL_law_1814 (tgt := 3130) (by decide) ?_
    exact la_tail (kk _ _ hJ) (show c9 + c + 0 ≤ c9 + 4 by omega) (show s9 + s + 0 ≤ s9 + 776 by omega)
  · have hk0 := nI_z hk c0
    obtain ⟨y2, hy, hx⟩ := he hk0
    cases hy
    refine ja_aload_n (i := 3) dL_law_1802 rfl rfl ?_
    refine ja_iconst (v := nI 0) dL_law_1803 (by decide +kernel) ?_
    refine ja_lald (n := 1) (j := 0) hS2.2.2.1 rfl (by decide) (by decide) dL_law_1804 ?_
    refine ja_iload dL_law_1805 rfl ?_
    refine ja_i2l dL_law_1807 rfl ?_
    refine ja_lcmp dL_law_1808 ?_
    refine ja_top (y := 0) (by rw [hx]; exact lg_cmp_self _) ?_
    refine ja_if_eq dL_law_1809 (tgt := 1814) (by decide) (fun c0 => ?_) (fun c0 => absurd rfl c0)
    refine ja_goto dL_law_1814 (tgt := 3130) (by decide) ?_
    exact la_tail (kk _ _ hJ) (show c9 + c + 0 ≤ c9 + 4 by omega) (show s9 + s + 0 ≤ s9 + 776 by omega)
theorem la_checkOut (hS : ∀ n Z D, JI n Z D → ja_SH Z) (hC : ∀ (p0 p1 p2 p3 p4 : Int32), ja_JC l JI mL_checkOut mX8_checkOut [.int p0, .int p1, .int p2, .int p3, .int p4] 200 ty_i eqv_i) (hsc : sc = (L + 1, xs)) (hL : L ≤ 3584) (h7 : 7 * n + 7 ≤ L) (h4 : c9 + 4 ≤ 603072) (h5 : s9 + 776 ≤ 7211114) (hI : JI n Z D) (kk : ∀ Z2 D2, JI (n + 1) Z2 D2 → ja_A l (mL_law nm tb) sc Qf 28 (la_lv (7 * (n + 1))) [] Z2 D2 (c9 + 4) (s9 + 776)) : ja_A l (mL_law nm tb) sc Qf 1817 (la_lv (7 * n)) [] Z D c9 s9 := by
  have hn : n < 512 := by omega
  obtain ⟨c, s, kr1, hc4, hs7, hM, h1⟩ := (hC ((xs (7 * n + 1))) ((xs (7 * n + 2))) ((xs (7 * n + 3))) ((xs (7 * n + 4))) ((xs (7 * n + 5)))) n Z D hn hI
  refine ja_aload_n (i := 1) dL_law_1817 rfl rfl ?_
  refine ja_aload_n (i := 0) dL_law_1818 rfl rfl ?_
  refine ja_iload dL_law_1819 rfl ?_
  refine ja_iconst (v := nI 1) dL_law_1821 (by decide +kernel) ?_
  refine ja_iaddN dL_law_1822 ?_
  refine ja_sld (j := 7 * n + 1) hsc rfl (by omega) (by omega) dL_law_1823 ?_
  refine ja_aload_n (i := 0) dL_law_1824 rfl rfl ?_
  refine ja_iload dL_law_1825 rfl ?_
  refine ja_iconst (v := nI 2) dL_law_1827 (by decide +kernel) ?_
  refine ja_iaddN dL_law_1828 ?_
  refine ja_sld (j := 7 * n + 2) hsc rfl (by omega) (by omega) dL_law_1829 ?_
  refine ja_aload_n (i := 0) dL_law_1830 rfl rfl ?_
  refine ja_iload dL_law_1831 rfl ?_
  refine ja_iconst (v := nI 3) dL_law_1833 (by decide +kernel) ?_
  refine ja_iaddN dL_law_1834 ?_
  refine ja_sld (j := 7 * n + 3) hsc rfl (by omega) (by omega) dL_law_1835 ?_
  refine ja_aload_n (i := 0) dL_law_1836 rfl rfl ?_
  refine ja_iload dL_law_1837 rfl ?_
  refine ja_iconst (v := nI 4) dL_law_1839 (by decide +kernel) ?_
  refine ja_iaddN dL_law_1840 ?_
  refine ja_sld (j := 7 * n + 4) hsc rfl (by omega) (by omega) dL_law_1841 ?_
  refine ja_aload_n (i := 0) dL_law_1842 rfl rfl ?_
  refine ja_iload dL_law_1843 rfl ?_
  refine ja_iconst (v := nI 5) dL_law_1845 (by decide +kernel) ?_
  refine ja_iaddN dL_law_1846 ?_
  refine ja_sld (j := 7 * n + 5) hsc rfl (by omega) (by omega) dL_law_1847 ?_
  refine ja_aload_n (i := 3) dL_law_1848 rfl rfl ?_
  refine ja_callSW (st := []) hM (ch_L_checkOut c s) st_L_checkOut lk_L_236 ⟨Nat.le_of_ble_eq_true rfl, Nat.le_of_ble_eq_true rfl⟩ dL_law_1849 rfl rfl (Nat.le_of_ble_eq_true rfl) (show c9 + c ≤ 603072 by omega) (show s9 + s ≤ 7211114 by omega) (fun _ _ _ h => h.elim) (fun v Z1 D1 hv => ?_)
  obtain ⟨k, hk, rfl, hS1, kr2, hM2, h2⟩ := h1 _ _ _ hv
  refine ja_istore dL_law_1852 rfl (Nat.le_of_ble_eq_true rfl) ?_
  refine ja_aload_n (i := 2) dL_law_1854 rfl rfl ?_
  refine ja_aload_n (i := 0) dL_law_1855 rfl rfl ?_
  refine ja_iload dL_law_1856 rfl ?_
  refine ja_iconst (v := nI 1) dL_law_1858 (by decide +kernel) ?_
  refine ja_iaddN dL_law_1859 ?_
  refine ja_sld (j := 7 * n + 1) hsc rfl (by omega) (by omega) dL_law_1860 ?_
  refine ja_aload_n (i := 0) dL_law_1861 rfl rfl ?_
  refine ja_iload dL_law_1862 rfl ?_
  refine ja_iconst (v := nI 2) dL_law_1864 (by decide +kernel) ?_
  refine ja_iaddN dL_law_1865 ?_
  refine ja_sld (j := 7 * n + 2) hsc rfl (by omega) (by omega) dL_law_1866 ?_
  refine ja_aload_n (i := 0) dL_law_1867 rfl rfl ?_
  refine ja_iload dL_law_1868 rfl ?_
  refine ja_iconst (v := nI 3) dL_law_1870 (by decide +kernel) ?_
  refine ja_iaddN dL_law_1871 ?_
  refine ja_sld (j := 7 * n + 3) hsc rfl (by omega) (by omega) dL_law_1872 ?_
  refine ja_aload_n (i := 0) dL_law_1873 rfl rfl ?_
  refine ja_iload dL_law_1874 rfl ?_
  refine ja_iconst (v := nI 4) dL_law_1876 (by decide +kernel) ?_
  refine ja_iaddN dL_law_1877 ?_
  refine ja_sld (j := 7 * n + 4) hsc rfl (by omega) (by omega) dL_law_1878 ?_
  refine ja_aload_n (i := 0) dL_law_1879 rfl rfl ?_
  refine ja_iload dL_law_1880 rfl ?_
  refine ja_iconst (v := nI 5) dL_law_1882 (by decide +kernel) ?_
  refine ja_iaddN dL_law_1883 ?_
  refine ja_sld (j := 7 * n + 5) hsc rfl (by omega) (by omega) dL_law_1884 ?_
  refine ja_callV (av := [.int ((xs (7 * n + 1))), .int ((xs (7 * n + 2))), .int ((xs (7 * n + 3))), .int ((xs (7 * n + 4))), .int ((xs (7 * n + 5)))]) (st := []) hM2 (ce_X8_checkOut 0 0) im_X8_checkOut se_X8_checkOut lk_L_239 k_X8 hS1.2.1 ⟨Nat.le_of_ble_eq_true rfl, Nat.le_of_ble_eq_true rfl⟩ dL_law_1885 rfl rfl (Nat.le_of_ble_eq_true rfl) (show c9 + c + 0 ≤ 603072 by omega) (show s9 + s + 0 ≤ 7211114 by omega) (fun _ _ _ h => h.elim) (fun w Z2 D2 hw => ?_)
  obtain ⟨hS2, ht, hJ, b, rfl, ⟨y, rfl⟩, he⟩ := h2 _ _ _ hw
  refine ja_istore dL_law_1888 rfl (Nat.le_of_ble_eq_true rfl) ?_
  refine ja_aload_n (i := 2) dL_law_1890 rfl rfl ?_
  refine ja_cVr (st := []) (s_thrown l hS2.2.1) rfl rfl (ce_X8_thrown 0 0) im_X8_thrown se_X8_thrown lk_L_163 k_X8 hS2.2.1 ⟨Nat.le_of_ble_eq_true rfl, Nat.le_of_ble_eq_true rfl⟩ dL_law_1891 rfl rfl (Nat.le_of_ble_eq_true rfl) (show c9 + c + 0 ≤ 603072 by omega) (show s9 + s + 0 ≤ 7211114 by omega) ?_
  refine ja_top (y := nI k) ht ?_
  refine ja_iload dL_law_1894 rfl ?_
  refine ja_icmp_eq dL_law_1896 (tgt := 1901) (by decide) (fun c0 => ?_) (fun c0 => absurd rfl c0)
  refine ja_iload dL_law_1901 rfl ?_
  refine ja_if_ne dL_law_1903 (tgt := 1918) (by decide) (fun c0 => ?_) (fun c0 => ?_)
  · skip
    refine ja_goto dL_law_1918 (tgt := 3130) (by decide) ?_
    exact la_tail (kk _ _ hJ) (show c9 + c + 0 ≤ c9 + 4 by omega) (show s9 + s + 0 ≤ s9 + 776 by omega)
  · have hk0 := nI_z hk c0
    obtain ⟨y2, hy, hx⟩ := he hk0
    cases hy
    refine ja_aload_n (i := 3) dL_law_1906 rfl rfl ?_
    refine ja_iconst (v := nI 0) dL_law_1907 (by decide +kernel) ?_
    refine ja_lald (n := 1) (j := 0) hS2.2.2.1 rfl (by decide) (by decide) dL_law_1908 ?_
    refine ja_iload dL_law_1909 rfl ?_
    refine ja_i2l dL_law_1911 rfl ?_
    refine ja_lcmp dL_law_1912 ?_
    refine ja_top (y := 0) (by rw [hx]; exact lg_cmp_self _) ?_
    refine ja_if_eq dL_law_1913 (tgt := 1918) (by decide) (fun c0 => ?_) (fun c0 => absurd rfl c0)
    refine ja_goto dL_law_1918 (tgt := 3130) (by decide) ?_
    exact la_tail (kk _ _ hJ) (show c9 + c + 0 ≤ c9 + 4 by omega) (show s9 + s + 0 ≤ s9 + 776 by omega)
theorem la_change (hS : ∀ n Z D, JI n Z D → ja_SH Z) (hC : ∀ (p0 p1 p2 : Int32), ja_JC l JI mL_change mX8_change [.int p0, .int p1, .int p2] 200 ty_i eqv_i) (hsc : sc = (L + 1, xs)) (hL : L ≤ 3584) (h7 : 7 * n + 7 ≤ L) (h4 : c9 + 4 ≤ 603072) (h5 : s9 + 776 ≤ 7211114) (hI : JI n Z D) (kk : ∀ Z2 D2, JI (n + 1) Z2 D2 → ja_A l (mL_law nm tb) sc Qf 28 (la_lv (7 * (n + 1))) [] Z2 D2 (c9 + 4) (s9 + 776)) : ja_A l (mL_law nm tb) sc Qf 1921 (la_lv (7 * n)) [] Z D c9 s9 := by
  have hn : n < 512 := by omega
  obtain ⟨c, s, kr1, hc4, hs7, hM, h1⟩ := (hC ((xs (7 * n + 1))) ((xs (7 * n + 2))) ((xs (7 * n + 3)))) n Z D hn hI
  refine ja_aload_n (i := 1) dL_law_1921 rfl rfl ?_
  refine ja_aload_n (i := 0) dL_law_1922 rfl rfl ?_
  refine ja_iload dL_law_1923 rfl ?_
  refine ja_iconst (v := nI 1) dL_law_1925 (by decide +kernel) ?_
  refine ja_iaddN dL_law_1926 ?_
  refine ja_sld (j := 7 * n + 1) hsc rfl (by omega) (by omega) dL_law_1927 ?_
  refine ja_aload_n (i := 0) dL_law_1928 rfl rfl ?_
  refine ja_iload dL_law_1929 rfl ?_
  refine ja_iconst (v := nI 2) dL_law_1931 (by decide +kernel) ?_
  refine ja_iaddN dL_law_1932 ?_
  refine ja_sld (j := 7 * n + 2) hsc rfl (by omega) (by omega) dL_law_1933 ?_
  refine ja_aload_n (i := 0) dL_law_1934 rfl rfl ?_
  refine ja_iload dL_law_1935 rfl ?_
  refine ja_iconst (v := nI 3) dL_law_1937 (by decide +kernel) ?_
  refine ja_iaddN dL_law_1938 ?_
  refine ja_sld (j := 7 * n + 3) hsc rfl (by omega) (by omega) dL_law_1939 ?_
  refine ja_aload_n (i := 3) dL_law_1940 rfl rfl ?_
  refine ja_callSW (st := []) hM (ch_L_change c s) st_L_change lk_L_240 ⟨Nat.le_of_ble_eq_true rfl, Nat.le_of_ble_eq_true rfl⟩ dL_law_1941 rfl rfl (Nat.le_of_ble_eq_true rfl) (show c9 + c ≤ 603072 by omega) (show s9 + s ≤ 7211114 by omega) (fun _ _ _ h => h.elim) (fun v Z1 D1 hv => ?_)
  obtain ⟨k, hk, rfl, hS1, kr2, hM2, h2⟩ := h1 _ _ _ hv
  refine ja_istore dL_law_1944 rfl (Nat.le_of_ble_eq_true rfl) ?_
  refine ja_aload_n (i := 2) dL_law_1946 rfl rfl ?_
  refine ja_aload_n (i := 0) dL_law_1947 rfl rfl ?_
  refine ja_iload dL_law_1948 rfl ?_
  refine ja_iconst (v := nI 1) dL_law_1950 (by decide +kernel) ?_
  refine ja_iaddN dL_law_1951 ?_
  refine ja_sld (j := 7 * n + 1) hsc rfl (by omega) (by omega) dL_law_1952 ?_
  refine ja_aload_n (i := 0) dL_law_1953 rfl rfl ?_
  refine ja_iload dL_law_1954 rfl ?_
  refine ja_iconst (v := nI 2) dL_law_1956 (by decide +kernel) ?_
  refine ja_iaddN dL_law_1957 ?_
  refine ja_sld (j := 7 * n + 2) hsc rfl (by omega) (by omega) dL_law_1958 ?_
  refine ja_aload_n (i := 0) dL_law_1959 rfl rfl ?_
  refine ja_iload dL_law_1960 rfl ?_
  refine ja_iconst (v := nI 3) dL_law_1962 (by decide +kernel) ?_
  refine ja_iaddN dL_law_1963 ?_
  refine ja_sld (j := 7 * n + 3) hsc rfl (by omega) (by omega) dL_law_1964 ?_
  refine ja_callV (av := [.int ((xs (7 * n + 1))), .int ((xs (7 * n + 2))), .int ((xs (7 * n + 3)))]) (st := []) hM2 (ce_X8_change 0 0) im_X8_change se_X8_change lk_L_242 k_X8 hS1.2.1 ⟨Nat.le_of_ble_eq_true rfl, Nat.le_of_ble_eq_true rfl⟩ dL_law_1965 rfl rfl (Nat.le_of_ble_eq_true rfl) (show c9 + c + 0 ≤ 603072 by omega) (show s9 + s + 0 ≤ 7211114 by omega) (fun _ _ _ h => h.elim) (fun w Z2 D2 hw => ?_)
  obtain ⟨hS2, ht, hJ, b, rfl, ⟨y, rfl⟩, he⟩ := h2 _ _ _ hw
  refine ja_istore dL_law_1968 rfl (Nat.le_of_ble_eq_true rfl) ?_
  refine ja_aload_n (i := 2) dL_law_1970 rfl rfl ?_
  refine ja_cVr (st := []) (s_thrown l hS2.2.1) rfl rfl (ce_X8_thrown 0 0) im_X8_thrown se_X8_thrown lk_L_163 k_X8 hS2.2.1 ⟨Nat.le_of_ble_eq_true rfl, Nat.le_of_ble_eq_true rfl⟩ dL_law_1971 rfl rfl (Nat.le_of_ble_eq_true rfl) (show c9 + c + 0 ≤ 603072 by omega) (show s9 + s + 0 ≤ 7211114 by omega) ?_
  refine ja_top (y := nI k) ht ?_
  refine ja_iload dL_law_1974 rfl ?_
  refine ja_icmp_eq dL_law_1976 (tgt := 1981) (by decide) (fun c0 => ?_) (fun c0 => absurd rfl c0)
  refine ja_iload dL_law_1981 rfl ?_
  refine ja_if_ne dL_law_1983 (tgt := 1998) (by decide) (fun c0 => ?_) (fun c0 => ?_)
  · skip
    refine ja_goto dL_law_1998 (tgt := 3130) (by decide) ?_
    exact la_tail (kk _ _ hJ) (show c9 + c + 0 ≤ c9 + 4 by omega) (show s9 + s + 0 ≤ s9 + 776 by omega)
  · have hk0 := nI_z hk c0
    obtain ⟨y2, hy, hx⟩ := he hk0
    cases hy
    refine ja_aload_n (i := 3) dL_law_1986 rfl rfl ?_
    refine ja_iconst (v := nI 0) dL_law_1987 (by decide +kernel) ?_
    refine ja_lald (n := 1) (j := 0) hS2.2.2.1 rfl (by decide) (by decide) dL_law_1988 ?_
    refine ja_iload dL_law_1989 rfl ?_
    refine ja_i2l dL_law_1991 rfl ?_
    refine ja_lcmp dL_law_1992 ?_
    refine ja_top (y := 0) (by rw [hx]; exact lg_cmp_self _) ?_
    refine ja_if_eq dL_law_1993 (tgt := 1998) (by decide) (fun c0 => ?_) (fun c0 => absurd rfl c0)
    refine ja_goto dL_law_1998 (tgt := 3130) (by decide) ?_
    exact la_tail (kk _ _ hJ) (show c9 + c + 0 ≤ c9 + 4 by omega) (show s9 + s + 0 ≤ s9 + 776 by omega)
theorem la_conflicts (hS : ∀ n Z D, JI n Z D → ja_SH Z) (hC : ∀ (p0 : Int32), ja_JC l JI mL_conflicts mX8_conflicts [.int p0] 200 ty_i eqv_i) (hsc : sc = (L + 1, xs)) (hL : L ≤ 3584) (h7 : 7 * n + 7 ≤ L) (h4 : c9 + 4 ≤ 603072) (h5 : s9 + 776 ≤ 7211114) (hI : JI n Z D) (kk : ∀ Z2 D2, JI (n + 1) Z2 D2 → ja_A l (mL_law nm tb) sc Qf 28 (la_lv (7 * (n + 1))) [] Z2 D2 (c9 + 4) (s9 + 776)) : ja_A l (mL_law nm tb) sc Qf 2001 (la_lv (7 * n)) [] Z D c9 s9 := by
  have hn : n < 512 := by omega
  obtain ⟨c, s, kr1, hc4, hs7, hM, h1⟩ := (hC ((xs (7 * n + 1)))) n Z D hn hI
  refine ja_aload_n (i := 1) dL_law_2001 rfl rfl ?_
  refine ja_aload_n (i := 0) dL_law_2002 rfl rfl ?_
  refine ja_iload dL_law_2003 rfl ?_
  refine ja_iconst (v := nI 1) dL_law_2005 (by decide +kernel) ?_
  refine ja_iaddN dL_law_2006 ?_
  refine ja_sld (j := 7 * n + 1) hsc rfl (by omega) (by omega) dL_law_2007 ?_
  refine ja_aload_n (i := 3) dL_law_2008 rfl rfl ?_
  refine ja_callSW (st := []) hM (ch_L_conflicts c s) st_L_conflicts lk_L_243 ⟨Nat.le_of_ble_eq_true rfl, Nat.le_of_ble_eq_true rfl⟩ dL_law_2009 rfl rfl (Nat.le_of_ble_eq_true rfl) (show c9 + c ≤ 603072 by omega) (show s9 + s ≤ 7211114 by omega) (fun _ _ _ h => h.elim) (fun v Z1 D1 hv => ?_)
  obtain ⟨k, hk, rfl, hS1, kr2, hM2, h2⟩ := h1 _ _ _ hv
  refine ja_istore dL_law_2012 rfl (Nat.le_of_ble_eq_true rfl) ?_
  refine ja_aload_n (i := 2) dL_law_2014 rfl rfl ?_
  refine ja_aload_n (i := 0) dL_law_2015 rfl rfl ?_
  refine ja_iload dL_law_2016 rfl ?_
  refine ja_iconst (v := nI 1) dL_law_2018 (by decide +kernel) ?_
  refine ja_iaddN dL_law_2019 ?_
  refine ja_sld (j := 7 * n + 1) hsc rfl (by omega) (by omega) dL_law_2020 ?_
  refine ja_callV (av := [.int ((xs (7 * n + 1)))]) (st := []) hM2 (ce_X8_conflicts 0 0) im_X8_conflicts se_X8_conflicts lk_L_245 k_X8 hS1.2.1 ⟨Nat.le_of_ble_eq_true rfl, Nat.le_of_ble_eq_true rfl⟩ dL_law_2021 rfl rfl (Nat.le_of_ble_eq_true rfl) (show c9 + c + 0 ≤ 603072 by omega) (show s9 + s + 0 ≤ 7211114 by omega) (fun _ _ _ h => h.elim) (fun w Z2 D2 hw => ?_)
  obtain ⟨hS2, ht, hJ, b, rfl, ⟨y, rfl⟩, he⟩ := h2 _ _ _ hw
  refine ja_istore dL_law_2024 rfl (Nat.le_of_ble_eq_true rfl) ?_
  refine ja_aload_n (i := 2) dL_law_2026 rfl rfl ?_
  refine ja_cVr (st := []) (s_thrown l hS2.2.1) rfl rfl (ce_X8_thrown 0 0) im_X8_thrown se_X8_thrown lk_L_163 k_X8 hS2.2.1 ⟨Nat.le_of_ble_eq_true rfl, Nat.le_of_ble_eq_true rfl⟩ dL_law_2027 rfl rfl (Nat.le_of_ble_eq_true rfl) (show c9 + c + 0 ≤ 603072 by omega) (show s9 + s + 0 ≤ 7211114 by omega) ?_
  refine ja_top (y := nI k) ht ?_
  refine ja_iload dL_law_2030 rfl ?_
  refine ja_icmp_eq dL_law_2032 (tgt := 2037) (by decide) (fun c0 => ?_) (fun c0 => absurd rfl c0)
  refine ja_iload dL_law_2037 rfl ?_
  refine ja_if_ne dL_law_2039 (tgt := 2054) (by decide) (fun c0 => ?_) (fun c0 => ?_)
  · skip
    refine ja_goto dL_law_2054 (tgt := 3130) (by decide) ?_
    exact la_tail (kk _ _ hJ) (show c9 + c + 0 ≤ c9 + 4 by omega) (show s9 + s + 0 ≤ s9 + 776 by omega)
  · have hk0 := nI_z hk c0
    obtain ⟨y2, hy, hx⟩ := he hk0
    cases hy
    refine ja_aload_n (i := 3) dL_law_2042 rfl rfl ?_
    refine ja_iconst (v := nI 0) dL_law_2043 (by decide +kernel) ?_
    refine ja_lald (n := 1) (j := 0) hS2.2.2.1 rfl (by decide) (by decide) dL_law_2044 ?_
    refine ja_iload dL_law_2045 rfl ?_
    refine ja_i2l dL_law_2047 rfl ?_
    refine ja_lcmp dL_law_2048 ?_
    refine ja_top (y := 0) (by rw [hx]; exact lg_cmp_self _) ?_
    refine ja_if_eq dL_law_2049 (tgt := 2054) (by decide) (fun c0 => ?_) (fun c0 => absurd rfl c0)
    refine ja_goto dL_law_2054 (tgt := 3130) (by decide) ?_
    exact la_tail (kk _ _ hJ) (show c9 + c + 0 ≤ c9 + 4 by omega) (show s9 + s + 0 ≤ s9 + 776 by omega)
theorem la_clashes (hS : ∀ n Z D, JI n Z D → ja_SH Z) (hC : ∀ (p0 : Int32), ja_JC l JI mL_clashes mX8_clashes [.int p0] 200 ty_i eqv_i) (hsc : sc = (L + 1, xs)) (hL : L ≤ 3584) (h7 : 7 * n + 7 ≤ L) (h4 : c9 + 4 ≤ 603072) (h5 : s9 + 776 ≤ 7211114) (hI : JI n Z D) (kk : ∀ Z2 D2, JI (n + 1) Z2 D2 → ja_A l (mL_law nm tb) sc Qf 28 (la_lv (7 * (n + 1))) [] Z2 D2 (c9 + 4) (s9 + 776)) : ja_A l (mL_law nm tb) sc Qf 2057 (la_lv (7 * n)) [] Z D c9 s9 := by
  have hn : n < 512 := by omega
  obtain ⟨c, s, kr1, hc4, hs7, hM, h1⟩ := (hC ((xs (7 * n + 1)))) n Z D hn hI
  refine ja_aload_n (i := 1) dL_law_2057 rfl rfl ?_
  refine ja_aload_n (i := 0) dL_law_2058 rfl rfl ?_
  refine ja_iload dL_law_2059 rfl ?_
  refine ja_iconst (v := nI 1) dL_law_2061 (by decide +kernel) ?_
  refine ja_iaddN dL_law_2062 ?_
  refine ja_sld (j := 7 * n + 1) hsc rfl (by omega) (by omega) dL_law_2063 ?_
  refine ja_aload_n (i := 3) dL_law_2064 rfl rfl ?_
  refine ja_callSW (st := []) hM (ch_L_clashes c s) st_L_clashes lk_L_246 ⟨Nat.le_of_ble_eq_true rfl, Nat.le_of_ble_eq_true rfl⟩ dL_law_2065 rfl rfl (Nat.le_of_ble_eq_true rfl) (show c9 + c ≤ 603072 by omega) (show s9 + s ≤ 7211114 by omega) (fun _ _ _ h => h.elim) (fun v Z1 D1 hv => ?_)
  obtain ⟨k, hk, rfl, hS1, kr2, hM2, h2⟩ := h1 _ _ _ hv
  refine ja_istore dL_law_2068 rfl (Nat.le_of_ble_eq_true rfl) ?_
  refine ja_aload_n (i := 2) dL_law_2070 rfl rfl ?_
  refine ja_aload_n (i := 0) dL_law_2071 rfl rfl ?_
  refine ja_iload dL_law_2072 rfl ?_
  refine ja_iconst (v := nI 1) dL_law_2074 (by decide +kernel) ?_
  refine ja_iaddN dL_law_2075 ?_
  refine ja_sld (j := 7 * n + 1) hsc rfl (by omega) (by omega) dL_law_2076 ?_
  refine ja_callV (av := [.int ((xs (7 * n + 1)))]) (st := []) hM2 (ce_X8_clashes 0 0) im_X8_clashes se_X8_clashes lk_L_248 k_X8 hS1.2.1 ⟨Nat.le_of_ble_eq_true rfl, Nat.le_of_ble_eq_true rfl⟩ dL_law_2077 rfl rfl (Nat.le_of_ble_eq_true rfl) (show c9 + c + 0 ≤ 603072 by omega) (show s9 + s + 0 ≤ 7211114 by omega) (fun _ _ _ h => h.elim) (fun w Z2 D2 hw => ?_)
  obtain ⟨hS2, ht, hJ, b, rfl, ⟨y, rfl⟩, he⟩ := h2 _ _ _ hw
  refine ja_istore dL_law_2080 rfl (Nat.le_of_ble_eq_true rfl) ?_
  refine ja_aload_n (i := 2) dL_law_2082 rfl rfl ?_
  refine ja_cVr (st := []) (s_thrown l hS2.2.1) rfl rfl (ce_X8_thrown 0 0) im_X8_thrown se_X8_thrown lk_L_163 k_X8 hS2.2.1 ⟨Nat.le_of_ble_eq_true rfl, Nat.le_of_ble_eq_true rfl⟩ dL_law_2083 rfl rfl (Nat.le_of_ble_eq_true rfl) (show c9 + c + 0 ≤ 603072 by omega) (show s9 + s + 0 ≤ 7211114 by omega) ?_
  refine ja_top (y := nI k) ht ?_
  refine ja_iload dL_law_2086 rfl ?_
  refine ja_icmp_eq dL_law_2088 (tgt := 2093) (by decide) (fun c0 => ?_) (fun c0 => absurd rfl c0)
  refine ja_iload dL_law_2093 rfl ?_
  refine ja_if_ne dL_law_2095 (tgt := 2110) (by decide) (fun c0 => ?_) (fun c0 => ?_)
  · skip
    refine ja_goto dL_law_2110 (tgt := 3130) (by decide) ?_
    exact la_tail (kk _ _ hJ) (show c9 + c + 0 ≤ c9 + 4 by omega) (show s9 + s + 0 ≤ s9 + 776 by omega)
  · have hk0 := nI_z hk c0
    obtain ⟨y2, hy, hx⟩ := he hk0
    cases hy
    refine ja_aload_n (i := 3) dL_law_2098 rfl rfl ?_
    refine ja_iconst (v := nI 0) dL_law_2099 (by decide +kernel) ?_
    refine ja_lald (n := 1) (j := 0) hS2.2.2.1 rfl (by decide) (by decide) dL_law_2100 ?_
    refine ja_iload dL_law_2101 rfl ?_
    refine ja_i2l dL_law_2103 rfl ?_
    refine ja_lcmp dL_law_2104 ?_
    refine ja_top (y := 0) (by rw [hx]; exact lg_cmp_self _) ?_
    refine ja_if_eq dL_law_2105 (tgt := 2110) (by decide) (fun c0 => ?_) (fun c0 => absurd rfl c0)
    refine ja_goto dL_law_2110 (tgt := 3130) (by decide) ?_
    exact la_tail (kk _ _ hJ) (show c9 + c + 0 ≤ c9 + 4 by omega) (show s9 + s + 0 ≤ s9 + 776 by omega)
theorem la_reconcile (hS : ∀ n Z D, JI n Z D → ja_SH Z) (hC : ∀ (p0 p1 : Int32), ja_JC l JI mL_reconcile mX8_reconcile [.int p0, .int p1] 200 ty_i eqv_i) (hsc : sc = (L + 1, xs)) (hL : L ≤ 3584) (h7 : 7 * n + 7 ≤ L) (h4 : c9 + 4 ≤ 603072) (h5 : s9 + 776 ≤ 7211114) (hI : JI n Z D) (kk : ∀ Z2 D2, JI (n + 1) Z2 D2 → ja_A l (mL_law nm tb) sc Qf 28 (la_lv (7 * (n + 1))) [] Z2 D2 (c9 + 4) (s9 + 776)) : ja_A l (mL_law nm tb) sc Qf 2113 (la_lv (7 * n)) [] Z D c9 s9 := by
  have hn : n < 512 := by omega
  obtain ⟨c, s, kr1, hc4, hs7, hM, h1⟩ := (hC ((xs (7 * n + 1))) (((xs (7 * n + 2)).toUInt32 % 65536).toInt32)) n Z D hn hI
  refine ja_aload_n (i := 1) dL_law_2113 rfl rfl ?_
  refine ja_aload_n (i := 0) dL_law_2114 rfl rfl ?_
  refine ja_iload dL_law_2115 rfl ?_
  refine ja_iconst (v := nI 1) dL_law_2117 (by decide +kernel) ?_
  refine ja_iaddN dL_law_2118 ?_
  refine ja_sld (j := 7 * n + 1) hsc rfl (by omega) (by omega) dL_law_2119 ?_
  refine ja_aload_n (i := 0) dL_law_2120 rfl rfl ?_
  refine ja_iload dL_law_2121 rfl ?_
  refine ja_iconst (v := nI 2) dL_law_2123 (by decide +kernel) ?_
  refine ja_iaddN dL_law_2124 ?_
  refine ja_sld (j := 7 * n + 2) hsc rfl (by omega) (by omega) dL_law_2125 ?_
  refine ja_i2c dL_law_2126 rfl ?_
  refine ja_aload_n (i := 3) dL_law_2127 rfl rfl ?_
  refine ja_callSW (st := []) hM (ch_L_reconcile c s) st_L_reconcile lk_L_249 ⟨Nat.le_of_ble_eq_true rfl, Nat.le_of_ble_eq_true rfl⟩ dL_law_2128 rfl rfl (Nat.le_of_ble_eq_true rfl) (show c9 + c ≤ 603072 by omega) (show s9 + s ≤ 7211114 by omega) (fun _ _ _ h => h.elim) (fun v Z1 D1 hv => ?_)
  obtain ⟨k, hk, rfl, hS1, kr2, hM2, h2⟩ := h1 _ _ _ hv
  refine ja_istore dL_law_2131 rfl (Nat.le_of_ble_eq_true rfl) ?_
  refine ja_aload_n (i := 2) dL_law_2133 rfl rfl ?_
  refine ja_aload_n (i := 0) dL_law_2134 rfl rfl ?_
  refine ja_iload dL_law_2135 rfl ?_
  refine ja_iconst (v := nI 1) dL_law_2137 (by decide +kernel) ?_
  refine ja_iaddN dL_law_2138 ?_
  refine ja_sld (j := 7 * n + 1) hsc rfl (by omega) (by omega) dL_law_2139 ?_
  refine ja_aload_n (i := 0) dL_law_2140 rfl rfl ?_
  refine ja_iload dL_law_2141 rfl ?_
  refine ja_iconst (v := nI 2) dL_law_2143 (by decide +kernel) ?_
  refine ja_iaddN dL_law_2144 ?_
  refine ja_sld (j := 7 * n + 2) hsc rfl (by omega) (by omega) dL_law_2145 ?_
  refine ja_i2c dL_law_2146 rfl ?_
  refine ja_callV (av := [.int ((xs (7 * n + 1))), .int (((xs (7 * n + 2)).toUInt32 % 65536).toInt32)]) (st := []) hM2 (ce_X8_reconcile 0 0) im_X8_reconcile se_X8_reconcile lk_L_252 k_X8 hS1.2.1 ⟨Nat.le_of_ble_eq_true rfl, Nat.le_of_ble_eq_true rfl⟩ dL_law_2147 rfl rfl (Nat.le_of_ble_eq_true rfl) (show c9 + c + 0 ≤ 603072 by omega) (show s9 + s + 0 ≤ 7211114 by omega) (fun _ _ _ h => h.elim) (fun w Z2 D2 hw => ?_)
  obtain ⟨hS2, ht, hJ, b, rfl, ⟨y, rfl⟩, he⟩ := h2 _ _ _ hw
  refine ja_istore dL_law_2150 rfl (Nat.le_of_ble_eq_true rfl) ?_
  refine ja_aload_n (i := 2) dL_law_2152 rfl rfl ?_
  refine ja_cVr (st := []) (s_thrown l hS2.2.1) rfl rfl (ce_X8_thrown 0 0) im_X8_thrown se_X8_thrown lk_L_163 k_X8 hS2.2.1 ⟨Nat.le_of_ble_eq_true rfl, Nat.le_of_ble_eq_true rfl⟩ dL_law_2153 rfl rfl (Nat.le_of_ble_eq_true rfl) (show c9 + c + 0 ≤ 603072 by omega) (show s9 + s + 0 ≤ 7211114 by omega) ?_
  refine ja_top (y := nI k) ht ?_
  refine ja_iload dL_law_2156 rfl ?_
  refine ja_icmp_eq dL_law_2158 (tgt := 2163) (by decide) (fun c0 => ?_) (fun c0 => absurd rfl c0)
  refine ja_iload dL_law_2163 rfl ?_
  refine ja_if_ne dL_law_2165 (tgt := 2180) (by decide) (fun c0 => ?_) (fun c0 => ?_)
  · skip
    refine ja_goto dL_law_2180 (tgt := 3130) (by decide) ?_
    exact la_tail (kk _ _ hJ) (show c9 + c + 0 ≤ c9 + 4 by omega) (show s9 + s + 0 ≤ s9 + 776 by omega)
  · have hk0 := nI_z hk c0
    obtain ⟨y2, hy, hx⟩ := he hk0
    cases hy
    refine ja_aload_n (i := 3) dL_law_2168 rfl rfl ?_
    refine ja_iconst (v := nI 0) dL_law_2169 (by decide +kernel) ?_
    refine ja_lald (n := 1) (j := 0) hS2.2.2.1 rfl (by decide) (by decide) dL_law_2170 ?_
    refine ja_iload dL_law_2171 rfl ?_
    refine ja_i2l dL_law_2173 rfl ?_
    refine ja_lcmp dL_law_2174 ?_
    refine ja_top (y := 0) (by rw [hx]; exact lg_cmp_self _) ?_
    refine ja_if_eq dL_law_2175 (tgt := 2180) (by decide) (fun c0 => ?_) (fun c0 => absurd rfl c0)
    refine ja_goto dL_law_2180 (tgt := 3130) (by decide) ?_
    exact la_tail (kk _ _ hJ) (show c9 + c + 0 ≤ c9 + 4 by omega) (show s9 + s + 0 ≤ s9 + 776 by omega)
theorem la_pieces (hS : ∀ n Z D, JI n Z D → ja_SH Z) (hC : ∀ (p0 p1 : Int32), ja_JC l JI mL_pieces mX8_pieces [.int p0, .int p1] 200 ty_i eqv_i) (hsc : sc = (L + 1, xs)) (hL : L ≤ 3584) (h7 : 7 * n + 7 ≤ L) (h4 : c9 + 4 ≤ 603072) (h5 : s9 + 776 ≤ 7211114) (hI : JI n Z D) (kk : ∀ Z2 D2, JI (n + 1) Z2 D2 → ja_A l (mL_law nm tb) sc Qf 28 (la_lv (7 * (n + 1))) [] Z2 D2 (c9 + 4) (s9 + 776)) : ja_A l (mL_law nm tb) sc Qf 2183 (la_lv (7 * n)) [] Z D c9 s9 := by
  have hn : n < 512 := by omega
  obtain ⟨c, s, kr1, hc4, hs7, hM, h1⟩ := (hC ((xs (7 * n + 1))) ((xs (7 * n + 2)))) n Z D hn hI
  refine ja_aload_n (i := 1) dL_law_2183 rfl rfl ?_
  refine ja_aload_n (i := 0) dL_law_2184 rfl rfl ?_
  refine ja_iload dL_law_2185 rfl ?_
  refine ja_iconst (v := nI 1) dL_law_2187 (by decide +kernel) ?_
  refine ja_iaddN dL_law_2188 ?_
  refine ja_sld (j := 7 * n + 1) hsc rfl (by omega) (by omega) dL_law_2189 ?_
  refine ja_aload_n (i := 0) dL_law_2190 rfl rfl ?_
  refine ja_iload dL_law_2191 rfl ?_
  refine ja_iconst (v := nI 2) dL_law_2193 (by decide +kernel) ?_
  refine ja_iaddN dL_law_2194 ?_
  refine ja_sld (j := 7 * n + 2) hsc rfl (by omega) (by omega) dL_law_2195 ?_
  refine ja_aload_n (i := 3) dL_law_2196 rfl rfl ?_
  refine ja_callSW (st := []) hM (ch_L_pieces c s) st_L_pieces lk_L_253 ⟨Nat.le_of_ble_eq_true rfl, Nat.le_of_ble_eq_true rfl⟩ dL_law_2197 rfl rfl (Nat.le_of_ble_eq_true rfl) (show c9 + c ≤ 603072 by omega) (show s9 + s ≤ 7211114 by omega) (fun _ _ _ h => h.elim) (fun v Z1 D1 hv => ?_)
  obtain ⟨k, hk, rfl, hS1, kr2, hM2, h2⟩ := h1 _ _ _ hv
  refine ja_istore dL_law_2200 rfl (Nat.le_of_ble_eq_true rfl) ?_
  refine ja_aload_n (i := 2) dL_law_2202 rfl rfl ?_
  refine ja_aload_n (i := 0) dL_law_2203 rfl rfl ?_
  refine ja_iload dL_law_2204 rfl ?_
  refine ja_iconst (v := nI 1) dL_law_2206 (by decide +kernel) ?_
  refine ja_iaddN dL_law_2207 ?_
  refine ja_sld (j := 7 * n + 1) hsc rfl (by omega) (by omega) dL_law_2208 ?_
  refine ja_aload_n (i := 0) dL_law_2209 rfl rfl ?_
  refine ja_iload dL_law_2210 rfl ?_
  refine ja_iconst (v := nI 2) dL_law_2212 (by decide +kernel) ?_
  refine ja_iaddN dL_law_2213 ?_
  refine ja_sld (j := 7 * n + 2) hsc rfl (by omega) (by omega) dL_law_2214 ?_
  refine ja_callV (av := [.int ((xs (7 * n + 1))), .int ((xs (7 * n + 2)))]) (st := []) hM2 (ce_X8_pieces 0 0) im_X8_pieces se_X8_pieces lk_L_255 k_X8 hS1.2.1 ⟨Nat.le_of_ble_eq_true rfl, Nat.le_of_ble_eq_true rfl⟩ dL_law_2215 rfl rfl (Nat.le_of_ble_eq_true rfl) (show c9 + c + 0 ≤ 603072 by omega) (show s9 + s + 0 ≤ 7211114 by omega) (fun _ _ _ h => h.elim) (fun w Z2 D2 hw => ?_)
  obtain ⟨hS2, ht, hJ, b, rfl, ⟨y, rfl⟩, he⟩ := h2 _ _ _ hw
  refine ja_istore dL_law_2218 rfl (Nat.le_of_ble_eq_true rfl) ?_
  refine ja_aload_n (i := 2) dL_law_2220 rfl rfl ?_
  refine ja_cVr (st := []) (s_thrown l hS2.2.1) rfl rfl (ce_X8_thrown 0 0) im_X8_thrown se_X8_thrown lk_L_163 k_X8 hS2.2.1 ⟨Nat.le_of_ble_eq_true rfl, Nat.le_of_ble_eq_true rfl⟩ dL_law_2221 rfl rfl (Nat.le_of_ble_eq_true rfl) (show c9 + c + 0 ≤ 603072 by omega) (show s9 + s + 0 ≤ 7211114 by omega) ?_
  refine ja_top (y := nI k) ht ?_
  refine ja_iload dL_law_2224 rfl ?_
  refine ja_icmp_eq dL_law_2226 (tgt := 2231) (by decide) (fun c0 => ?_) (fun c0 => absurd rfl c0)
  refine ja_iload dL_law_2231 rfl ?_
  refine ja_if_ne dL_law_2233 (tgt := 2248) (by decide) (fun c0 => ?_) (fun c0 => ?_)
  · skip
    refine ja_goto dL_law_2248 (tgt := 3130) (by decide) ?_
    exact la_tail (kk _ _ hJ) (show c9 + c + 0 ≤ c9 + 4 by omega) (show s9 + s + 0 ≤ s9 + 776 by omega)
  · have hk0 := nI_z hk c0
    obtain ⟨y2, hy, hx⟩ := he hk0
    cases hy
    refine ja_aload_n (i := 3) dL_law_2236 rfl rfl ?_
    refine ja_iconst (v := nI 0) dL_law_2237 (by decide +kernel) ?_
    refine ja_lald (n := 1) (j := 0) hS2.2.2.1 rfl (by decide) (by decide) dL_law_2238 ?_
    refine ja_iload dL_law_2239 rfl ?_
    refine ja_i2l dL_law_2241 rfl ?_
    refine ja_lcmp dL_law_2242 ?_
    refine ja_top (y := 0) (by rw [hx]; exact lg_cmp_self _) ?_
    refine ja_if_eq dL_law_2243 (tgt := 2248) (by decide) (fun c0 => ?_) (fun c0 => absurd rfl c0)
    refine ja_goto dL_law_2248 (tgt := 3130) (by decide) ?_
    exact la_tail (kk _ _ hJ) (show c9 + c + 0 ≤ c9 + 4 by omega) (show s9 + s + 0 ≤ s9 + 776 by omega)
theorem la_pieceSize (hS : ∀ n Z D, JI n Z D → ja_SH Z) (hC : ∀ (p0 p1 p2 : Int32), ja_JC l JI mL_pieceSize mX8_pieceSize [.int p0, .int p1, .int p2] 200 ty_i eqv_i) (hsc : sc = (L + 1, xs)) (hL : L ≤ 3584) (h7 : 7 * n + 7 ≤ L) (h4 : c9 + 4 ≤ 603072) (h5 : s9 + 776 ≤ 7211114) (hI : JI n Z D) (kk : ∀ Z2 D2, JI (n + 1) Z2 D2 → ja_A l (mL_law nm tb) sc Qf 28 (la_lv (7 * (n + 1))) [] Z2 D2 (c9 + 4) (s9 + 776)) : ja_A l (mL_law nm tb) sc Qf 2251 (la_lv (7 * n)) [] Z D c9 s9 := by
  have hn : n < 512 := by omega
  obtain ⟨c, s, kr1, hc4, hs7, hM, h1⟩ := (hC ((xs (7 * n + 1))) ((xs (7 * n + 2))) ((xs (7 * n + 3)))) n Z D hn hI
  refine ja_aload_n (i := 1) dL_law_2251 rfl rfl ?_
  refine ja_aload_n (i := 0) dL_law_2252 rfl rfl ?_
  refine ja_iload dL_law_2253 rfl ?_
  refine ja_iconst (v := nI 1) dL_law_2255 (by decide +kernel) ?_
  refine ja_iaddN dL_law_2256 ?_
  refine ja_sld (j := 7 * n + 1) hsc rfl (by omega) (by omega) dL_law_2257 ?_
  refine ja_aload_n (i := 0) dL_law_2258 rfl rfl ?_
  refine ja_iload dL_law_2259 rfl ?_
  refine ja_iconst (v := nI 2) dL_law_2261 (by decide +kernel) ?_
  refine ja_iaddN dL_law_2262 ?_
  refine ja_sld (j := 7 * n + 2) hsc rfl (by omega) (by omega) dL_law_2263 ?_
  refine ja_aload_n (i := 0) dL_law_2264 rfl rfl ?_
  refine ja_iload dL_law_2265 rfl ?_
  refine ja_iconst (v := nI 3) dL_law_2267 (by decide +kernel) ?_
  refine ja_iaddN dL_law_2268 ?_
  refine ja_sld (j := 7 * n + 3) hsc rfl (by omega) (by omega) dL_law_2269 ?_
  refine ja_aload_n (i := 3) dL_law_2270 rfl rfl ?_
  refine ja_callSW (st := []) hM (ch_L_pieceSize c s) st_L_pieceSize lk_L_256 ⟨Nat.le_of_ble_eq_true rfl, Nat.le_of_ble_eq_true rfl⟩ dL_law_2271 rfl rfl (Nat.le_of_ble_eq_true rfl) (show c9 + c ≤ 603072 by omega) (show s9 + s ≤ 7211114 by omega) (fun _ _ _ h => h.elim) (fun v Z1 D1 hv => ?_)
  obtain ⟨k, hk, rfl, hS1, kr2, hM2, h2⟩ := h1 _ _ _ hv
  refine ja_istore dL_law_2274 rfl (Nat.le_of_ble_eq_true rfl) ?_
  refine ja_aload_n (i := 2) dL_law_2276 rfl rfl ?_
  refine ja_aload_n (i := 0) dL_law_2277 rfl rfl ?_
  refine ja_iload dL_law_2278 rfl ?_
  refine ja_iconst (v := nI 1) dL_law_2280 (by decide +kernel) ?_
  refine ja_iaddN dL_law_2281 ?_
  refine ja_sld (j := 7 * n + 1) hsc rfl (by omega) (by omega) dL_law_2282 ?_
  refine ja_aload_n (i := 0) dL_law_2283 rfl rfl ?_
  refine ja_iload dL_law_2284 rfl ?_
  refine ja_iconst (v := nI 2) dL_law_2286 (by decide +kernel) ?_
  refine ja_iaddN dL_law_2287 ?_
  refine ja_sld (j := 7 * n + 2) hsc rfl (by omega) (by omega) dL_law_2288 ?_
  refine ja_aload_n (i := 0) dL_law_2289 rfl rfl ?_
  refine ja_iload dL_law_2290 rfl ?_
  refine ja_iconst (v := nI 3) dL_law_2292 (by decide +kernel) ?_
  refine ja_iaddN dL_law_2293 ?_
  refine ja_sld (j := 7 * n + 3) hsc rfl (by omega) (by omega) dL_law_2294 ?_
  refine ja_callV (av := [.int ((xs (7 * n + 1))), .int ((xs (7 * n + 2))), .int ((xs (7 * n + 3)))]) (st := []) hM2 (ce_X8_pieceSize 0 0) im_X8_pieceSize se_X8_pieceSize lk_L_258 k_X8 hS1.2.1 ⟨Nat.le_of_ble_eq_true rfl, Nat.le_of_ble_eq_true rfl⟩ dL_law_2295 rfl rfl (Nat.le_of_ble_eq_true rfl) (show c9 + c + 0 ≤ 603072 by omega) (show s9 + s + 0 ≤ 7211114 by omega) (fun _ _ _ h => h.elim) (fun w Z2 D2 hw => ?_)
  obtain ⟨hS2, ht, hJ, b, rfl, ⟨y, rfl⟩, he⟩ := h2 _ _ _ hw
  refine ja_istore dL_law_2298 rfl (Nat.le_of_ble_eq_true rfl) ?_
  refine ja_aload_n (i := 2) dL_law_2300 rfl rfl ?_
  refine ja_cVr (st := []) (s_thrown l hS2.2.1) rfl rfl (ce_X8_thrown 0 0) im_X8_thrown se_X8_thrown lk_L_163 k_X8 hS2.2.1 ⟨Nat.le_of_ble_eq_true rfl, Nat.le_of_ble_eq_true rfl⟩ dL_law_2301 rfl rfl (Nat.le_of_ble_eq_true rfl) (show c9 + c + 0 ≤ 603072 by omega) (show s9 + s + 0 ≤ 7211114 by omega) ?_
  refine ja_top (y := nI k) ht ?_
  refine ja_iload dL_law_2304 rfl ?_
  refine ja_icmp_eq dL_law_2306 (tgt := 2311) (by decide) (fun c0 => ?_) (fun c0 => absurd rfl c0)
  refine ja_iload dL_law_2311 rfl ?_
  refine ja_if_ne dL_law_2313 (tgt := 2328) (by decide) (fun c0 => ?_) (fun c0 => ?_)
  · skip
    refine ja_goto dL_law_2328 (tgt := 3130) (by decide) ?_
    exact la_tail (kk _ _ hJ) (show c9 + c + 0 ≤ c9 + 4 by omega) (show s9 + s + 0 ≤ s9 + 776 by omega)
  · have hk0 := nI_z hk c0
    obtain ⟨y2, hy, hx⟩ := he hk0
    cases hy
    refine ja_aload_n (i := 3) dL_law_2316 rfl rfl ?_
    refine ja_iconst (v := nI 0) dL_law_2317 (by decide +kernel) ?_
    refine ja_lald (n := 1) (j := 0) hS2.2.2.1 rfl (by decide) (by decide) dL_law_2318 ?_
    refine ja_iload dL_law_2319 rfl ?_
    refine ja_i2l dL_law_2321 rfl ?_
    refine ja_lcmp dL_law_2322 ?_
    refine ja_top (y := 0) (by rw [hx]; exact lg_cmp_self _) ?_
    refine ja_if_eq dL_law_2323 (tgt := 2328) (by decide) (fun c0 => ?_) (fun c0 => absurd rfl c0)
    refine ja_goto dL_law_2328 (tgt := 3130) (by decide) ?_
    exact la_tail (kk _ _ hJ) (show c9 + c + 0 ≤ c9 + 4 by omega) (show s9 + s + 0 ≤ s9 + 776 by omega)
theorem la_parent (hS : ∀ n Z D, JI n Z D → ja_SH Z) (hC : ∀ (p0 p1 p2 : Int32) (p3 : Bool), ja_JC l JI mL_parent mX8_parent [.int p0, .int p1, .int p2, .int (bI p3)] 200 ty_i eqv_i) (hsc : sc = (L + 1, xs)) (hL : L ≤ 3584) (h7 : 7 * n + 7 ≤ L) (h4 : c9 + 4 ≤ 603072) (h5 : s9 + 776 ≤ 7211114) (hI : JI n Z D) (kk : ∀ Z2 D2, JI (n + 1) Z2 D2 → ja_A l (mL_law nm tb) sc Qf 28 (la_lv (7 * (n + 1))) [] Z2 D2 (c9 + 4) (s9 + 776)) : ja_A l (mL_law nm tb) sc Qf 2331 (la_lv (7 * n)) [] Z D c9 s9 := by
  have hn : n < 512 := by omega
  by_cases e : xs (7 * n + 4) = 0
  · skip
    obtain ⟨c, s, kr1, hc4, hs7, hM, h1⟩ := (hC ((xs (7 * n + 1))) ((xs (7 * n + 2))) ((xs (7 * n + 3))) (false)) n Z D hn hI
    refine ja_aload_n (i := 1) dL_law_2331 rfl rfl ?_
    refine ja_aload_n (i := 0) dL_law_2332 rfl rfl ?_
    refine ja_iload dL_law_2333 rfl ?_
    refine ja_iconst (v := nI 1) dL_law_2335 (by decide +kernel) ?_
    refine ja_iaddN dL_law_2336 ?_
    refine ja_sld (j := 7 * n + 1) hsc rfl (by omega) (by omega) dL_law_2337 ?_
    refine ja_aload_n (i := 0) dL_law_2338 rfl rfl ?_
    refine ja_iload dL_law_2339 rfl ?_
    refine ja_iconst (v := nI 2) dL_law_2341 (by decide +kernel) ?_
    refine ja_iaddN dL_law_2342 ?_
    refine ja_sld (j := 7 * n + 2) hsc rfl (by omega) (by omega) dL_law_2343 ?_
    refine ja_aload_n (i := 0) dL_law_2344 rfl rfl ?_
    refine ja_iload dL_law_2345 rfl ?_
    refine ja_iconst (v := nI 3) dL_law_2347 (by decide +kernel) ?_
    refine ja_iaddN dL_law_2348 ?_
    refine ja_sld (j := 7 * n + 3) hsc rfl (by omega) (by omega) dL_law_2349 ?_
    refine ja_aload_n (i := 0) dL_law_2350 rfl rfl ?_
    refine ja_iload dL_law_2351 rfl ?_
    refine ja_iconst (v := nI 4) dL_law_2353 (by decide +kernel) ?_
    refine ja_iaddN dL_law_2354 ?_
    refine ja_sld (j := 7 * n + 4) hsc rfl (by omega) (by omega) dL_law_2355 ?_
    refine ja_if_eq dL_law_2356 (tgt := 2363) (by decide) (fun c0 => ?_) (fun c0 => absurd e c0)
    refine ja_iconst (v := bI false) dL_law_2363 (by decide +kernel) ?_
    refine ja_aload_n (i := 3) dL_law_2364 rfl rfl ?_
    refine ja_callSW (st := []) hM (ch_L_parent c s) st_L_parent lk_L_259 ⟨Nat.le_of_ble_eq_true rfl, Nat.le_of_ble_eq_true rfl⟩ dL_law_2365 rfl rfl (Nat.le_of_ble_eq_true rfl) (show c9 + c ≤ 603072 by omega) (show s9 + s ≤ 7211114 by omega) (fun _ _ _ h => h.elim) (fun v Z1 D1 hv => ?_)
    obtain ⟨k, hk, rfl, hS1, kr2, hM2, h2⟩ := h1 _ _ _ hv
    refine ja_istore dL_law_2368 rfl (Nat.le_of_ble_eq_true rfl) ?_
    refine ja_aload_n (i := 2) dL_law_2370 rfl rfl ?_
    refine ja_aload_n (i := 0) dL_law_2371 rfl rfl ?_
    refine ja_iload dL_law_2372 rfl ?_
    refine ja_iconst (v := nI 1) dL_law_2374 (by decide +kernel) ?_
    refine ja_iaddN dL_law_2375 ?_
    refine ja_sld (j := 7 * n + 1) hsc rfl (by omega) (by omega) dL_law_2376 ?_
    refine ja_aload_n (i := 0) dL_law_2377 rfl rfl ?_
    refine ja_iload dL_law_2378 rfl ?_
    refine ja_iconst (v := nI 2) dL_law_2380 (by decide +kernel) ?_
    refine ja_iaddN dL_law_2381 ?_
    refine ja_sld (j := 7 * n + 2) hsc rfl (by omega) (by omega) dL_law_2382 ?_
    refine ja_aload_n (i := 0) dL_law_2383 rfl rfl ?_
    refine ja_iload dL_law_2384 rfl ?_
    refine ja_iconst (v := nI 3) dL_law_2386 (by decide +kernel) ?_
    refine ja_iaddN dL_law_2387 ?_
    refine ja_sld (j := 7 * n + 3) hsc rfl (by omega) (by omega) dL_law_2388 ?_
    refine ja_aload_n (i := 0) dL_law_2389 rfl rfl ?_
    refine ja_iload dL_law_2390 rfl ?_
    refine ja_iconst (v := nI 4) dL_law_2392 (by decide +kernel) ?_
    refine ja_iaddN dL_law_2393 ?_
    refine ja_sld (j := 7 * n + 4) hsc rfl (by omega) (by omega) dL_law_2394 ?_
    refine ja_if_eq dL_law_2395 (tgt := 2402) (by decide) (fun c0 => ?_) (fun c0 => absurd e c0)
    refine ja_iconst (v := bI false) dL_law_2402 (by decide +kernel) ?_
    refine ja_callV (av := [.int ((xs (7 * n + 1))), .int ((xs (7 * n + 2))), .int ((xs (7 * n + 3))), .int (bI false)]) (st := []) hM2 (ce_X8_parent 0 0) im_X8_parent se_X8_parent lk_L_262 k_X8 hS1.2.1 ⟨Nat.le_of_ble_eq_true rfl, Nat.le_of_ble_eq_true rfl⟩ dL_law_2403 rfl rfl (Nat.le_of_ble_eq_true rfl) (show c9 + c + 0 ≤ 603072 by omega) (show s9 + s + 0 ≤ 7211114 by omega) (fun _ _ _ h => h.elim) (fun w Z2 D2 hw => ?_)
    obtain ⟨hS2, ht, hJ, b, rfl, ⟨y, rfl⟩, he⟩ := h2 _ _ _ hw
    refine ja_istore dL_law_2406 rfl (Nat.le_of_ble_eq_true rfl) ?_
    refine ja_aload_n (i := 2) dL_law_2408 rfl rfl ?_
    refine ja_cVr (st := []) (s_thrown l hS2.2.1) rfl rfl (ce_X8_thrown 0 0) im_X8_thrown se_X8_thrown lk_L_163 k_X8 hS2.2.1 ⟨Nat.le_of_ble_eq_true rfl, Nat.le_of_ble_eq_true rfl⟩ dL_law_2409 rfl rfl (Nat.le_of_ble_eq_true rfl) (show c9 + c + 0 ≤ 603072 by omega) (show s9 + s + 0 ≤ 7211114 by omega) ?_
    refine ja_top (y := nI k) ht ?_
    refine ja_iload dL_law_2412 rfl ?_
    refine ja_icmp_eq dL_law_2414 (tgt := 2419) (by decide) (fun c0 => ?_) (fun c0 => absurd rfl c0)
    refine ja_iload dL_law_2419 rfl ?_
    refine ja_if_ne dL_law_2421 (tgt := 2436) (by decide) (fun c0 => ?_) (fun c0 => ?_)
    · skip
      refine ja_goto dL_law_2436 (tgt := 3130) (by decide) ?_
      exact la_tail (kk _ _ hJ) (show c9 + c + 0 ≤ c9 + 4 by omega) (show s9 + s + 0 ≤ s9 + 776 by omega)
    · have hk0 := nI_z hk c0
      obtain ⟨y2, hy, hx⟩ := he hk0
      cases hy
      refine ja_aload_n (i := 3) dL_law_2424 rfl rfl ?_
      refine ja_iconst (v := bI false) dL_law_2425 (by decide +kernel) ?_
      refine ja_lald (n := 1) (j := 0) hS2.2.2.1 rfl (by decide) (by decide) dL_law_2426 ?_
      refine ja_iload dL_law_2427 rfl ?_
      refine ja_i2l dL_law_2429 rfl ?_
      refine ja_lcmp dL_law_2430 ?_
      refine ja_top (y := 0) (by rw [hx]; exact lg_cmp_self _) ?_
      refine ja_if_eq dL_law_2431 (tgt := 2436) (by decide) (fun c0 => ?_) (fun c0 => absurd rfl c0)
      refine ja_goto dL_law_2436 (tgt := 3130) (by decide) ?_
      exact la_tail (kk _ _ hJ) (show c9 + c + 0 ≤ c9 + 4 by omega) (show s9 + s + 0 ≤ s9 + 776 by omega)
  · skip
    obtain ⟨c, s, kr1, hc4, hs7, hM, h1⟩ := (hC ((xs (7 * n + 1))) ((xs (7 * n + 2))) ((xs (7 * n + 3))) (true)) n Z D hn hI
    refine ja_aload_n (i := 1) dL_law_2331 rfl rfl ?_
    refine ja_aload_n (i := 0) dL_law_2332 rfl rfl ?_
    refine ja_iload dL_law_2333 rfl ?_
    refine ja_iconst (v := nI 1) dL_law_2335 (by decide +kernel) ?_
    refine ja_iaddN dL_law_2336 ?_
    refine ja_sld (j := 7 * n + 1) hsc rfl (by omega) (by omega) dL_law_2337 ?_
    refine ja_aload_n (i := 0) dL_law_2338 rfl rfl ?_
    refine ja_iload dL_law_2339 rfl ?_
    refine ja_iconst (v := nI 2) dL_law_2341 (by decide +kernel) ?_
    refine ja_iaddN dL_law_2342 ?_
    refine ja_sld (j := 7 * n + 2) hsc rfl (by omega) (by omega) dL_law_2343 ?_
    refine ja_aload_n (i := 0) dL_law_2344 rfl rfl ?_
    refine ja_iload dL_law_2345 rfl ?_
    refine ja_iconst (v := nI 3) dL_law_2347 (by decide +kernel) ?_
    refine ja_iaddN dL_law_2348 ?_
    refine ja_sld (j := 7 * n + 3) hsc rfl (by omega) (by omega) dL_law_2349 ?_
    refine ja_aload_n (i := 0) dL_law_2350 rfl rfl ?_
    refine ja_iload dL_law_2351 rfl ?_
    refine ja_iconst (v := nI 4) dL_law_2353 (by decide +kernel) ?_
    refine ja_iaddN dL_law_2354 ?_
    refine ja_sld (j := 7 * n + 4) hsc rfl (by omega) (by omega) dL_law_2355 ?_
    refine ja_if_eq dL_law_2356 (tgt := 2363) (by decide) (fun c0 => absurd c0 e) (fun c0 => ?_)
    refine ja_iconst (v := bI true) dL_law_2359 (by decide +kernel) ?_
    refine ja_goto dL_law_2360 (tgt := 2364) (by decide) ?_
    refine ja_aload_n (i := 3) dL_law_2364 rfl rfl ?_
    refine ja_callSW (st := []) hM (ch_L_parent c s) st_L_parent lk_L_259 ⟨Nat.le_of_ble_eq_true rfl, Nat.le_of_ble_eq_true rfl⟩ dL_law_2365 rfl rfl (Nat.le_of_ble_eq_true rfl) (show c9 + c ≤ 603072 by omega) (show s9 + s ≤ 7211114 by omega) (fun _ _ _ h => h.elim) (fun v Z1 D1 hv => ?_)
    obtain ⟨k, hk, rfl, hS1, kr2, hM2, h2⟩ := h1 _ _ _ hv
    refine ja_istore dL_law_2368 rfl (Nat.le_of_ble_eq_true rfl) ?_
    refine ja_aload_n (i := 2) dL_law_2370 rfl rfl ?_
    refine ja_aload_n (i := 0) dL_law_2371 rfl rfl ?_
    refine ja_iload dL_law_2372 rfl ?_
    refine ja_iconst (v := nI 1) dL_law_2374 (by decide +kernel) ?_
    refine ja_iaddN dL_law_2375 ?_
    refine ja_sld (j := 7 * n + 1) hsc rfl (by omega) (by omega) dL_law_2376 ?_
    refine ja_aload_n (i := 0) dL_law_2377 rfl rfl ?_
    refine ja_iload dL_law_2378 rfl ?_
    refine ja_iconst (v := nI 2) dL_law_2380 (by decide +kernel) ?_
    refine ja_iaddN dL_law_2381 ?_
    refine ja_sld (j := 7 * n + 2) hsc rfl (by omega) (by omega) dL_law_2382 ?_
    refine ja_aload_n (i := 0) dL_law_2383 rfl rfl ?_
    refine ja_iload dL_law_2384 rfl ?_
    refine ja_iconst (v := nI 3) dL_law_2386 (by decide +kernel) ?_
    refine ja_iaddN dL_law_2387 ?_
    refine ja_sld (j := 7 * n + 3) hsc rfl (by omega) (by omega) dL_law_2388 ?_
    refine ja_aload_n (i := 0) dL_law_2389 rfl rfl ?_
    refine ja_iload dL_law_2390 rfl ?_
    refine ja_iconst (v := nI 4) dL_law_2392 (by decide +kernel) ?_
    refine ja_iaddN dL_law_2393 ?_
    refine ja_sld (j := 7 * n + 4) hsc rfl (by omega) (by omega) dL_law_2394 ?_
    refine ja_if_eq dL_law_2395 (tgt := 2402) (by decide) (fun c0 => absurd c0 e) (fun c0 => ?_)
    refine ja_iconst (v := bI true) dL_law_2398 (by decide +kernel) ?_
    refine ja_goto dL_law_2399 (tgt := 2403) (by decide) ?_
    refine ja_callV (av := [.int ((xs (7 * n + 1))), .int ((xs (7 * n + 2))), .int ((xs (7 * n + 3))), .int (bI true)]) (st := []) hM2 (ce_X8_parent 0 0) im_X8_parent se_X8_parent lk_L_262 k_X8 hS1.2.1 ⟨Nat.le_of_ble_eq_true rfl, Nat.le_of_ble_eq_true rfl⟩ dL_law_2403 rfl rfl (Nat.le_of_ble_eq_true rfl) (show c9 + c + 0 ≤ 603072 by omega) (show s9 + s + 0 ≤ 7211114 by omega) (fun _ _ _ h => h.elim) (fun w Z2 D2 hw => ?_)
    obtain ⟨hS2, ht, hJ, b, rfl, ⟨y, rfl⟩, he⟩ := h2 _ _ _ hw
    refine ja_istore dL_law_2406 rfl (Nat.le_of_ble_eq_true rfl) ?_
    refine ja_aload_n (i := 2) dL_law_2408 rfl rfl ?_
    refine ja_cVr (st := []) (s_thrown l hS2.2.1) rfl rfl (ce_X8_thrown 0 0) im_X8_thrown se_X8_thrown lk_L_163 k_X8 hS2.2.1 ⟨Nat.le_of_ble_eq_true rfl, Nat.le_of_ble_eq_true rfl⟩ dL_law_2409 rfl rfl (Nat.le_of_ble_eq_true rfl) (show c9 + c + 0 ≤ 603072 by omega) (show s9 + s + 0 ≤ 7211114 by omega) ?_
    refine ja_top (y := nI k) ht ?_
    refine ja_iload dL_law_2412 rfl ?_
    refine ja_icmp_eq dL_law_2414 (tgt := 2419) (by decide) (fun c0 => ?_) (fun c0 => absurd rfl c0)
    refine ja_iload dL_law_2419 rfl ?_
    refine ja_if_ne dL_law_2421 (tgt := 2436) (by decide) (fun c0 => ?_) (fun c0 => ?_)
    · skip
      refine ja_goto dL_law_2436 (tgt := 3130) (by decide) ?_
      exact la_tail (kk _ _ hJ) (show c9 + c + 0 ≤ c9 + 4 by omega) (show s9 + s + 0 ≤ s9 + 776 by omega)
    · have hk0 := nI_z hk c0
      obtain ⟨y2, hy, hx⟩ := he hk0
      cases hy
      refine ja_aload_n (i := 3) dL_law_2424 rfl rfl ?_
      refine ja_iconst (v := bI false) dL_law_2425 (by decide +kernel) ?_
      refine ja_lald (n := 1) (j := 0) hS2.2.2.1 rfl (by decide) (by decide) dL_law_2426 ?_
      refine ja_iload dL_law_2427 rfl ?_
      refine ja_i2l dL_law_2429 rfl ?_
      refine ja_lcmp dL_law_2430 ?_
      refine ja_top (y := 0) (by rw [hx]; exact lg_cmp_self _) ?_
      refine ja_if_eq dL_law_2431 (tgt := 2436) (by decide) (fun c0 => ?_) (fun c0 => absurd rfl c0)
      refine ja_goto dL_law_2436 (tgt := 3130) (by decide) ?_
      exact la_tail (kk _ _ hJ) (show c9 + c + 0 ≤ c9 + 4 by omega) (show s9 + s + 0 ≤ s9 + 776 by omega)
theorem la_match (hS : ∀ n Z D, JI n Z D → ja_SH Z) (hC : ∀ (p0 p1 p2 : Int32), ja_JC l JI mL_match mX8_match [.int p0, .int p1, .int p2] 200 ty_i eqv_i) (hsc : sc = (L + 1, xs)) (hL : L ≤ 3584) (h7 : 7 * n + 7 ≤ L) (h4 : c9 + 4 ≤ 603072) (h5 : s9 + 776 ≤ 7211114) (hI : JI n Z D) (kk : ∀ Z2 D2, JI (n + 1) Z2 D2 → ja_A l (mL_law nm tb) sc Qf 28 (la_lv (7 * (n + 1))) [] Z2 D2 (c9 + 4) (s9 + 776)) : ja_A l (mL_law nm tb) sc Qf 2439 (la_lv (7 * n)) [] Z D c9 s9 := by
  have hn : n < 512 := by omega
  obtain ⟨c, s, kr1, hc4, hs7, hM, h1⟩ := (hC ((xs (7 * n + 1))) ((xs (7 * n + 2))) ((xs (7 * n + 3)))) n Z D hn hI
  refine ja_aload_n (i := 1) dL_law_2439 rfl rfl ?_
  refine ja_aload_n (i := 0) dL_law_2440 rfl rfl ?_
  refine ja_iload dL_law_2441 rfl ?_
  refine ja_iconst (v := nI 1) dL_law_2443 (by decide +kernel) ?_
  refine ja_iaddN dL_law_2444 ?_
  refine ja_sld (j := 7 * n + 1) hsc rfl (by omega) (by omega) dL_law_2445 ?_
  refine ja_aload_n (i := 0) dL_law_2446 rfl rfl ?_
  refine ja_iload dL_law_2447 rfl ?_
  refine ja_iconst (v := nI 2) dL_law_2449 (by decide +kernel) ?_
  refine ja_iaddN dL_law_2450 ?_
  refine ja_sld (j := 7 * n + 2) hsc rfl (by omega) (by omega) dL_law_2451 ?_
  refine ja_aload_n (i := 0) dL_law_2452 rfl rfl ?_
  refine ja_iload dL_law_2453 rfl ?_
  refine ja_iconst (v := nI 3) dL_law_2455 (by decide +kernel) ?_
  refine ja_iaddN dL_law_2456 ?_
  refine ja_sld (j := 7 * n + 3) hsc rfl (by omega) (by omega) dL_law_2457 ?_
  refine ja_aload_n (i := 3) dL_law_2458 rfl rfl ?_
  refine ja_callSW (st := []) hM (ch_L_match c s) st_L_match lk_L_263 ⟨Nat.le_of_ble_eq_true rfl, Nat.le_of_ble_eq_true rfl⟩ dL_law_2459 rfl rfl (Nat.le_of_ble_eq_true rfl) (show c9 + c ≤ 603072 by omega) (show s9 + s ≤ 7211114 by omega) (fun _ _ _ h => h.elim) (fun v Z1 D1 hv => ?_)
  obtain ⟨k, hk, rfl, hS1, kr2, hM2, h2⟩ := h1 _ _ _ hv
  refine ja_istore dL_law_2462 rfl (Nat.le_of_ble_eq_true rfl) ?_
  refine ja_aload_n (i := 2) dL_law_2464 rfl rfl ?_
  refine ja_aload_n (i := 0) dL_law_2465 rfl rfl ?_
  refine ja_iload dL_law_2466 rfl ?_
  refine ja_iconst (v := nI 1) dL_law_2468 (by decide +kernel) ?_
  refine ja_iaddN dL_law_2469 ?_
  refine ja_sld (j := 7 * n + 1) hsc rfl (by omega) (by omega) dL_law_2470 ?_
  refine ja_aload_n (i := 0) dL_law_2471 rfl rfl ?_
  refine ja_iload dL_law_2472 rfl ?_
  refine ja_iconst (v := nI 2) dL_law_2474 (by decide +kernel) ?_
  refine ja_iaddN dL_law_2475 ?_
  refine ja_sld (j := 7 * n + 2) hsc rfl (by omega) (by omega) dL_law_2476 ?_
  refine ja_aload_n (i := 0) dL_law_2477 rfl rfl ?_
  refine ja_iload dL_law_2478 rfl ?_
  refine ja_iconst (v := nI 3) dL_law_2480 (by decide +kernel) ?_
  refine ja_iaddN dL_law_2481 ?_
  refine ja_sld (j := 7 * n + 3) hsc rfl (by omega) (by omega) dL_law_2482 ?_
  refine ja_callV (av := [.int ((xs (7 * n + 1))), .int ((xs (7 * n + 2))), .int ((xs (7 * n + 3)))]) (st := []) hM2 (ce_X8_match 0 0) im_X8_match se_X8_match lk_L_265 k_X8 hS1.2.1 ⟨Nat.le_of_ble_eq_true rfl, Nat.le_of_ble_eq_true rfl⟩ dL_law_2483 rfl rfl (Nat.le_of_ble_eq_true rfl) (show c9 + c + 0 ≤ 603072 by omega) (show s9 + s + 0 ≤ 7211114 by omega) (fun _ _ _ h => h.elim) (fun w Z2 D2 hw => ?_)
  obtain ⟨hS2, ht, hJ, b, rfl, ⟨y, rfl⟩, he⟩ := h2 _ _ _ hw
  refine ja_istore dL_law_2486 rfl (Nat.le_of_ble_eq_true rfl) ?_
  refine ja_aload_n (i := 2) dL_law_2488 rfl rfl ?_
  refine ja_cVr (st := []) (s_thrown l hS2.2.1) rfl rfl (ce_X8_thrown 0 0) im_X8_thrown se_X8_thrown lk_L_163 k_X8 hS2.2.1 ⟨Nat.le_of_ble_eq_true rfl, Nat.le_of_ble_eq_true rfl⟩ dL_law_2489 rfl rfl (Nat.le_of_ble_eq_true rfl) (show c9 + c + 0 ≤ 603072 by omega) (show s9 + s + 0 ≤ 7211114 by omega) ?_
  refine ja_top (y := nI k) ht ?_
  refine ja_iload dL_law_2492 rfl ?_
  refine ja_icmp_eq dL_law_2494 (tgt := 2499) (by decide) (fun c0 => ?_) (fun c0 => absurd rfl c0)
  refine ja_iload dL_law_2499 rfl ?_
  refine ja_if_ne dL_law_2501 (tgt := 2516) (by decide) (fun c0 => ?_) (fun c0 => ?_)
  · skip
    refine ja_goto dL_law_2516 (tgt := 3130) (by decide) ?_
    exact la_tail (kk _ _ hJ) (show c9 + c + 0 ≤ c9 + 4 by omega) (show s9 + s + 0 ≤ s9 + 776 by omega)
  · have hk0 := nI_z hk c0
    obtain ⟨y2, hy, hx⟩ := he hk0
    cases hy
    refine ja_aload_n (i := 3) dL_law_2504 rfl rfl ?_
    refine ja_iconst (v := nI 0) dL_law_2505 (by decide +kernel) ?_
    refine ja_lald (n := 1) (j := 0) hS2.2.2.1 rfl (by decide) (by decide) dL_law_2506 ?_
    refine ja_iload dL_law_2507 rfl ?_
    refine ja_i2l dL_law_2509 rfl ?_
    refine ja_lcmp dL_law_2510 ?_
    refine ja_top (y := 0) (by rw [hx]; exact lg_cmp_self _) ?_
    refine ja_if_eq dL_law_2511 (tgt := 2516) (by decide) (fun c0 => ?_) (fun c0 => absurd rfl c0)
    refine ja_goto dL_law_2516 (tgt := 3130) (by decide) ?_
    exact la_tail (kk _ _ hJ) (show c9 + c + 0 ≤ c9 + 4 by omega) (show s9 + s + 0 ≤ s9 + 776 by omega)
theorem la_matchKind (hS : ∀ n Z D, JI n Z D → ja_SH Z) (hC : ∀ (p0 p1 p2 : Int32), ja_JC l JI mL_matchKind mX8_matchKind [.int p0, .int p1, .int p2] 200 ty_i eqv_i) (hsc : sc = (L + 1, xs)) (hL : L ≤ 3584) (h7 : 7 * n + 7 ≤ L) (h4 : c9 + 4 ≤ 603072) (h5 : s9 + 776 ≤ 7211114) (hI : JI n Z D) (kk : ∀ Z2 D2, JI (n + 1) Z2 D2 → ja_A l (mL_law nm tb) sc Qf 28 (la_lv (7 * (n + 1))) [] Z2 D2 (c9 + 4) (s9 + 776)) : ja_A l (mL_law nm tb) sc Qf 2519 (la_lv (7 * n)) [] Z D c9 s9 := by
  have hn : n < 512 := by omega
  obtain ⟨c, s, kr1, hc4, hs7, hM, h1⟩ := (hC ((xs (7 * n + 1))) ((xs (7 * n + 2))) ((xs (7 * n + 3)))) n Z D hn hI
  refine ja_aload_n (i := 1) dL_law_2519 rfl rfl ?_
  refine ja_aload_n (i := 0) dL_law_2520 rfl rfl ?_
  refine ja_iload dL_law_2521 rfl ?_
  refine ja_iconst (v := nI 1) dL_law_2523 (by decide +kernel) ?_
  refine ja_iaddN dL_law_2524 ?_
  refine ja_sld (j := 7 * n + 1) hsc rfl (by omega) (by omega) dL_law_2525 ?_
  refine ja_aload_n (i := 0) dL_law_2526 rfl rfl ?_
  refine ja_iload dL_law_2527 rfl ?_
  refine ja_iconst (v := nI 2) dL_law_2529 (by decide +kernel) ?_
  refine ja_iaddN dL_law_2530 ?_
  refine ja_sld (j := 7 * n + 2) hsc rfl (by omega) (by omega) dL_law_2531 ?_
  refine ja_aload_n (i := 0) dL_law_2532 rfl rfl ?_
  refine ja_iload dL_law_2533 rfl ?_
  refine ja_iconst (v := nI 3) dL_law_2535 (by decide +kernel) ?_
  refine ja_iaddN dL_law_2536 ?_
  refine ja_sld (j := 7 * n + 3) hsc rfl (by omega) (by omega) dL_law_2537 ?_
  refine ja_aload_n (i := 3) dL_law_2538 rfl rfl ?_
  refine ja_callSW (st := []) hM (ch_L_matchKind c s) st_L_matchKind lk_L_266 ⟨Nat.le_of_ble_eq_true rfl, Nat.le_of_ble_eq_true rfl⟩ dL_law_2539 rfl rfl (Nat.le_of_ble_eq_true rfl) (show c9 + c ≤ 603072 by omega) (show s9 + s ≤ 7211114 by omega) (fun _ _ _ h => h.elim) (fun v Z1 D1 hv => ?_)
  obtain ⟨k, hk, rfl, hS1, kr2, hM2, h2⟩ := h1 _ _ _ hv
  refine ja_istore dL_law_2542 rfl (Nat.le_of_ble_eq_true rfl) ?_
  refine ja_aload_n (i := 2) dL_law_2544 rfl rfl ?_
  refine ja_aload_n (i := 0) dL_law_2545 rfl rfl ?_
  refine ja_iload dL_law_2546 rfl ?_
  refine ja_iconst (v := nI 1) dL_law_2548 (by decide +kernel) ?_
  refine ja_iaddN dL_law_2549 ?_
  refine ja_sld (j := 7 * n + 1) hsc rfl (by omega) (by omega) dL_law_2550 ?_
  refine ja_aload_n (i := 0) dL_law_2551 rfl rfl ?_
  refine ja_iload dL_law_2552 rfl ?_
  refine ja_iconst (v := nI 2) dL_law_2554 (by decide +kernel) ?_
  refine ja_iaddN dL_law_2555 ?_
  refine ja_sld (j := 7 * n + 2) hsc rfl (by omega) (by omega) dL_law_2556 ?_
  refine ja_aload_n (i := 0) dL_law_2557 rfl rfl ?_
  refine ja_iload dL_law_2558 rfl ?_
  refine ja_iconst (v := nI 3) dL_law_2560 (by decide +kernel) ?_
  refine ja_iaddN dL_law_2561 ?_
  refine ja_sld (j := 7 * n + 3) hsc rfl (by omega) (by omega) dL_law_2562 ?_
  refine ja_callV (av := [.int ((xs (7 * n + 1))), .int ((xs (7 * n + 2))), .int ((xs (7 * n + 3)))]) (st := []) hM2 (ce_X8_matchKind 0 0) im_X8_matchKind se_X8_matchKind lk_L_268 k_X8 hS1.2.1 ⟨Nat.le_of_ble_eq_true rfl, Nat.le_of_ble_eq_true rfl⟩ dL_law_2563 rfl rfl (Nat.le_of_ble_eq_true rfl) (show c9 + c + 0 ≤ 603072 by omega) (show s9 + s + 0 ≤ 7211114 by omega) (fun _ _ _ h => h.elim) (fun w Z2 D2 hw => ?_)
  obtain ⟨hS2, ht, hJ, b, rfl, ⟨y, rfl⟩, he⟩ := h2 _ _ _ hw
  refine ja_istore dL_law_2566 rfl (Nat.le_of_ble_eq_true rfl) ?_
  refine ja_aload_n (i := 2) dL_law_2568 rfl rfl ?_
  refine ja_cVr (st := []) (s_thrown l hS2.2.1) rfl rfl (ce_X8_thrown 0 0) im_X8_thrown se_X8_thrown lk_L_163 k_X8 hS2.2.1 ⟨Nat.le_of_ble_eq_true rfl, Nat.le_of_ble_eq_true rfl⟩ dL_law_2569 rfl rfl (Nat.le_of_ble_eq_true rfl) (show c9 + c + 0 ≤ 603072 by omega) (show s9 + s + 0 ≤ 7211114 by omega) ?_
  refine ja_top (y := nI k) ht ?_
  refine ja_iload dL_law_2572 rfl ?_
  refine ja_icmp_eq dL_law_2574 (tgt := 2579) (by decide) (fun c0 => ?_) (fun c0 => absurd rfl c0)
  refine ja_iload dL_law_2579 rfl ?_
  refine ja_if_ne dL_law_2581 (tgt := 2596) (by decide) (fun c0 => ?_) (fun c0 => ?_)
  · skip
    refine ja_goto dL_law_2596 (tgt := 3130) (by decide) ?_
    exact la_tail (kk _ _ hJ) (show c9 + c + 0 ≤ c9 + 4 by omega) (show s9 + s + 0 ≤ s9 + 776 by omega)
  · have hk0 := nI_z hk c0
    obtain ⟨y2, hy, hx⟩ := he hk0
    cases hy
    refine ja_aload_n (i := 3) dL_law_2584 rfl rfl ?_
    refine ja_iconst (v := nI 0) dL_law_2585 (by decide +kernel) ?_
    refine ja_lald (n := 1) (j := 0) hS2.2.2.1 rfl (by decide) (by decide) dL_law_2586 ?_
    refine ja_iload dL_law_2587 rfl ?_
    refine ja_i2l dL_law_2589 rfl ?_
    refine ja_lcmp dL_law_2590 ?_
    refine ja_top (y := 0) (by rw [hx]; exact lg_cmp_self _) ?_
    refine ja_if_eq dL_law_2591 (tgt := 2596) (by decide) (fun c0 => ?_) (fun c0 => absurd rfl c0)
    refine ja_goto dL_law_2596 (tgt := 3130) (by decide) ?_
    exact la_tail (kk _ _ hJ) (show c9 + c + 0 ≤ c9 + 4 by omega) (show s9 + s + 0 ≤ s9 + 776 by omega)
theorem la_coarse (hS : ∀ n Z D, JI n Z D → ja_SH Z) (hC : ∀ (p0 p1 p2 : Int32), ja_JC l JI mL_coarse mX8_coarse [.int p0, .int p1, .int p2] 200 ty_i eqv_i) (hsc : sc = (L + 1, xs)) (hL : L ≤ 3584) (h7 : 7 * n + 7 ≤ L) (h4 : c9 + 4 ≤ 603072) (h5 : s9 + 776 ≤ 7211114) (hI : JI n Z D) (kk : ∀ Z2 D2, JI (n + 1) Z2 D2 → ja_A l (mL_law nm tb) sc Qf 28 (la_lv (7 * (n + 1))) [] Z2 D2 (c9 + 4) (s9 + 776)) : ja_A l (mL_law nm tb) sc Qf 2599 (la_lv (7 * n)) [] Z D c9 s9 := by
  have hn : n < 512 := by omega
  obtain ⟨c, s, kr1, hc4, hs7, hM, h1⟩ := (hC ((xs (7 * n + 1))) ((xs (7 * n + 2))) ((xs (7 * n + 3)))) n Z D hn hI
  refine ja_aload_n (i := 1) dL_law_2599 rfl rfl ?_
  refine ja_aload_n (i := 0) dL_law_2600 rfl rfl ?_
  refine ja_iload dL_law_2601 rfl ?_
  refine ja_iconst (v := nI 1) dL_law_2603 (by decide +kernel) ?_
  refine ja_iaddN dL_law_2604 ?_
  refine ja_sld (j := 7 * n + 1) hsc rfl (by omega) (by omega) dL_law_2605 ?_
  refine ja_aload_n (i := 0) dL_law_2606 rfl rfl ?_
  refine ja_iload dL_law_2607 rfl ?_
  refine ja_iconst (v := nI 2) dL_law_2609 (by decide +kernel) ?_
  refine ja_iaddN dL_law_2610 ?_
  refine ja_sld (j := 7 * n + 2) hsc rfl (by omega) (by omega) dL_law_2611 ?_
  refine ja_aload_n (i := 0) dL_law_2612 rfl rfl ?_
  refine ja_iload dL_law_2613 rfl ?_
  refine ja_iconst (v := nI 3) dL_law_2615 (by decide +kernel) ?_
  refine ja_iaddN dL_law_2616 ?_
  refine ja_sld (j := 7 * n + 3) hsc rfl (by omega) (by omega) dL_law_2617 ?_
  refine ja_aload_n (i := 3) dL_law_2618 rfl rfl ?_
  refine ja_callSW (st := []) hM (ch_L_coarse c s) st_L_coarse lk_L_269 ⟨Nat.le_of_ble_eq_true rfl, Nat.le_of_ble_eq_true rfl⟩ dL_law_2619 rfl rfl (Nat.le_of_ble_eq_true rfl) (show c9 + c ≤ 603072 by omega) (show s9 + s ≤ 7211114 by omega) (fun _ _ _ h => h.elim) (fun v Z1 D1 hv => ?_)
  obtain ⟨k, hk, rfl, hS1, kr2, hM2, h2⟩ := h1 _ _ _ hv
  refine ja_istore dL_law_2622 rfl (Nat.le_of_ble_eq_true rfl) ?_
  refine ja_aload_n (i := 2) dL_law_2624 rfl rfl ?_
  refine ja_aload_n (i := 0) dL_law_2625 rfl rfl ?_
  refine ja_iload dL_law_2626 rfl ?_
  refine ja_iconst (v := nI 1) dL_law_2628 (by decide +kernel) ?_
  refine ja_iaddN dL_law_2629 ?_
  refine ja_sld (j := 7 * n + 1) hsc rfl (by omega) (by omega) dL_law_2630 ?_
  refine ja_aload_n (i := 0) dL_law_2631 rfl rfl ?_
  refine ja_iload dL_law_2632 rfl ?_
  refine ja_iconst (v := nI 2) dL_law_2634 (by decide +kernel) ?_
  refine ja_iaddN dL_law_2635 ?_
  refine ja_sld (j := 7 * n + 2) hsc rfl (by omega) (by omega) dL_law_2636 ?_
  refine ja_aload_n (i := 0) dL_law_2637 rfl rfl ?_
  refine ja_iload dL_law_2638 rfl ?_
  refine ja_iconst (v := nI 3) dL_law_2640 (by decide +kernel) ?_
  refine ja_iaddN dL_law_2641 ?_
  refine ja_sld (j := 7 * n + 3) hsc rfl (by omega) (by omega) dL_law_2642 ?_
  refine ja_callV (av := [.int ((xs (7 * n + 1))), .int ((xs (7 * n + 2))), .int ((xs (7 * n + 3)))]) (st := []) hM2 (ce_X8_coarse 0 0) im_X8_coarse se_X8_coarse lk_L_271 k_X8 hS1.2.1 ⟨Nat.le_of_ble_eq_true rfl, Nat.le_of_ble_eq_true rfl⟩ dL_law_2643 rfl rfl (Nat.le_of_ble_eq_true rfl) (show c9 + c + 0 ≤ 603072 by omega) (show s9 + s + 0 ≤ 7211114 by omega) (fun _ _ _ h => h.elim) (fun w Z2 D2 hw => ?_)
  obtain ⟨hS2, ht, hJ, b, rfl, ⟨y, rfl⟩, he⟩ := h2 _ _ _ hw
  refine ja_istore dL_law_2646 rfl (Nat.le_of_ble_eq_true rfl) ?_
  refine ja_aload_n (i := 2) dL_law_2648 rfl rfl ?_
  refine ja_cVr (st := []) (s_thrown l hS2.2.1) rfl rfl (ce_X8_thrown 0 0) im_X8_thrown se_X8_thrown lk_L_163 k_X8 hS2.2.1 ⟨Nat.le_of_ble_eq_true rfl, Nat.le_of_ble_eq_true rfl⟩ dL_law_2649 rfl rfl (Nat.le_of_ble_eq_true rfl) (show c9 + c + 0 ≤ 603072 by omega) (show s9 + s + 0 ≤ 7211114 by omega) ?_
  refine ja_top (y := nI k) ht ?_
  refine ja_iload dL_law_2652 rfl ?_
  refine ja_icmp_eq dL_law_2654 (tgt := 2659) (by decide) (fun c0 => ?_) (fun c0 => absurd rfl c0)
  refine ja_iload dL_law_2659 rfl ?_
  refine ja_if_ne dL_law_2661 (tgt := 2676) (by decide) (fun c0 => ?_) (fun c0 => ?_)
  · skip
    refine ja_goto dL_law_2676 (tgt := 3130) (by decide) ?_
    exact la_tail (kk _ _ hJ) (show c9 + c + 0 ≤ c9 + 4 by omega) (show s9 + s + 0 ≤ s9 + 776 by omega)
  · have hk0 := nI_z hk c0
    obtain ⟨y2, hy, hx⟩ := he hk0
    cases hy
    refine ja_aload_n (i := 3) dL_law_2664 rfl rfl ?_
    refine ja_iconst (v := nI 0) dL_law_2665 (by decide +kernel) ?_
    refine ja_lald (n := 1) (j := 0) hS2.2.2.1 rfl (by decide) (by decide) dL_law_2666 ?_
    refine ja_iload dL_law_2667 rfl ?_
    refine ja_i2l dL_law_2669 rfl ?_
    refine ja_lcmp dL_law_2670 ?_
    refine ja_top (y := 0) (by rw [hx]; exact lg_cmp_self _) ?_
    refine ja_if_eq dL_law_2671 (tgt := 2676) (by decide) (fun c0 => ?_) (fun c0 => absurd rfl c0)
    refine ja_goto dL_law_2676 (tgt := 3130) (by decide) ?_
    exact la_tail (kk _ _ hJ) (show c9 + c + 0 ≤ c9 + 4 by omega) (show s9 + s + 0 ≤ s9 + 776 by omega)
theorem la_coarseAreas (hS : ∀ n Z D, JI n Z D → ja_SH Z) (hC : ∀ (p0 p1 : Int32), ja_JC l JI mL_coarseAreas mX8_coarseAreas [.int p0, .int p1] 200 ty_i eqv_i) (hsc : sc = (L + 1, xs)) (hL : L ≤ 3584) (h7 : 7 * n + 7 ≤ L) (h4 : c9 + 4 ≤ 603072) (h5 : s9 + 776 ≤ 7211114) (hI : JI n Z D) (kk : ∀ Z2 D2, JI (n + 1) Z2 D2 → ja_A l (mL_law nm tb) sc Qf 28 (la_lv (7 * (n + 1))) [] Z2 D2 (c9 + 4) (s9 + 776)) : ja_A l (mL_law nm tb) sc Qf 2679 (la_lv (7 * n)) [] Z D c9 s9 := by
  have hn : n < 512 := by omega
  obtain ⟨c, s, kr1, hc4, hs7, hM, h1⟩ := (hC ((xs (7 * n + 1))) ((xs (7 * n + 2)))) n Z D hn hI
  refine ja_aload_n (i := 1) dL_law_2679 rfl rfl ?_
  refine ja_aload_n (i := 0) dL_law_2680 rfl rfl ?_
  refine ja_iload dL_law_2681 rfl ?_
  refine ja_iconst (v := nI 1) dL_law_2683 (by decide +kernel) ?_
  refine ja_iaddN dL_law_2684 ?_
  refine ja_sld (j := 7 * n + 1) hsc rfl (by omega) (by omega) dL_law_2685 ?_
  refine ja_aload_n (i := 0) dL_law_2686 rfl rfl ?_
  refine ja_iload dL_law_2687 rfl ?_
  refine ja_iconst (v := nI 2) dL_law_2689 (by decide +kernel) ?_
  refine ja_iaddN dL_law_2690 ?_
  refine ja_sld (j := 7 * n + 2) hsc rfl (by omega) (by omega) dL_law_2691 ?_
  refine ja_aload_n (i := 3) dL_law_2692 rfl rfl ?_
  refine ja_callSW (st := []) hM (ch_L_coarseAreas c s) st_L_coarseAreas lk_L_272 ⟨Nat.le_of_ble_eq_true rfl, Nat.le_of_ble_eq_true rfl⟩ dL_law_2693 rfl rfl (Nat.le_of_ble_eq_true rfl) (show c9 + c ≤ 603072 by omega) (show s9 + s ≤ 7211114 by omega) (fun _ _ _ h => h.elim) (fun v Z1 D1 hv => ?_)
  obtain ⟨k, hk, rfl, hS1, kr2, hM2, h2⟩ := h1 _ _ _ hv
  refine ja_istore dL_law_2696 rfl (Nat.le_of_ble_eq_true rfl) ?_
  refine ja_aload_n (i := 2) dL_law_2698 rfl rfl ?_
  refine ja_aload_n (i := 0) dL_law_2699 rfl rfl ?_
  refine ja_iload dL_law_2700 rfl ?_
  refine ja_iconst (v := nI 1) dL_law_2702 (by decide +kernel) ?_
  refine ja_iaddN dL_law_2703 ?_
  refine ja_sld (j := 7 * n + 1) hsc rfl (by omega) (by omega) dL_law_2704 ?_
  refine ja_aload_n (i := 0) dL_law_2705 rfl rfl ?_
  refine ja_iload dL_law_2706 rfl ?_
  refine ja_iconst (v := nI 2) dL_law_2708 (by decide +kernel) ?_
  refine ja_iaddN dL_law_2709 ?_
  refine ja_sld (j := 7 * n + 2) hsc rfl (by omega) (by omega) dL_law_2710 ?_
  refine ja_callV (av := [.int ((xs (7 * n + 1))), .int ((xs (7 * n + 2)))]) (st := []) hM2 (ce_X8_coarseAreas 0 0) im_X8_coarseAreas se_X8_coarseAreas lk_L_274 k_X8 hS1.2.1 ⟨Nat.le_of_ble_eq_true rfl, Nat.le_of_ble_eq_true rfl⟩ dL_law_2711 rfl rfl (Nat.le_of_ble_eq_true rfl) (show c9 + c + 0 ≤ 603072 by omega) (show s9 + s + 0 ≤ 7211114 by omega) (fun _ _ _ h => h.elim) (fun w Z2 D2 hw => ?_)
  obtain ⟨hS2, ht, hJ, b, rfl, ⟨y, rfl⟩, he⟩ := h2 _ _ _ hw
  refine ja_istore dL_law_2714 rfl (Nat.le_of_ble_eq_true rfl) ?_
  refine ja_aload_n (i := 2) dL_law_2716 rfl rfl ?_
  refine ja_cVr (st := []) (s_thrown l hS2.2.1) rfl rfl (ce_X8_thrown 0 0) im_X8_thrown se_X8_thrown lk_L_163 k_X8 hS2.2.1 ⟨Nat.le_of_ble_eq_true rfl, Nat.le_of_ble_eq_true rfl⟩ dL_law_2717 rfl rfl (Nat.le_of_ble_eq_true rfl) (show c9 + c + 0 ≤ 603072 by omega) (show s9 + s + 0 ≤ 7211114 by omega) ?_
  refine ja_top (y := nI k) ht ?_
  refine ja_iload dL_law_2720 rfl ?_
  refine ja_icmp_eq dL_law_2722 (tgt := 2727) (by decide) (fun c0 => ?_) (fun c0 => absurd rfl c0)
  refine ja_iload dL_law_2727 rfl ?_
  refine ja_if_ne dL_law_2729 (tgt := 2744) (by decide) (fun c0 => ?_) (fun c0 => ?_)
  · skip
    refine ja_goto dL_law_2744 (tgt := 3130) (by decide) ?_
    exact la_tail (kk _ _ hJ) (show c9 + c + 0 ≤ c9 + 4 by omega) (show s9 + s + 0 ≤ s9 + 776 by omega)
  · have hk0 := nI_z hk c0
    obtain ⟨y2, hy, hx⟩ := he hk0
    cases hy
    refine ja_aload_n (i := 3) dL_law_2732 rfl rfl ?_
    refine ja_iconst (v := nI 0) dL_law_2733 (by decide +kernel) ?_
    refine ja_lald (n := 1) (j := 0) hS2.2.2.1 rfl (by decide) (by decide) dL_law_2734 ?_
    refine ja_iload dL_law_2735 rfl ?_
    refine ja_i2l dL_law_2737 rfl ?_
    refine ja_lcmp dL_law_2738 ?_
    refine ja_top (y := 0) (by rw [hx]; exact lg_cmp_self _) ?_
    refine ja_if_eq dL_law_2739 (tgt := 2744) (by decide) (fun c0 => ?_) (fun c0 => absurd rfl c0)
    refine ja_goto dL_law_2744 (tgt := 3130) (by decide) ?_
    exact la_tail (kk _ _ hJ) (show c9 + c + 0 ≤ c9 + 4 by omega) (show s9 + s + 0 ≤ s9 + 776 by omega)
theorem la_name (hS : ∀ n Z D, JI n Z D → ja_SH Z) (hC : ∀ (p0 p1 p2 : Int32), ja_JC l JI mL_name mX8_name [.int p0, .int p1, .int p2] 200 ty_i eqv_i) (hsc : sc = (L + 1, xs)) (hL : L ≤ 3584) (h7 : 7 * n + 7 ≤ L) (h4 : c9 + 4 ≤ 603072) (h5 : s9 + 776 ≤ 7211114) (hI : JI n Z D) (kk : ∀ Z2 D2, JI (n + 1) Z2 D2 → ja_A l (mL_law nm tb) sc Qf 28 (la_lv (7 * (n + 1))) [] Z2 D2 (c9 + 4) (s9 + 776)) : ja_A l (mL_law nm tb) sc Qf 2747 (la_lv (7 * n)) [] Z D c9 s9 := by
  have hn : n < 512 := by omega
  obtain ⟨c, s, kr1, hc4, hs7, hM, h1⟩ := (hC ((xs (7 * n + 1))) ((xs (7 * n + 2))) ((xs (7 * n + 3)))) n Z D hn hI
  refine ja_aload_n (i := 1) dL_law_2747 rfl rfl ?_
  refine ja_aload_n (i := 0) dL_law_2748 rfl rfl ?_
  refine ja_iload dL_law_2749 rfl ?_
  refine ja_iconst (v := nI 1) dL_law_2751 (by decide +kernel) ?_
  refine ja_iaddN dL_law_2752 ?_
  refine ja_sld (j := 7 * n + 1) hsc rfl (by omega) (by omega) dL_law_2753 ?_
  refine ja_aload_n (i := 0) dL_law_2754 rfl rfl ?_
  refine ja_iload dL_law_2755 rfl ?_
  refine ja_iconst (v := nI 2) dL_law_2757 (by decide +kernel) ?_
  refine ja_iaddN dL_law_2758 ?_
  refine ja_sld (j := 7 * n + 2) hsc rfl (by omega) (by omega) dL_law_2759 ?_
  refine ja_aload_n (i := 0) dL_law_2760 rfl rfl ?_
  refine ja_iload dL_law_2761 rfl ?_
  refine ja_iconst (v := nI 3) dL_law_2763 (by decide +kernel) ?_
  refine ja_iaddN dL_law_2764 ?_
  refine ja_sld (j := 7 * n + 3) hsc rfl (by omega) (by omega) dL_law_2765 ?_
  refine ja_aload_n (i := 3) dL_law_2766 rfl rfl ?_
  refine ja_callSW (st := []) hM (ch_L_name c s) st_L_name lk_L_275 ⟨Nat.le_of_ble_eq_true rfl, Nat.le_of_ble_eq_true rfl⟩ dL_law_2767 rfl rfl (Nat.le_of_ble_eq_true rfl) (show c9 + c ≤ 603072 by omega) (show s9 + s ≤ 7211114 by omega) (fun _ _ _ h => h.elim) (fun v Z1 D1 hv => ?_)
  obtain ⟨k, hk, rfl, hS1, kr2, hM2, h2⟩ := h1 _ _ _ hv
  refine ja_istore dL_law_2770 rfl (Nat.le_of_ble_eq_true rfl) ?_
  refine ja_aload_n (i := 2) dL_law_2772 rfl rfl ?_
  refine ja_aload_n (i := 0) dL_law_2773 rfl rfl ?_
  refine ja_iload dL_law_2774 rfl ?_
  refine ja_iconst (v := nI 1) dL_law_2776 (by decide +kernel) ?_
  refine ja_iaddN dL_law_2777 ?_
  refine ja_sld (j := 7 * n + 1) hsc rfl (by omega) (by omega) dL_law_2778 ?_
  refine ja_aload_n (i := 0) dL_law_2779 rfl rfl ?_
  refine ja_iload dL_law_2780 rfl ?_
  refine ja_iconst (v := nI 2) dL_law_2782 (by decide +kernel) ?_
  refine ja_iaddN dL_law_2783 ?_
  refine ja_sld (j := 7 * n + 2) hsc rfl (by omega) (by omega) dL_law_2784 ?_
  refine ja_aload_n (i := 0) dL_law_2785 rfl rfl ?_
  refine ja_iload dL_law_2786 rfl ?_
  refine ja_iconst (v := nI 3) dL_law_2788 (by decide +kernel) ?_
  refine ja_iaddN dL_law_2789 ?_
  refine ja_sld (j := 7 * n + 3) hsc rfl (by omega) (by omega) dL_law_2790 ?_
  refine ja_callV (av := [.int ((xs (7 * n + 1))), .int ((xs (7 * n + 2))), .int ((xs (7 * n + 3)))]) (st := []) hM2 (ce_X8_name 0 0) im_X8_name se_X8_name lk_L_277 k_X8 hS1.2.1 ⟨Nat.le_of_ble_eq_true rfl, Nat.le_of_ble_eq_true rfl⟩ dL_law_2791 rfl rfl (Nat.le_of_ble_eq_true rfl) (show c9 + c + 0 ≤ 603072 by omega) (show s9 + s + 0 ≤ 7211114 by omega) (fun _ _ _ h => h.elim) (fun w Z2 D2 hw => ?_)
  obtain ⟨hS2, ht, hJ, b, rfl, ⟨y, rfl⟩, he⟩ := h2 _ _ _ hw
  refine ja_istore dL_law_2794 rfl (Nat.le_of_ble_eq_true rfl) ?_
  refine ja_aload_n (i := 2) dL_law_2796 rfl rfl ?_
  refine ja_cVr (st := []) (s_thrown l hS2.2.1) rfl rfl (ce_X8_thrown 0 0) im_X8_thrown se_X8_thrown lk_L_163 k_X8 hS2.2.1 ⟨Nat.le_of_ble_eq_true rfl, Nat.le_of_ble_eq_true rfl⟩ dL_law_2797 rfl rfl (Nat.le_of_ble_eq_true rfl) (show c9 + c + 0 ≤ 603072 by omega) (show s9 + s + 0 ≤ 7211114 by omega) ?_
  refine ja_top (y := nI k) ht ?_
  refine ja_iload dL_law_2800 rfl ?_
  refine ja_icmp_eq dL_law_2802 (tgt := 2807) (by decide) (fun c0 => ?_) (fun c0 => absurd rfl c0)
  refine ja_iload dL_law_2807 rfl ?_
  refine ja_if_ne dL_law_2809 (tgt := 2824) (by decide) (fun c0 => ?_) (fun c0 => ?_)
  · skip
    refine ja_goto dL_law_2824 (tgt := 3130) (by decide) ?_
    exact la_tail (kk _ _ hJ) (show c9 + c + 0 ≤ c9 + 4 by omega) (show s9 + s + 0 ≤ s9 + 776 by omega)
  · have hk0 := nI_z hk c0
    obtain ⟨y2, hy, hx⟩ := he hk0
    cases hy
    refine ja_aload_n (i := 3) dL_law_2812 rfl rfl ?_
    refine ja_iconst (v := nI 0) dL_law_2813 (by decide +kernel) ?_
    refine ja_lald (n := 1) (j := 0) hS2.2.2.1 rfl (by decide) (by decide) dL_law_2814 ?_
    refine ja_iload dL_law_2815 rfl ?_
    refine ja_i2l dL_law_2817 rfl ?_
    refine ja_lcmp dL_law_2818 ?_
    refine ja_top (y := 0) (by rw [hx]; exact lg_cmp_self _) ?_
    refine ja_if_eq dL_law_2819 (tgt := 2824) (by decide) (fun c0 => ?_) (fun c0 => absurd rfl c0)
    refine ja_goto dL_law_2824 (tgt := 3130) (by decide) ?_
    exact la_tail (kk _ _ hJ) (show c9 + c + 0 ≤ c9 + 4 by omega) (show s9 + s + 0 ≤ s9 + 776 by omega)
theorem la_placeOf (hS : ∀ n Z D, JI n Z D → ja_SH Z) (hC : ∀ (p0 p1 : Int32), ja_JC l JI mL_placeOf mX8_placeOf [.int p0, .int p1] 200 ty_i eqv_i) (hsc : sc = (L + 1, xs)) (hL : L ≤ 3584) (h7 : 7 * n + 7 ≤ L) (h4 : c9 + 4 ≤ 603072) (h5 : s9 + 776 ≤ 7211114) (hI : JI n Z D) (kk : ∀ Z2 D2, JI (n + 1) Z2 D2 → ja_A l (mL_law nm tb) sc Qf 28 (la_lv (7 * (n + 1))) [] Z2 D2 (c9 + 4) (s9 + 776)) : ja_A l (mL_law nm tb) sc Qf 2827 (la_lv (7 * n)) [] Z D c9 s9 := by
  have hn : n < 512 := by omega
  obtain ⟨c, s, kr1, hc4, hs7, hM, h1⟩ := (hC ((xs (7 * n + 1))) ((xs (7 * n + 2)))) n Z D hn hI
  refine ja_aload_n (i := 1) dL_law_2827 rfl rfl ?_
  refine ja_aload_n (i := 0) dL_law_2828 rfl rfl ?_
  refine ja_iload dL_law_2829 rfl ?_
  refine ja_iconst (v := nI 1) dL_law_2831 (by decide +kernel) ?_
  refine ja_iaddN dL_law_2832 ?_
  refine ja_sld (j := 7 * n + 1) hsc rfl (by omega) (by omega) dL_law_2833 ?_
  refine ja_aload_n (i := 0) dL_law_2834 rfl rfl ?_
  refine ja_iload dL_law_2835 rfl ?_
  refine ja_iconst (v := nI 2) dL_law_2837 (by decide +kernel) ?_
  refine ja_iaddN dL_law_2838 ?_
  refine ja_sld (j := 7 * n + 2) hsc rfl (by omega) (by omega) dL_law_2839 ?_
  refine ja_aload_n (i := 3) dL_law_2840 rfl rfl ?_
  refine ja_callSW (st := []) hM (ch_L_placeOf c s) st_L_placeOf lk_L_278 ⟨Nat.le_of_ble_eq_true rfl, Nat.le_of_ble_eq_true rfl⟩ dL_law_2841 rfl rfl (Nat.le_of_ble_eq_true rfl) (show c9 + c ≤ 603072 by omega) (show s9 + s ≤ 7211114 by omega) (fun _ _ _ h => h.elim) (fun v Z1 D1 hv => ?_)
  obtain ⟨k, hk, rfl, hS1, kr2, hM2, h2⟩ := h1 _ _ _ hv
  refine ja_istore dL_law_2844 rfl (Nat.le_of_ble_eq_true rfl) ?_
  refine ja_aload_n (i := 2) dL_law_2846 rfl rfl ?_
  refine ja_aload_n (i := 0) dL_law_2847 rfl rfl ?_
  refine ja_iload dL_law_2848 rfl ?_
  refine ja_iconst (v := nI 1) dL_law_2850 (by decide +kernel) ?_
  refine ja_iaddN dL_law_2851 ?_
  refine ja_sld (j := 7 * n + 1) hsc rfl (by omega) (by omega) dL_law_2852 ?_
  refine ja_aload_n (i := 0) dL_law_2853 rfl rfl ?_
  refine ja_iload dL_law_2854 rfl ?_
  refine ja_iconst (v := nI 2) dL_law_2856 (by decide +kernel) ?_
  refine ja_iaddN dL_law_2857 ?_
  refine ja_sld (j := 7 * n + 2) hsc rfl (by omega) (by omega) dL_law_2858 ?_
  refine ja_callV (av := [.int ((xs (7 * n + 1))), .int ((xs (7 * n + 2)))]) (st := []) hM2 (ce_X8_placeOf 0 0) im_X8_placeOf se_X8_placeOf lk_L_280 k_X8 hS1.2.1 ⟨Nat.le_of_ble_eq_true rfl, Nat.le_of_ble_eq_true rfl⟩ dL_law_2859 rfl rfl (Nat.le_of_ble_eq_true rfl) (show c9 + c + 0 ≤ 603072 by omega) (show s9 + s + 0 ≤ 7211114 by omega) (fun _ _ _ h => h.elim) (fun w Z2 D2 hw => ?_)
  obtain ⟨hS2, ht, hJ, b, rfl, ⟨y, rfl⟩, he⟩ := h2 _ _ _ hw
  refine ja_istore dL_law_2862 rfl (Nat.le_of_ble_eq_true rfl) ?_
  refine ja_aload_n (i := 2) dL_law_2864 rfl rfl ?_
  refine ja_cVr (st := []) (s_thrown l hS2.2.1) rfl rfl (ce_X8_thrown 0 0) im_X8_thrown se_X8_thrown lk_L_163 k_X8 hS2.2.1 ⟨Nat.le_of_ble_eq_true rfl, Nat.le_of_ble_eq_true rfl⟩ dL_law_2865 rfl rfl (Nat.le_of_ble_eq_true rfl) (show c9 + c + 0 ≤ 603072 by omega) (show s9 + s + 0 ≤ 7211114 by omega) ?_
  refine ja_top (y := nI k) ht ?_
  refine ja_iload dL_law_2868 rfl ?_
  refine ja_icmp_eq dL_law_2870 (tgt := 2875) (by decide) (fun c0 => ?_) (fun c0 => absurd rfl c0)
  refine ja_iload dL_law_2875 rfl ?_
  refine ja_if_ne dL_law_2877 (tgt := 2892) (by decide) (fun c0 => ?_) (fun c0 => ?_)
  · skip
    refine ja_goto dL_law_2892 (tgt := 3130) (by decide) ?_
    exact la_tail (kk _ _ hJ) (show c9 + c + 0 ≤ c9 + 4 by omega) (show s9 + s + 0 ≤ s9 + 776 by omega)
  · have hk0 := nI_z hk c0
    obtain ⟨y2, hy, hx⟩ := he hk0
    cases hy
    refine ja_aload_n (i := 3) dL_law_2880 rfl rfl ?_
    refine ja_iconst (v := nI 0) dL_law_2881 (by decide +kernel) ?_
    refine ja_lald (n := 1) (j := 0) hS2.2.2.1 rfl (by decide) (by decide) dL_law_2882 ?_
    refine ja_iload dL_law_2883 rfl ?_
    refine ja_i2l dL_law_2885 rfl ?_
    refine ja_lcmp dL_law_2886 ?_
    refine ja_top (y := 0) (by rw [hx]; exact lg_cmp_self _) ?_
    refine ja_if_eq dL_law_2887 (tgt := 2892) (by decide) (fun c0 => ?_) (fun c0 => absurd rfl c0)
    refine ja_goto dL_law_2892 (tgt := 3130) (by decide) ?_
    exact la_tail (kk _ _ hJ) (show c9 + c + 0 ≤ c9 + 4 by omega) (show s9 + s + 0 ≤ s9 + 776 by omega)
theorem la_values (hS : ∀ n Z D, JI n Z D → ja_SH Z) (hC : ∀ (p0 : Int32), ja_JC l JI mL_values mX8_values [.int p0] 200 ty_l eqv_l) (hsc : sc = (L + 1, xs)) (hL : L ≤ 3584) (h7 : 7 * n + 7 ≤ L) (h4 : c9 + 4 ≤ 603072) (h5 : s9 + 776 ≤ 7211114) (hI : JI n Z D) (kk : ∀ Z2 D2, JI (n + 1) Z2 D2 → ja_A l (mL_law nm tb) sc Qf 28 (la_lv (7 * (n + 1))) [] Z2 D2 (c9 + 4) (s9 + 776)) : ja_A l (mL_law nm tb) sc Qf 2895 (la_lv (7 * n)) [] Z D c9 s9 := by
  have hn : n < 512 := by omega
  obtain ⟨c, s, kr1, hc4, hs7, hM, h1⟩ := (hC ((xs (7 * n + 1)))) n Z D hn hI
  refine ja_aload_n (i := 1) dL_law_2895 rfl rfl ?_
  refine ja_aload_n (i := 0) dL_law_2896 rfl rfl ?_
  refine ja_iload dL_law_2897 rfl ?_
  refine ja_iconst (v := nI 1) dL_law_2899 (by decide +kernel) ?_
  refine ja_iaddN dL_law_2900 ?_
  refine ja_sld (j := 7 * n + 1) hsc rfl (by omega) (by omega) dL_law_2901 ?_
  refine ja_aload_n (i := 3) dL_law_2902 rfl rfl ?_
  refine ja_callSW (st := []) hM (ch_L_values c s) st_L_values lk_L_281 ⟨Nat.le_of_ble_eq_true rfl, Nat.le_of_ble_eq_true rfl⟩ dL_law_2903 rfl rfl (Nat.le_of_ble_eq_true rfl) (show c9 + c ≤ 603072 by omega) (show s9 + s ≤ 7211114 by omega) (fun _ _ _ h => h.elim) (fun v Z1 D1 hv => ?_)
  obtain ⟨k, hk, rfl, hS1, kr2, hM2, h2⟩ := h1 _ _ _ hv
  refine ja_istore dL_law_2906 rfl (Nat.le_of_ble_eq_true rfl) ?_
  refine ja_aload_n (i := 2) dL_law_2908 rfl rfl ?_
  refine ja_aload_n (i := 0) dL_law_2909 rfl rfl ?_
  refine ja_iload dL_law_2910 rfl ?_
  refine ja_iconst (v := nI 1) dL_law_2912 (by decide +kernel) ?_
  refine ja_iaddN dL_law_2913 ?_
  refine ja_sld (j := 7 * n + 1) hsc rfl (by omega) (by omega) dL_law_2914 ?_
  refine ja_callV (av := [.int ((xs (7 * n + 1)))]) (st := []) hM2 (ce_X8_values 0 0) im_X8_values se_X8_values lk_L_283 k_X8 hS1.2.1 ⟨Nat.le_of_ble_eq_true rfl, Nat.le_of_ble_eq_true rfl⟩ dL_law_2915 rfl rfl (Nat.le_of_ble_eq_true rfl) (show c9 + c + 0 ≤ 603072 by omega) (show s9 + s + 0 ≤ 7211114 by omega) (fun _ _ _ h => h.elim) (fun w Z2 D2 hw => ?_)
  obtain ⟨hS2, ht, hJ, b, rfl, ⟨y, rfl⟩, he⟩ := h2 _ _ _ hw
  refine ja_lstore dL_law_2918 rfl (Nat.le_of_ble_eq_true rfl) ?_
  refine ja_aload_n (i := 2) dL_law_2920 rfl rfl ?_
  refine ja_cVr (st := []) (s_thrown l hS2.2.1) rfl rfl (ce_X8_thrown 0 0) im_X8_thrown se_X8_thrown lk_L_163 k_X8 hS2.2.1 ⟨Nat.le_of_ble_eq_true rfl, Nat.le_of_ble_eq_true rfl⟩ dL_law_2921 rfl rfl (Nat.le_of_ble_eq_true rfl) (show c9 + c + 0 ≤ 603072 by omega) (show s9 + s + 0 ≤ 7211114 by omega) ?_
  refine ja_top (y := nI k) ht ?_
  refine ja_iload dL_law_2924 rfl ?_
  refine ja_icmp_eq dL_law_2926 (tgt := 2931) (by decide) (fun c0 => ?_) (fun c0 => absurd rfl c0)
  refine ja_iload dL_law_2931 rfl ?_
  refine ja_if_ne dL_law_2933 (tgt := 2947) (by decide) (fun c0 => ?_) (fun c0 => ?_)
  · skip
    refine ja_goto dL_law_2947 (tgt := 3130) (by decide) ?_
    exact la_tail (kk _ _ hJ) (show c9 + c + 0 ≤ c9 + 4 by omega) (show s9 + s + 0 ≤ s9 + 776 by omega)
  · have hk0 := nI_z hk c0
    obtain ⟨y2, hy, hx⟩ := he hk0
    cases hy
    refine ja_aload_n (i := 3) dL_law_2936 rfl rfl ?_
    refine ja_iconst (v := nI 0) dL_law_2937 (by decide +kernel) ?_
    refine ja_lald (n := 1) (j := 0) hS2.2.2.1 rfl (by decide) (by decide) dL_law_2938 ?_
    refine ja_lload dL_law_2939 rfl ?_
    refine ja_lcmp dL_law_2941 ?_
    refine ja_top (y := 0) (by rw [hx]; exact lg_cmp_self _) ?_
    refine ja_if_eq dL_law_2942 (tgt := 2947) (by decide) (fun c0 => ?_) (fun c0 => absurd rfl c0)
    refine ja_goto dL_law_2947 (tgt := 3130) (by decide) ?_
    exact la_tail (kk _ _ hJ) (show c9 + c + 0 ≤ c9 + 4 by omega) (show s9 + s + 0 ≤ s9 + 776 by omega)
theorem la_covered (hS : ∀ n Z D, JI n Z D → ja_SH Z) (hC : ∀ (p0 : Int32), ja_JC l JI mL_covered mX8_covered [.int p0] 201 ty_f eqv_f) (hsc : sc = (L + 1, xs)) (hL : L ≤ 3584) (h7 : 7 * n + 7 ≤ L) (h4 : c9 + 4 ≤ 603072) (h5 : s9 + 776 ≤ 7211114) (hI : JI n Z D) (kk : ∀ Z2 D2, JI (n + 1) Z2 D2 → ja_A l (mL_law nm tb) sc Qf 28 (la_lv (7 * (n + 1))) [] Z2 D2 (c9 + 4) (s9 + 776)) : ja_A l (mL_law nm tb) sc Qf 2950 (la_lv (7 * n)) [] Z D c9 s9 := by
  have hn : n < 512 := by omega
  obtain ⟨c, s, kr1, hc4, hs7, hM, h1⟩ := (hC ((xs (7 * n + 1)))) n Z D hn hI
  refine ja_aload_n (i := 1) dL_law_2950 rfl rfl ?_
  refine ja_aload_n (i := 0) dL_law_2951 rfl rfl ?_
  refine ja_iload dL_law_2952 rfl ?_
  refine ja_iconst (v := nI 1) dL_law_2954 (by decide +kernel) ?_
  refine ja_iaddN dL_law_2955 ?_
  refine ja_sld (j := 7 * n + 1) hsc rfl (by omega) (by omega) dL_law_2956 ?_
  refine ja_aload dL_law_2957 rfl ?_
  refine ja_callSW (st := []) hM (ch_L_covered c s) st_L_covered lk_L_284 ⟨Nat.le_of_ble_eq_true rfl, Nat.le_of_ble_eq_true rfl⟩ dL_law_2959 rfl rfl (Nat.le_of_ble_eq_true rfl) (show c9 + c ≤ 603072 by omega) (show s9 + s ≤ 7211114 by omega) (fun _ _ _ h => h.elim) (fun v Z1 D1 hv => ?_)
  obtain ⟨k, hk, rfl, hS1, kr2, hM2, h2⟩ := h1 _ _ _ hv
  refine ja_istore dL_law_2962 rfl (Nat.le_of_ble_eq_true rfl) ?_
  refine ja_aload_n (i := 2) dL_law_2964 rfl rfl ?_
  refine ja_aload_n (i := 0) dL_law_2965 rfl rfl ?_
  refine ja_iload dL_law_2966 rfl ?_
  refine ja_iconst (v := nI 1) dL_law_2968 (by decide +kernel) ?_
  refine ja_iaddN dL_law_2969 ?_
  refine ja_sld (j := 7 * n + 1) hsc rfl (by omega) (by omega) dL_law_2970 ?_
  refine ja_callV (av := [.int ((xs (7 * n + 1)))]) (st := []) hM2 (ce_X8_covered 0 0) im_X8_covered se_X8_covered lk_L_287 k_X8 hS1.2.1 ⟨Nat.le_of_ble_eq_true rfl, Nat.le_of_ble_eq_true rfl⟩ dL_law_2971 rfl rfl (Nat.le_of_ble_eq_true rfl) (show c9 + c + 0 ≤ 603072 by omega) (show s9 + s + 0 ≤ 7211114 by omega) (fun _ _ _ h => h.elim) (fun w Z2 D2 hw => ?_)
  obtain ⟨hS2, ht, hJ, b, rfl, ⟨y, rfl⟩, he⟩ := h2 _ _ _ hw
  refine ja_fstore dL_law_2974 rfl (Nat.le_of_ble_eq_true rfl) ?_
  refine ja_aload_n (i := 2) dL_law_2976 rfl rfl ?_
  refine ja_cVr (st := []) (s_thrown l hS2.2.1) rfl rfl (ce_X8_thrown 0 0) im_X8_thrown se_X8_thrown lk_L_163 k_X8 hS2.2.1 ⟨Nat.le_of_ble_eq_true rfl, Nat.le_of_ble_eq_true rfl⟩ dL_law_2977 rfl rfl (Nat.le_of_ble_eq_true rfl) (show c9 + c + 0 ≤ 603072 by omega) (show s9 + s + 0 ≤ 7211114 by omega) ?_
  refine ja_top (y := nI k) ht ?_
  refine ja_iload dL_law_2980 rfl ?_
  refine ja_icmp_eq dL_law_2982 (tgt := 2987) (by decide) (fun c0 => ?_) (fun c0 => absurd rfl c0)
  refine ja_iload dL_law_2987 rfl ?_
  refine ja_if_ne dL_law_2989 (tgt := 3025) (by decide) (fun c0 => ?_) (fun c0 => ?_)
  · skip
    refine ja_goto dL_law_3025 (tgt := 3130) (by decide) ?_
    exact la_tail (kk _ _ hJ) (show c9 + c + 0 ≤ c9 + 4 by omega) (show s9 + s + 0 ≤ s9 + 776 by omega)
  · have hk0 := nI_z hk c0
    obtain ⟨y2, hy, hf, hx, hq⟩ := he hk0
    cases hy
    refine ja_aload dL_law_2992 rfl ?_
    refine ja_iconst (v := nI 0) dL_law_2994 (by decide +kernel) ?_
    refine ja_dald (n := 1) (j := 0) hS2.2.2.2 rfl (by decide) (by decide) dL_law_2995 ?_
    refine ja_fload dL_law_2996 rfl ?_
    refine ja_f2d dL_law_2998 hf ?_
    refine ja_dcmp dL_law_2999 ?_
    refine ja_top (y := 0) (by rw [← hx]; exact hq) ?_
    refine ja_if_eq dL_law_3000 (tgt := 3025) (by decide) (fun c0 => ?_) (fun c0 => absurd rfl c0)
    refine ja_goto dL_law_3025 (tgt := 3130) (by decide) ?_
    exact la_tail (kk _ _ hJ) (show c9 + c + 0 ≤ c9 + 4 by omega) (show s9 + s + 0 ≤ s9 + 776 by omega)
theorem la_meanPiece (hS : ∀ n Z D, JI n Z D → ja_SH Z) (hC : ∀ (p0 p1 : Int32), ja_JC l JI mL_meanPiece mX8_meanPiece [.int p0, .int p1] 201 ty_d eqv_d) (hsc : sc = (L + 1, xs)) (hL : L ≤ 3584) (h7 : 7 * n + 7 ≤ L) (h4 : c9 + 4 ≤ 603072) (h5 : s9 + 776 ≤ 7211114) (hI : JI n Z D) (kk : ∀ Z2 D2, JI (n + 1) Z2 D2 → ja_A l (mL_law nm tb) sc Qf 28 (la_lv (7 * (n + 1))) [] Z2 D2 (c9 + 4) (s9 + 776)) : ja_A l (mL_law nm tb) sc Qf 3028 (la_lv (7 * n)) [] Z D c9 s9 := by
  have hn : n < 512 := by omega
  obtain ⟨c, s, kr1, hc4, hs7, hM, h1⟩ := (hC ((xs (7 * n + 1))) ((xs (7 * n + 2)))) n Z D hn hI
  refine ja_aload_n (i := 1) dL_law_3028 rfl rfl ?_
  refine ja_aload_n (i := 0) dL_law_3029 rfl rfl ?_
  refine ja_iload dL_law_3030 rfl ?_
  refine ja_iconst (v := nI 1) dL_law_3032 (by decide +kernel) ?_
  refine ja_iaddN dL_law_3033 ?_
  refine ja_sld (j := 7 * n + 1) hsc rfl (by omega) (by omega) dL_law_3034 ?_
  refine ja_aload_n (i := 0) dL_law_3035 rfl rfl ?_
  refine ja_iload dL_law_3036 rfl ?_
  refine ja_iconst (v := nI 2) dL_law_3038 (by decide +kernel) ?_
  refine ja_iaddN dL_law_3039 ?_
  refine ja_sld (j := 7 * n + 2) hsc rfl (by omega) (by omega) dL_law_3040 ?_
  refine ja_aload dL_law_3041 rfl ?_
  refine ja_callSW (st := []) hM (ch_L_meanPiece c s) st_L_meanPiece lk_L_288 ⟨Nat.le_of_ble_eq_true rfl, Nat.le_of_ble_eq_true rfl⟩ dL_law_3043 rfl rfl (Nat.le_of_ble_eq_true rfl) (show c9 + c ≤ 603072 by omega) (show s9 + s ≤ 7211114 by omega) (fun _ _ _ h => h.elim) (fun v Z1 D1 hv => ?_)
  obtain ⟨k, hk, rfl, hS1, kr2, hM2, h2⟩ := h1 _ _ _ hv
  refine ja_istore dL_law_3046 rfl (Nat.le_of_ble_eq_true rfl) ?_
  refine ja_aload_n (i := 2) dL_law_3048 rfl rfl ?_
  refine ja_aload_n (i := 0) dL_law_3049 rfl rfl ?_
  refine ja_iload dL_law_3050 rfl ?_
  refine ja_iconst (v := nI 1) dL_law_3052 (by decide +kernel) ?_
  refine ja_iaddN dL_law_3053 ?_
  refine ja_sld (j := 7 * n + 1) hsc rfl (by omega) (by omega) dL_law_3054 ?_
  refine ja_aload_n (i := 0) dL_law_3055 rfl rfl ?_
  refine ja_iload dL_law_3056 rfl ?_
  refine ja_iconst (v := nI 2) dL_law_3058 (by decide +kernel) ?_
  refine ja_iaddN dL_law_3059 ?_
  refine ja_sld (j := 7 * n + 2) hsc rfl (by omega) (by omega) dL_law_3060 ?_
  refine ja_callV (av := [.int ((xs (7 * n + 1))), .int ((xs (7 * n + 2)))]) (st := []) hM2 (ce_X8_meanPiece 0 0) im_X8_meanPiece se_X8_meanPiece lk_L_291 k_X8 hS1.2.1 ⟨Nat.le_of_ble_eq_true rfl, Nat.le_of_ble_eq_true rfl⟩ dL_law_3061 rfl rfl (Nat.le_of_ble_eq_true rfl) (show c9 + c + 0 ≤ 603072 by omega) (show s9 + s + 0 ≤ 7211114 by omega) (fun _ _ _ h => h.elim) (fun w Z2 D2 hw => ?_)
  obtain ⟨hS2, ht, hJ, b, rfl, ⟨y, rfl⟩, he⟩ := h2 _ _ _ hw
  refine ja_dstore dL_law_3064 rfl (Nat.le_of_ble_eq_true rfl) ?_
  refine ja_aload_n (i := 2) dL_law_3066 rfl rfl ?_
  refine ja_cVr (st := []) (s_thrown l hS2.2.1) rfl rfl (ce_X8_thrown 0 0) im_X8_thrown se_X8_thrown lk_L_163 k_X8 hS2.2.1 ⟨Nat.le_of_ble_eq_true rfl, Nat.le_of_ble_eq_true rfl⟩ dL_law_3067 rfl rfl (Nat.le_of_ble_eq_true rfl) (show c9 + c + 0 ≤ 603072 by omega) (show s9 + s + 0 ≤ 7211114 by omega) ?_
  refine ja_top (y := nI k) ht ?_
  refine ja_iload dL_law_3070 rfl ?_
  refine ja_icmp_eq dL_law_3072 (tgt := 3077) (by decide) (fun c0 => ?_) (fun c0 => absurd rfl c0)
  refine ja_iload dL_law_3077 rfl ?_
  refine ja_if_ne dL_law_3079 (tgt := 3114) (by decide) (fun c0 => ?_) (fun c0 => ?_)
  · skip
    refine ja_goto dL_law_3114 (tgt := 3130) (by decide) ?_
    exact la_tail (kk _ _ hJ) (show c9 + c + 0 ≤ c9 + 4 by omega) (show s9 + s + 0 ≤ s9 + 776 by omega)
  · have hk0 := nI_z hk c0
    obtain ⟨y2, hy, hx, hq⟩ := he hk0
    cases hy
    refine ja_aload dL_law_3082 rfl ?_
    refine ja_iconst (v := nI 0) dL_law_3084 (by decide +kernel) ?_
    refine ja_dald (n := 1) (j := 0) hS2.2.2.2 rfl (by decide) (by decide) dL_law_3085 ?_
    refine ja_dload dL_law_3086 rfl ?_
    refine ja_dcmp dL_law_3088 ?_
    refine ja_top (y := 0) (by rw [← hx]; exact hq) ?_
    refine ja_if_eq dL_law_3089 (tgt := 3114) (by decide) (fun c0 => ?_) (fun c0 => absurd rfl c0)
    refine ja_goto dL_law_3114 (tgt := 3130) (by decide) ?_
    exact la_tail (kk _ _ hJ) (show c9 + c + 0 ≤ c9 + 4 by omega) (show s9 + s + 0 ≤ s9 + 776 by omega)
theorem la_isSound (hS : ∀ n Z D, JI n Z D → ja_SH Z) (hC : ja_JS l JI) (hL : L ≤ 3584) (h7 : 7 * n + 7 ≤ L) (h4 : c9 + 4 ≤ 603072) (h5 : s9 + 776 ≤ 7211114) (hI : JI n Z D) (kk : ∀ Z2 D2, JI (n + 1) Z2 D2 → ja_A l (mL_law nm tb) sc Qf 28 (la_lv (7 * (n + 1))) [] Z2 D2 (c9 + 4) (s9 + 776)) : ja_A l (mL_law nm tb) sc Qf 3117 (la_lv (7 * n)) [] Z D c9 s9 := by
  have hn : n < 512 := by omega
  obtain ⟨b, kr1, hM, h1⟩ := hC n Z D hn hI
  have h0 := (hS n Z D hI).1
  refine ja_aload_n (i := 1) dL_law_3117 rfl rfl ?_
  refine ja_callV (av := []) (st := []) hM (ce_X7_isSound 0 0) im_X7_isSound se_X7_isSound lk_L_292 k_X7 h0 ⟨Nat.le_of_ble_eq_true rfl, Nat.le_of_ble_eq_true rfl⟩ dL_law_3118 rfl rfl (Nat.le_of_ble_eq_true rfl) (show c9 + 0 ≤ 603072 by omega) (show s9 + 0 ≤ 7211114 by omega) (fun _ _ _ h => h.elim) (fun v Z1 D1 hv => ?_)
  obtain ⟨rfl, hS1, kr2, hM2, h2⟩ := h1 _ _ _ hv
  refine ja_aload_n (i := 2) dL_law_3121 rfl rfl ?_
  refine ja_callV (av := []) (st := [.int (bI b)]) hM2 (ce_X8_isSound 0 0) im_X8_isSound se_X8_isSound lk_L_296 k_X8 hS1.2.1 ⟨Nat.le_of_ble_eq_true rfl, Nat.le_of_ble_eq_true rfl⟩ dL_law_3122 rfl rfl (Nat.le_of_ble_eq_true rfl) (show c9 + 0 + 0 ≤ 603072 by omega) (show s9 + 0 + 0 ≤ 7211114 by omega) (fun _ _ _ h => h.elim) (fun w Z2 D2 hw => ?_)
  obtain ⟨rfl, hS2, hJ⟩ := h2 _ _ _ hw
  refine ja_icmp_eq dL_law_3125 (tgt := 3130) (by decide) (fun c0 => ?_) (fun c0 => absurd rfl c0)
  exact la_tail (kk _ _ hJ) (show c9 + 0 + 0 ≤ c9 + 4 by omega) (show s9 + 0 + 0 ≤ s9 + 776 by omega)
end LAW
