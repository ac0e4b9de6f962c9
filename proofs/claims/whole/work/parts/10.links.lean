/-! THE TABLES: classes, methods, fields, links, throw sites (by program: wip/whole/gen10.py) -/
theorem ja_in1 {w : Cond} {i : Nat} (h : tables_1_1[i]? = some w) (hg : goodWord w = true) : w ∈ ja_T := List.mem_filter.mpr ⟨List.mem_append_right _ ((fun h => List.mem_append_left _ h) (List.mem_of_getElem? h)), hg⟩
theorem ja_in2 {w : Cond} {i : Nat} (h : tables_1_2[i]? = some w) (hg : goodWord w = true) : w ∈ ja_T := List.mem_filter.mpr ⟨List.mem_append_right _ ((fun h => List.mem_append_right _ (List.mem_append_left _ h)) (List.mem_of_getElem? h)), hg⟩
theorem ja_in3 {w : Cond} {i : Nat} (h : tables_1_3[i]? = some w) (hg : goodWord w = true) : w ∈ ja_T := List.mem_filter.mpr ⟨List.mem_append_right _ ((fun h => List.mem_append_right _ (List.mem_append_right _ (List.mem_append_left _ h))) (List.mem_of_getElem? h)), hg⟩
theorem ja_in4 {w : Cond} {i : Nat} (h : tables_1_4[i]? = some w) (hg : goodWord w = true) : w ∈ ja_T := List.mem_filter.mpr ⟨List.mem_append_right _ ((fun h => List.mem_append_right _ (List.mem_append_right _ (List.mem_append_right _ (List.mem_append_left _ h)))) (List.mem_of_getElem? h)), hg⟩
theorem ja_in5 {w : Cond} {i : Nat} (h : tables_1_5[i]? = some w) (hg : goodWord w = true) : w ∈ ja_T := List.mem_filter.mpr ⟨List.mem_append_right _ ((fun h => List.mem_append_right _ (List.mem_append_right _ (List.mem_append_right _ (List.mem_append_right _ (List.mem_append_left _ h))))) (List.mem_of_getElem? h)), hg⟩
theorem ja_in6 {w : Cond} {i : Nat} (h : tables_1_6[i]? = some w) (hg : goodWord w = true) : w ∈ ja_T := List.mem_filter.mpr ⟨List.mem_append_right _ ((fun h => List.mem_append_right _ (List.mem_append_right _ (List.mem_append_right _ (List.mem_append_right _ (List.mem_append_right _ (h)))))) (List.mem_of_getElem? h)), hg⟩
theorem k_X0_w : ∀ w ∈ u_ws RX0 TX0 3, w ∈ lw_tbl ∧ goodWord w = true := by decide +kernel
theorem k_X0 : ja_k 0 RX0 TX0 3 := ⟨rfl, fun w h => List.mem_filter.mpr (k_X0_w w h), by decide, rfl, tyX0_ok, nmX0, by decide +kernel, by decide +kernel⟩
theorem k_X1_w : ∀ w ∈ u_ws RX1 TX1 9, w ∈ lw_tbl ∧ goodWord w = true := by decide +kernel
theorem k_X1 : ja_k 1 RX1 TX1 9 := ⟨rfl, fun w h => List.mem_filter.mpr (k_X1_w w h), by decide, rfl, tyX1_ok, nmX1, by decide +kernel, by decide +kernel⟩
theorem k_X2_w : ∀ w ∈ u_ws RX2 TX2 1, w ∈ lw_tbl ∧ goodWord w = true := by decide +kernel
theorem k_X2 : ja_k 2 RX2 TX2 1 := ⟨rfl, fun w h => List.mem_filter.mpr (k_X2_w w h), by decide, rfl, tyX2_ok, nmX2, by decide +kernel, by decide +kernel⟩
theorem k_X3_w : ∀ w ∈ u_ws RX3 TX3 6, w ∈ lw_tbl ∧ goodWord w = true := by decide +kernel
theorem k_X3 : ja_k 3 RX3 TX3 6 := ⟨rfl, fun w h => List.mem_filter.mpr (k_X3_w w h), by decide, rfl, tyX3_ok, nmX3, by decide +kernel, by decide +kernel⟩
theorem k_X4_w : ∀ w ∈ u_ws RX4 TX4 4, w ∈ lw_tbl ∧ goodWord w = true := by decide +kernel
theorem k_X4 : ja_k 4 RX4 TX4 4 := ⟨rfl, fun w h => List.mem_filter.mpr (k_X4_w w h), by decide, rfl, tyX4_ok, nmX4, by decide +kernel, by decide +kernel⟩
theorem k_X5_w : ∀ w ∈ u_ws RX5 TX5 1, w ∈ lw_tbl ∧ goodWord w = true := by decide +kernel
theorem k_X5 : ja_k 5 RX5 TX5 1 := ⟨rfl, fun w h => List.mem_filter.mpr (k_X5_w w h), by decide, rfl, tyX5_ok, nmX5, by decide +kernel, by decide +kernel⟩
theorem k_X6_w : ∀ w ∈ u_ws RX6 TX6 8, w ∈ lw_tbl ∧ goodWord w = true := by decide +kernel
theorem k_X6 : ja_k 6 RX6 TX6 8 := ⟨rfl, fun w h => List.mem_filter.mpr (k_X6_w w h), by decide, rfl, tyX6_ok, nmX6, by decide +kernel, by decide +kernel⟩
theorem k_X7_w : ∀ w ∈ u_ws RX7 TX7 13, w ∈ lw_tbl ∧ goodWord w = true := by decide +kernel
theorem k_X7 : ja_k 7 RX7 TX7 13 := ⟨rfl, fun w h => List.mem_filter.mpr (k_X7_w w h), by decide, rfl, tyX7_ok, nmX7, by decide +kernel, by decide +kernel⟩
theorem k_X8_w : ∀ w ∈ u_ws RX8 TX8 28, w ∈ lw_tbl ∧ goodWord w = true := by decide +kernel
theorem k_X8 : ja_k 8 RX8 TX8 28 := ⟨rfl, fun w h => List.mem_filter.mpr (k_X8_w w h), by decide, rfl, tyX8_ok, nmX8, by decide +kernel, by decide +kernel⟩
def mX7_init (c9 s9 : Nat) : jM := (yX7_init, cX7_init, 2, none, ({ frames := 3, cells := c9, slots := s9, locals := 81 } : Room), [])
set_option maxRecDepth 100000 in
theorem co_X7_init : Cond.code yX7_init cX7_init 2 none ∈ ja_T := ja_in1 (i := 28) rfl rfl
set_option maxRecDepth 100000 in
theorem ci_X7_init : Cond.initialized yX7_init.cls ∈ ja_T := ja_in1 (i := 1) rfl rfl
theorem cn_X7_init : yX7_init.cls ≠ "java/lang/invoke/MethodHandle" ∧ yX7_init.cls ≠ "java/lang/invoke/VarHandle" ∧ (parseMethodDescriptor yX7_init.desc).map (fun d => d.parameters.length) = some 0 := by decide +kernel
theorem ce_X7_init (c9 s9 : Nat) : ja_ce (mX7_init c9 s9) 0 := ⟨rfl, co_X7_init, ci_X7_init, cn_X7_init⟩
set_option maxRecDepth 100000 in
theorem im_X7_init : Cond.instanceMethod yX7_init ∈ ja_T := ja_in1 (i := 27) rfl rfl
def mX3_init (c9 s9 : Nat) : jM := (yX3_init, cX3_init, 1, none, ({ frames := 2, cells := c9, slots := s9, locals := 60 } : Room), [])
set_option maxRecDepth 100000 in
theorem co_X3_init : Cond.code yX3_init cX3_init 1 none ∈ ja_T := ja_in1 (i := 42) rfl rfl
set_option maxRecDepth 100000 in
theorem ci_X3_init : Cond.initialized yX3_init.cls ∈ ja_T := ja_in1 (i := 2) rfl rfl
theorem cn_X3_init : yX3_init.cls ≠ "java/lang/invoke/MethodHandle" ∧ yX3_init.cls ≠ "java/lang/invoke/VarHandle" ∧ (parseMethodDescriptor yX3_init.desc).map (fun d => d.parameters.length) = some 0 := by decide +kernel
theorem ce_X3_init (c9 s9 : Nat) : ja_ce (mX3_init c9 s9) 0 := ⟨rfl, co_X3_init, ci_X3_init, cn_X3_init⟩
set_option maxRecDepth 100000 in
theorem im_X3_init : Cond.instanceMethod yX3_init ∈ ja_T := ja_in1 (i := 41) rfl rfl
def mX5_init (c9 s9 : Nat) : jM := (yX5_init, cX5_init, 1, none, ({ frames := 2, cells := c9, slots := s9, locals := 60 } : Room), [])
set_option maxRecDepth 100000 in
theorem co_X5_init : Cond.code yX5_init cX5_init 1 none ∈ ja_T := ja_in1 (i := 72) rfl rfl
set_option maxRecDepth 100000 in
theorem ci_X5_init : Cond.initialized yX5_init.cls ∈ ja_T := ja_in1 (i := 3) rfl rfl
theorem cn_X5_init : yX5_init.cls ≠ "java/lang/invoke/MethodHandle" ∧ yX5_init.cls ≠ "java/lang/invoke/VarHandle" ∧ (parseMethodDescriptor yX5_init.desc).map (fun d => d.parameters.length) = some 0 := by decide +kernel
theorem ce_X5_init (c9 s9 : Nat) : ja_ce (mX5_init c9 s9) 0 := ⟨rfl, co_X5_init, ci_X5_init, cn_X5_init⟩
set_option maxRecDepth 100000 in
theorem im_X5_init : Cond.instanceMethod yX5_init ∈ ja_T := ja_in1 (i := 71) rfl rfl
def mX0_init (c9 s9 : Nat) : jM := (yX0_init, cX0_init, 1, none, ({ frames := 2, cells := c9, slots := s9, locals := 60 } : Room), [])
set_option maxRecDepth 100000 in
theorem co_X0_init : Cond.code yX0_init cX0_init 1 none ∈ ja_T := ja_in1 (i := 82) rfl rfl
set_option maxRecDepth 100000 in
theorem ci_X0_init : Cond.initialized yX0_init.cls ∈ ja_T := ja_in1 (i := 4) rfl rfl
theorem cn_X0_init : yX0_init.cls ≠ "java/lang/invoke/MethodHandle" ∧ yX0_init.cls ≠ "java/lang/invoke/VarHandle" ∧ (parseMethodDescriptor yX0_init.desc).map (fun d => d.parameters.length) = some 0 := by decide +kernel
theorem ce_X0_init (c9 s9 : Nat) : ja_ce (mX0_init c9 s9) 0 := ⟨rfl, co_X0_init, ci_X0_init, cn_X0_init⟩
set_option maxRecDepth 100000 in
theorem im_X0_init : Cond.instanceMethod yX0_init ∈ ja_T := ja_in1 (i := 81) rfl rfl
def mX2_init (c9 s9 : Nat) : jM := (yX2_init, cX2_init, 1, none, ({ frames := 2, cells := c9, slots := s9, locals := 60 } : Room), [])
set_option maxRecDepth 100000 in
theorem co_X2_init : Cond.code yX2_init cX2_init 1 none ∈ ja_T := ja_in1 (i := 101) rfl rfl
set_option maxRecDepth 100000 in
theorem ci_X2_init : Cond.initialized yX2_init.cls ∈ ja_T := ja_in1 (i := 5) rfl rfl
theorem cn_X2_init : yX2_init.cls ≠ "java/lang/invoke/MethodHandle" ∧ yX2_init.cls ≠ "java/lang/invoke/VarHandle" ∧ (parseMethodDescriptor yX2_init.desc).map (fun d => d.parameters.length) = some 0 := by decide +kernel
theorem ce_X2_init (c9 s9 : Nat) : ja_ce (mX2_init c9 s9) 0 := ⟨rfl, co_X2_init, ci_X2_init, cn_X2_init⟩
set_option maxRecDepth 100000 in
theorem im_X2_init : Cond.instanceMethod yX2_init ∈ ja_T := ja_in1 (i := 100) rfl rfl
def mX1_init (c9 s9 : Nat) : jM := (yX1_init, cX1_init, 2, none, ({ frames := 2, cells := c9, slots := s9, locals := 60 } : Room), [])
set_option maxRecDepth 100000 in
theorem co_X1_init : Cond.code yX1_init cX1_init 2 none ∈ ja_T := ja_in1 (i := 110) rfl rfl
set_option maxRecDepth 100000 in
theorem ci_X1_init : Cond.initialized yX1_init.cls ∈ ja_T := ja_in1 (i := 6) rfl rfl
theorem cn_X1_init : yX1_init.cls ≠ "java/lang/invoke/MethodHandle" ∧ yX1_init.cls ≠ "java/lang/invoke/VarHandle" ∧ (parseMethodDescriptor yX1_init.desc).map (fun d => d.parameters.length) = some 0 := by decide +kernel
theorem ce_X1_init (c9 s9 : Nat) : ja_ce (mX1_init c9 s9) 0 := ⟨rfl, co_X1_init, ci_X1_init, cn_X1_init⟩
set_option maxRecDepth 100000 in
theorem im_X1_init : Cond.instanceMethod yX1_init ∈ ja_T := ja_in1 (i := 109) rfl rfl
def mX7_isSound (c9 s9 : Nat) : jM := (yX7_isSound, cX7_isSound, 3, (some .boolean), ({ frames := 9, cells := c9, slots := s9, locals := 167 } : Room), [])
set_option maxRecDepth 100000 in
theorem co_X7_isSound : Cond.code yX7_isSound cX7_isSound 3 (some .boolean) ∈ ja_T := ja_in1 (i := 196) rfl rfl
set_option maxRecDepth 100000 in
theorem ci_X7_isSound : Cond.initialized yX7_isSound.cls ∈ ja_T := ja_in1 (i := 1) rfl rfl
theorem cn_X7_isSound : yX7_isSound.cls ≠ "java/lang/invoke/MethodHandle" ∧ yX7_isSound.cls ≠ "java/lang/invoke/VarHandle" ∧ (parseMethodDescriptor yX7_isSound.desc).map (fun d => d.parameters.length) = some 0 := by decide +kernel
theorem ce_X7_isSound (c9 s9 : Nat) : ja_ce (mX7_isSound c9 s9) 0 := ⟨rfl, co_X7_isSound, ci_X7_isSound, cn_X7_isSound⟩
set_option maxRecDepth 100000 in
theorem im_X7_isSound : Cond.instanceMethod yX7_isSound ∈ ja_T := ja_in1 (i := 194) rfl rfl
set_option maxRecDepth 100000 in
theorem se_X7_isSound : Cond.selects yX7_isSound.cls yX7_isSound yX7_isSound ∈ ja_T := ja_in1 (i := 195) rfl rfl
def mX7_addsUp (c9 s9 : Nat) : jM := (yX7_addsUp, cX7_addsUp, 4, (some .boolean), ({ frames := 8, cells := c9, slots := s9, locals := 144 } : Room), [])
set_option maxRecDepth 100000 in
theorem co_X7_addsUp : Cond.code yX7_addsUp cX7_addsUp 4 (some .boolean) ∈ ja_T := ja_in1 (i := 200) rfl rfl
set_option maxRecDepth 100000 in
theorem ci_X7_addsUp : Cond.initialized yX7_addsUp.cls ∈ ja_T := ja_in1 (i := 1) rfl rfl
theorem cn_X7_addsUp : yX7_addsUp.cls ≠ "java/lang/invoke/MethodHandle" ∧ yX7_addsUp.cls ≠ "java/lang/invoke/VarHandle" ∧ (parseMethodDescriptor yX7_addsUp.desc).map (fun d => d.parameters.length) = some 2 := by decide +kernel
theorem ce_X7_addsUp (c9 s9 : Nat) : ja_ce (mX7_addsUp c9 s9) 2 := ⟨rfl, co_X7_addsUp, ci_X7_addsUp, cn_X7_addsUp⟩
set_option maxRecDepth 100000 in
theorem im_X7_addsUp : Cond.instanceMethod yX7_addsUp ∈ ja_T := ja_in1 (i := 199) rfl rfl
theorem se_X7_addsUp : Cond.selects yX7_addsUp.cls yX7_addsUp yX7_addsUp ∈ ja_T := ja_inT (i := 0) (by decide +kernel) rfl
def mX7_layOver (c9 s9 : Nat) : jM := (yX7_layOver, cX7_layOver, 3, none, ({ frames := 7, cells := c9, slots := s9, locals := 122 } : Room), [])
set_option maxRecDepth 100000 in
theorem co_X7_layOver : Cond.code yX7_layOver cX7_layOver 3 none ∈ ja_T := ja_in1 (i := 204) rfl rfl
set_option maxRecDepth 100000 in
theorem ci_X7_layOver : Cond.initialized yX7_layOver.cls ∈ ja_T := ja_in1 (i := 1) rfl rfl
theorem cn_X7_layOver : yX7_layOver.cls ≠ "java/lang/invoke/MethodHandle" ∧ yX7_layOver.cls ≠ "java/lang/invoke/VarHandle" ∧ (parseMethodDescriptor yX7_layOver.desc).map (fun d => d.parameters.length) = some 2 := by decide +kernel
theorem ce_X7_layOver (c9 s9 : Nat) : ja_ce (mX7_layOver c9 s9) 2 := ⟨rfl, co_X7_layOver, ci_X7_layOver, cn_X7_layOver⟩
set_option maxRecDepth 100000 in
theorem im_X7_layOver : Cond.instanceMethod yX7_layOver ∈ ja_T := ja_in1 (i := 203) rfl rfl
theorem se_X7_layOver : Cond.selects yX7_layOver.cls yX7_layOver yX7_layOver ∈ ja_T := ja_inT (i := 1) (by decide +kernel) rfl
def mX7_layerOf (c9 s9 : Nat) : jM := (yX7_layerOf, cX7_layerOf, 3, (some (.object "Overlayer$Layer")), ({ frames := 6, cells := c9, slots := s9, locals := 100 } : Room), [])
set_option maxRecDepth 100000 in
theorem co_X7_layerOf : Cond.code yX7_layerOf cX7_layerOf 3 (some (.object "Overlayer$Layer")) ∈ ja_T := ja_in1 (i := 208) rfl rfl
set_option maxRecDepth 100000 in
theorem ci_X7_layerOf : Cond.initialized yX7_layerOf.cls ∈ ja_T := ja_in1 (i := 1) rfl rfl
theorem cn_X7_layerOf : yX7_layerOf.cls ≠ "java/lang/invoke/MethodHandle" ∧ yX7_layerOf.cls ≠ "java/lang/invoke/VarHandle" ∧ (parseMethodDescriptor yX7_layerOf.desc).map (fun d => d.parameters.length) = some 1 := by decide +kernel
theorem ce_X7_layerOf (c9 s9 : Nat) : ja_ce (mX7_layerOf c9 s9) 1 := ⟨rfl, co_X7_layerOf, ci_X7_layerOf, cn_X7_layerOf⟩
set_option maxRecDepth 100000 in
theorem im_X7_layerOf : Cond.instanceMethod yX7_layerOf ∈ ja_T := ja_in1 (i := 207) rfl rfl
theorem se_X7_layerOf : Cond.selects yX7_layerOf.cls yX7_layerOf yX7_layerOf ∈ ja_T := ja_inT (i := 2) (by decide +kernel) rfl
def mX3_lay (c9 s9 : Nat) : jM := (yX3_lay, cX3_lay, 5, none, ({ frames := 3, cells := c9, slots := s9, locals := 70 } : Room), [])
set_option maxRecDepth 100000 in
theorem co_X3_lay : Cond.code yX3_lay cX3_lay 5 none ∈ ja_T := ja_in2 (i := 44) rfl rfl
set_option maxRecDepth 100000 in
theorem ci_X3_lay : Cond.initialized yX3_lay.cls ∈ ja_T := ja_in1 (i := 2) rfl rfl
theorem cn_X3_lay : yX3_lay.cls ≠ "java/lang/invoke/MethodHandle" ∧ yX3_lay.cls ≠ "java/lang/invoke/VarHandle" ∧ (parseMethodDescriptor yX3_lay.desc).map (fun d => d.parameters.length) = some 2 := by decide +kernel
theorem ce_X3_lay (c9 s9 : Nat) : ja_ce (mX3_lay c9 s9) 2 := ⟨rfl, co_X3_lay, ci_X3_lay, cn_X3_lay⟩
set_option maxRecDepth 100000 in
theorem im_X3_lay : Cond.instanceMethod yX3_lay ∈ ja_T := ja_in2 (i := 42) rfl rfl
set_option maxRecDepth 100000 in
theorem se_X3_lay : Cond.selects yX3_lay.cls yX3_lay yX3_lay ∈ ja_T := ja_in2 (i := 43) rfl rfl
def mJ7_fill_53178 (c9 s9 : Nat) : jM := (yJ7_fill_53178, cJ7_fill_53178, 4, none, ({ frames := 1, cells := c9, slots := s9, locals := 20 } : Room), [])
set_option maxRecDepth 100000 in
theorem co_J7_fill_53178 : Cond.code yJ7_fill_53178 cJ7_fill_53178 4 none ∈ ja_T := ja_in2 (i := 47) rfl rfl
set_option maxRecDepth 100000 in
theorem ci_J7_fill_53178 : Cond.initialized yJ7_fill_53178.cls ∈ ja_T := ja_in1 (i := 18) rfl rfl
theorem cn_J7_fill_53178 : yJ7_fill_53178.cls ≠ "java/lang/invoke/MethodHandle" ∧ yJ7_fill_53178.cls ≠ "java/lang/invoke/VarHandle" ∧ (parseMethodDescriptor yJ7_fill_53178.desc).map (fun d => d.parameters.length) = some 2 := by decide +kernel
theorem ce_J7_fill_53178 (c9 s9 : Nat) : ja_ce (mJ7_fill_53178 c9 s9) 2 := ⟨rfl, co_J7_fill_53178, ci_J7_fill_53178, cn_J7_fill_53178⟩
set_option maxRecDepth 100000 in
theorem st_J7_fill_53178 : Cond.static yJ7_fill_53178 ∈ ja_T := ja_in2 (i := 46) rfl rfl
def mX3_spread (c9 s9 : Nat) : jM := (yX3_spread, cX3_spread, 8, (some .int), ({ frames := 2, cells := c9, slots := s9, locals := 43 } : Room), [])
set_option maxRecDepth 100000 in
theorem co_X3_spread : Cond.code yX3_spread cX3_spread 8 (some .int) ∈ ja_T := ja_in2 (i := 51) rfl rfl
set_option maxRecDepth 100000 in
theorem ci_X3_spread : Cond.initialized yX3_spread.cls ∈ ja_T := ja_in1 (i := 2) rfl rfl
theorem cn_X3_spread : yX3_spread.cls ≠ "java/lang/invoke/MethodHandle" ∧ yX3_spread.cls ≠ "java/lang/invoke/VarHandle" ∧ (parseMethodDescriptor yX3_spread.desc).map (fun d => d.parameters.length) = some 3 := by decide +kernel
theorem ce_X3_spread (c9 s9 : Nat) : ja_ce (mX3_spread c9 s9) 3 := ⟨rfl, co_X3_spread, ci_X3_spread, cn_X3_spread⟩
set_option maxRecDepth 100000 in
theorem im_X3_spread : Cond.instanceMethod yX3_spread ∈ ja_T := ja_in2 (i := 50) rfl rfl
theorem se_X3_spread : Cond.selects yX3_spread.cls yX3_spread yX3_spread ∈ ja_T := ja_inT (i := 4) (by decide +kernel) rfl
def mX7_neighbour (c9 s9 : Nat) : jM := (yX7_neighbour, cX7_neighbour, 4, (some .int), ({ frames := 1, cells := c9, slots := s9, locals := 20 } : Room), [])
set_option maxRecDepth 100000 in
theorem co_X7_neighbour : Cond.code yX7_neighbour cX7_neighbour 4 (some .int) ∈ ja_T := ja_in2 (i := 54) rfl rfl
set_option maxRecDepth 100000 in
theorem ci_X7_neighbour : Cond.initialized yX7_neighbour.cls ∈ ja_T := ja_in1 (i := 1) rfl rfl
theorem cn_X7_neighbour : yX7_neighbour.cls ≠ "java/lang/invoke/MethodHandle" ∧ yX7_neighbour.cls ≠ "java/lang/invoke/VarHandle" ∧ (parseMethodDescriptor yX7_neighbour.desc).map (fun d => d.parameters.length) = some 2 := by decide +kernel
theorem ce_X7_neighbour (c9 s9 : Nat) : ja_ce (mX7_neighbour c9 s9) 2 := ⟨rfl, co_X7_neighbour, ci_X7_neighbour, cn_X7_neighbour⟩
set_option maxRecDepth 100000 in
theorem st_X7_neighbour : Cond.static yX7_neighbour ∈ ja_T := ja_in2 (i := 53) rfl rfl
def mX3_sumOf (c9 s9 : Nat) : jM := (yX3_sumOf, cX3_sumOf, 5, (some .int), ({ frames := 1, cells := c9, slots := s9, locals := 20 } : Room), [])
set_option maxRecDepth 100000 in
theorem co_X3_sumOf : Cond.code yX3_sumOf cX3_sumOf 5 (some .int) ∈ ja_T := ja_in2 (i := 58) rfl rfl
set_option maxRecDepth 100000 in
theorem ci_X3_sumOf : Cond.initialized yX3_sumOf.cls ∈ ja_T := ja_in1 (i := 2) rfl rfl
theorem cn_X3_sumOf : yX3_sumOf.cls ≠ "java/lang/invoke/MethodHandle" ∧ yX3_sumOf.cls ≠ "java/lang/invoke/VarHandle" ∧ (parseMethodDescriptor yX3_sumOf.desc).map (fun d => d.parameters.length) = some 2 := by decide +kernel
theorem ce_X3_sumOf (c9 s9 : Nat) : ja_ce (mX3_sumOf c9 s9) 2 := ⟨rfl, co_X3_sumOf, ci_X3_sumOf, cn_X3_sumOf⟩
set_option maxRecDepth 100000 in
theorem im_X3_sumOf : Cond.instanceMethod yX3_sumOf ∈ ja_T := ja_in2 (i := 56) rfl rfl
set_option maxRecDepth 100000 in
theorem se_X3_sumOf : Cond.selects yX3_sumOf.cls yX3_sumOf yX3_sumOf ∈ ja_T := ja_in2 (i := 57) rfl rfl
def mX1_hasSoundWorths (c9 s9 : Nat) : jM := (yX1_hasSoundWorths, cX1_hasSoundWorths, 2, (some .boolean), ({ frames := 1, cells := c9, slots := s9, locals := 20 } : Room), [])
set_option maxRecDepth 100000 in
theorem co_X1_hasSoundWorths : Cond.code yX1_hasSoundWorths cX1_hasSoundWorths 2 (some .boolean) ∈ ja_T := ja_in2 (i := 62) rfl rfl
set_option maxRecDepth 100000 in
theorem ci_X1_hasSoundWorths : Cond.initialized yX1_hasSoundWorths.cls ∈ ja_T := ja_in1 (i := 6) rfl rfl
theorem cn_X1_hasSoundWorths : yX1_hasSoundWorths.cls ≠ "java/lang/invoke/MethodHandle" ∧ yX1_hasSoundWorths.cls ≠ "java/lang/invoke/VarHandle" ∧ (parseMethodDescriptor yX1_hasSoundWorths.desc).map (fun d => d.parameters.length) = some 0 := by decide +kernel
theorem ce_X1_hasSoundWorths (c9 s9 : Nat) : ja_ce (mX1_hasSoundWorths c9 s9) 0 := ⟨rfl, co_X1_hasSoundWorths, ci_X1_hasSoundWorths, cn_X1_hasSoundWorths⟩
set_option maxRecDepth 100000 in
theorem im_X1_hasSoundWorths : Cond.instanceMethod yX1_hasSoundWorths ∈ ja_T := ja_in2 (i := 60) rfl rfl
set_option maxRecDepth 100000 in
theorem se_X1_hasSoundWorths : Cond.selects yX1_hasSoundWorths.cls yX1_hasSoundWorths yX1_hasSoundWorths ∈ ja_T := ja_in2 (i := 61) rfl rfl
def mX1_isAsStored (c9 s9 : Nat) : jM := (yX1_isAsStored, cX1_isAsStored, 3, (some .boolean), ({ frames := 2, cells := c9, slots := s9, locals := 43 } : Room), [])
set_option maxRecDepth 100000 in
theorem co_X1_isAsStored : Cond.code yX1_isAsStored cX1_isAsStored 3 (some .boolean) ∈ ja_T := ja_in2 (i := 66) rfl rfl
set_option maxRecDepth 100000 in
theorem ci_X1_isAsStored : Cond.initialized yX1_isAsStored.cls ∈ ja_T := ja_in1 (i := 6) rfl rfl
theorem cn_X1_isAsStored : yX1_isAsStored.cls ≠ "java/lang/invoke/MethodHandle" ∧ yX1_isAsStored.cls ≠ "java/lang/invoke/VarHandle" ∧ (parseMethodDescriptor yX1_isAsStored.desc).map (fun d => d.parameters.length) = some 1 := by decide +kernel
theorem ce_X1_isAsStored (c9 s9 : Nat) : ja_ce (mX1_isAsStored c9 s9) 1 := ⟨rfl, co_X1_isAsStored, ci_X1_isAsStored, cn_X1_isAsStored⟩
set_option maxRecDepth 100000 in
theorem im_X1_isAsStored : Cond.instanceMethod yX1_isAsStored ∈ ja_T := ja_in2 (i := 64) rfl rfl
set_option maxRecDepth 100000 in
theorem se_X1_isAsStored : Cond.selects yX1_isAsStored.cls yX1_isAsStored yX1_isAsStored ∈ ja_T := ja_in2 (i := 65) rfl rfl
def mX1_areaBy (c9 s9 : Nat) : jM := (yX1_areaBy, cX1_areaBy, 4, (some .int), ({ frames := 1, cells := c9, slots := s9, locals := 20 } : Room), [])
set_option maxRecDepth 100000 in
theorem co_X1_areaBy : Cond.code yX1_areaBy cX1_areaBy 4 (some .int) ∈ ja_T := ja_in2 (i := 70) rfl rfl
set_option maxRecDepth 100000 in
theorem ci_X1_areaBy : Cond.initialized yX1_areaBy.cls ∈ ja_T := ja_in1 (i := 6) rfl rfl
theorem cn_X1_areaBy : yX1_areaBy.cls ≠ "java/lang/invoke/MethodHandle" ∧ yX1_areaBy.cls ≠ "java/lang/invoke/VarHandle" ∧ (parseMethodDescriptor yX1_areaBy.desc).map (fun d => d.parameters.length) = some 2 := by decide +kernel
theorem ce_X1_areaBy (c9 s9 : Nat) : ja_ce (mX1_areaBy c9 s9) 2 := ⟨rfl, co_X1_areaBy, ci_X1_areaBy, cn_X1_areaBy⟩
set_option maxRecDepth 100000 in
theorem im_X1_areaBy : Cond.instanceMethod yX1_areaBy ∈ ja_T := ja_in2 (i := 68) rfl rfl
set_option maxRecDepth 100000 in
theorem se_X1_areaBy : Cond.selects yX1_areaBy.cls yX1_areaBy yX1_areaBy ∈ ja_T := ja_in2 (i := 69) rfl rfl
def mL_begin (c9 s9 : Nat) : jM := (yL_begin, cL_begin, 4, (some .int), ({ frames := 8, cells := c9, slots := s9, locals := 144 } : Room), [(0, 9, 12, 13), (0, 9, 15, 15)])
set_option maxRecDepth 100000 in
theorem st_L_begin : Cond.static yL_begin ∈ ja_T := ja_in2 (i := 72) rfl rfl
def mX7_begin (c9 s9 : Nat) : jM := (yX7_begin, cX7_begin, 3, (some .int), ({ frames := 7, cells := c9, slots := s9, locals := 122 } : Room), [])
set_option maxRecDepth 100000 in
theorem co_X7_begin : Cond.code yX7_begin cX7_begin 3 (some .int) ∈ ja_T := ja_in2 (i := 79) rfl rfl
set_option maxRecDepth 100000 in
theorem ci_X7_begin : Cond.initialized yX7_begin.cls ∈ ja_T := ja_in1 (i := 1) rfl rfl
theorem cn_X7_begin : yX7_begin.cls ≠ "java/lang/invoke/MethodHandle" ∧ yX7_begin.cls ≠ "java/lang/invoke/VarHandle" ∧ (parseMethodDescriptor yX7_begin.desc).map (fun d => d.parameters.length) = some 1 := by decide +kernel
theorem ce_X7_begin (c9 s9 : Nat) : ja_ce (mX7_begin c9 s9) 1 := ⟨rfl, co_X7_begin, ci_X7_begin, cn_X7_begin⟩
set_option maxRecDepth 100000 in
theorem im_X7_begin : Cond.instanceMethod yX7_begin ∈ ja_T := ja_in2 (i := 77) rfl rfl
set_option maxRecDepth 100000 in
theorem se_X7_begin : Cond.selects yX7_begin.cls yX7_begin yX7_begin ∈ ja_T := ja_in2 (i := 78) rfl rfl
def mX7_ruleOf (c9 s9 : Nat) : jM := (yX7_ruleOf, cX7_ruleOf, 3, (some (.object "Overlayer$Rule")), ({ frames := 6, cells := c9, slots := s9, locals := 100 } : Room), [])
set_option maxRecDepth 100000 in
theorem co_X7_ruleOf : Cond.code yX7_ruleOf cX7_ruleOf 3 (some (.object "Overlayer$Rule")) ∈ ja_T := ja_in2 (i := 115) rfl rfl
set_option maxRecDepth 100000 in
theorem ci_X7_ruleOf : Cond.initialized yX7_ruleOf.cls ∈ ja_T := ja_in1 (i := 1) rfl rfl
theorem cn_X7_ruleOf : yX7_ruleOf.cls ≠ "java/lang/invoke/MethodHandle" ∧ yX7_ruleOf.cls ≠ "java/lang/invoke/VarHandle" ∧ (parseMethodDescriptor yX7_ruleOf.desc).map (fun d => d.parameters.length) = some 1 := by decide +kernel
theorem ce_X7_ruleOf (c9 s9 : Nat) : ja_ce (mX7_ruleOf c9 s9) 1 := ⟨rfl, co_X7_ruleOf, ci_X7_ruleOf, cn_X7_ruleOf⟩
set_option maxRecDepth 100000 in
theorem im_X7_ruleOf : Cond.instanceMethod yX7_ruleOf ∈ ja_T := ja_in2 (i := 114) rfl rfl
theorem se_X7_ruleOf : Cond.selects yX7_ruleOf.cls yX7_ruleOf yX7_ruleOf ∈ ja_T := ja_inT (i := 5) (by decide +kernel) rfl
def mX1_rememberWorths (c9 s9 : Nat) : jM := (yX1_rememberWorths, cX1_rememberWorths, 1, none, ({ frames := 2, cells := c9, slots := s9, locals := 60 } : Room), [])
set_option maxRecDepth 100000 in
theorem co_X1_rememberWorths : Cond.code yX1_rememberWorths cX1_rememberWorths 1 none ∈ ja_T := ja_in2 (i := 135) rfl rfl
set_option maxRecDepth 100000 in
theorem ci_X1_rememberWorths : Cond.initialized yX1_rememberWorths.cls ∈ ja_T := ja_in1 (i := 6) rfl rfl
theorem cn_X1_rememberWorths : yX1_rememberWorths.cls ≠ "java/lang/invoke/MethodHandle" ∧ yX1_rememberWorths.cls ≠ "java/lang/invoke/VarHandle" ∧ (parseMethodDescriptor yX1_rememberWorths.desc).map (fun d => d.parameters.length) = some 0 := by decide +kernel
theorem ce_X1_rememberWorths (c9 s9 : Nat) : ja_ce (mX1_rememberWorths c9 s9) 0 := ⟨rfl, co_X1_rememberWorths, ci_X1_rememberWorths, cn_X1_rememberWorths⟩
set_option maxRecDepth 100000 in
theorem im_X1_rememberWorths : Cond.instanceMethod yX1_rememberWorths ∈ ja_T := ja_in2 (i := 133) rfl rfl
set_option maxRecDepth 100000 in
theorem se_X1_rememberWorths : Cond.selects yX1_rememberWorths.cls yX1_rememberWorths yX1_rememberWorths ∈ ja_T := ja_in2 (i := 134) rfl rfl
def mL_paint (c9 s9 : Nat) : jM := (yL_paint, cL_paint, 9, (some .int), ({ frames := 9, cells := c9, slots := s9, locals := 169 } : Room), [(0, 18, 21, 21), (0, 18, 25, 13), (0, 18, 29, 15)])
set_option maxRecDepth 100000 in
theorem st_L_paint : Cond.static yL_paint ∈ ja_T := ja_in2 (i := 140) rfl rfl
def mJx00060_init_a7421 (c9 s9 : Nat) : jM := (yJx00060_init_a7421, cJx00060_init_a7421, 2, none, ({ frames := 6, cells := c9, slots := s9, locals := 100 } : Room), [])
set_option maxRecDepth 100000 in
theorem co_Jx00060_init_a7421 : Cond.code yJx00060_init_a7421 cJx00060_init_a7421 2 none ∈ ja_T := ja_in2 (i := 145) rfl rfl
set_option maxRecDepth 100000 in
theorem ci_Jx00060_init_a7421 : Cond.initialized yJx00060_init_a7421.cls ∈ ja_T := ja_in1 (i := 16) rfl rfl
theorem cn_Jx00060_init_a7421 : yJx00060_init_a7421.cls ≠ "java/lang/invoke/MethodHandle" ∧ yJx00060_init_a7421.cls ≠ "java/lang/invoke/VarHandle" ∧ (parseMethodDescriptor yJx00060_init_a7421.desc).map (fun d => d.parameters.length) = some 1 := by decide +kernel
theorem ce_Jx00060_init_a7421 (c9 s9 : Nat) : ja_ce (mJx00060_init_a7421 c9 s9) 1 := ⟨rfl, co_Jx00060_init_a7421, ci_Jx00060_init_a7421, cn_Jx00060_init_a7421⟩
set_option maxRecDepth 100000 in
theorem im_Jx00060_init_a7421 : Cond.instanceMethod yJx00060_init_a7421 ∈ ja_T := ja_in2 (i := 144) rfl rfl
def mX7_paint (c9 s9 : Nat) : jM := (yX7_paint, cX7_paint, 10, (some .int), ({ frames := 8, cells := c9, slots := s9, locals := 140 } : Room), [])
set_option maxRecDepth 100000 in
theorem co_X7_paint : Cond.code yX7_paint cX7_paint 10 (some .int) ∈ ja_T := ja_in2 (i := 166) rfl rfl
set_option maxRecDepth 100000 in
theorem ci_X7_paint : Cond.initialized yX7_paint.cls ∈ ja_T := ja_in1 (i := 1) rfl rfl
theorem cn_X7_paint : yX7_paint.cls ≠ "java/lang/invoke/MethodHandle" ∧ yX7_paint.cls ≠ "java/lang/invoke/VarHandle" ∧ (parseMethodDescriptor yX7_paint.desc).map (fun d => d.parameters.length) = some 6 := by decide +kernel
theorem ce_X7_paint (c9 s9 : Nat) : ja_ce (mX7_paint c9 s9) 6 := ⟨rfl, co_X7_paint, ci_X7_paint, cn_X7_paint⟩
set_option maxRecDepth 100000 in
theorem im_X7_paint : Cond.instanceMethod yX7_paint ∈ ja_T := ja_in2 (i := 164) rfl rfl
set_option maxRecDepth 100000 in
theorem se_X7_paint : Cond.selects yX7_paint.cls yX7_paint yX7_paint ∈ ja_T := ja_in2 (i := 165) rfl rfl
def mX7_needAreaOrNone (c9 s9 : Nat) : jM := (yX7_needAreaOrNone, cX7_needAreaOrNone, 1, none, ({ frames := 7, cells := c9, slots := s9, locals := 120 } : Room), [])
set_option maxRecDepth 100000 in
theorem co_X7_needAreaOrNone : Cond.code yX7_needAreaOrNone cX7_needAreaOrNone 1 none ∈ ja_T := ja_in2 (i := 169) rfl rfl
set_option maxRecDepth 100000 in
theorem ci_X7_needAreaOrNone : Cond.initialized yX7_needAreaOrNone.cls ∈ ja_T := ja_in1 (i := 1) rfl rfl
theorem cn_X7_needAreaOrNone : yX7_needAreaOrNone.cls ≠ "java/lang/invoke/MethodHandle" ∧ yX7_needAreaOrNone.cls ≠ "java/lang/invoke/VarHandle" ∧ (parseMethodDescriptor yX7_needAreaOrNone.desc).map (fun d => d.parameters.length) = some 1 := by decide +kernel
theorem ce_X7_needAreaOrNone (c9 s9 : Nat) : ja_ce (mX7_needAreaOrNone c9 s9) 1 := ⟨rfl, co_X7_needAreaOrNone, ci_X7_needAreaOrNone, cn_X7_needAreaOrNone⟩
set_option maxRecDepth 100000 in
theorem st_X7_needAreaOrNone : Cond.static yX7_needAreaOrNone ∈ ja_T := ja_in2 (i := 168) rfl rfl
def mX7_needArea (c9 s9 : Nat) : jM := (yX7_needArea, cX7_needArea, 1, none, ({ frames := 6, cells := c9, slots := s9, locals := 100 } : Room), [])
set_option maxRecDepth 100000 in
theorem co_X7_needArea : Cond.code yX7_needArea cX7_needArea 1 none ∈ ja_T := ja_in2 (i := 172) rfl rfl
set_option maxRecDepth 100000 in
theorem ci_X7_needArea : Cond.initialized yX7_needArea.cls ∈ ja_T := ja_in1 (i := 1) rfl rfl
theorem cn_X7_needArea : yX7_needArea.cls ≠ "java/lang/invoke/MethodHandle" ∧ yX7_needArea.cls ≠ "java/lang/invoke/VarHandle" ∧ (parseMethodDescriptor yX7_needArea.desc).map (fun d => d.parameters.length) = some 1 := by decide +kernel
theorem ce_X7_needArea (c9 s9 : Nat) : ja_ce (mX7_needArea c9 s9) 1 := ⟨rfl, co_X7_needArea, ci_X7_needArea, cn_X7_needArea⟩
set_option maxRecDepth 100000 in
theorem st_X7_needArea : Cond.static yX7_needArea ∈ ja_T := ja_in2 (i := 171) rfl rfl
def mX7_isArea (c9 s9 : Nat) : jM := (yX7_isArea, cX7_isArea, 1, (some .boolean), ({ frames := 1, cells := c9, slots := s9, locals := 20 } : Room), [])
set_option maxRecDepth 100000 in
theorem co_X7_isArea : Cond.code yX7_isArea cX7_isArea 1 (some .boolean) ∈ ja_T := ja_in2 (i := 175) rfl rfl
set_option maxRecDepth 100000 in
theorem ci_X7_isArea : Cond.initialized yX7_isArea.cls ∈ ja_T := ja_in1 (i := 1) rfl rfl
theorem cn_X7_isArea : yX7_isArea.cls ≠ "java/lang/invoke/MethodHandle" ∧ yX7_isArea.cls ≠ "java/lang/invoke/VarHandle" ∧ (parseMethodDescriptor yX7_isArea.desc).map (fun d => d.parameters.length) = some 1 := by decide +kernel
theorem ce_X7_isArea (c9 s9 : Nat) : ja_ce (mX7_isArea c9 s9) 1 := ⟨rfl, co_X7_isArea, ci_X7_isArea, cn_X7_isArea⟩
set_option maxRecDepth 100000 in
theorem st_X7_isArea : Cond.static yX7_isArea ∈ ja_T := ja_in2 (i := 174) rfl rfl
def mX7_needBox (c9 s9 : Nat) : jM := (yX7_needBox, cX7_needBox, 4, none, ({ frames := 6, cells := c9, slots := s9, locals := 100 } : Room), [])
set_option maxRecDepth 100000 in
theorem co_X7_needBox : Cond.code yX7_needBox cX7_needBox 4 none ∈ ja_T := ja_in2 (i := 179) rfl rfl
set_option maxRecDepth 100000 in
theorem ci_X7_needBox : Cond.initialized yX7_needBox.cls ∈ ja_T := ja_in1 (i := 1) rfl rfl
theorem cn_X7_needBox : yX7_needBox.cls ≠ "java/lang/invoke/MethodHandle" ∧ yX7_needBox.cls ≠ "java/lang/invoke/VarHandle" ∧ (parseMethodDescriptor yX7_needBox.desc).map (fun d => d.parameters.length) = some 4 := by decide +kernel
theorem ce_X7_needBox (c9 s9 : Nat) : ja_ce (mX7_needBox c9 s9) 4 := ⟨rfl, co_X7_needBox, ci_X7_needBox, cn_X7_needBox⟩
set_option maxRecDepth 100000 in
theorem st_X7_needBox : Cond.static yX7_needBox ∈ ja_T := ja_in2 (i := 178) rfl rfl
def mX7_needSession (c9 s9 : Nat) : jM := (yX7_needSession, cX7_needSession, 1, none, ({ frames := 6, cells := c9, slots := s9, locals := 100 } : Room), [])
set_option maxRecDepth 100000 in
theorem co_X7_needSession : Cond.code yX7_needSession cX7_needSession 1 none ∈ ja_T := ja_in2 (i := 184) rfl rfl
set_option maxRecDepth 100000 in
theorem ci_X7_needSession : Cond.initialized yX7_needSession.cls ∈ ja_T := ja_in1 (i := 1) rfl rfl
theorem cn_X7_needSession : yX7_needSession.cls ≠ "java/lang/invoke/MethodHandle" ∧ yX7_needSession.cls ≠ "java/lang/invoke/VarHandle" ∧ (parseMethodDescriptor yX7_needSession.desc).map (fun d => d.parameters.length) = some 0 := by decide +kernel
theorem ce_X7_needSession (c9 s9 : Nat) : ja_ce (mX7_needSession c9 s9) 0 := ⟨rfl, co_X7_needSession, ci_X7_needSession, cn_X7_needSession⟩
set_option maxRecDepth 100000 in
theorem im_X7_needSession : Cond.instanceMethod yX7_needSession ∈ ja_T := ja_in2 (i := 183) rfl rfl
theorem se_X7_needSession : Cond.selects yX7_needSession.cls yX7_needSession yX7_needSession ∈ ja_T := ja_inT (i := 6) (by decide +kernel) rfl
def mX1_openEdit (c9 s9 : Nat) : jM := (yX1_openEdit, cX1_openEdit, 1, none, ({ frames := 2, cells := c9, slots := s9, locals := 43 } : Room), [])
set_option maxRecDepth 100000 in
theorem co_X1_openEdit : Cond.code yX1_openEdit cX1_openEdit 1 none ∈ ja_T := ja_in2 (i := 189) rfl rfl
set_option maxRecDepth 100000 in
theorem ci_X1_openEdit : Cond.initialized yX1_openEdit.cls ∈ ja_T := ja_in1 (i := 6) rfl rfl
theorem cn_X1_openEdit : yX1_openEdit.cls ≠ "java/lang/invoke/MethodHandle" ∧ yX1_openEdit.cls ≠ "java/lang/invoke/VarHandle" ∧ (parseMethodDescriptor yX1_openEdit.desc).map (fun d => d.parameters.length) = some 0 := by decide +kernel
theorem ce_X1_openEdit (c9 s9 : Nat) : ja_ce (mX1_openEdit c9 s9) 0 := ⟨rfl, co_X1_openEdit, ci_X1_openEdit, cn_X1_openEdit⟩
set_option maxRecDepth 100000 in
theorem im_X1_openEdit : Cond.instanceMethod yX1_openEdit ∈ ja_T := ja_in2 (i := 187) rfl rfl
set_option maxRecDepth 100000 in
theorem se_X1_openEdit : Cond.selects yX1_openEdit.cls yX1_openEdit yX1_openEdit ∈ ja_T := ja_in2 (i := 188) rfl rfl
def mX1_give (c9 s9 : Nat) : jM := (yX1_give, cX1_give, 4, none, ({ frames := 3, cells := c9, slots := s9, locals := 63 } : Room), [])
set_option maxRecDepth 100000 in
theorem co_X1_give : Cond.code yX1_give cX1_give 4 none ∈ ja_T := ja_in2 (i := 194) rfl rfl
set_option maxRecDepth 100000 in
theorem ci_X1_give : Cond.initialized yX1_give.cls ∈ ja_T := ja_in1 (i := 6) rfl rfl
theorem cn_X1_give : yX1_give.cls ≠ "java/lang/invoke/MethodHandle" ∧ yX1_give.cls ≠ "java/lang/invoke/VarHandle" ∧ (parseMethodDescriptor yX1_give.desc).map (fun d => d.parameters.length) = some 2 := by decide +kernel
theorem ce_X1_give (c9 s9 : Nat) : ja_ce (mX1_give c9 s9) 2 := ⟨rfl, co_X1_give, ci_X1_give, cn_X1_give⟩
set_option maxRecDepth 100000 in
theorem im_X1_give : Cond.instanceMethod yX1_give ∈ ja_T := ja_in2 (i := 192) rfl rfl
set_option maxRecDepth 100000 in
theorem se_X1_give : Cond.selects yX1_give.cls yX1_give yX1_give ∈ ja_T := ja_in2 (i := 193) rfl rfl
def mX1_put (c9 s9 : Nat) : jM := (yX1_put, cX1_put, 4, none, ({ frames := 2, cells := c9, slots := s9, locals := 40 } : Room), [])
set_option maxRecDepth 100000 in
theorem co_X1_put : Cond.code yX1_put cX1_put 4 none ∈ ja_T := ja_in2 (i := 199) rfl rfl
set_option maxRecDepth 100000 in
theorem ci_X1_put : Cond.initialized yX1_put.cls ∈ ja_T := ja_in1 (i := 6) rfl rfl
theorem cn_X1_put : yX1_put.cls ≠ "java/lang/invoke/MethodHandle" ∧ yX1_put.cls ≠ "java/lang/invoke/VarHandle" ∧ (parseMethodDescriptor yX1_put.desc).map (fun d => d.parameters.length) = some 2 := by decide +kernel
theorem ce_X1_put (c9 s9 : Nat) : ja_ce (mX1_put c9 s9) 2 := ⟨rfl, co_X1_put, ci_X1_put, cn_X1_put⟩
set_option maxRecDepth 100000 in
theorem im_X1_put : Cond.instanceMethod yX1_put ∈ ja_T := ja_in2 (i := 198) rfl rfl
theorem se_X1_put : Cond.selects yX1_put.cls yX1_put yX1_put ∈ ja_T := ja_inT (i := 7) (by decide +kernel) rfl
def mX1_closeEdit (c9 s9 : Nat) : jM := (yX1_closeEdit, cX1_closeEdit, 3, (some .int), ({ frames := 3, cells := c9, slots := s9, locals := 64 } : Room), [])
set_option maxRecDepth 100000 in
theorem co_X1_closeEdit : Cond.code yX1_closeEdit cX1_closeEdit 3 (some .int) ∈ ja_T := ja_in2 (i := 203) rfl rfl
set_option maxRecDepth 100000 in
theorem ci_X1_closeEdit : Cond.initialized yX1_closeEdit.cls ∈ ja_T := ja_in1 (i := 6) rfl rfl
theorem cn_X1_closeEdit : yX1_closeEdit.cls ≠ "java/lang/invoke/MethodHandle" ∧ yX1_closeEdit.cls ≠ "java/lang/invoke/VarHandle" ∧ (parseMethodDescriptor yX1_closeEdit.desc).map (fun d => d.parameters.length) = some 1 := by decide +kernel
theorem ce_X1_closeEdit (c9 s9 : Nat) : ja_ce (mX1_closeEdit c9 s9) 1 := ⟨rfl, co_X1_closeEdit, ci_X1_closeEdit, cn_X1_closeEdit⟩
set_option maxRecDepth 100000 in
theorem im_X1_closeEdit : Cond.instanceMethod yX1_closeEdit ∈ ja_T := ja_in2 (i := 201) rfl rfl
set_option maxRecDepth 100000 in
theorem se_X1_closeEdit : Cond.selects yX1_closeEdit.cls yX1_closeEdit yX1_closeEdit ∈ ja_T := ja_in2 (i := 202) rfl rfl
def mX1_handOver (c9 s9 : Nat) : jM := (yX1_handOver, cX1_handOver, 5, none, ({ frames := 2, cells := c9, slots := s9, locals := 40 } : Room), [])
set_option maxRecDepth 100000 in
theorem co_X1_handOver : Cond.code yX1_handOver cX1_handOver 5 none ∈ ja_T := ja_in2 (i := 207) rfl rfl
set_option maxRecDepth 100000 in
theorem ci_X1_handOver : Cond.initialized yX1_handOver.cls ∈ ja_T := ja_in1 (i := 6) rfl rfl
theorem cn_X1_handOver : yX1_handOver.cls ≠ "java/lang/invoke/MethodHandle" ∧ yX1_handOver.cls ≠ "java/lang/invoke/VarHandle" ∧ (parseMethodDescriptor yX1_handOver.desc).map (fun d => d.parameters.length) = some 2 := by decide +kernel
theorem ce_X1_handOver (c9 s9 : Nat) : ja_ce (mX1_handOver c9 s9) 2 := ⟨rfl, co_X1_handOver, ci_X1_handOver, cn_X1_handOver⟩
set_option maxRecDepth 100000 in
theorem im_X1_handOver : Cond.instanceMethod yX1_handOver ∈ ja_T := ja_in2 (i := 206) rfl rfl
theorem se_X1_handOver : Cond.selects yX1_handOver.cls yX1_handOver yX1_handOver ∈ ja_T := ja_inT (i := 8) (by decide +kernel) rfl
def mL_split (c9 s9 : Nat) : jM := (yL_split, cL_split, 8, (some .int), ({ frames := 9, cells := c9, slots := s9, locals := 169 } : Room), [(0, 16, 19, 21), (0, 16, 23, 13), (0, 16, 27, 15), (0, 16, 31, 27)])
set_option maxRecDepth 100000 in
theorem st_L_split : Cond.static yL_split ∈ ja_T := ja_in2 (i := 209) rfl rfl
def mX7_split (c9 s9 : Nat) : jM := (yX7_split, cX7_split, 9, (some .int), ({ frames := 8, cells := c9, slots := s9, locals := 141 } : Room), [])
set_option maxRecDepth 100000 in
theorem co_X7_split : Cond.code yX7_split cX7_split 9 (some .int) ∈ ja_T := ja_in2 (i := 215) rfl rfl
set_option maxRecDepth 100000 in
theorem ci_X7_split : Cond.initialized yX7_split.cls ∈ ja_T := ja_in1 (i := 1) rfl rfl
theorem cn_X7_split : yX7_split.cls ≠ "java/lang/invoke/MethodHandle" ∧ yX7_split.cls ≠ "java/lang/invoke/VarHandle" ∧ (parseMethodDescriptor yX7_split.desc).map (fun d => d.parameters.length) = some 5 := by decide +kernel
theorem ce_X7_split (c9 s9 : Nat) : ja_ce (mX7_split c9 s9) 5 := ⟨rfl, co_X7_split, ci_X7_split, cn_X7_split⟩
set_option maxRecDepth 100000 in
theorem im_X7_split : Cond.instanceMethod yX7_split ∈ ja_T := ja_in2 (i := 213) rfl rfl
set_option maxRecDepth 100000 in
theorem se_X7_split : Cond.selects yX7_split.cls yX7_split yX7_split ∈ ja_T := ja_in2 (i := 214) rfl rfl
def mX7_needTwoAreas (c9 s9 : Nat) : jM := (yX7_needTwoAreas, cX7_needTwoAreas, 2, none, ({ frames := 7, cells := c9, slots := s9, locals := 120 } : Room), [])
set_option maxRecDepth 100000 in
theorem co_X7_needTwoAreas : Cond.code yX7_needTwoAreas cX7_needTwoAreas 2 none ∈ ja_T := ja_in2 (i := 218) rfl rfl
set_option maxRecDepth 100000 in
theorem ci_X7_needTwoAreas : Cond.initialized yX7_needTwoAreas.cls ∈ ja_T := ja_in1 (i := 1) rfl rfl
theorem cn_X7_needTwoAreas : yX7_needTwoAreas.cls ≠ "java/lang/invoke/MethodHandle" ∧ yX7_needTwoAreas.cls ≠ "java/lang/invoke/VarHandle" ∧ (parseMethodDescriptor yX7_needTwoAreas.desc).map (fun d => d.parameters.length) = some 2 := by decide +kernel
theorem ce_X7_needTwoAreas (c9 s9 : Nat) : ja_ce (mX7_needTwoAreas c9 s9) 2 := ⟨rfl, co_X7_needTwoAreas, ci_X7_needTwoAreas, cn_X7_needTwoAreas⟩
set_option maxRecDepth 100000 in
theorem st_X7_needTwoAreas : Cond.static yX7_needTwoAreas ∈ ja_T := ja_in2 (i := 217) rfl rfl
def mL_merge (c9 s9 : Nat) : jM := (yL_merge, cL_merge, 6, (some .int), ({ frames := 9, cells := c9, slots := s9, locals := 166 } : Room), [(0, 12, 15, 21), (0, 12, 19, 13), (0, 12, 23, 15)])
set_option maxRecDepth 100000 in
theorem st_L_merge : Cond.static yL_merge ∈ ja_T := ja_in2 (i := 238) rfl rfl
def mX7_merge (c9 s9 : Nat) : jM := (yX7_merge, cX7_merge, 6, (some .int), ({ frames := 8, cells := c9, slots := s9, locals := 141 } : Room), [])
set_option maxRecDepth 100000 in
theorem co_X7_merge : Cond.code yX7_merge cX7_merge 6 (some .int) ∈ ja_T := ja_in3 (i := 3) rfl rfl
set_option maxRecDepth 100000 in
theorem ci_X7_merge : Cond.initialized yX7_merge.cls ∈ ja_T := ja_in1 (i := 1) rfl rfl
theorem cn_X7_merge : yX7_merge.cls ≠ "java/lang/invoke/MethodHandle" ∧ yX7_merge.cls ≠ "java/lang/invoke/VarHandle" ∧ (parseMethodDescriptor yX7_merge.desc).map (fun d => d.parameters.length) = some 3 := by decide +kernel
theorem ce_X7_merge (c9 s9 : Nat) : ja_ce (mX7_merge c9 s9) 3 := ⟨rfl, co_X7_merge, ci_X7_merge, cn_X7_merge⟩
set_option maxRecDepth 100000 in
theorem im_X7_merge : Cond.instanceMethod yX7_merge ∈ ja_T := ja_in3 (i := 1) rfl rfl
set_option maxRecDepth 100000 in
theorem se_X7_merge : Cond.selects yX7_merge.cls yX7_merge yX7_merge ∈ ja_T := ja_in3 (i := 2) rfl rfl
def mL_setValue (c9 s9 : Nat) : jM := (yL_setValue, cL_setValue, 6, (some .int), ({ frames := 8, cells := c9, slots := s9, locals := 147 } : Room), [(0, 12, 15, 21), (0, 12, 19, 13), (0, 12, 23, 15), (0, 12, 27, 27)])
set_option maxRecDepth 100000 in
theorem st_L_setValue : Cond.static yL_setValue ∈ ja_T := ja_in3 (i := 5) rfl rfl
def mX7_setValue (c9 s9 : Nat) : jM := (yX7_setValue, cX7_setValue, 6, (some .int), ({ frames := 7, cells := c9, slots := s9, locals := 122 } : Room), [])
set_option maxRecDepth 100000 in
theorem co_X7_setValue : Cond.code yX7_setValue cX7_setValue 6 (some .int) ∈ ja_T := ja_in3 (i := 10) rfl rfl
set_option maxRecDepth 100000 in
theorem ci_X7_setValue : Cond.initialized yX7_setValue.cls ∈ ja_T := ja_in1 (i := 1) rfl rfl
theorem cn_X7_setValue : yX7_setValue.cls ≠ "java/lang/invoke/MethodHandle" ∧ yX7_setValue.cls ≠ "java/lang/invoke/VarHandle" ∧ (parseMethodDescriptor yX7_setValue.desc).map (fun d => d.parameters.length) = some 3 := by decide +kernel
theorem ce_X7_setValue (c9 s9 : Nat) : ja_ce (mX7_setValue c9 s9) 3 := ⟨rfl, co_X7_setValue, ci_X7_setValue, cn_X7_setValue⟩
set_option maxRecDepth 100000 in
theorem im_X7_setValue : Cond.instanceMethod yX7_setValue ∈ ja_T := ja_in3 (i := 8) rfl rfl
set_option maxRecDepth 100000 in
theorem se_X7_setValue : Cond.selects yX7_setValue.cls yX7_setValue yX7_setValue ∈ ja_T := ja_in3 (i := 9) rfl rfl
def mL_setDivides (c9 s9 : Nat) : jM := (yL_setDivides, cL_setDivides, 5, (some .int), ({ frames := 8, cells := c9, slots := s9, locals := 146 } : Room), [(0, 17, 20, 21)])
set_option maxRecDepth 100000 in
theorem st_L_setDivides : Cond.static yL_setDivides ∈ ja_T := ja_in3 (i := 14) rfl rfl
def mX7_setDivides (c9 s9 : Nat) : jM := (yX7_setDivides, cX7_setDivides, 5, (some .boolean), ({ frames := 7, cells := c9, slots := s9, locals := 122 } : Room), [])
set_option maxRecDepth 100000 in
theorem co_X7_setDivides : Cond.code yX7_setDivides cX7_setDivides 5 (some .boolean) ∈ ja_T := ja_in3 (i := 19) rfl rfl
set_option maxRecDepth 100000 in
theorem ci_X7_setDivides : Cond.initialized yX7_setDivides.cls ∈ ja_T := ja_in1 (i := 1) rfl rfl
theorem cn_X7_setDivides : yX7_setDivides.cls ≠ "java/lang/invoke/MethodHandle" ∧ yX7_setDivides.cls ≠ "java/lang/invoke/VarHandle" ∧ (parseMethodDescriptor yX7_setDivides.desc).map (fun d => d.parameters.length) = some 2 := by decide +kernel
theorem ce_X7_setDivides (c9 s9 : Nat) : ja_ce (mX7_setDivides c9 s9) 2 := ⟨rfl, co_X7_setDivides, ci_X7_setDivides, cn_X7_setDivides⟩
set_option maxRecDepth 100000 in
theorem im_X7_setDivides : Cond.instanceMethod yX7_setDivides ∈ ja_T := ja_in3 (i := 17) rfl rfl
set_option maxRecDepth 100000 in
theorem se_X7_setDivides : Cond.selects yX7_setDivides.cls yX7_setDivides yX7_setDivides ∈ ja_T := ja_in3 (i := 18) rfl rfl
def mL_sign (c9 s9 : Nat) : jM := (yL_sign, cL_sign, 4, (some .int), ({ frames := 8, cells := c9, slots := s9, locals := 146 } : Room), [(0, 9, 12, 43), (0, 9, 15, 15)])
set_option maxRecDepth 100000 in
theorem st_L_sign : Cond.static yL_sign ∈ ja_T := ja_in3 (i := 21) rfl rfl
def mX7_sign (c9 s9 : Nat) : jM := (yX7_sign, cX7_sign, 5, (some .int), ({ frames := 7, cells := c9, slots := s9, locals := 122 } : Room), [])
set_option maxRecDepth 100000 in
theorem co_X7_sign : Cond.code yX7_sign cX7_sign 5 (some .int) ∈ ja_T := ja_in3 (i := 27) rfl rfl
set_option maxRecDepth 100000 in
theorem ci_X7_sign : Cond.initialized yX7_sign.cls ∈ ja_T := ja_in1 (i := 1) rfl rfl
theorem cn_X7_sign : yX7_sign.cls ≠ "java/lang/invoke/MethodHandle" ∧ yX7_sign.cls ≠ "java/lang/invoke/VarHandle" ∧ (parseMethodDescriptor yX7_sign.desc).map (fun d => d.parameters.length) = some 1 := by decide +kernel
theorem ce_X7_sign (c9 s9 : Nat) : ja_ce (mX7_sign c9 s9) 1 := ⟨rfl, co_X7_sign, ci_X7_sign, cn_X7_sign⟩
set_option maxRecDepth 100000 in
theorem im_X7_sign : Cond.instanceMethod yX7_sign ∈ ja_T := ja_in3 (i := 25) rfl rfl
set_option maxRecDepth 100000 in
theorem se_X7_sign : Cond.selects yX7_sign.cls yX7_sign yX7_sign ∈ ja_T := ja_in3 (i := 26) rfl rfl
def mL_keep (c9 s9 : Nat) : jM := (yL_keep, cL_keep, 3, (some .int), ({ frames := 8, cells := c9, slots := s9, locals := 144 } : Room), [(0, 8, 11, 15), (0, 8, 14, 27)])
set_option maxRecDepth 100000 in
theorem st_L_keep : Cond.static yL_keep ∈ ja_T := ja_in3 (i := 29) rfl rfl
def mX7_keep (c9 s9 : Nat) : jM := (yX7_keep, cX7_keep, 3, (some .int), ({ frames := 7, cells := c9, slots := s9, locals := 122 } : Room), [])
set_option maxRecDepth 100000 in
theorem co_X7_keep : Cond.code yX7_keep cX7_keep 3 (some .int) ∈ ja_T := ja_in3 (i := 34) rfl rfl
set_option maxRecDepth 100000 in
theorem ci_X7_keep : Cond.initialized yX7_keep.cls ∈ ja_T := ja_in1 (i := 1) rfl rfl
theorem cn_X7_keep : yX7_keep.cls ≠ "java/lang/invoke/MethodHandle" ∧ yX7_keep.cls ≠ "java/lang/invoke/VarHandle" ∧ (parseMethodDescriptor yX7_keep.desc).map (fun d => d.parameters.length) = some 0 := by decide +kernel
theorem ce_X7_keep (c9 s9 : Nat) : ja_ce (mX7_keep c9 s9) 0 := ⟨rfl, co_X7_keep, ci_X7_keep, cn_X7_keep⟩
set_option maxRecDepth 100000 in
theorem im_X7_keep : Cond.instanceMethod yX7_keep ∈ ja_T := ja_in3 (i := 32) rfl rfl
set_option maxRecDepth 100000 in
theorem se_X7_keep : Cond.selects yX7_keep.cls yX7_keep yX7_keep ∈ ja_T := ja_in3 (i := 33) rfl rfl
def mX4_breaks (c9 s9 : Nat) : jM := (yX4_breaks, cX4_breaks, 3, (some .int), ({ frames := 3, cells := c9, slots := s9, locals := 67 } : Room), [])
set_option maxRecDepth 100000 in
theorem co_X4_breaks : Cond.code yX4_breaks cX4_breaks 3 (some .int) ∈ ja_T := ja_in3 (i := 38) rfl rfl
set_option maxRecDepth 100000 in
theorem ci_X4_breaks : Cond.initialized yX4_breaks.cls ∈ ja_T := ja_in1 (i := 20) rfl rfl
theorem cn_X4_breaks : yX4_breaks.cls ≠ "java/lang/invoke/MethodHandle" ∧ yX4_breaks.cls ≠ "java/lang/invoke/VarHandle" ∧ (parseMethodDescriptor yX4_breaks.desc).map (fun d => d.parameters.length) = some 0 := by decide +kernel
theorem ce_X4_breaks (c9 s9 : Nat) : ja_ce (mX4_breaks c9 s9) 0 := ⟨rfl, co_X4_breaks, ci_X4_breaks, cn_X4_breaks⟩
set_option maxRecDepth 100000 in
theorem im_X4_breaks : Cond.instanceMethod yX4_breaks ∈ ja_T := ja_in3 (i := 36) rfl rfl
set_option maxRecDepth 100000 in
theorem se_X4_breaks : Cond.selects yX4_breaks.cls yX4_breaks yX4_breaks ∈ ja_T := ja_in3 (i := 37) rfl rfl
def mX4_breaksAlong (c9 s9 : Nat) : jM := (yX4_breaksAlong, cX4_breaksAlong, 5, (some .int), ({ frames := 2, cells := c9, slots := s9, locals := 43 } : Room), [])
set_option maxRecDepth 100000 in
theorem co_X4_breaksAlong : Cond.code yX4_breaksAlong cX4_breaksAlong 5 (some .int) ∈ ja_T := ja_in3 (i := 43) rfl rfl
set_option maxRecDepth 100000 in
theorem ci_X4_breaksAlong : Cond.initialized yX4_breaksAlong.cls ∈ ja_T := ja_in1 (i := 20) rfl rfl
theorem cn_X4_breaksAlong : yX4_breaksAlong.cls ≠ "java/lang/invoke/MethodHandle" ∧ yX4_breaksAlong.cls ≠ "java/lang/invoke/VarHandle" ∧ (parseMethodDescriptor yX4_breaksAlong.desc).map (fun d => d.parameters.length) = some 2 := by decide +kernel
theorem ce_X4_breaksAlong (c9 s9 : Nat) : ja_ce (mX4_breaksAlong c9 s9) 2 := ⟨rfl, co_X4_breaksAlong, ci_X4_breaksAlong, cn_X4_breaksAlong⟩
set_option maxRecDepth 100000 in
theorem im_X4_breaksAlong : Cond.instanceMethod yX4_breaksAlong ∈ ja_T := ja_in3 (i := 41) rfl rfl
theorem se_X4_breaksAlong : Cond.selects yX4_breaksAlong.cls yX4_breaksAlong yX4_breaksAlong ∈ ja_T := ja_inT (i := 9) (by decide +kernel) rfl
def mX4_breaksAt (c9 s9 : Nat) : jM := (yX4_breaksAt, cX4_breaksAt, 5, (some .int), ({ frames := 1, cells := c9, slots := s9, locals := 20 } : Room), [])
set_option maxRecDepth 100000 in
theorem co_X4_breaksAt : Cond.code yX4_breaksAt cX4_breaksAt 5 (some .int) ∈ ja_T := ja_in3 (i := 48) rfl rfl
set_option maxRecDepth 100000 in
theorem ci_X4_breaksAt : Cond.initialized yX4_breaksAt.cls ∈ ja_T := ja_in1 (i := 20) rfl rfl
theorem cn_X4_breaksAt : yX4_breaksAt.cls ≠ "java/lang/invoke/MethodHandle" ∧ yX4_breaksAt.cls ≠ "java/lang/invoke/VarHandle" ∧ (parseMethodDescriptor yX4_breaksAt.desc).map (fun d => d.parameters.length) = some 1 := by decide +kernel
theorem ce_X4_breaksAt (c9 s9 : Nat) : ja_ce (mX4_breaksAt c9 s9) 1 := ⟨rfl, co_X4_breaksAt, ci_X4_breaksAt, cn_X4_breaksAt⟩
set_option maxRecDepth 100000 in
theorem im_X4_breaksAt : Cond.instanceMethod yX4_breaksAt ∈ ja_T := ja_in3 (i := 47) rfl rfl
theorem se_X4_breaksAt : Cond.selects yX4_breaksAt.cls yX4_breaksAt yX4_breaksAt ∈ ja_T := ja_inT (i := 10) (by decide +kernel) rfl
def mX1_store (c9 s9 : Nat) : jM := (yX1_store, cX1_store, 2, none, ({ frames := 2, cells := c9, slots := s9, locals := 60 } : Room), [])
set_option maxRecDepth 100000 in
theorem co_X1_store : Cond.code yX1_store cX1_store 2 none ∈ ja_T := ja_in3 (i := 53) rfl rfl
set_option maxRecDepth 100000 in
theorem ci_X1_store : Cond.initialized yX1_store.cls ∈ ja_T := ja_in1 (i := 6) rfl rfl
theorem cn_X1_store : yX1_store.cls ≠ "java/lang/invoke/MethodHandle" ∧ yX1_store.cls ≠ "java/lang/invoke/VarHandle" ∧ (parseMethodDescriptor yX1_store.desc).map (fun d => d.parameters.length) = some 1 := by decide +kernel
theorem ce_X1_store (c9 s9 : Nat) : ja_ce (mX1_store c9 s9) 1 := ⟨rfl, co_X1_store, ci_X1_store, cn_X1_store⟩
set_option maxRecDepth 100000 in
theorem im_X1_store : Cond.instanceMethod yX1_store ∈ ja_T := ja_in3 (i := 51) rfl rfl
set_option maxRecDepth 100000 in
theorem se_X1_store : Cond.selects yX1_store.cls yX1_store yX1_store ∈ ja_T := ja_in3 (i := 52) rfl rfl
def mL_drop (c9 s9 : Nat) : jM := (yL_drop, cL_drop, 3, (some .int), ({ frames := 8, cells := c9, slots := s9, locals := 144 } : Room), [(0, 8, 11, 15)])
set_option maxRecDepth 100000 in
theorem st_L_drop : Cond.static yL_drop ∈ ja_T := ja_in3 (i := 55) rfl rfl
def mX7_drop (c9 s9 : Nat) : jM := (yX7_drop, cX7_drop, 3, (some .int), ({ frames := 7, cells := c9, slots := s9, locals := 122 } : Room), [])
set_option maxRecDepth 100000 in
theorem co_X7_drop : Cond.code yX7_drop cX7_drop 3 (some .int) ∈ ja_T := ja_in3 (i := 60) rfl rfl
set_option maxRecDepth 100000 in
theorem ci_X7_drop : Cond.initialized yX7_drop.cls ∈ ja_T := ja_in1 (i := 1) rfl rfl
theorem cn_X7_drop : yX7_drop.cls ≠ "java/lang/invoke/MethodHandle" ∧ yX7_drop.cls ≠ "java/lang/invoke/VarHandle" ∧ (parseMethodDescriptor yX7_drop.desc).map (fun d => d.parameters.length) = some 0 := by decide +kernel
theorem ce_X7_drop (c9 s9 : Nat) : ja_ce (mX7_drop c9 s9) 0 := ⟨rfl, co_X7_drop, ci_X7_drop, cn_X7_drop⟩
set_option maxRecDepth 100000 in
theorem im_X7_drop : Cond.instanceMethod yX7_drop ∈ ja_T := ja_in3 (i := 58) rfl rfl
set_option maxRecDepth 100000 in
theorem se_X7_drop : Cond.selects yX7_drop.cls yX7_drop yX7_drop ∈ ja_T := ja_in3 (i := 59) rfl rfl
def mX1_goBack (c9 s9 : Nat) : jM := (yX1_goBack, cX1_goBack, 5, (some .int), ({ frames := 3, cells := c9, slots := s9, locals := 63 } : Room), [])
set_option maxRecDepth 100000 in
theorem co_X1_goBack : Cond.code yX1_goBack cX1_goBack 5 (some .int) ∈ ja_T := ja_in3 (i := 64) rfl rfl
set_option maxRecDepth 100000 in
theorem ci_X1_goBack : Cond.initialized yX1_goBack.cls ∈ ja_T := ja_in1 (i := 6) rfl rfl
theorem cn_X1_goBack : yX1_goBack.cls ≠ "java/lang/invoke/MethodHandle" ∧ yX1_goBack.cls ≠ "java/lang/invoke/VarHandle" ∧ (parseMethodDescriptor yX1_goBack.desc).map (fun d => d.parameters.length) = some 1 := by decide +kernel
theorem ce_X1_goBack (c9 s9 : Nat) : ja_ce (mX1_goBack c9 s9) 1 := ⟨rfl, co_X1_goBack, ci_X1_goBack, cn_X1_goBack⟩
set_option maxRecDepth 100000 in
theorem im_X1_goBack : Cond.instanceMethod yX1_goBack ∈ ja_T := ja_in3 (i := 62) rfl rfl
set_option maxRecDepth 100000 in
theorem se_X1_goBack : Cond.selects yX1_goBack.cls yX1_goBack yX1_goBack ∈ ja_T := ja_in3 (i := 63) rfl rfl
def mL_addRule (c9 s9 : Nat) : jM := (yL_addRule, cL_addRule, 6, (some .int), ({ frames := 8, cells := c9, slots := s9, locals := 145 } : Room), [(0, 12, 15, 13), (0, 12, 19, 21), (0, 12, 23, 15)])
set_option maxRecDepth 100000 in
theorem st_L_addRule : Cond.static yL_addRule ∈ ja_T := ja_in3 (i := 66) rfl rfl
def mX7_addRule (c9 s9 : Nat) : jM := (yX7_addRule, cX7_addRule, 4, (some .int), ({ frames := 7, cells := c9, slots := s9, locals := 122 } : Room), [])
set_option maxRecDepth 100000 in
theorem co_X7_addRule : Cond.code yX7_addRule cX7_addRule 4 (some .int) ∈ ja_T := ja_in3 (i := 71) rfl rfl
set_option maxRecDepth 100000 in
theorem ci_X7_addRule : Cond.initialized yX7_addRule.cls ∈ ja_T := ja_in1 (i := 1) rfl rfl
theorem cn_X7_addRule : yX7_addRule.cls ≠ "java/lang/invoke/MethodHandle" ∧ yX7_addRule.cls ≠ "java/lang/invoke/VarHandle" ∧ (parseMethodDescriptor yX7_addRule.desc).map (fun d => d.parameters.length) = some 3 := by decide +kernel
theorem ce_X7_addRule (c9 s9 : Nat) : ja_ce (mX7_addRule c9 s9) 3 := ⟨rfl, co_X7_addRule, ci_X7_addRule, cn_X7_addRule⟩
set_option maxRecDepth 100000 in
theorem im_X7_addRule : Cond.instanceMethod yX7_addRule ∈ ja_T := ja_in3 (i := 69) rfl rfl
set_option maxRecDepth 100000 in
theorem se_X7_addRule : Cond.selects yX7_addRule.cls yX7_addRule yX7_addRule ∈ ja_T := ja_in3 (i := 70) rfl rfl
def mX7_needTwoLayers (c9 s9 : Nat) : jM := (yX7_needTwoLayers, cX7_needTwoLayers, 3, none, ({ frames := 6, cells := c9, slots := s9, locals := 100 } : Room), [])
set_option maxRecDepth 100000 in
theorem co_X7_needTwoLayers : Cond.code yX7_needTwoLayers cX7_needTwoLayers 3 none ∈ ja_T := ja_in3 (i := 76) rfl rfl
set_option maxRecDepth 100000 in
theorem ci_X7_needTwoLayers : Cond.initialized yX7_needTwoLayers.cls ∈ ja_T := ja_in1 (i := 1) rfl rfl
theorem cn_X7_needTwoLayers : yX7_needTwoLayers.cls ≠ "java/lang/invoke/MethodHandle" ∧ yX7_needTwoLayers.cls ≠ "java/lang/invoke/VarHandle" ∧ (parseMethodDescriptor yX7_needTwoLayers.desc).map (fun d => d.parameters.length) = some 2 := by decide +kernel
theorem ce_X7_needTwoLayers (c9 s9 : Nat) : ja_ce (mX7_needTwoLayers c9 s9) 2 := ⟨rfl, co_X7_needTwoLayers, ci_X7_needTwoLayers, cn_X7_needTwoLayers⟩
set_option maxRecDepth 100000 in
theorem im_X7_needTwoLayers : Cond.instanceMethod yX7_needTwoLayers ∈ ja_T := ja_in3 (i := 75) rfl rfl
theorem se_X7_needTwoLayers : Cond.selects yX7_needTwoLayers.cls yX7_needTwoLayers yX7_needTwoLayers ∈ ja_T := ja_inT (i := 11) (by decide +kernel) rfl
def mX4_init (c9 s9 : Nat) : jM := (yX4_init, cX4_init, 4, none, ({ frames := 2, cells := c9, slots := s9, locals := 60 } : Room), [])
set_option maxRecDepth 100000 in
theorem co_X4_init : Cond.code yX4_init cX4_init 4 none ∈ ja_T := ja_in3 (i := 81) rfl rfl
set_option maxRecDepth 100000 in
theorem ci_X4_init : Cond.initialized yX4_init.cls ∈ ja_T := ja_in1 (i := 20) rfl rfl
theorem cn_X4_init : yX4_init.cls ≠ "java/lang/invoke/MethodHandle" ∧ yX4_init.cls ≠ "java/lang/invoke/VarHandle" ∧ (parseMethodDescriptor yX4_init.desc).map (fun d => d.parameters.length) = some 3 := by decide +kernel
theorem ce_X4_init (c9 s9 : Nat) : ja_ce (mX4_init c9 s9) 3 := ⟨rfl, co_X4_init, ci_X4_init, cn_X4_init⟩
set_option maxRecDepth 100000 in
theorem im_X4_init : Cond.instanceMethod yX4_init ∈ ja_T := ja_in3 (i := 80) rfl rfl
def mL_broken (c9 s9 : Nat) : jM := (yL_broken, cL_broken, 4, (some .int), ({ frames := 8, cells := c9, slots := s9, locals := 143 } : Room), [(0, 9, 12, 43)])
set_option maxRecDepth 100000 in
theorem st_L_broken : Cond.static yL_broken ∈ ja_T := ja_in3 (i := 97) rfl rfl
def mX7_broken (c9 s9 : Nat) : jM := (yX7_broken, cX7_broken, 2, (some .int), ({ frames := 7, cells := c9, slots := s9, locals := 122 } : Room), [])
set_option maxRecDepth 100000 in
theorem co_X7_broken : Cond.code yX7_broken cX7_broken 2 (some .int) ∈ ja_T := ja_in3 (i := 102) rfl rfl
set_option maxRecDepth 100000 in
theorem ci_X7_broken : Cond.initialized yX7_broken.cls ∈ ja_T := ja_in1 (i := 1) rfl rfl
theorem cn_X7_broken : yX7_broken.cls ≠ "java/lang/invoke/MethodHandle" ∧ yX7_broken.cls ≠ "java/lang/invoke/VarHandle" ∧ (parseMethodDescriptor yX7_broken.desc).map (fun d => d.parameters.length) = some 1 := by decide +kernel
theorem ce_X7_broken (c9 s9 : Nat) : ja_ce (mX7_broken c9 s9) 1 := ⟨rfl, co_X7_broken, ci_X7_broken, cn_X7_broken⟩
set_option maxRecDepth 100000 in
theorem im_X7_broken : Cond.instanceMethod yX7_broken ∈ ja_T := ja_in3 (i := 100) rfl rfl
set_option maxRecDepth 100000 in
theorem se_X7_broken : Cond.selects yX7_broken.cls yX7_broken yX7_broken ∈ ja_T := ja_in3 (i := 101) rfl rfl
def mL_leastBroken (c9 s9 : Nat) : jM := (yL_leastBroken, cL_leastBroken, 3, (some .int), ({ frames := 8, cells := c9, slots := s9, locals := 146 } : Room), [(0, 8, 11, 43)])
set_option maxRecDepth 100000 in
theorem st_L_leastBroken : Cond.static yL_leastBroken ∈ ja_T := ja_in3 (i := 104) rfl rfl
def mX7_leastBroken (c9 s9 : Nat) : jM := (yX7_leastBroken, cX7_leastBroken, 5, (some .int), ({ frames := 7, cells := c9, slots := s9, locals := 122 } : Room), [])
set_option maxRecDepth 100000 in
theorem co_X7_leastBroken : Cond.code yX7_leastBroken cX7_leastBroken 5 (some .int) ∈ ja_T := ja_in3 (i := 109) rfl rfl
set_option maxRecDepth 100000 in
theorem ci_X7_leastBroken : Cond.initialized yX7_leastBroken.cls ∈ ja_T := ja_in1 (i := 1) rfl rfl
theorem cn_X7_leastBroken : yX7_leastBroken.cls ≠ "java/lang/invoke/MethodHandle" ∧ yX7_leastBroken.cls ≠ "java/lang/invoke/VarHandle" ∧ (parseMethodDescriptor yX7_leastBroken.desc).map (fun d => d.parameters.length) = some 0 := by decide +kernel
theorem ce_X7_leastBroken (c9 s9 : Nat) : ja_ce (mX7_leastBroken c9 s9) 0 := ⟨rfl, co_X7_leastBroken, ci_X7_leastBroken, cn_X7_leastBroken⟩
set_option maxRecDepth 100000 in
theorem im_X7_leastBroken : Cond.instanceMethod yX7_leastBroken ∈ ja_T := ja_in3 (i := 107) rfl rfl
set_option maxRecDepth 100000 in
theorem se_X7_leastBroken : Cond.selects yX7_leastBroken.cls yX7_leastBroken yX7_leastBroken ∈ ja_T := ja_in3 (i := 108) rfl rfl
def mL_areaAt (c9 s9 : Nat) : jM := (yL_areaAt, cL_areaAt, 5, (some .int), ({ frames := 8, cells := c9, slots := s9, locals := 145 } : Room), [(0, 10, 13, 21)])
set_option maxRecDepth 100000 in
theorem st_L_areaAt : Cond.static yL_areaAt ∈ ja_T := ja_in3 (i := 112) rfl rfl
def mX7_areaAt (c9 s9 : Nat) : jM := (yX7_areaAt, cX7_areaAt, 4, (some .int), ({ frames := 7, cells := c9, slots := s9, locals := 122 } : Room), [])
set_option maxRecDepth 100000 in
theorem co_X7_areaAt : Cond.code yX7_areaAt cX7_areaAt 4 (some .int) ∈ ja_T := ja_in3 (i := 117) rfl rfl
set_option maxRecDepth 100000 in
theorem ci_X7_areaAt : Cond.initialized yX7_areaAt.cls ∈ ja_T := ja_in1 (i := 1) rfl rfl
theorem cn_X7_areaAt : yX7_areaAt.cls ≠ "java/lang/invoke/MethodHandle" ∧ yX7_areaAt.cls ≠ "java/lang/invoke/VarHandle" ∧ (parseMethodDescriptor yX7_areaAt.desc).map (fun d => d.parameters.length) = some 2 := by decide +kernel
theorem ce_X7_areaAt (c9 s9 : Nat) : ja_ce (mX7_areaAt c9 s9) 2 := ⟨rfl, co_X7_areaAt, ci_X7_areaAt, cn_X7_areaAt⟩
set_option maxRecDepth 100000 in
theorem im_X7_areaAt : Cond.instanceMethod yX7_areaAt ∈ ja_T := ja_in3 (i := 115) rfl rfl
set_option maxRecDepth 100000 in
theorem se_X7_areaAt : Cond.selects yX7_areaAt.cls yX7_areaAt yX7_areaAt ∈ ja_T := ja_in3 (i := 116) rfl rfl
def mX7_needSquare (c9 s9 : Nat) : jM := (yX7_needSquare, cX7_needSquare, 1, none, ({ frames := 6, cells := c9, slots := s9, locals := 100 } : Room), [])
set_option maxRecDepth 100000 in
theorem co_X7_needSquare : Cond.code yX7_needSquare cX7_needSquare 1 none ∈ ja_T := ja_in3 (i := 120) rfl rfl
set_option maxRecDepth 100000 in
theorem ci_X7_needSquare : Cond.initialized yX7_needSquare.cls ∈ ja_T := ja_in1 (i := 1) rfl rfl
theorem cn_X7_needSquare : yX7_needSquare.cls ≠ "java/lang/invoke/MethodHandle" ∧ yX7_needSquare.cls ≠ "java/lang/invoke/VarHandle" ∧ (parseMethodDescriptor yX7_needSquare.desc).map (fun d => d.parameters.length) = some 1 := by decide +kernel
theorem ce_X7_needSquare (c9 s9 : Nat) : ja_ce (mX7_needSquare c9 s9) 1 := ⟨rfl, co_X7_needSquare, ci_X7_needSquare, cn_X7_needSquare⟩
set_option maxRecDepth 100000 in
theorem st_X7_needSquare : Cond.static yX7_needSquare ∈ ja_T := ja_in3 (i := 119) rfl rfl
def mL_areaThen (c9 s9 : Nat) : jM := (yL_areaThen, cL_areaThen, 6, (some .int), ({ frames := 8, cells := c9, slots := s9, locals := 146 } : Room), [(0, 12, 15, 21), (0, 12, 19, 13)])
set_option maxRecDepth 100000 in
theorem st_L_areaThen : Cond.static yL_areaThen ∈ ja_T := ja_in3 (i := 123) rfl rfl
def mX7_areaThen (c9 s9 : Nat) : jM := (yX7_areaThen, cX7_areaThen, 5, (some .int), ({ frames := 7, cells := c9, slots := s9, locals := 122 } : Room), [])
set_option maxRecDepth 100000 in
theorem co_X7_areaThen : Cond.code yX7_areaThen cX7_areaThen 5 (some .int) ∈ ja_T := ja_in3 (i := 128) rfl rfl
set_option maxRecDepth 100000 in
theorem ci_X7_areaThen : Cond.initialized yX7_areaThen.cls ∈ ja_T := ja_in1 (i := 1) rfl rfl
theorem cn_X7_areaThen : yX7_areaThen.cls ≠ "java/lang/invoke/MethodHandle" ∧ yX7_areaThen.cls ≠ "java/lang/invoke/VarHandle" ∧ (parseMethodDescriptor yX7_areaThen.desc).map (fun d => d.parameters.length) = some 3 := by decide +kernel
theorem ce_X7_areaThen (c9 s9 : Nat) : ja_ce (mX7_areaThen c9 s9) 3 := ⟨rfl, co_X7_areaThen, ci_X7_areaThen, cn_X7_areaThen⟩
set_option maxRecDepth 100000 in
theorem im_X7_areaThen : Cond.instanceMethod yX7_areaThen ∈ ja_T := ja_in3 (i := 126) rfl rfl
set_option maxRecDepth 100000 in
theorem se_X7_areaThen : Cond.selects yX7_areaThen.cls yX7_areaThen yX7_areaThen ∈ ja_T := ja_in3 (i := 127) rfl rfl
def mX7_needTime (c9 s9 : Nat) : jM := (yX7_needTime, cX7_needTime, 2, none, ({ frames := 6, cells := c9, slots := s9, locals := 100 } : Room), [])
set_option maxRecDepth 100000 in
theorem co_X7_needTime : Cond.code yX7_needTime cX7_needTime 2 none ∈ ja_T := ja_in3 (i := 132) rfl rfl
set_option maxRecDepth 100000 in
theorem ci_X7_needTime : Cond.initialized yX7_needTime.cls ∈ ja_T := ja_in1 (i := 1) rfl rfl
theorem cn_X7_needTime : yX7_needTime.cls ≠ "java/lang/invoke/MethodHandle" ∧ yX7_needTime.cls ≠ "java/lang/invoke/VarHandle" ∧ (parseMethodDescriptor yX7_needTime.desc).map (fun d => d.parameters.length) = some 1 := by decide +kernel
theorem ce_X7_needTime (c9 s9 : Nat) : ja_ce (mX7_needTime c9 s9) 1 := ⟨rfl, co_X7_needTime, ci_X7_needTime, cn_X7_needTime⟩
set_option maxRecDepth 100000 in
theorem im_X7_needTime : Cond.instanceMethod yX7_needTime ∈ ja_T := ja_in3 (i := 131) rfl rfl
theorem se_X7_needTime : Cond.selects yX7_needTime.cls yX7_needTime yX7_needTime ∈ ja_T := ja_inT (i := 12) (by decide +kernel) rfl
def mL_authorOf (c9 s9 : Nat) : jM := (yL_authorOf, cL_authorOf, 6, (some .int), ({ frames := 8, cells := c9, slots := s9, locals := 147 } : Room), [(0, 12, 15, 21), (0, 12, 19, 13), (0, 12, 23, 43)])
set_option maxRecDepth 100000 in
theorem st_L_authorOf : Cond.static yL_authorOf ∈ ja_T := ja_in3 (i := 136) rfl rfl
def mX7_authorOf (c9 s9 : Nat) : jM := (yX7_authorOf, cX7_authorOf, 6, (some .int), ({ frames := 7, cells := c9, slots := s9, locals := 122 } : Room), [])
set_option maxRecDepth 100000 in
theorem co_X7_authorOf : Cond.code yX7_authorOf cX7_authorOf 6 (some .int) ∈ ja_T := ja_in3 (i := 141) rfl rfl
set_option maxRecDepth 100000 in
theorem ci_X7_authorOf : Cond.initialized yX7_authorOf.cls ∈ ja_T := ja_in1 (i := 1) rfl rfl
theorem cn_X7_authorOf : yX7_authorOf.cls ≠ "java/lang/invoke/MethodHandle" ∧ yX7_authorOf.cls ≠ "java/lang/invoke/VarHandle" ∧ (parseMethodDescriptor yX7_authorOf.desc).map (fun d => d.parameters.length) = some 3 := by decide +kernel
theorem ce_X7_authorOf (c9 s9 : Nat) : ja_ce (mX7_authorOf c9 s9) 3 := ⟨rfl, co_X7_authorOf, ci_X7_authorOf, cn_X7_authorOf⟩
set_option maxRecDepth 100000 in
theorem im_X7_authorOf : Cond.instanceMethod yX7_authorOf ∈ ja_T := ja_in3 (i := 139) rfl rfl
set_option maxRecDepth 100000 in
theorem se_X7_authorOf : Cond.selects yX7_authorOf.cls yX7_authorOf yX7_authorOf ∈ ja_T := ja_in3 (i := 140) rfl rfl
def mL_size (c9 s9 : Nat) : jM := (yL_size, cL_size, 5, (some .int), ({ frames := 8, cells := c9, slots := s9, locals := 145 } : Room), [(0, 10, 13, 21), (0, 10, 17, 13)])
set_option maxRecDepth 100000 in
theorem st_L_size : Cond.static yL_size ∈ ja_T := ja_in3 (i := 144) rfl rfl
def mX7_size (c9 s9 : Nat) : jM := (yX7_size, cX7_size, 4, (some .int), ({ frames := 7, cells := c9, slots := s9, locals := 122 } : Room), [])
set_option maxRecDepth 100000 in
theorem co_X7_size : Cond.code yX7_size cX7_size 4 (some .int) ∈ ja_T := ja_in3 (i := 149) rfl rfl
set_option maxRecDepth 100000 in
theorem ci_X7_size : Cond.initialized yX7_size.cls ∈ ja_T := ja_in1 (i := 1) rfl rfl
theorem cn_X7_size : yX7_size.cls ≠ "java/lang/invoke/MethodHandle" ∧ yX7_size.cls ≠ "java/lang/invoke/VarHandle" ∧ (parseMethodDescriptor yX7_size.desc).map (fun d => d.parameters.length) = some 2 := by decide +kernel
theorem ce_X7_size (c9 s9 : Nat) : ja_ce (mX7_size c9 s9) 2 := ⟨rfl, co_X7_size, ci_X7_size, cn_X7_size⟩
set_option maxRecDepth 100000 in
theorem im_X7_size : Cond.instanceMethod yX7_size ∈ ja_T := ja_in3 (i := 147) rfl rfl
set_option maxRecDepth 100000 in
theorem se_X7_size : Cond.selects yX7_size.cls yX7_size yX7_size ∈ ja_T := ja_in3 (i := 148) rfl rfl
def mL_value (c9 s9 : Nat) : jM := (yL_value, cL_value, 5, (some .int), ({ frames := 8, cells := c9, slots := s9, locals := 145 } : Room), [(0, 10, 13, 21), (0, 10, 17, 13)])
set_option maxRecDepth 100000 in
theorem st_L_value : Cond.static yL_value ∈ ja_T := ja_in3 (i := 151) rfl rfl
def mX7_value (c9 s9 : Nat) : jM := (yX7_value, cX7_value, 4, (some .int), ({ frames := 7, cells := c9, slots := s9, locals := 122 } : Room), [])
set_option maxRecDepth 100000 in
theorem co_X7_value : Cond.code yX7_value cX7_value 4 (some .int) ∈ ja_T := ja_in3 (i := 156) rfl rfl
set_option maxRecDepth 100000 in
theorem ci_X7_value : Cond.initialized yX7_value.cls ∈ ja_T := ja_in1 (i := 1) rfl rfl
theorem cn_X7_value : yX7_value.cls ≠ "java/lang/invoke/MethodHandle" ∧ yX7_value.cls ≠ "java/lang/invoke/VarHandle" ∧ (parseMethodDescriptor yX7_value.desc).map (fun d => d.parameters.length) = some 2 := by decide +kernel
theorem ce_X7_value (c9 s9 : Nat) : ja_ce (mX7_value c9 s9) 2 := ⟨rfl, co_X7_value, ci_X7_value, cn_X7_value⟩
set_option maxRecDepth 100000 in
theorem im_X7_value : Cond.instanceMethod yX7_value ∈ ja_T := ja_in3 (i := 154) rfl rfl
set_option maxRecDepth 100000 in
theorem se_X7_value : Cond.selects yX7_value.cls yX7_value yX7_value ∈ ja_T := ja_in3 (i := 155) rfl rfl
def mL_rim (c9 s9 : Nat) : jM := (yL_rim, cL_rim, 5, (some .int), ({ frames := 8, cells := c9, slots := s9, locals := 147 } : Room), [(0, 10, 13, 21), (0, 10, 17, 13)])
set_option maxRecDepth 100000 in
theorem st_L_rim : Cond.static yL_rim ∈ ja_T := ja_in3 (i := 158) rfl rfl
def mX7_rim (c9 s9 : Nat) : jM := (yX7_rim, cX7_rim, 6, (some .int), ({ frames := 7, cells := c9, slots := s9, locals := 122 } : Room), [])
set_option maxRecDepth 100000 in
theorem co_X7_rim : Cond.code yX7_rim cX7_rim 6 (some .int) ∈ ja_T := ja_in3 (i := 163) rfl rfl
set_option maxRecDepth 100000 in
theorem ci_X7_rim : Cond.initialized yX7_rim.cls ∈ ja_T := ja_in1 (i := 1) rfl rfl
theorem cn_X7_rim : yX7_rim.cls ≠ "java/lang/invoke/MethodHandle" ∧ yX7_rim.cls ≠ "java/lang/invoke/VarHandle" ∧ (parseMethodDescriptor yX7_rim.desc).map (fun d => d.parameters.length) = some 2 := by decide +kernel
theorem ce_X7_rim (c9 s9 : Nat) : ja_ce (mX7_rim c9 s9) 2 := ⟨rfl, co_X7_rim, ci_X7_rim, cn_X7_rim⟩
set_option maxRecDepth 100000 in
theorem im_X7_rim : Cond.instanceMethod yX7_rim ∈ ja_T := ja_in3 (i := 161) rfl rfl
set_option maxRecDepth 100000 in
theorem se_X7_rim : Cond.selects yX7_rim.cls yX7_rim yX7_rim ∈ ja_T := ja_in3 (i := 162) rfl rfl
def mX1_openSides (c9 s9 : Nat) : jM := (yX1_openSides, cX1_openSides, 5, (some .int), ({ frames := 2, cells := c9, slots := s9, locals := 43 } : Room), [])
set_option maxRecDepth 100000 in
theorem co_X1_openSides : Cond.code yX1_openSides cX1_openSides 5 (some .int) ∈ ja_T := ja_in3 (i := 167) rfl rfl
set_option maxRecDepth 100000 in
theorem ci_X1_openSides : Cond.initialized yX1_openSides.cls ∈ ja_T := ja_in1 (i := 6) rfl rfl
theorem cn_X1_openSides : yX1_openSides.cls ≠ "java/lang/invoke/MethodHandle" ∧ yX1_openSides.cls ≠ "java/lang/invoke/VarHandle" ∧ (parseMethodDescriptor yX1_openSides.desc).map (fun d => d.parameters.length) = some 1 := by decide +kernel
theorem ce_X1_openSides (c9 s9 : Nat) : ja_ce (mX1_openSides c9 s9) 1 := ⟨rfl, co_X1_openSides, ci_X1_openSides, cn_X1_openSides⟩
set_option maxRecDepth 100000 in
theorem im_X1_openSides : Cond.instanceMethod yX1_openSides ∈ ja_T := ja_in3 (i := 165) rfl rfl
set_option maxRecDepth 100000 in
theorem se_X1_openSides : Cond.selects yX1_openSides.cls yX1_openSides yX1_openSides ∈ ja_T := ja_in3 (i := 166) rfl rfl
def mL_border (c9 s9 : Nat) : jM := (yL_border, cL_border, 6, (some .int), ({ frames := 9, cells := c9, slots := s9, locals := 169 } : Room), [(0, 12, 15, 21), (0, 12, 19, 13)])
set_option maxRecDepth 100000 in
theorem st_L_border : Cond.static yL_border ∈ ja_T := ja_in3 (i := 170) rfl rfl
def mX7_border (c9 s9 : Nat) : jM := (yX7_border, cX7_border, 9, (some .int), ({ frames := 8, cells := c9, slots := s9, locals := 141 } : Room), [])
set_option maxRecDepth 100000 in
theorem co_X7_border : Cond.code yX7_border cX7_border 9 (some .int) ∈ ja_T := ja_in3 (i := 175) rfl rfl
set_option maxRecDepth 100000 in
theorem ci_X7_border : Cond.initialized yX7_border.cls ∈ ja_T := ja_in1 (i := 1) rfl rfl
theorem cn_X7_border : yX7_border.cls ≠ "java/lang/invoke/MethodHandle" ∧ yX7_border.cls ≠ "java/lang/invoke/VarHandle" ∧ (parseMethodDescriptor yX7_border.desc).map (fun d => d.parameters.length) = some 3 := by decide +kernel
theorem ce_X7_border (c9 s9 : Nat) : ja_ce (mX7_border c9 s9) 3 := ⟨rfl, co_X7_border, ci_X7_border, cn_X7_border⟩
set_option maxRecDepth 100000 in
theorem im_X7_border : Cond.instanceMethod yX7_border ∈ ja_T := ja_in3 (i := 173) rfl rfl
set_option maxRecDepth 100000 in
theorem se_X7_border : Cond.selects yX7_border.cls yX7_border yX7_border ∈ ja_T := ja_in3 (i := 174) rfl rfl
def mL_distance (c9 s9 : Nat) : jM := (yL_distance, cL_distance, 6, (some .int), ({ frames := 9, cells := c9, slots := s9, locals := 165 } : Room), [(0, 12, 15, 21), (0, 12, 19, 13), (0, 12, 23, 43)])
set_option maxRecDepth 100000 in
theorem st_L_distance : Cond.static yL_distance ∈ ja_T := ja_in3 (i := 178) rfl rfl
def mX7_distance (c9 s9 : Nat) : jM := (yX7_distance, cX7_distance, 5, (some .int), ({ frames := 8, cells := c9, slots := s9, locals := 141 } : Room), [])
set_option maxRecDepth 100000 in
theorem co_X7_distance : Cond.code yX7_distance cX7_distance 5 (some .int) ∈ ja_T := ja_in3 (i := 183) rfl rfl
set_option maxRecDepth 100000 in
theorem ci_X7_distance : Cond.initialized yX7_distance.cls ∈ ja_T := ja_in1 (i := 1) rfl rfl
theorem cn_X7_distance : yX7_distance.cls ≠ "java/lang/invoke/MethodHandle" ∧ yX7_distance.cls ≠ "java/lang/invoke/VarHandle" ∧ (parseMethodDescriptor yX7_distance.desc).map (fun d => d.parameters.length) = some 3 := by decide +kernel
theorem ce_X7_distance (c9 s9 : Nat) : ja_ce (mX7_distance c9 s9) 3 := ⟨rfl, co_X7_distance, ci_X7_distance, cn_X7_distance⟩
set_option maxRecDepth 100000 in
theorem im_X7_distance : Cond.instanceMethod yX7_distance ∈ ja_T := ja_in3 (i := 181) rfl rfl
set_option maxRecDepth 100000 in
theorem se_X7_distance : Cond.selects yX7_distance.cls yX7_distance yX7_distance ∈ ja_T := ja_in3 (i := 182) rfl rfl
def mX5_measure (c9 s9 : Nat) : jM := (yX5_measure, cX5_measure, 4, none, ({ frames := 3, cells := c9, slots := s9, locals := 66 } : Room), [])
set_option maxRecDepth 100000 in
theorem co_X5_measure : Cond.code yX5_measure cX5_measure 4 none ∈ ja_T := ja_in3 (i := 188) rfl rfl
set_option maxRecDepth 100000 in
theorem ci_X5_measure : Cond.initialized yX5_measure.cls ∈ ja_T := ja_in1 (i := 3) rfl rfl
theorem cn_X5_measure : yX5_measure.cls ≠ "java/lang/invoke/MethodHandle" ∧ yX5_measure.cls ≠ "java/lang/invoke/VarHandle" ∧ (parseMethodDescriptor yX5_measure.desc).map (fun d => d.parameters.length) = some 2 := by decide +kernel
theorem ce_X5_measure (c9 s9 : Nat) : ja_ce (mX5_measure c9 s9) 2 := ⟨rfl, co_X5_measure, ci_X5_measure, cn_X5_measure⟩
set_option maxRecDepth 100000 in
theorem im_X5_measure : Cond.instanceMethod yX5_measure ∈ ja_T := ja_in3 (i := 186) rfl rfl
set_option maxRecDepth 100000 in
theorem se_X5_measure : Cond.selects yX5_measure.cls yX5_measure yX5_measure ∈ ja_T := ja_in3 (i := 187) rfl rfl
def mX5_stepFrom (c9 s9 : Nat) : jM := (yX5_stepFrom, cX5_stepFrom, 4, none, ({ frames := 2, cells := c9, slots := s9, locals := 43 } : Room), [])
set_option maxRecDepth 100000 in
theorem co_X5_stepFrom : Cond.code yX5_stepFrom cX5_stepFrom 4 none ∈ ja_T := ja_in3 (i := 192) rfl rfl
set_option maxRecDepth 100000 in
theorem ci_X5_stepFrom : Cond.initialized yX5_stepFrom.cls ∈ ja_T := ja_in1 (i := 3) rfl rfl
theorem cn_X5_stepFrom : yX5_stepFrom.cls ≠ "java/lang/invoke/MethodHandle" ∧ yX5_stepFrom.cls ≠ "java/lang/invoke/VarHandle" ∧ (parseMethodDescriptor yX5_stepFrom.desc).map (fun d => d.parameters.length) = some 2 := by decide +kernel
theorem ce_X5_stepFrom (c9 s9 : Nat) : ja_ce (mX5_stepFrom c9 s9) 2 := ⟨rfl, co_X5_stepFrom, ci_X5_stepFrom, cn_X5_stepFrom⟩
set_option maxRecDepth 100000 in
theorem im_X5_stepFrom : Cond.instanceMethod yX5_stepFrom ∈ ja_T := ja_in3 (i := 191) rfl rfl
theorem se_X5_stepFrom : Cond.selects yX5_stepFrom.cls yX5_stepFrom yX5_stepFrom ∈ ja_T := ja_inT (i := 13) (by decide +kernel) rfl
def mX5_fewestTo (c9 s9 : Nat) : jM := (yX5_fewestTo, cX5_fewestTo, 5, (some .int), ({ frames := 1, cells := c9, slots := s9, locals := 20 } : Room), [])
set_option maxRecDepth 100000 in
theorem co_X5_fewestTo : Cond.code yX5_fewestTo cX5_fewestTo 5 (some .int) ∈ ja_T := ja_in3 (i := 197) rfl rfl
set_option maxRecDepth 100000 in
theorem ci_X5_fewestTo : Cond.initialized yX5_fewestTo.cls ∈ ja_T := ja_in1 (i := 3) rfl rfl
theorem cn_X5_fewestTo : yX5_fewestTo.cls ≠ "java/lang/invoke/MethodHandle" ∧ yX5_fewestTo.cls ≠ "java/lang/invoke/VarHandle" ∧ (parseMethodDescriptor yX5_fewestTo.desc).map (fun d => d.parameters.length) = some 2 := by decide +kernel
theorem ce_X5_fewestTo (c9 s9 : Nat) : ja_ce (mX5_fewestTo c9 s9) 2 := ⟨rfl, co_X5_fewestTo, ci_X5_fewestTo, cn_X5_fewestTo⟩
set_option maxRecDepth 100000 in
theorem im_X5_fewestTo : Cond.instanceMethod yX5_fewestTo ∈ ja_T := ja_in3 (i := 195) rfl rfl
set_option maxRecDepth 100000 in
theorem se_X5_fewestTo : Cond.selects yX5_fewestTo.cls yX5_fewestTo yX5_fewestTo ∈ ja_T := ja_in3 (i := 196) rfl rfl
def mL_nearest (c9 s9 : Nat) : jM := (yL_nearest, cL_nearest, 5, (some .int), ({ frames := 8, cells := c9, slots := s9, locals := 149 } : Room), [(0, 10, 13, 21), (0, 10, 17, 13), (0, 10, 21, 43)])
set_option maxRecDepth 100000 in
theorem st_L_nearest : Cond.static yL_nearest ∈ ja_T := ja_in3 (i := 199) rfl rfl
def mX7_nearest (c9 s9 : Nat) : jM := (yX7_nearest, cX7_nearest, 8, (some .int), ({ frames := 7, cells := c9, slots := s9, locals := 122 } : Room), [])
set_option maxRecDepth 100000 in
theorem co_X7_nearest : Cond.code yX7_nearest cX7_nearest 8 (some .int) ∈ ja_T := ja_in3 (i := 204) rfl rfl
set_option maxRecDepth 100000 in
theorem ci_X7_nearest : Cond.initialized yX7_nearest.cls ∈ ja_T := ja_in1 (i := 1) rfl rfl
theorem cn_X7_nearest : yX7_nearest.cls ≠ "java/lang/invoke/MethodHandle" ∧ yX7_nearest.cls ≠ "java/lang/invoke/VarHandle" ∧ (parseMethodDescriptor yX7_nearest.desc).map (fun d => d.parameters.length) = some 2 := by decide +kernel
theorem ce_X7_nearest (c9 s9 : Nat) : ja_ce (mX7_nearest c9 s9) 2 := ⟨rfl, co_X7_nearest, ci_X7_nearest, cn_X7_nearest⟩
set_option maxRecDepth 100000 in
theorem im_X7_nearest : Cond.instanceMethod yX7_nearest ∈ ja_T := ja_in3 (i := 202) rfl rfl
set_option maxRecDepth 100000 in
theorem se_X7_nearest : Cond.selects yX7_nearest.cls yX7_nearest yX7_nearest ∈ ja_T := ja_in3 (i := 203) rfl rfl
def mL_belt (c9 s9 : Nat) : jM := (yL_belt, cL_belt, 6, (some .int), ({ frames := 8, cells := c9, slots := s9, locals := 146 } : Room), [(0, 12, 15, 21), (0, 12, 19, 13)])
set_option maxRecDepth 100000 in
theorem st_L_belt : Cond.static yL_belt ∈ ja_T := ja_in3 (i := 207) rfl rfl
def mX7_belt (c9 s9 : Nat) : jM := (yX7_belt, cX7_belt, 5, (some .int), ({ frames := 7, cells := c9, slots := s9, locals := 122 } : Room), [])
set_option maxRecDepth 100000 in
theorem co_X7_belt : Cond.code yX7_belt cX7_belt 5 (some .int) ∈ ja_T := ja_in3 (i := 212) rfl rfl
set_option maxRecDepth 100000 in
theorem ci_X7_belt : Cond.initialized yX7_belt.cls ∈ ja_T := ja_in1 (i := 1) rfl rfl
theorem cn_X7_belt : yX7_belt.cls ≠ "java/lang/invoke/MethodHandle" ∧ yX7_belt.cls ≠ "java/lang/invoke/VarHandle" ∧ (parseMethodDescriptor yX7_belt.desc).map (fun d => d.parameters.length) = some 3 := by decide +kernel
theorem ce_X7_belt (c9 s9 : Nat) : ja_ce (mX7_belt c9 s9) 3 := ⟨rfl, co_X7_belt, ci_X7_belt, cn_X7_belt⟩
set_option maxRecDepth 100000 in
theorem im_X7_belt : Cond.instanceMethod yX7_belt ∈ ja_T := ja_in3 (i := 210) rfl rfl
set_option maxRecDepth 100000 in
theorem se_X7_belt : Cond.selects yX7_belt.cls yX7_belt yX7_belt ∈ ja_T := ja_in3 (i := 211) rfl rfl
def mX5_squaresWithin (c9 s9 : Nat) : jM := (yX5_squaresWithin, cX5_squaresWithin, 4, (some .int), ({ frames := 1, cells := c9, slots := s9, locals := 20 } : Room), [])
set_option maxRecDepth 100000 in
theorem co_X5_squaresWithin : Cond.code yX5_squaresWithin cX5_squaresWithin 4 (some .int) ∈ ja_T := ja_in3 (i := 217) rfl rfl
set_option maxRecDepth 100000 in
theorem ci_X5_squaresWithin : Cond.initialized yX5_squaresWithin.cls ∈ ja_T := ja_in1 (i := 3) rfl rfl
theorem cn_X5_squaresWithin : yX5_squaresWithin.cls ≠ "java/lang/invoke/MethodHandle" ∧ yX5_squaresWithin.cls ≠ "java/lang/invoke/VarHandle" ∧ (parseMethodDescriptor yX5_squaresWithin.desc).map (fun d => d.parameters.length) = some 1 := by decide +kernel
theorem ce_X5_squaresWithin (c9 s9 : Nat) : ja_ce (mX5_squaresWithin c9 s9) 1 := ⟨rfl, co_X5_squaresWithin, ci_X5_squaresWithin, cn_X5_squaresWithin⟩
set_option maxRecDepth 100000 in
theorem im_X5_squaresWithin : Cond.instanceMethod yX5_squaresWithin ∈ ja_T := ja_in3 (i := 215) rfl rfl
set_option maxRecDepth 100000 in
theorem se_X5_squaresWithin : Cond.selects yX5_squaresWithin.cls yX5_squaresWithin yX5_squaresWithin ∈ ja_T := ja_in3 (i := 216) rfl rfl
def mL_checkOut (c9 s9 : Nat) : jM := (yL_checkOut, cL_checkOut, 8, (some .int), ({ frames := 8, cells := c9, slots := s9, locals := 150 } : Room), [(0, 16, 19, 21), (0, 16, 23, 13), (0, 16, 27, 15)])
set_option maxRecDepth 100000 in
theorem st_L_checkOut : Cond.static yL_checkOut ∈ ja_T := ja_in3 (i := 219) rfl rfl
def mX7_checkOut (c9 s9 : Nat) : jM := (yX7_checkOut, cX7_checkOut, 8, (some .int), ({ frames := 7, cells := c9, slots := s9, locals := 123 } : Room), [])
set_option maxRecDepth 100000 in
theorem co_X7_checkOut : Cond.code yX7_checkOut cX7_checkOut 8 (some .int) ∈ ja_T := ja_in3 (i := 224) rfl rfl
set_option maxRecDepth 100000 in
theorem ci_X7_checkOut : Cond.initialized yX7_checkOut.cls ∈ ja_T := ja_in1 (i := 1) rfl rfl
theorem cn_X7_checkOut : yX7_checkOut.cls ≠ "java/lang/invoke/MethodHandle" ∧ yX7_checkOut.cls ≠ "java/lang/invoke/VarHandle" ∧ (parseMethodDescriptor yX7_checkOut.desc).map (fun d => d.parameters.length) = some 5 := by decide +kernel
theorem ce_X7_checkOut (c9 s9 : Nat) : ja_ce (mX7_checkOut c9 s9) 5 := ⟨rfl, co_X7_checkOut, ci_X7_checkOut, cn_X7_checkOut⟩
set_option maxRecDepth 100000 in
theorem im_X7_checkOut : Cond.instanceMethod yX7_checkOut ∈ ja_T := ja_in3 (i := 222) rfl rfl
set_option maxRecDepth 100000 in
theorem se_X7_checkOut : Cond.selects yX7_checkOut.cls yX7_checkOut yX7_checkOut ∈ ja_T := ja_in3 (i := 223) rfl rfl
def mX6_init (c9 s9 : Nat) : jM := (yX6_init, cX6_init, 6, none, ({ frames := 2, cells := c9, slots := s9, locals := 60 } : Room), [])
set_option maxRecDepth 100000 in
theorem co_X6_init : Cond.code yX6_init cX6_init 6 none ∈ ja_T := ja_in3 (i := 229) rfl rfl
set_option maxRecDepth 100000 in
theorem ci_X6_init : Cond.initialized yX6_init.cls ∈ ja_T := ja_in1 (i := 22) rfl rfl
theorem cn_X6_init : yX6_init.cls ≠ "java/lang/invoke/MethodHandle" ∧ yX6_init.cls ≠ "java/lang/invoke/VarHandle" ∧ (parseMethodDescriptor yX6_init.desc).map (fun d => d.parameters.length) = some 5 := by decide +kernel
theorem ce_X6_init (c9 s9 : Nat) : ja_ce (mX6_init c9 s9) 5 := ⟨rfl, co_X6_init, ci_X6_init, cn_X6_init⟩
set_option maxRecDepth 100000 in
theorem im_X6_init : Cond.instanceMethod yX6_init ∈ ja_T := ja_in3 (i := 228) rfl rfl
def mX6_rebase (c9 s9 : Nat) : jM := (yX6_rebase, cX6_rebase, 1, none, ({ frames := 2, cells := c9, slots := s9, locals := 60 } : Room), [])
set_option maxRecDepth 100000 in
theorem co_X6_rebase : Cond.code yX6_rebase cX6_rebase 1 none ∈ ja_T := ja_in4 (i := 22) rfl rfl
set_option maxRecDepth 100000 in
theorem ci_X6_rebase : Cond.initialized yX6_rebase.cls ∈ ja_T := ja_in1 (i := 22) rfl rfl
theorem cn_X6_rebase : yX6_rebase.cls ≠ "java/lang/invoke/MethodHandle" ∧ yX6_rebase.cls ≠ "java/lang/invoke/VarHandle" ∧ (parseMethodDescriptor yX6_rebase.desc).map (fun d => d.parameters.length) = some 0 := by decide +kernel
theorem ce_X6_rebase (c9 s9 : Nat) : ja_ce (mX6_rebase c9 s9) 0 := ⟨rfl, co_X6_rebase, ci_X6_rebase, cn_X6_rebase⟩
set_option maxRecDepth 100000 in
theorem im_X6_rebase : Cond.instanceMethod yX6_rebase ∈ ja_T := ja_in4 (i := 20) rfl rfl
set_option maxRecDepth 100000 in
theorem se_X6_rebase : Cond.selects yX6_rebase.cls yX6_rebase yX6_rebase ∈ ja_T := ja_in4 (i := 21) rfl rfl
def mL_change (c9 s9 : Nat) : jM := (yL_change, cL_change, 6, (some .int), ({ frames := 9, cells := c9, slots := s9, locals := 165 } : Room), [(0, 12, 15, 43), (0, 12, 19, 21), (0, 12, 23, 13)])
set_option maxRecDepth 100000 in
theorem st_L_change : Cond.static yL_change ∈ ja_T := ja_in4 (i := 25) rfl rfl
def mX7_change (c9 s9 : Nat) : jM := (yX7_change, cX7_change, 6, (some .int), ({ frames := 8, cells := c9, slots := s9, locals := 140 } : Room), [])
set_option maxRecDepth 100000 in
theorem co_X7_change : Cond.code yX7_change cX7_change 6 (some .int) ∈ ja_T := ja_in4 (i := 30) rfl rfl
set_option maxRecDepth 100000 in
theorem ci_X7_change : Cond.initialized yX7_change.cls ∈ ja_T := ja_in1 (i := 1) rfl rfl
theorem cn_X7_change : yX7_change.cls ≠ "java/lang/invoke/MethodHandle" ∧ yX7_change.cls ≠ "java/lang/invoke/VarHandle" ∧ (parseMethodDescriptor yX7_change.desc).map (fun d => d.parameters.length) = some 3 := by decide +kernel
theorem ce_X7_change (c9 s9 : Nat) : ja_ce (mX7_change c9 s9) 3 := ⟨rfl, co_X7_change, ci_X7_change, cn_X7_change⟩
set_option maxRecDepth 100000 in
theorem im_X7_change : Cond.instanceMethod yX7_change ∈ ja_T := ja_in4 (i := 28) rfl rfl
set_option maxRecDepth 100000 in
theorem se_X7_change : Cond.selects yX7_change.cls yX7_change yX7_change ∈ ja_T := ja_in4 (i := 29) rfl rfl
def mX7_versionOf (c9 s9 : Nat) : jM := (yX7_versionOf, cX7_versionOf, 3, (some (.object "Overlayer$Version")), ({ frames := 6, cells := c9, slots := s9, locals := 100 } : Room), [])
set_option maxRecDepth 100000 in
theorem co_X7_versionOf : Cond.code yX7_versionOf cX7_versionOf 3 (some (.object "Overlayer$Version")) ∈ ja_T := ja_in4 (i := 34) rfl rfl
set_option maxRecDepth 100000 in
theorem ci_X7_versionOf : Cond.initialized yX7_versionOf.cls ∈ ja_T := ja_in1 (i := 1) rfl rfl
theorem cn_X7_versionOf : yX7_versionOf.cls ≠ "java/lang/invoke/MethodHandle" ∧ yX7_versionOf.cls ≠ "java/lang/invoke/VarHandle" ∧ (parseMethodDescriptor yX7_versionOf.desc).map (fun d => d.parameters.length) = some 1 := by decide +kernel
theorem ce_X7_versionOf (c9 s9 : Nat) : ja_ce (mX7_versionOf c9 s9) 1 := ⟨rfl, co_X7_versionOf, ci_X7_versionOf, cn_X7_versionOf⟩
set_option maxRecDepth 100000 in
theorem im_X7_versionOf : Cond.instanceMethod yX7_versionOf ∈ ja_T := ja_in4 (i := 33) rfl rfl
theorem se_X7_versionOf : Cond.selects yX7_versionOf.cls yX7_versionOf yX7_versionOf ∈ ja_T := ja_inT (i := 14) (by decide +kernel) rfl
def mX6_holds (c9 s9 : Nat) : jM := (yX6_holds, cX6_holds, 4, (some .boolean), ({ frames := 1, cells := c9, slots := s9, locals := 20 } : Room), [])
set_option maxRecDepth 100000 in
theorem co_X6_holds : Cond.code yX6_holds cX6_holds 4 (some .boolean) ∈ ja_T := ja_in4 (i := 39) rfl rfl
set_option maxRecDepth 100000 in
theorem ci_X6_holds : Cond.initialized yX6_holds.cls ∈ ja_T := ja_in1 (i := 22) rfl rfl
theorem cn_X6_holds : yX6_holds.cls ≠ "java/lang/invoke/MethodHandle" ∧ yX6_holds.cls ≠ "java/lang/invoke/VarHandle" ∧ (parseMethodDescriptor yX6_holds.desc).map (fun d => d.parameters.length) = some 1 := by decide +kernel
theorem ce_X6_holds (c9 s9 : Nat) : ja_ce (mX6_holds c9 s9) 1 := ⟨rfl, co_X6_holds, ci_X6_holds, cn_X6_holds⟩
set_option maxRecDepth 100000 in
theorem im_X6_holds : Cond.instanceMethod yX6_holds ∈ ja_T := ja_in4 (i := 37) rfl rfl
set_option maxRecDepth 100000 in
theorem se_X6_holds : Cond.selects yX6_holds.cls yX6_holds yX6_holds ∈ ja_T := ja_in4 (i := 38) rfl rfl
def mL_conflicts (c9 s9 : Nat) : jM := (yL_conflicts, cL_conflicts, 4, (some .int), ({ frames := 8, cells := c9, slots := s9, locals := 143 } : Room), [(0, 9, 12, 43)])
set_option maxRecDepth 100000 in
theorem st_L_conflicts : Cond.static yL_conflicts ∈ ja_T := ja_in4 (i := 42) rfl rfl
def mX7_conflicts (c9 s9 : Nat) : jM := (yX7_conflicts, cX7_conflicts, 2, (some .int), ({ frames := 7, cells := c9, slots := s9, locals := 122 } : Room), [])
set_option maxRecDepth 100000 in
theorem co_X7_conflicts : Cond.code yX7_conflicts cX7_conflicts 2 (some .int) ∈ ja_T := ja_in4 (i := 47) rfl rfl
set_option maxRecDepth 100000 in
theorem ci_X7_conflicts : Cond.initialized yX7_conflicts.cls ∈ ja_T := ja_in1 (i := 1) rfl rfl
theorem cn_X7_conflicts : yX7_conflicts.cls ≠ "java/lang/invoke/MethodHandle" ∧ yX7_conflicts.cls ≠ "java/lang/invoke/VarHandle" ∧ (parseMethodDescriptor yX7_conflicts.desc).map (fun d => d.parameters.length) = some 1 := by decide +kernel
theorem ce_X7_conflicts (c9 s9 : Nat) : ja_ce (mX7_conflicts c9 s9) 1 := ⟨rfl, co_X7_conflicts, ci_X7_conflicts, cn_X7_conflicts⟩
set_option maxRecDepth 100000 in
theorem im_X7_conflicts : Cond.instanceMethod yX7_conflicts ∈ ja_T := ja_in4 (i := 45) rfl rfl
set_option maxRecDepth 100000 in
theorem se_X7_conflicts : Cond.selects yX7_conflicts.cls yX7_conflicts yX7_conflicts ∈ ja_T := ja_in4 (i := 46) rfl rfl
def mX6_markConflicts (c9 s9 : Nat) : jM := (yX6_markConflicts, cX6_markConflicts, 4, (some .int), ({ frames := 4, cells := c9, slots := s9, locals := 85 } : Room), [])
set_option maxRecDepth 100000 in
theorem co_X6_markConflicts : Cond.code yX6_markConflicts cX6_markConflicts 4 (some .int) ∈ ja_T := ja_in4 (i := 51) rfl rfl
set_option maxRecDepth 100000 in
theorem ci_X6_markConflicts : Cond.initialized yX6_markConflicts.cls ∈ ja_T := ja_in1 (i := 22) rfl rfl
theorem cn_X6_markConflicts : yX6_markConflicts.cls ≠ "java/lang/invoke/MethodHandle" ∧ yX6_markConflicts.cls ≠ "java/lang/invoke/VarHandle" ∧ (parseMethodDescriptor yX6_markConflicts.desc).map (fun d => d.parameters.length) = some 0 := by decide +kernel
theorem ce_X6_markConflicts (c9 s9 : Nat) : ja_ce (mX6_markConflicts c9 s9) 0 := ⟨rfl, co_X6_markConflicts, ci_X6_markConflicts, cn_X6_markConflicts⟩
set_option maxRecDepth 100000 in
theorem im_X6_markConflicts : Cond.instanceMethod yX6_markConflicts ∈ ja_T := ja_in4 (i := 49) rfl rfl
set_option maxRecDepth 100000 in
theorem se_X6_markConflicts : Cond.selects yX6_markConflicts.cls yX6_markConflicts yX6_markConflicts ∈ ja_T := ja_in4 (i := 50) rfl rfl
def mX6_isConflict (c9 s9 : Nat) : jM := (yX6_isConflict, cX6_isConflict, 2, (some .boolean), ({ frames := 3, cells := c9, slots := s9, locals := 64 } : Room), [])
set_option maxRecDepth 100000 in
theorem co_X6_isConflict : Cond.code yX6_isConflict cX6_isConflict 2 (some .boolean) ∈ ja_T := ja_in4 (i := 55) rfl rfl
set_option maxRecDepth 100000 in
theorem ci_X6_isConflict : Cond.initialized yX6_isConflict.cls ∈ ja_T := ja_in1 (i := 22) rfl rfl
theorem cn_X6_isConflict : yX6_isConflict.cls ≠ "java/lang/invoke/MethodHandle" ∧ yX6_isConflict.cls ≠ "java/lang/invoke/VarHandle" ∧ (parseMethodDescriptor yX6_isConflict.desc).map (fun d => d.parameters.length) = some 1 := by decide +kernel
theorem ce_X6_isConflict (c9 s9 : Nat) : ja_ce (mX6_isConflict c9 s9) 1 := ⟨rfl, co_X6_isConflict, ci_X6_isConflict, cn_X6_isConflict⟩
set_option maxRecDepth 100000 in
theorem im_X6_isConflict : Cond.instanceMethod yX6_isConflict ∈ ja_T := ja_in4 (i := 54) rfl rfl
theorem se_X6_isConflict : Cond.selects yX6_isConflict.cls yX6_isConflict yX6_isConflict ∈ ja_T := ja_inT (i := 15) (by decide +kernel) rfl
def mX6_isChanged (c9 s9 : Nat) : jM := (yX6_isChanged, cX6_isChanged, 2, (some .boolean), ({ frames := 2, cells := c9, slots := s9, locals := 43 } : Room), [])
set_option maxRecDepth 100000 in
theorem co_X6_isChanged : Cond.code yX6_isChanged cX6_isChanged 2 (some .boolean) ∈ ja_T := ja_in4 (i := 59) rfl rfl
set_option maxRecDepth 100000 in
theorem ci_X6_isChanged : Cond.initialized yX6_isChanged.cls ∈ ja_T := ja_in1 (i := 22) rfl rfl
theorem cn_X6_isChanged : yX6_isChanged.cls ≠ "java/lang/invoke/MethodHandle" ∧ yX6_isChanged.cls ≠ "java/lang/invoke/VarHandle" ∧ (parseMethodDescriptor yX6_isChanged.desc).map (fun d => d.parameters.length) = some 1 := by decide +kernel
theorem ce_X6_isChanged (c9 s9 : Nat) : ja_ce (mX6_isChanged c9 s9) 1 := ⟨rfl, co_X6_isChanged, ci_X6_isChanged, cn_X6_isChanged⟩
set_option maxRecDepth 100000 in
theorem im_X6_isChanged : Cond.instanceMethod yX6_isChanged ∈ ja_T := ja_in4 (i := 58) rfl rfl
theorem se_X6_isChanged : Cond.selects yX6_isChanged.cls yX6_isChanged yX6_isChanged ∈ ja_T := ja_inT (i := 16) (by decide +kernel) rfl
def mL_clashes (c9 s9 : Nat) : jM := (yL_clashes, cL_clashes, 4, (some .int), ({ frames := 8, cells := c9, slots := s9, locals := 144 } : Room), [(0, 9, 12, 43)])
set_option maxRecDepth 100000 in
theorem st_L_clashes : Cond.static yL_clashes ∈ ja_T := ja_in4 (i := 62) rfl rfl
def mX7_clashes (c9 s9 : Nat) : jM := (yX7_clashes, cX7_clashes, 3, (some .int), ({ frames := 7, cells := c9, slots := s9, locals := 122 } : Room), [])
set_option maxRecDepth 100000 in
theorem co_X7_clashes : Cond.code yX7_clashes cX7_clashes 3 (some .int) ∈ ja_T := ja_in4 (i := 67) rfl rfl
set_option maxRecDepth 100000 in
theorem ci_X7_clashes : Cond.initialized yX7_clashes.cls ∈ ja_T := ja_in1 (i := 1) rfl rfl
theorem cn_X7_clashes : yX7_clashes.cls ≠ "java/lang/invoke/MethodHandle" ∧ yX7_clashes.cls ≠ "java/lang/invoke/VarHandle" ∧ (parseMethodDescriptor yX7_clashes.desc).map (fun d => d.parameters.length) = some 1 := by decide +kernel
theorem ce_X7_clashes (c9 s9 : Nat) : ja_ce (mX7_clashes c9 s9) 1 := ⟨rfl, co_X7_clashes, ci_X7_clashes, cn_X7_clashes⟩
set_option maxRecDepth 100000 in
theorem im_X7_clashes : Cond.instanceMethod yX7_clashes ∈ ja_T := ja_in4 (i := 65) rfl rfl
set_option maxRecDepth 100000 in
theorem se_X7_clashes : Cond.selects yX7_clashes.cls yX7_clashes yX7_clashes ∈ ja_T := ja_in4 (i := 66) rfl rfl
def mL_reconcile (c9 s9 : Nat) : jM := (yL_reconcile, cL_reconcile, 5, (some .int), ({ frames := 8, cells := c9, slots := s9, locals := 148 } : Room), [(0, 10, 13, 43), (0, 10, 17, 13), (0, 10, 21, 15)])
set_option maxRecDepth 100000 in
theorem st_L_reconcile : Cond.static yL_reconcile ∈ ja_T := ja_in4 (i := 69) rfl rfl
def mX7_reconcile (c9 s9 : Nat) : jM := (yX7_reconcile, cX7_reconcile, 7, (some .int), ({ frames := 7, cells := c9, slots := s9, locals := 122 } : Room), [])
set_option maxRecDepth 100000 in
theorem co_X7_reconcile : Cond.code yX7_reconcile cX7_reconcile 7 (some .int) ∈ ja_T := ja_in4 (i := 74) rfl rfl
set_option maxRecDepth 100000 in
theorem ci_X7_reconcile : Cond.initialized yX7_reconcile.cls ∈ ja_T := ja_in1 (i := 1) rfl rfl
theorem cn_X7_reconcile : yX7_reconcile.cls ≠ "java/lang/invoke/MethodHandle" ∧ yX7_reconcile.cls ≠ "java/lang/invoke/VarHandle" ∧ (parseMethodDescriptor yX7_reconcile.desc).map (fun d => d.parameters.length) = some 2 := by decide +kernel
theorem ce_X7_reconcile (c9 s9 : Nat) : ja_ce (mX7_reconcile c9 s9) 2 := ⟨rfl, co_X7_reconcile, ci_X7_reconcile, cn_X7_reconcile⟩
set_option maxRecDepth 100000 in
theorem im_X7_reconcile : Cond.instanceMethod yX7_reconcile ∈ ja_T := ja_in4 (i := 72) rfl rfl
set_option maxRecDepth 100000 in
theorem se_X7_reconcile : Cond.selects yX7_reconcile.cls yX7_reconcile yX7_reconcile ∈ ja_T := ja_in4 (i := 73) rfl rfl
def mX6_isDue (c9 s9 : Nat) : jM := (yX6_isDue, cX6_isDue, 3, (some .boolean), ({ frames := 3, cells := c9, slots := s9, locals := 64 } : Room), [])
set_option maxRecDepth 100000 in
theorem co_X6_isDue : Cond.code yX6_isDue cX6_isDue 3 (some .boolean) ∈ ja_T := ja_in4 (i := 79) rfl rfl
set_option maxRecDepth 100000 in
theorem ci_X6_isDue : Cond.initialized yX6_isDue.cls ∈ ja_T := ja_in1 (i := 22) rfl rfl
theorem cn_X6_isDue : yX6_isDue.cls ≠ "java/lang/invoke/MethodHandle" ∧ yX6_isDue.cls ≠ "java/lang/invoke/VarHandle" ∧ (parseMethodDescriptor yX6_isDue.desc).map (fun d => d.parameters.length) = some 2 := by decide +kernel
theorem ce_X6_isDue (c9 s9 : Nat) : ja_ce (mX6_isDue c9 s9) 2 := ⟨rfl, co_X6_isDue, ci_X6_isDue, cn_X6_isDue⟩
set_option maxRecDepth 100000 in
theorem im_X6_isDue : Cond.instanceMethod yX6_isDue ∈ ja_T := ja_in4 (i := 77) rfl rfl
set_option maxRecDepth 100000 in
theorem se_X6_isDue : Cond.selects yX6_isDue.cls yX6_isDue yX6_isDue ∈ ja_T := ja_in4 (i := 78) rfl rfl
def mL_pieces (c9 s9 : Nat) : jM := (yL_pieces, cL_pieces, 5, (some .int), ({ frames := 9, cells := c9, slots := s9, locals := 166 } : Room), [(0, 10, 13, 21)])
set_option maxRecDepth 100000 in
theorem st_L_pieces : Cond.static yL_pieces ∈ ja_T := ja_in4 (i := 81) rfl rfl
def mX7_pieces (c9 s9 : Nat) : jM := (yX7_pieces, cX7_pieces, 3, (some .int), ({ frames := 8, cells := c9, slots := s9, locals := 144 } : Room), [])
set_option maxRecDepth 100000 in
theorem co_X7_pieces : Cond.code yX7_pieces cX7_pieces 3 (some .int) ∈ ja_T := ja_in4 (i := 86) rfl rfl
set_option maxRecDepth 100000 in
theorem ci_X7_pieces : Cond.initialized yX7_pieces.cls ∈ ja_T := ja_in1 (i := 1) rfl rfl
theorem cn_X7_pieces : yX7_pieces.cls ≠ "java/lang/invoke/MethodHandle" ∧ yX7_pieces.cls ≠ "java/lang/invoke/VarHandle" ∧ (parseMethodDescriptor yX7_pieces.desc).map (fun d => d.parameters.length) = some 2 := by decide +kernel
theorem ce_X7_pieces (c9 s9 : Nat) : ja_ce (mX7_pieces c9 s9) 2 := ⟨rfl, co_X7_pieces, ci_X7_pieces, cn_X7_pieces⟩
set_option maxRecDepth 100000 in
theorem im_X7_pieces : Cond.instanceMethod yX7_pieces ∈ ja_T := ja_in4 (i := 84) rfl rfl
set_option maxRecDepth 100000 in
theorem se_X7_pieces : Cond.selects yX7_pieces.cls yX7_pieces yX7_pieces ∈ ja_T := ja_in4 (i := 85) rfl rfl
def mL_pieceSize (c9 s9 : Nat) : jM := (yL_pieceSize, cL_pieceSize, 6, (some .int), ({ frames := 9, cells := c9, slots := s9, locals := 167 } : Room), [(0, 12, 15, 21), (0, 12, 19, 43)])
set_option maxRecDepth 100000 in
theorem st_L_pieceSize : Cond.static yL_pieceSize ∈ ja_T := ja_in4 (i := 88) rfl rfl
def mX7_pieceSize (c9 s9 : Nat) : jM := (yX7_pieceSize, cX7_pieceSize, 4, (some .int), ({ frames := 8, cells := c9, slots := s9, locals := 144 } : Room), [])
set_option maxRecDepth 100000 in
theorem co_X7_pieceSize : Cond.code yX7_pieceSize cX7_pieceSize 4 (some .int) ∈ ja_T := ja_in4 (i := 93) rfl rfl
set_option maxRecDepth 100000 in
theorem ci_X7_pieceSize : Cond.initialized yX7_pieceSize.cls ∈ ja_T := ja_in1 (i := 1) rfl rfl
theorem cn_X7_pieceSize : yX7_pieceSize.cls ≠ "java/lang/invoke/MethodHandle" ∧ yX7_pieceSize.cls ≠ "java/lang/invoke/VarHandle" ∧ (parseMethodDescriptor yX7_pieceSize.desc).map (fun d => d.parameters.length) = some 3 := by decide +kernel
theorem ce_X7_pieceSize (c9 s9 : Nat) : ja_ce (mX7_pieceSize c9 s9) 3 := ⟨rfl, co_X7_pieceSize, ci_X7_pieceSize, cn_X7_pieceSize⟩
set_option maxRecDepth 100000 in
theorem im_X7_pieceSize : Cond.instanceMethod yX7_pieceSize ∈ ja_T := ja_in4 (i := 91) rfl rfl
set_option maxRecDepth 100000 in
theorem se_X7_pieceSize : Cond.selects yX7_pieceSize.cls yX7_pieceSize yX7_pieceSize ∈ ja_T := ja_in4 (i := 92) rfl rfl
def mX7_needPiece (c9 s9 : Nat) : jM := (yX7_needPiece, cX7_needPiece, 2, none, ({ frames := 6, cells := c9, slots := s9, locals := 100 } : Room), [])
set_option maxRecDepth 100000 in
theorem co_X7_needPiece : Cond.code yX7_needPiece cX7_needPiece 2 none ∈ ja_T := ja_in4 (i := 97) rfl rfl
set_option maxRecDepth 100000 in
theorem ci_X7_needPiece : Cond.initialized yX7_needPiece.cls ∈ ja_T := ja_in1 (i := 1) rfl rfl
theorem cn_X7_needPiece : yX7_needPiece.cls ≠ "java/lang/invoke/MethodHandle" ∧ yX7_needPiece.cls ≠ "java/lang/invoke/VarHandle" ∧ (parseMethodDescriptor yX7_needPiece.desc).map (fun d => d.parameters.length) = some 1 := by decide +kernel
theorem ce_X7_needPiece (c9 s9 : Nat) : ja_ce (mX7_needPiece c9 s9) 1 := ⟨rfl, co_X7_needPiece, ci_X7_needPiece, cn_X7_needPiece⟩
set_option maxRecDepth 100000 in
theorem im_X7_needPiece : Cond.instanceMethod yX7_needPiece ∈ ja_T := ja_in4 (i := 96) rfl rfl
theorem se_X7_needPiece : Cond.selects yX7_needPiece.cls yX7_needPiece yX7_needPiece ∈ ja_T := ja_inT (i := 17) (by decide +kernel) rfl
def mL_parent (c9 s9 : Nat) : jM := (yL_parent, cL_parent, 7, (some .int), ({ frames := 9, cells := c9, slots := s9, locals := 168 } : Room), [(0, 14, 17, 21), (0, 14, 21, 43)])
set_option maxRecDepth 100000 in
theorem st_L_parent : Cond.static yL_parent ∈ ja_T := ja_in4 (i := 100) rfl rfl
def mX7_parent (c9 s9 : Nat) : jM := (yX7_parent, cX7_parent, 5, (some .int), ({ frames := 8, cells := c9, slots := s9, locals := 144 } : Room), [])
set_option maxRecDepth 100000 in
theorem co_X7_parent : Cond.code yX7_parent cX7_parent 5 (some .int) ∈ ja_T := ja_in4 (i := 105) rfl rfl
set_option maxRecDepth 100000 in
theorem ci_X7_parent : Cond.initialized yX7_parent.cls ∈ ja_T := ja_in1 (i := 1) rfl rfl
theorem cn_X7_parent : yX7_parent.cls ≠ "java/lang/invoke/MethodHandle" ∧ yX7_parent.cls ≠ "java/lang/invoke/VarHandle" ∧ (parseMethodDescriptor yX7_parent.desc).map (fun d => d.parameters.length) = some 4 := by decide +kernel
theorem ce_X7_parent (c9 s9 : Nat) : ja_ce (mX7_parent c9 s9) 4 := ⟨rfl, co_X7_parent, ci_X7_parent, cn_X7_parent⟩
set_option maxRecDepth 100000 in
theorem im_X7_parent : Cond.instanceMethod yX7_parent ∈ ja_T := ja_in4 (i := 103) rfl rfl
set_option maxRecDepth 100000 in
theorem se_X7_parent : Cond.selects yX7_parent.cls yX7_parent yX7_parent ∈ ja_T := ja_in4 (i := 104) rfl rfl
def mL_match (c9 s9 : Nat) : jM := (yL_match, cL_match, 6, (some .int), ({ frames := 8, cells := c9, slots := s9, locals := 146 } : Room), [(0, 12, 15, 21), (0, 12, 19, 13), (0, 12, 23, 43)])
set_option maxRecDepth 100000 in
theorem st_L_match : Cond.static yL_match ∈ ja_T := ja_in4 (i := 107) rfl rfl
def mX7_match (c9 s9 : Nat) : jM := (yX7_match, cX7_match, 5, (some .int), ({ frames := 7, cells := c9, slots := s9, locals := 122 } : Room), [])
set_option maxRecDepth 100000 in
theorem co_X7_match : Cond.code yX7_match cX7_match 5 (some .int) ∈ ja_T := ja_in4 (i := 112) rfl rfl
set_option maxRecDepth 100000 in
theorem ci_X7_match : Cond.initialized yX7_match.cls ∈ ja_T := ja_in1 (i := 1) rfl rfl
theorem cn_X7_match : yX7_match.cls ≠ "java/lang/invoke/MethodHandle" ∧ yX7_match.cls ≠ "java/lang/invoke/VarHandle" ∧ (parseMethodDescriptor yX7_match.desc).map (fun d => d.parameters.length) = some 3 := by decide +kernel
theorem ce_X7_match (c9 s9 : Nat) : ja_ce (mX7_match c9 s9) 3 := ⟨rfl, co_X7_match, ci_X7_match, cn_X7_match⟩
set_option maxRecDepth 100000 in
theorem im_X7_match : Cond.instanceMethod yX7_match ∈ ja_T := ja_in4 (i := 110) rfl rfl
set_option maxRecDepth 100000 in
theorem se_X7_match : Cond.selects yX7_match.cls yX7_match yX7_match ∈ ja_T := ja_in4 (i := 111) rfl rfl
def mX7_bestMatch (c9 s9 : Nat) : jM := (yX7_bestMatch, cX7_bestMatch, 7, (some .int), ({ frames := 2, cells := c9, slots := s9, locals := 45 } : Room), [])
set_option maxRecDepth 100000 in
theorem co_X7_bestMatch : Cond.code yX7_bestMatch cX7_bestMatch 7 (some .int) ∈ ja_T := ja_in4 (i := 115) rfl rfl
set_option maxRecDepth 100000 in
theorem ci_X7_bestMatch : Cond.initialized yX7_bestMatch.cls ∈ ja_T := ja_in1 (i := 1) rfl rfl
theorem cn_X7_bestMatch : yX7_bestMatch.cls ≠ "java/lang/invoke/MethodHandle" ∧ yX7_bestMatch.cls ≠ "java/lang/invoke/VarHandle" ∧ (parseMethodDescriptor yX7_bestMatch.desc).map (fun d => d.parameters.length) = some 3 := by decide +kernel
theorem ce_X7_bestMatch (c9 s9 : Nat) : ja_ce (mX7_bestMatch c9 s9) 3 := ⟨rfl, co_X7_bestMatch, ci_X7_bestMatch, cn_X7_bestMatch⟩
set_option maxRecDepth 100000 in
theorem st_X7_bestMatch : Cond.static yX7_bestMatch ∈ ja_T := ja_in4 (i := 114) rfl rfl
def mX7_commonSize (c9 s9 : Nat) : jM := (yX7_commonSize, cX7_commonSize, 6, (some .int), ({ frames := 1, cells := c9, slots := s9, locals := 20 } : Room), [])
set_option maxRecDepth 100000 in
theorem co_X7_commonSize : Cond.code yX7_commonSize cX7_commonSize 6 (some .int) ∈ ja_T := ja_in4 (i := 118) rfl rfl
set_option maxRecDepth 100000 in
theorem ci_X7_commonSize : Cond.initialized yX7_commonSize.cls ∈ ja_T := ja_in1 (i := 1) rfl rfl
theorem cn_X7_commonSize : yX7_commonSize.cls ≠ "java/lang/invoke/MethodHandle" ∧ yX7_commonSize.cls ≠ "java/lang/invoke/VarHandle" ∧ (parseMethodDescriptor yX7_commonSize.desc).map (fun d => d.parameters.length) = some 4 := by decide +kernel
theorem ce_X7_commonSize (c9 s9 : Nat) : ja_ce (mX7_commonSize c9 s9) 4 := ⟨rfl, co_X7_commonSize, ci_X7_commonSize, cn_X7_commonSize⟩
set_option maxRecDepth 100000 in
theorem st_X7_commonSize : Cond.static yX7_commonSize ∈ ja_T := ja_in4 (i := 117) rfl rfl
def mL_matchKind (c9 s9 : Nat) : jM := (yL_matchKind, cL_matchKind, 6, (some .int), ({ frames := 8, cells := c9, slots := s9, locals := 149 } : Room), [(0, 12, 15, 21), (0, 12, 19, 13)])
set_option maxRecDepth 100000 in
theorem st_L_matchKind : Cond.static yL_matchKind ∈ ja_T := ja_in4 (i := 121) rfl rfl
def mX7_matchKind (c9 s9 : Nat) : jM := (yX7_matchKind, cX7_matchKind, 8, (some .char), ({ frames := 7, cells := c9, slots := s9, locals := 122 } : Room), [])
set_option maxRecDepth 100000 in
theorem co_X7_matchKind : Cond.code yX7_matchKind cX7_matchKind 8 (some .char) ∈ ja_T := ja_in4 (i := 126) rfl rfl
set_option maxRecDepth 100000 in
theorem ci_X7_matchKind : Cond.initialized yX7_matchKind.cls ∈ ja_T := ja_in1 (i := 1) rfl rfl
theorem cn_X7_matchKind : yX7_matchKind.cls ≠ "java/lang/invoke/MethodHandle" ∧ yX7_matchKind.cls ≠ "java/lang/invoke/VarHandle" ∧ (parseMethodDescriptor yX7_matchKind.desc).map (fun d => d.parameters.length) = some 3 := by decide +kernel
theorem ce_X7_matchKind (c9 s9 : Nat) : ja_ce (mX7_matchKind c9 s9) 3 := ⟨rfl, co_X7_matchKind, ci_X7_matchKind, cn_X7_matchKind⟩
set_option maxRecDepth 100000 in
theorem im_X7_matchKind : Cond.instanceMethod yX7_matchKind ∈ ja_T := ja_in4 (i := 124) rfl rfl
set_option maxRecDepth 100000 in
theorem se_X7_matchKind : Cond.selects yX7_matchKind.cls yX7_matchKind yX7_matchKind ∈ ja_T := ja_in4 (i := 125) rfl rfl
def mL_coarse (c9 s9 : Nat) : jM := (yL_coarse, cL_coarse, 6, (some .int), ({ frames := 8, cells := c9, slots := s9, locals := 146 } : Room), [(0, 12, 15, 21), (0, 12, 19, 13), (0, 12, 23, 43)])
set_option maxRecDepth 100000 in
theorem st_L_coarse : Cond.static yL_coarse ∈ ja_T := ja_in4 (i := 128) rfl rfl
def mX7_coarse (c9 s9 : Nat) : jM := (yX7_coarse, cX7_coarse, 5, (some .int), ({ frames := 7, cells := c9, slots := s9, locals := 122 } : Room), [])
set_option maxRecDepth 100000 in
theorem co_X7_coarse : Cond.code yX7_coarse cX7_coarse 5 (some .int) ∈ ja_T := ja_in4 (i := 133) rfl rfl
set_option maxRecDepth 100000 in
theorem ci_X7_coarse : Cond.initialized yX7_coarse.cls ∈ ja_T := ja_in1 (i := 1) rfl rfl
theorem cn_X7_coarse : yX7_coarse.cls ≠ "java/lang/invoke/MethodHandle" ∧ yX7_coarse.cls ≠ "java/lang/invoke/VarHandle" ∧ (parseMethodDescriptor yX7_coarse.desc).map (fun d => d.parameters.length) = some 3 := by decide +kernel
theorem ce_X7_coarse (c9 s9 : Nat) : ja_ce (mX7_coarse c9 s9) 3 := ⟨rfl, co_X7_coarse, ci_X7_coarse, cn_X7_coarse⟩
set_option maxRecDepth 100000 in
theorem im_X7_coarse : Cond.instanceMethod yX7_coarse ∈ ja_T := ja_in4 (i := 131) rfl rfl
set_option maxRecDepth 100000 in
theorem se_X7_coarse : Cond.selects yX7_coarse.cls yX7_coarse yX7_coarse ∈ ja_T := ja_in4 (i := 132) rfl rfl
def mX7_needLeast (c9 s9 : Nat) : jM := (yX7_needLeast, cX7_needLeast, 1, none, ({ frames := 6, cells := c9, slots := s9, locals := 100 } : Room), [])
set_option maxRecDepth 100000 in
theorem co_X7_needLeast : Cond.code yX7_needLeast cX7_needLeast 1 none ∈ ja_T := ja_in4 (i := 136) rfl rfl
set_option maxRecDepth 100000 in
theorem ci_X7_needLeast : Cond.initialized yX7_needLeast.cls ∈ ja_T := ja_in1 (i := 1) rfl rfl
theorem cn_X7_needLeast : yX7_needLeast.cls ≠ "java/lang/invoke/MethodHandle" ∧ yX7_needLeast.cls ≠ "java/lang/invoke/VarHandle" ∧ (parseMethodDescriptor yX7_needLeast.desc).map (fun d => d.parameters.length) = some 1 := by decide +kernel
theorem ce_X7_needLeast (c9 s9 : Nat) : ja_ce (mX7_needLeast c9 s9) 1 := ⟨rfl, co_X7_needLeast, ci_X7_needLeast, cn_X7_needLeast⟩
set_option maxRecDepth 100000 in
theorem st_X7_needLeast : Cond.static yX7_needLeast ∈ ja_T := ja_in4 (i := 135) rfl rfl
def mX0_draw (c9 s9 : Nat) : jM := (yX0_draw, cX0_draw, 6, none, ({ frames := 4, cells := c9, slots := s9, locals := 86 } : Room), [])
set_option maxRecDepth 100000 in
theorem co_X0_draw : Cond.code yX0_draw cX0_draw 6 none ∈ ja_T := ja_in4 (i := 141) rfl rfl
set_option maxRecDepth 100000 in
theorem ci_X0_draw : Cond.initialized yX0_draw.cls ∈ ja_T := ja_in1 (i := 4) rfl rfl
theorem cn_X0_draw : yX0_draw.cls ≠ "java/lang/invoke/MethodHandle" ∧ yX0_draw.cls ≠ "java/lang/invoke/VarHandle" ∧ (parseMethodDescriptor yX0_draw.desc).map (fun d => d.parameters.length) = some 2 := by decide +kernel
theorem ce_X0_draw (c9 s9 : Nat) : ja_ce (mX0_draw c9 s9) 2 := ⟨rfl, co_X0_draw, ci_X0_draw, cn_X0_draw⟩
set_option maxRecDepth 100000 in
theorem im_X0_draw : Cond.instanceMethod yX0_draw ∈ ja_T := ja_in4 (i := 139) rfl rfl
set_option maxRecDepth 100000 in
theorem se_X0_draw : Cond.selects yX0_draw.cls yX0_draw yX0_draw ∈ ja_T := ja_in4 (i := 140) rfl rfl
def mX0_countBorders (c9 s9 : Nat) : jM := (yX0_countBorders, cX0_countBorders, 5, none, ({ frames := 3, cells := c9, slots := s9, locals := 62 } : Room), [])
set_option maxRecDepth 100000 in
theorem co_X0_countBorders : Cond.code yX0_countBorders cX0_countBorders 5 none ∈ ja_T := ja_in4 (i := 146) rfl rfl
set_option maxRecDepth 100000 in
theorem ci_X0_countBorders : Cond.initialized yX0_countBorders.cls ∈ ja_T := ja_in1 (i := 4) rfl rfl
theorem cn_X0_countBorders : yX0_countBorders.cls ≠ "java/lang/invoke/MethodHandle" ∧ yX0_countBorders.cls ≠ "java/lang/invoke/VarHandle" ∧ (parseMethodDescriptor yX0_countBorders.desc).map (fun d => d.parameters.length) = some 1 := by decide +kernel
theorem ce_X0_countBorders (c9 s9 : Nat) : ja_ce (mX0_countBorders c9 s9) 1 := ⟨rfl, co_X0_countBorders, ci_X0_countBorders, cn_X0_countBorders⟩
set_option maxRecDepth 100000 in
theorem im_X0_countBorders : Cond.instanceMethod yX0_countBorders ∈ ja_T := ja_in4 (i := 145) rfl rfl
theorem se_X0_countBorders : Cond.selects yX0_countBorders.cls yX0_countBorders yX0_countBorders ∈ ja_T := ja_inT (i := 18) (by decide +kernel) rfl
def mX0_countPair (c9 s9 : Nat) : jM := (yX0_countPair, cX0_countPair, 3, none, ({ frames := 2, cells := c9, slots := s9, locals := 40 } : Room), [])
set_option maxRecDepth 100000 in
theorem co_X0_countPair : Cond.code yX0_countPair cX0_countPair 3 none ∈ ja_T := ja_in4 (i := 151) rfl rfl
set_option maxRecDepth 100000 in
theorem ci_X0_countPair : Cond.initialized yX0_countPair.cls ∈ ja_T := ja_in1 (i := 4) rfl rfl
theorem cn_X0_countPair : yX0_countPair.cls ≠ "java/lang/invoke/MethodHandle" ∧ yX0_countPair.cls ≠ "java/lang/invoke/VarHandle" ∧ (parseMethodDescriptor yX0_countPair.desc).map (fun d => d.parameters.length) = some 2 := by decide +kernel
theorem ce_X0_countPair (c9 s9 : Nat) : ja_ce (mX0_countPair c9 s9) 2 := ⟨rfl, co_X0_countPair, ci_X0_countPair, cn_X0_countPair⟩
set_option maxRecDepth 100000 in
theorem im_X0_countPair : Cond.instanceMethod yX0_countPair ∈ ja_T := ja_in4 (i := 150) rfl rfl
theorem se_X0_countPair : Cond.selects yX0_countPair.cls yX0_countPair yX0_countPair ∈ ja_T := ja_inT (i := 19) (by decide +kernel) rfl
def mX0_smallest (c9 s9 : Nat) : jM := (yX0_smallest, cX0_smallest, 5, (some .int), ({ frames := 2, cells := c9, slots := s9, locals := 44 } : Room), [])
set_option maxRecDepth 100000 in
theorem co_X0_smallest : Cond.code yX0_smallest cX0_smallest 5 (some .int) ∈ ja_T := ja_in4 (i := 156) rfl rfl
set_option maxRecDepth 100000 in
theorem ci_X0_smallest : Cond.initialized yX0_smallest.cls ∈ ja_T := ja_in1 (i := 4) rfl rfl
theorem cn_X0_smallest : yX0_smallest.cls ≠ "java/lang/invoke/MethodHandle" ∧ yX0_smallest.cls ≠ "java/lang/invoke/VarHandle" ∧ (parseMethodDescriptor yX0_smallest.desc).map (fun d => d.parameters.length) = some 1 := by decide +kernel
theorem ce_X0_smallest (c9 s9 : Nat) : ja_ce (mX0_smallest c9 s9) 1 := ⟨rfl, co_X0_smallest, ci_X0_smallest, cn_X0_smallest⟩
set_option maxRecDepth 100000 in
theorem im_X0_smallest : Cond.instanceMethod yX0_smallest ∈ ja_T := ja_in4 (i := 155) rfl rfl
theorem se_X0_smallest : Cond.selects yX0_smallest.cls yX0_smallest yX0_smallest ∈ ja_T := ja_inT (i := 20) (by decide +kernel) rfl
def mX0_longestBorder (c9 s9 : Nat) : jM := (yX0_longestBorder, cX0_longestBorder, 5, (some .int), ({ frames := 1, cells := c9, slots := s9, locals := 20 } : Room), [])
set_option maxRecDepth 100000 in
theorem co_X0_longestBorder : Cond.code yX0_longestBorder cX0_longestBorder 5 (some .int) ∈ ja_T := ja_in4 (i := 160) rfl rfl
set_option maxRecDepth 100000 in
theorem ci_X0_longestBorder : Cond.initialized yX0_longestBorder.cls ∈ ja_T := ja_in1 (i := 4) rfl rfl
theorem cn_X0_longestBorder : yX0_longestBorder.cls ≠ "java/lang/invoke/MethodHandle" ∧ yX0_longestBorder.cls ≠ "java/lang/invoke/VarHandle" ∧ (parseMethodDescriptor yX0_longestBorder.desc).map (fun d => d.parameters.length) = some 1 := by decide +kernel
theorem ce_X0_longestBorder (c9 s9 : Nat) : ja_ce (mX0_longestBorder c9 s9) 1 := ⟨rfl, co_X0_longestBorder, ci_X0_longestBorder, cn_X0_longestBorder⟩
set_option maxRecDepth 100000 in
theorem im_X0_longestBorder : Cond.instanceMethod yX0_longestBorder ∈ ja_T := ja_in4 (i := 159) rfl rfl
theorem se_X0_longestBorder : Cond.selects yX0_longestBorder.cls yX0_longestBorder yX0_longestBorder ∈ ja_T := ja_inT (i := 21) (by decide +kernel) rfl
def mX0_join (c9 s9 : Nat) : jM := (yX0_join, cX0_join, 4, none, ({ frames := 1, cells := c9, slots := s9, locals := 20 } : Room), [])
set_option maxRecDepth 100000 in
theorem co_X0_join : Cond.code yX0_join cX0_join 4 none ∈ ja_T := ja_in4 (i := 164) rfl rfl
set_option maxRecDepth 100000 in
theorem ci_X0_join : Cond.initialized yX0_join.cls ∈ ja_T := ja_in1 (i := 4) rfl rfl
theorem cn_X0_join : yX0_join.cls ≠ "java/lang/invoke/MethodHandle" ∧ yX0_join.cls ≠ "java/lang/invoke/VarHandle" ∧ (parseMethodDescriptor yX0_join.desc).map (fun d => d.parameters.length) = some 2 := by decide +kernel
theorem ce_X0_join (c9 s9 : Nat) : ja_ce (mX0_join c9 s9) 2 := ⟨rfl, co_X0_join, ci_X0_join, cn_X0_join⟩
set_option maxRecDepth 100000 in
theorem im_X0_join : Cond.instanceMethod yX0_join ∈ ja_T := ja_in4 (i := 163) rfl rfl
theorem se_X0_join : Cond.selects yX0_join.cls yX0_join yX0_join ∈ ja_T := ja_inT (i := 22) (by decide +kernel) rfl
def mL_coarseAreas (c9 s9 : Nat) : jM := (yL_coarseAreas, cL_coarseAreas, 5, (some .int), ({ frames := 8, cells := c9, slots := s9, locals := 145 } : Room), [(0, 10, 13, 21), (0, 10, 17, 13)])
set_option maxRecDepth 100000 in
theorem st_L_coarseAreas : Cond.static yL_coarseAreas ∈ ja_T := ja_in4 (i := 166) rfl rfl
def mX7_coarseAreas (c9 s9 : Nat) : jM := (yX7_coarseAreas, cX7_coarseAreas, 4, (some .int), ({ frames := 7, cells := c9, slots := s9, locals := 122 } : Room), [])
set_option maxRecDepth 100000 in
theorem co_X7_coarseAreas : Cond.code yX7_coarseAreas cX7_coarseAreas 4 (some .int) ∈ ja_T := ja_in4 (i := 171) rfl rfl
set_option maxRecDepth 100000 in
theorem ci_X7_coarseAreas : Cond.initialized yX7_coarseAreas.cls ∈ ja_T := ja_in1 (i := 1) rfl rfl
theorem cn_X7_coarseAreas : yX7_coarseAreas.cls ≠ "java/lang/invoke/MethodHandle" ∧ yX7_coarseAreas.cls ≠ "java/lang/invoke/VarHandle" ∧ (parseMethodDescriptor yX7_coarseAreas.desc).map (fun d => d.parameters.length) = some 2 := by decide +kernel
theorem ce_X7_coarseAreas (c9 s9 : Nat) : ja_ce (mX7_coarseAreas c9 s9) 2 := ⟨rfl, co_X7_coarseAreas, ci_X7_coarseAreas, cn_X7_coarseAreas⟩
set_option maxRecDepth 100000 in
theorem im_X7_coarseAreas : Cond.instanceMethod yX7_coarseAreas ∈ ja_T := ja_in4 (i := 169) rfl rfl
set_option maxRecDepth 100000 in
theorem se_X7_coarseAreas : Cond.selects yX7_coarseAreas.cls yX7_coarseAreas yX7_coarseAreas ∈ ja_T := ja_in4 (i := 170) rfl rfl
def mX0_countAreas (c9 s9 : Nat) : jM := (yX0_countAreas, cX0_countAreas, 3, (some .int), ({ frames := 1, cells := c9, slots := s9, locals := 20 } : Room), [])
set_option maxRecDepth 100000 in
theorem co_X0_countAreas : Cond.code yX0_countAreas cX0_countAreas 3 (some .int) ∈ ja_T := ja_in4 (i := 175) rfl rfl
set_option maxRecDepth 100000 in
theorem ci_X0_countAreas : Cond.initialized yX0_countAreas.cls ∈ ja_T := ja_in1 (i := 4) rfl rfl
theorem cn_X0_countAreas : yX0_countAreas.cls ≠ "java/lang/invoke/MethodHandle" ∧ yX0_countAreas.cls ≠ "java/lang/invoke/VarHandle" ∧ (parseMethodDescriptor yX0_countAreas.desc).map (fun d => d.parameters.length) = some 0 := by decide +kernel
theorem ce_X0_countAreas (c9 s9 : Nat) : ja_ce (mX0_countAreas c9 s9) 0 := ⟨rfl, co_X0_countAreas, ci_X0_countAreas, cn_X0_countAreas⟩
set_option maxRecDepth 100000 in
theorem im_X0_countAreas : Cond.instanceMethod yX0_countAreas ∈ ja_T := ja_in4 (i := 173) rfl rfl
set_option maxRecDepth 100000 in
theorem se_X0_countAreas : Cond.selects yX0_countAreas.cls yX0_countAreas yX0_countAreas ∈ ja_T := ja_in4 (i := 174) rfl rfl
def mL_name (c9 s9 : Nat) : jM := (yL_name, cL_name, 6, (some .int), ({ frames := 8, cells := c9, slots := s9, locals := 147 } : Room), [(0, 12, 15, 21), (0, 12, 19, 13)])
set_option maxRecDepth 100000 in
theorem st_L_name : Cond.static yL_name ∈ ja_T := ja_in4 (i := 177) rfl rfl
def mX7_name (c9 s9 : Nat) : jM := (yX7_name, cX7_name, 6, (some .int), ({ frames := 7, cells := c9, slots := s9, locals := 122 } : Room), [])
set_option maxRecDepth 100000 in
theorem co_X7_name : Cond.code yX7_name cX7_name 6 (some .int) ∈ ja_T := ja_in4 (i := 182) rfl rfl
set_option maxRecDepth 100000 in
theorem ci_X7_name : Cond.initialized yX7_name.cls ∈ ja_T := ja_in1 (i := 1) rfl rfl
theorem cn_X7_name : yX7_name.cls ≠ "java/lang/invoke/MethodHandle" ∧ yX7_name.cls ≠ "java/lang/invoke/VarHandle" ∧ (parseMethodDescriptor yX7_name.desc).map (fun d => d.parameters.length) = some 3 := by decide +kernel
theorem ce_X7_name (c9 s9 : Nat) : ja_ce (mX7_name c9 s9) 3 := ⟨rfl, co_X7_name, ci_X7_name, cn_X7_name⟩
set_option maxRecDepth 100000 in
theorem im_X7_name : Cond.instanceMethod yX7_name ∈ ja_T := ja_in4 (i := 180) rfl rfl
set_option maxRecDepth 100000 in
theorem se_X7_name : Cond.selects yX7_name.cls yX7_name yX7_name ∈ ja_T := ja_in4 (i := 181) rfl rfl
def mL_placeOf (c9 s9 : Nat) : jM := (yL_placeOf, cL_placeOf, 5, (some .int), ({ frames := 8, cells := c9, slots := s9, locals := 171 } : Room), [(0, 10, 13, 21), (0, 10, 17, 13), (0, 10, 21, 43)])
set_option maxRecDepth 100000 in
theorem st_L_placeOf : Cond.static yL_placeOf ∈ ja_T := ja_in4 (i := 185) rfl rfl
def mX7_placeOf (c9 s9 : Nat) : jM := (yX7_placeOf, cX7_placeOf, 5, (some .int), ({ frames := 7, cells := c9, slots := s9, locals := 147 } : Room), [])
set_option maxRecDepth 100000 in
theorem co_X7_placeOf : Cond.code yX7_placeOf cX7_placeOf 5 (some .int) ∈ ja_T := ja_in4 (i := 190) rfl rfl
set_option maxRecDepth 100000 in
theorem ci_X7_placeOf : Cond.initialized yX7_placeOf.cls ∈ ja_T := ja_in1 (i := 1) rfl rfl
theorem cn_X7_placeOf : yX7_placeOf.cls ≠ "java/lang/invoke/MethodHandle" ∧ yX7_placeOf.cls ≠ "java/lang/invoke/VarHandle" ∧ (parseMethodDescriptor yX7_placeOf.desc).map (fun d => d.parameters.length) = some 2 := by decide +kernel
theorem ce_X7_placeOf (c9 s9 : Nat) : ja_ce (mX7_placeOf c9 s9) 2 := ⟨rfl, co_X7_placeOf, ci_X7_placeOf, cn_X7_placeOf⟩
set_option maxRecDepth 100000 in
theorem im_X7_placeOf : Cond.instanceMethod yX7_placeOf ∈ ja_T := ja_in4 (i := 188) rfl rfl
set_option maxRecDepth 100000 in
theorem se_X7_placeOf : Cond.selects yX7_placeOf.cls yX7_placeOf yX7_placeOf ∈ ja_T := ja_in4 (i := 189) rfl rfl
def mX2_firstSquare (c9 s9 : Nat) : jM := (yX2_firstSquare, cX2_firstSquare, 6, (some .int), ({ frames := 5, cells := c9, slots := s9, locals := 122 } : Room), [])
set_option maxRecDepth 100000 in
theorem co_X2_firstSquare : Cond.code yX2_firstSquare cX2_firstSquare 6 (some .int) ∈ ja_T := ja_in4 (i := 194) rfl rfl
set_option maxRecDepth 100000 in
theorem ci_X2_firstSquare : Cond.initialized yX2_firstSquare.cls ∈ ja_T := ja_in1 (i := 5) rfl rfl
theorem cn_X2_firstSquare : yX2_firstSquare.cls ≠ "java/lang/invoke/MethodHandle" ∧ yX2_firstSquare.cls ≠ "java/lang/invoke/VarHandle" ∧ (parseMethodDescriptor yX2_firstSquare.desc).map (fun d => d.parameters.length) = some 2 := by decide +kernel
theorem ce_X2_firstSquare (c9 s9 : Nat) : ja_ce (mX2_firstSquare c9 s9) 2 := ⟨rfl, co_X2_firstSquare, ci_X2_firstSquare, cn_X2_firstSquare⟩
set_option maxRecDepth 100000 in
theorem im_X2_firstSquare : Cond.instanceMethod yX2_firstSquare ∈ ja_T := ja_in4 (i := 192) rfl rfl
set_option maxRecDepth 100000 in
theorem se_X2_firstSquare : Cond.selects yX2_firstSquare.cls yX2_firstSquare yX2_firstSquare ∈ ja_T := ja_in4 (i := 193) rfl rfl
def mX2_nextArea (c9 s9 : Nat) : jM := (yX2_nextArea, cX2_nextArea, 6, (some .int), ({ frames := 2, cells := c9, slots := s9, locals := 44 } : Room), [])
set_option maxRecDepth 100000 in
theorem co_X2_nextArea : Cond.code yX2_nextArea cX2_nextArea 6 (some .int) ∈ ja_T := ja_in4 (i := 199) rfl rfl
set_option maxRecDepth 100000 in
theorem ci_X2_nextArea : Cond.initialized yX2_nextArea.cls ∈ ja_T := ja_in1 (i := 5) rfl rfl
theorem cn_X2_nextArea : yX2_nextArea.cls ≠ "java/lang/invoke/MethodHandle" ∧ yX2_nextArea.cls ≠ "java/lang/invoke/VarHandle" ∧ (parseMethodDescriptor yX2_nextArea.desc).map (fun d => d.parameters.length) = some 2 := by decide +kernel
theorem ce_X2_nextArea (c9 s9 : Nat) : ja_ce (mX2_nextArea c9 s9) 2 := ⟨rfl, co_X2_nextArea, ci_X2_nextArea, cn_X2_nextArea⟩
set_option maxRecDepth 100000 in
theorem im_X2_nextArea : Cond.instanceMethod yX2_nextArea ∈ ja_T := ja_in4 (i := 198) rfl rfl
theorem se_X2_nextArea : Cond.selects yX2_nextArea.cls yX2_nextArea yX2_nextArea ∈ ja_T := ja_inT (i := 23) (by decide +kernel) rfl
def mX2_comesBefore (c9 s9 : Nat) : jM := (yX2_comesBefore, cX2_comesBefore, 5, (some .boolean), ({ frames := 1, cells := c9, slots := s9, locals := 20 } : Room), [])
set_option maxRecDepth 100000 in
theorem co_X2_comesBefore : Cond.code yX2_comesBefore cX2_comesBefore 5 (some .boolean) ∈ ja_T := ja_in4 (i := 203) rfl rfl
set_option maxRecDepth 100000 in
theorem ci_X2_comesBefore : Cond.initialized yX2_comesBefore.cls ∈ ja_T := ja_in1 (i := 5) rfl rfl
theorem cn_X2_comesBefore : yX2_comesBefore.cls ≠ "java/lang/invoke/MethodHandle" ∧ yX2_comesBefore.cls ≠ "java/lang/invoke/VarHandle" ∧ (parseMethodDescriptor yX2_comesBefore.desc).map (fun d => d.parameters.length) = some 3 := by decide +kernel
theorem ce_X2_comesBefore (c9 s9 : Nat) : ja_ce (mX2_comesBefore c9 s9) 3 := ⟨rfl, co_X2_comesBefore, ci_X2_comesBefore, cn_X2_comesBefore⟩
set_option maxRecDepth 100000 in
theorem st_X2_comesBefore : Cond.static yX2_comesBefore ∈ ja_T := ja_in4 (i := 202) rfl rfl
def mX2_bestPlace (c9 s9 : Nat) : jM := (yX2_bestPlace, cX2_bestPlace, 11, (some .int), ({ frames := 4, cells := c9, slots := s9, locals := 92 } : Room), [])
set_option maxRecDepth 100000 in
theorem co_X2_bestPlace : Cond.code yX2_bestPlace cX2_bestPlace 11 (some .int) ∈ ja_T := ja_in4 (i := 207) rfl rfl
set_option maxRecDepth 100000 in
theorem ci_X2_bestPlace : Cond.initialized yX2_bestPlace.cls ∈ ja_T := ja_in1 (i := 5) rfl rfl
theorem cn_X2_bestPlace : yX2_bestPlace.cls ≠ "java/lang/invoke/MethodHandle" ∧ yX2_bestPlace.cls ≠ "java/lang/invoke/VarHandle" ∧ (parseMethodDescriptor yX2_bestPlace.desc).map (fun d => d.parameters.length) = some 2 := by decide +kernel
theorem ce_X2_bestPlace (c9 s9 : Nat) : ja_ce (mX2_bestPlace c9 s9) 2 := ⟨rfl, co_X2_bestPlace, ci_X2_bestPlace, cn_X2_bestPlace⟩
set_option maxRecDepth 100000 in
theorem im_X2_bestPlace : Cond.instanceMethod yX2_bestPlace ∈ ja_T := ja_in4 (i := 206) rfl rfl
theorem se_X2_bestPlace : Cond.selects yX2_bestPlace.cls yX2_bestPlace yX2_bestPlace ∈ ja_T := ja_inT (i := 24) (by decide +kernel) rfl
def mX2_sumOf (c9 s9 : Nat) : jM := (yX2_sumOf, cX2_sumOf, 5, (some .int), ({ frames := 1, cells := c9, slots := s9, locals := 20 } : Room), [])
set_option maxRecDepth 100000 in
theorem co_X2_sumOf : Cond.code yX2_sumOf cX2_sumOf 5 (some .int) ∈ ja_T := ja_in4 (i := 210) rfl rfl
set_option maxRecDepth 100000 in
theorem ci_X2_sumOf : Cond.initialized yX2_sumOf.cls ∈ ja_T := ja_in1 (i := 5) rfl rfl
theorem cn_X2_sumOf : yX2_sumOf.cls ≠ "java/lang/invoke/MethodHandle" ∧ yX2_sumOf.cls ≠ "java/lang/invoke/VarHandle" ∧ (parseMethodDescriptor yX2_sumOf.desc).map (fun d => d.parameters.length) = some 3 := by decide +kernel
theorem ce_X2_sumOf (c9 s9 : Nat) : ja_ce (mX2_sumOf c9 s9) 3 := ⟨rfl, co_X2_sumOf, ci_X2_sumOf, cn_X2_sumOf⟩
set_option maxRecDepth 100000 in
theorem st_X2_sumOf : Cond.static yX2_sumOf ∈ ja_T := ja_in4 (i := 209) rfl rfl
def mJ9_abs_0f7a4 (c9 s9 : Nat) : jM := (yJ9_abs_0f7a4, cJ9_abs_0f7a4, 1, (some .int), ({ frames := 1, cells := c9, slots := s9, locals := 20 } : Room), [])
set_option maxRecDepth 100000 in
theorem co_J9_abs_0f7a4 : Cond.code yJ9_abs_0f7a4 cJ9_abs_0f7a4 1 (some .int) ∈ ja_T := ja_in4 (i := 213) rfl rfl
set_option maxRecDepth 100000 in
theorem ci_J9_abs_0f7a4 : Cond.initialized yJ9_abs_0f7a4.cls ∈ ja_T := ja_in1 (i := 21) rfl rfl
theorem cn_J9_abs_0f7a4 : yJ9_abs_0f7a4.cls ≠ "java/lang/invoke/MethodHandle" ∧ yJ9_abs_0f7a4.cls ≠ "java/lang/invoke/VarHandle" ∧ (parseMethodDescriptor yJ9_abs_0f7a4.desc).map (fun d => d.parameters.length) = some 1 := by decide +kernel
theorem ce_J9_abs_0f7a4 (c9 s9 : Nat) : ja_ce (mJ9_abs_0f7a4 c9 s9) 1 := ⟨rfl, co_J9_abs_0f7a4, ci_J9_abs_0f7a4, cn_J9_abs_0f7a4⟩
set_option maxRecDepth 100000 in
theorem st_J9_abs_0f7a4 : Cond.static yJ9_abs_0f7a4 ∈ ja_T := ja_in4 (i := 212) rfl rfl
def mX2_isFree (c9 s9 : Nat) : jM := (yX2_isFree, cX2_isFree, 6, (some .boolean), ({ frames := 3, cells := c9, slots := s9, locals := 67 } : Room), [])
set_option maxRecDepth 100000 in
theorem co_X2_isFree : Cond.code yX2_isFree cX2_isFree 6 (some .boolean) ∈ ja_T := ja_in4 (i := 217) rfl rfl
set_option maxRecDepth 100000 in
theorem ci_X2_isFree : Cond.initialized yX2_isFree.cls ∈ ja_T := ja_in1 (i := 5) rfl rfl
theorem cn_X2_isFree : yX2_isFree.cls ≠ "java/lang/invoke/MethodHandle" ∧ yX2_isFree.cls ≠ "java/lang/invoke/VarHandle" ∧ (parseMethodDescriptor yX2_isFree.desc).map (fun d => d.parameters.length) = some 4 := by decide +kernel
theorem ce_X2_isFree (c9 s9 : Nat) : ja_ce (mX2_isFree c9 s9) 4 := ⟨rfl, co_X2_isFree, ci_X2_isFree, cn_X2_isFree⟩
set_option maxRecDepth 100000 in
theorem im_X2_isFree : Cond.instanceMethod yX2_isFree ∈ ja_T := ja_in4 (i := 216) rfl rfl
theorem se_X2_isFree : Cond.selects yX2_isFree.cls yX2_isFree yX2_isFree ∈ ja_T := ja_inT (i := 25) (by decide +kernel) rfl
def mX2_isNearName (c9 s9 : Nat) : jM := (yX2_isNearName, cX2_isNearName, 5, (some .boolean), ({ frames := 2, cells := c9, slots := s9, locals := 43 } : Room), [])
set_option maxRecDepth 100000 in
theorem co_X2_isNearName : Cond.code yX2_isNearName cX2_isNearName 5 (some .boolean) ∈ ja_T := ja_in4 (i := 221) rfl rfl
set_option maxRecDepth 100000 in
theorem ci_X2_isNearName : Cond.initialized yX2_isNearName.cls ∈ ja_T := ja_in1 (i := 5) rfl rfl
theorem cn_X2_isNearName : yX2_isNearName.cls ≠ "java/lang/invoke/MethodHandle" ∧ yX2_isNearName.cls ≠ "java/lang/invoke/VarHandle" ∧ (parseMethodDescriptor yX2_isNearName.desc).map (fun d => d.parameters.length) = some 1 := by decide +kernel
theorem ce_X2_isNearName (c9 s9 : Nat) : ja_ce (mX2_isNearName c9 s9) 1 := ⟨rfl, co_X2_isNearName, ci_X2_isNearName, cn_X2_isNearName⟩
set_option maxRecDepth 100000 in
theorem im_X2_isNearName : Cond.instanceMethod yX2_isNearName ∈ ja_T := ja_in4 (i := 220) rfl rfl
theorem se_X2_isNearName : Cond.selects yX2_isNearName.cls yX2_isNearName yX2_isNearName ∈ ja_T := ja_inT (i := 26) (by decide +kernel) rfl
def mX2_write (c9 s9 : Nat) : jM := (yX2_write, cX2_write, 5, none, ({ frames := 1, cells := c9, slots := s9, locals := 20 } : Room), [])
set_option maxRecDepth 100000 in
theorem co_X2_write : Cond.code yX2_write cX2_write 5 none ∈ ja_T := ja_in4 (i := 226) rfl rfl
set_option maxRecDepth 100000 in
theorem ci_X2_write : Cond.initialized yX2_write.cls ∈ ja_T := ja_in1 (i := 5) rfl rfl
theorem cn_X2_write : yX2_write.cls ≠ "java/lang/invoke/MethodHandle" ∧ yX2_write.cls ≠ "java/lang/invoke/VarHandle" ∧ (parseMethodDescriptor yX2_write.desc).map (fun d => d.parameters.length) = some 3 := by decide +kernel
theorem ce_X2_write (c9 s9 : Nat) : ja_ce (mX2_write c9 s9) 3 := ⟨rfl, co_X2_write, ci_X2_write, cn_X2_write⟩
set_option maxRecDepth 100000 in
theorem im_X2_write : Cond.instanceMethod yX2_write ∈ ja_T := ja_in4 (i := 225) rfl rfl
theorem se_X2_write : Cond.selects yX2_write.cls yX2_write yX2_write ∈ ja_T := ja_inT (i := 27) (by decide +kernel) rfl
def mL_values (c9 s9 : Nat) : jM := (yL_values, cL_values, 4, (some .int), ({ frames := 8, cells := c9, slots := s9, locals := 147 } : Room), [(0, 8, 11, 21)])
set_option maxRecDepth 100000 in
theorem st_L_values : Cond.static yL_values ∈ ja_T := ja_in4 (i := 229) rfl rfl
def mX7_values (c9 s9 : Nat) : jM := (yX7_values, cX7_values, 6, (some .long), ({ frames := 7, cells := c9, slots := s9, locals := 122 } : Room), [])
set_option maxRecDepth 100000 in
theorem co_X7_values : Cond.code yX7_values cX7_values 6 (some .long) ∈ ja_T := ja_in4 (i := 234) rfl rfl
set_option maxRecDepth 100000 in
theorem ci_X7_values : Cond.initialized yX7_values.cls ∈ ja_T := ja_in1 (i := 1) rfl rfl
theorem cn_X7_values : yX7_values.cls ≠ "java/lang/invoke/MethodHandle" ∧ yX7_values.cls ≠ "java/lang/invoke/VarHandle" ∧ (parseMethodDescriptor yX7_values.desc).map (fun d => d.parameters.length) = some 1 := by decide +kernel
theorem ce_X7_values (c9 s9 : Nat) : ja_ce (mX7_values c9 s9) 1 := ⟨rfl, co_X7_values, ci_X7_values, cn_X7_values⟩
set_option maxRecDepth 100000 in
theorem im_X7_values : Cond.instanceMethod yX7_values ∈ ja_T := ja_in4 (i := 232) rfl rfl
set_option maxRecDepth 100000 in
theorem se_X7_values : Cond.selects yX7_values.cls yX7_values yX7_values ∈ ja_T := ja_in4 (i := 233) rfl rfl
def mL_covered (c9 s9 : Nat) : jM := (yL_covered, cL_covered, 4, (some .int), ({ frames := 8, cells := c9, slots := s9, locals := 146 } : Room), [(0, 9, 12, 21)])
set_option maxRecDepth 100000 in
theorem st_L_covered : Cond.static yL_covered ∈ ja_T := ja_in4 (i := 236) rfl rfl
def mX7_covered (c9 s9 : Nat) : jM := (yX7_covered, cX7_covered, 5, (some .float), ({ frames := 7, cells := c9, slots := s9, locals := 122 } : Room), [])
set_option maxRecDepth 100000 in
theorem co_X7_covered : Cond.code yX7_covered cX7_covered 5 (some .float) ∈ ja_T := ja_in5 (i := 1) rfl rfl
set_option maxRecDepth 100000 in
theorem ci_X7_covered : Cond.initialized yX7_covered.cls ∈ ja_T := ja_in1 (i := 1) rfl rfl
theorem cn_X7_covered : yX7_covered.cls ≠ "java/lang/invoke/MethodHandle" ∧ yX7_covered.cls ≠ "java/lang/invoke/VarHandle" ∧ (parseMethodDescriptor yX7_covered.desc).map (fun d => d.parameters.length) = some 1 := by decide +kernel
theorem ce_X7_covered (c9 s9 : Nat) : ja_ce (mX7_covered c9 s9) 1 := ⟨rfl, co_X7_covered, ci_X7_covered, cn_X7_covered⟩
set_option maxRecDepth 100000 in
theorem im_X7_covered : Cond.instanceMethod yX7_covered ∈ ja_T := ja_in4 (i := 239) rfl rfl
set_option maxRecDepth 100000 in
theorem se_X7_covered : Cond.selects yX7_covered.cls yX7_covered yX7_covered ∈ ja_T := ja_in5 (i := 0) rfl rfl
def mL_meanPiece (c9 s9 : Nat) : jM := (yL_meanPiece, cL_meanPiece, 5, (some .int), ({ frames := 9, cells := c9, slots := s9, locals := 168 } : Room), [(0, 9, 12, 21), (0, 9, 16, 151)])
set_option maxRecDepth 100000 in
theorem st_L_meanPiece : Cond.static yL_meanPiece ∈ ja_T := ja_in5 (i := 4) rfl rfl
def mX7_meanPiece (c9 s9 : Nat) : jM := (yX7_meanPiece, cX7_meanPiece, 5, (some .double), ({ frames := 8, cells := c9, slots := s9, locals := 144 } : Room), [])
set_option maxRecDepth 100000 in
theorem co_X7_meanPiece : Cond.code yX7_meanPiece cX7_meanPiece 5 (some .double) ∈ ja_T := ja_in5 (i := 23) rfl rfl
set_option maxRecDepth 100000 in
theorem ci_X7_meanPiece : Cond.initialized yX7_meanPiece.cls ∈ ja_T := ja_in1 (i := 1) rfl rfl
theorem cn_X7_meanPiece : yX7_meanPiece.cls ≠ "java/lang/invoke/MethodHandle" ∧ yX7_meanPiece.cls ≠ "java/lang/invoke/VarHandle" ∧ (parseMethodDescriptor yX7_meanPiece.desc).map (fun d => d.parameters.length) = some 2 := by decide +kernel
theorem ce_X7_meanPiece (c9 s9 : Nat) : ja_ce (mX7_meanPiece c9 s9) 2 := ⟨rfl, co_X7_meanPiece, ci_X7_meanPiece, cn_X7_meanPiece⟩
set_option maxRecDepth 100000 in
theorem im_X7_meanPiece : Cond.instanceMethod yX7_meanPiece ∈ ja_T := ja_in5 (i := 21) rfl rfl
set_option maxRecDepth 100000 in
theorem se_X7_meanPiece : Cond.selects yX7_meanPiece.cls yX7_meanPiece yX7_meanPiece ∈ ja_T := ja_in5 (i := 22) rfl rfl
def mX8_init (c9 s9 : Nat) : jM := (yX8_init, cX8_init, 2, none, ({ frames := 2, cells := c9, slots := s9, locals := 60 } : Room), [])
set_option maxRecDepth 100000 in
theorem co_X8_init : Cond.code yX8_init cX8_init 2 none ∈ ja_T := ja_in5 (i := 31) rfl rfl
set_option maxRecDepth 100000 in
theorem ci_X8_init : Cond.initialized yX8_init.cls ∈ ja_T := ja_in1 (i := 7) rfl rfl
theorem cn_X8_init : yX8_init.cls ≠ "java/lang/invoke/MethodHandle" ∧ yX8_init.cls ≠ "java/lang/invoke/VarHandle" ∧ (parseMethodDescriptor yX8_init.desc).map (fun d => d.parameters.length) = some 0 := by decide +kernel
theorem ce_X8_init (c9 s9 : Nat) : ja_ce (mX8_init c9 s9) 0 := ⟨rfl, co_X8_init, ci_X8_init, cn_X8_init⟩
set_option maxRecDepth 100000 in
theorem im_X8_init : Cond.instanceMethod yX8_init ∈ ja_T := ja_in5 (i := 30) rfl rfl
def mX8_thrown (c9 s9 : Nat) : jM := (yX8_thrown, cX8_thrown, 1, (some .int), ({ frames := 1, cells := c9, slots := s9, locals := 20 } : Room), [])
set_option maxRecDepth 100000 in
theorem co_X8_thrown : Cond.code yX8_thrown cX8_thrown 1 (some .int) ∈ ja_T := ja_in5 (i := 123) rfl rfl
set_option maxRecDepth 100000 in
theorem ci_X8_thrown : Cond.initialized yX8_thrown.cls ∈ ja_T := ja_in1 (i := 7) rfl rfl
theorem cn_X8_thrown : yX8_thrown.cls ≠ "java/lang/invoke/MethodHandle" ∧ yX8_thrown.cls ≠ "java/lang/invoke/VarHandle" ∧ (parseMethodDescriptor yX8_thrown.desc).map (fun d => d.parameters.length) = some 0 := by decide +kernel
theorem ce_X8_thrown (c9 s9 : Nat) : ja_ce (mX8_thrown c9 s9) 0 := ⟨rfl, co_X8_thrown, ci_X8_thrown, cn_X8_thrown⟩
set_option maxRecDepth 100000 in
theorem im_X8_thrown : Cond.instanceMethod yX8_thrown ∈ ja_T := ja_in5 (i := 121) rfl rfl
set_option maxRecDepth 100000 in
theorem se_X8_thrown : Cond.selects yX8_thrown.cls yX8_thrown yX8_thrown ∈ ja_T := ja_in5 (i := 122) rfl rfl
def mX8_begin (c9 s9 : Nat) : jM := (yX8_begin, cX8_begin, 3, (some .int), ({ frames := 2, cells := c9, slots := s9, locals := 42 } : Room), [])
set_option maxRecDepth 100000 in
theorem co_X8_begin : Cond.code yX8_begin cX8_begin 3 (some .int) ∈ ja_T := ja_in5 (i := 127) rfl rfl
set_option maxRecDepth 100000 in
theorem ci_X8_begin : Cond.initialized yX8_begin.cls ∈ ja_T := ja_in1 (i := 7) rfl rfl
theorem cn_X8_begin : yX8_begin.cls ≠ "java/lang/invoke/MethodHandle" ∧ yX8_begin.cls ≠ "java/lang/invoke/VarHandle" ∧ (parseMethodDescriptor yX8_begin.desc).map (fun d => d.parameters.length) = some 1 := by decide +kernel
theorem ce_X8_begin (c9 s9 : Nat) : ja_ce (mX8_begin c9 s9) 1 := ⟨rfl, co_X8_begin, ci_X8_begin, cn_X8_begin⟩
set_option maxRecDepth 100000 in
theorem im_X8_begin : Cond.instanceMethod yX8_begin ∈ ja_T := ja_in5 (i := 125) rfl rfl
set_option maxRecDepth 100000 in
theorem se_X8_begin : Cond.selects yX8_begin.cls yX8_begin yX8_begin ∈ ja_T := ja_in5 (i := 126) rfl rfl
def mX8_in (c9 s9 : Nat) : jM := (yX8_in, cX8_in, 3, (some .boolean), ({ frames := 1, cells := c9, slots := s9, locals := 20 } : Room), [])
set_option maxRecDepth 100000 in
theorem co_X8_in : Cond.code yX8_in cX8_in 3 (some .boolean) ∈ ja_T := ja_in5 (i := 130) rfl rfl
set_option maxRecDepth 100000 in
theorem ci_X8_in : Cond.initialized yX8_in.cls ∈ ja_T := ja_in1 (i := 7) rfl rfl
theorem cn_X8_in : yX8_in.cls ≠ "java/lang/invoke/MethodHandle" ∧ yX8_in.cls ≠ "java/lang/invoke/VarHandle" ∧ (parseMethodDescriptor yX8_in.desc).map (fun d => d.parameters.length) = some 3 := by decide +kernel
theorem ce_X8_in (c9 s9 : Nat) : ja_ce (mX8_in c9 s9) 3 := ⟨rfl, co_X8_in, ci_X8_in, cn_X8_in⟩
set_option maxRecDepth 100000 in
theorem st_X8_in : Cond.static yX8_in ∈ ja_T := ja_in5 (i := 129) rfl rfl
def mX8_fails (c9 s9 : Nat) : jM := (yX8_fails, cX8_fails, 2, (some .int), ({ frames := 1, cells := c9, slots := s9, locals := 20 } : Room), [])
set_option maxRecDepth 100000 in
theorem co_X8_fails : Cond.code yX8_fails cX8_fails 2 (some .int) ∈ ja_T := ja_in5 (i := 134) rfl rfl
set_option maxRecDepth 100000 in
theorem ci_X8_fails : Cond.initialized yX8_fails.cls ∈ ja_T := ja_in1 (i := 7) rfl rfl
theorem cn_X8_fails : yX8_fails.cls ≠ "java/lang/invoke/MethodHandle" ∧ yX8_fails.cls ≠ "java/lang/invoke/VarHandle" ∧ (parseMethodDescriptor yX8_fails.desc).map (fun d => d.parameters.length) = some 1 := by decide +kernel
theorem ce_X8_fails (c9 s9 : Nat) : ja_ce (mX8_fails c9 s9) 1 := ⟨rfl, co_X8_fails, ci_X8_fails, cn_X8_fails⟩
set_option maxRecDepth 100000 in
theorem im_X8_fails : Cond.instanceMethod yX8_fails ∈ ja_T := ja_in5 (i := 133) rfl rfl
theorem se_X8_fails : Cond.selects yX8_fails.cls yX8_fails yX8_fails ∈ ja_T := ja_inT (i := 28) (by decide +kernel) rfl
def mX8_paint (c9 s9 : Nat) : jM := (yX8_paint, cX8_paint, 8, (some .int), ({ frames := 4, cells := c9, slots := s9, locals := 91 } : Room), [])
set_option maxRecDepth 100000 in
theorem co_X8_paint : Cond.code yX8_paint cX8_paint 8 (some .int) ∈ ja_T := ja_in5 (i := 138) rfl rfl
set_option maxRecDepth 100000 in
theorem ci_X8_paint : Cond.initialized yX8_paint.cls ∈ ja_T := ja_in1 (i := 7) rfl rfl
theorem cn_X8_paint : yX8_paint.cls ≠ "java/lang/invoke/MethodHandle" ∧ yX8_paint.cls ≠ "java/lang/invoke/VarHandle" ∧ (parseMethodDescriptor yX8_paint.desc).map (fun d => d.parameters.length) = some 6 := by decide +kernel
theorem ce_X8_paint (c9 s9 : Nat) : ja_ce (mX8_paint c9 s9) 6 := ⟨rfl, co_X8_paint, ci_X8_paint, cn_X8_paint⟩
set_option maxRecDepth 100000 in
theorem im_X8_paint : Cond.instanceMethod yX8_paint ∈ ja_T := ja_in5 (i := 136) rfl rfl
set_option maxRecDepth 100000 in
theorem se_X8_paint : Cond.selects yX8_paint.cls yX8_paint yX8_paint ∈ ja_T := ja_in5 (i := 137) rfl rfl
def mX8_isLayer (c9 s9 : Nat) : jM := (yX8_isLayer, cX8_isLayer, 1, (some .boolean), ({ frames := 2, cells := c9, slots := s9, locals := 42 } : Room), [])
set_option maxRecDepth 100000 in
theorem co_X8_isLayer : Cond.code yX8_isLayer cX8_isLayer 1 (some .boolean) ∈ ja_T := ja_in5 (i := 141) rfl rfl
set_option maxRecDepth 100000 in
theorem ci_X8_isLayer : Cond.initialized yX8_isLayer.cls ∈ ja_T := ja_in1 (i := 7) rfl rfl
theorem cn_X8_isLayer : yX8_isLayer.cls ≠ "java/lang/invoke/MethodHandle" ∧ yX8_isLayer.cls ≠ "java/lang/invoke/VarHandle" ∧ (parseMethodDescriptor yX8_isLayer.desc).map (fun d => d.parameters.length) = some 1 := by decide +kernel
theorem ce_X8_isLayer (c9 s9 : Nat) : ja_ce (mX8_isLayer c9 s9) 1 := ⟨rfl, co_X8_isLayer, ci_X8_isLayer, cn_X8_isLayer⟩
set_option maxRecDepth 100000 in
theorem st_X8_isLayer : Cond.static yX8_isLayer ∈ ja_T := ja_in5 (i := 140) rfl rfl
def mX8_isArea (c9 s9 : Nat) : jM := (yX8_isArea, cX8_isArea, 1, (some .boolean), ({ frames := 2, cells := c9, slots := s9, locals := 42 } : Room), [])
set_option maxRecDepth 100000 in
theorem co_X8_isArea : Cond.code yX8_isArea cX8_isArea 1 (some .boolean) ∈ ja_T := ja_in5 (i := 144) rfl rfl
set_option maxRecDepth 100000 in
theorem ci_X8_isArea : Cond.initialized yX8_isArea.cls ∈ ja_T := ja_in1 (i := 7) rfl rfl
theorem cn_X8_isArea : yX8_isArea.cls ≠ "java/lang/invoke/MethodHandle" ∧ yX8_isArea.cls ≠ "java/lang/invoke/VarHandle" ∧ (parseMethodDescriptor yX8_isArea.desc).map (fun d => d.parameters.length) = some 1 := by decide +kernel
theorem ce_X8_isArea (c9 s9 : Nat) : ja_ce (mX8_isArea c9 s9) 1 := ⟨rfl, co_X8_isArea, ci_X8_isArea, cn_X8_isArea⟩
set_option maxRecDepth 100000 in
theorem st_X8_isArea : Cond.static yX8_isArea ∈ ja_T := ja_in5 (i := 143) rfl rfl
def mX8_isBox (c9 s9 : Nat) : jM := (yX8_isBox, cX8_isBox, 4, (some .boolean), ({ frames := 2, cells := c9, slots := s9, locals := 42 } : Room), [])
set_option maxRecDepth 100000 in
theorem co_X8_isBox : Cond.code yX8_isBox cX8_isBox 4 (some .boolean) ∈ ja_T := ja_in5 (i := 147) rfl rfl
set_option maxRecDepth 100000 in
theorem ci_X8_isBox : Cond.initialized yX8_isBox.cls ∈ ja_T := ja_in1 (i := 7) rfl rfl
theorem cn_X8_isBox : yX8_isBox.cls ≠ "java/lang/invoke/MethodHandle" ∧ yX8_isBox.cls ≠ "java/lang/invoke/VarHandle" ∧ (parseMethodDescriptor yX8_isBox.desc).map (fun d => d.parameters.length) = some 4 := by decide +kernel
theorem ce_X8_isBox (c9 s9 : Nat) : ja_ce (mX8_isBox c9 s9) 4 := ⟨rfl, co_X8_isBox, ci_X8_isBox, cn_X8_isBox⟩
set_option maxRecDepth 100000 in
theorem st_X8_isBox : Cond.static yX8_isBox ∈ ja_T := ja_in5 (i := 146) rfl rfl
def mX8_gives (c9 s9 : Nat) : jM := (yX8_gives, cX8_gives, 6, (some .int), ({ frames := 3, cells := c9, slots := s9, locals := 66 } : Room), [])
set_option maxRecDepth 100000 in
theorem co_X8_gives : Cond.code yX8_gives cX8_gives 6 (some .int) ∈ ja_T := ja_in5 (i := 151) rfl rfl
set_option maxRecDepth 100000 in
theorem ci_X8_gives : Cond.initialized yX8_gives.cls ∈ ja_T := ja_in1 (i := 7) rfl rfl
theorem cn_X8_gives : yX8_gives.cls ≠ "java/lang/invoke/MethodHandle" ∧ yX8_gives.cls ≠ "java/lang/invoke/VarHandle" ∧ (parseMethodDescriptor yX8_gives.desc).map (fun d => d.parameters.length) = some 2 := by decide +kernel
theorem ce_X8_gives (c9 s9 : Nat) : ja_ce (mX8_gives c9 s9) 2 := ⟨rfl, co_X8_gives, ci_X8_gives, cn_X8_gives⟩
set_option maxRecDepth 100000 in
theorem im_X8_gives : Cond.instanceMethod yX8_gives ∈ ja_T := ja_in5 (i := 150) rfl rfl
theorem se_X8_gives : Cond.selects yX8_gives.cls yX8_gives yX8_gives ∈ ja_T := ja_inT (i := 29) (by decide +kernel) rfl
def mX8_at (c9 s9 : Nat) : jM := (yX8_at, cX8_at, 3, (some .int), ({ frames := 1, cells := c9, slots := s9, locals := 20 } : Room), [])
set_option maxRecDepth 100000 in
theorem co_X8_at : Cond.code yX8_at cX8_at 3 (some .int) ∈ ja_T := ja_in5 (i := 155) rfl rfl
set_option maxRecDepth 100000 in
theorem ci_X8_at : Cond.initialized yX8_at.cls ∈ ja_T := ja_in1 (i := 7) rfl rfl
theorem cn_X8_at : yX8_at.cls ≠ "java/lang/invoke/MethodHandle" ∧ yX8_at.cls ≠ "java/lang/invoke/VarHandle" ∧ (parseMethodDescriptor yX8_at.desc).map (fun d => d.parameters.length) = some 2 := by decide +kernel
theorem ce_X8_at (c9 s9 : Nat) : ja_ce (mX8_at c9 s9) 2 := ⟨rfl, co_X8_at, ci_X8_at, cn_X8_at⟩
set_option maxRecDepth 100000 in
theorem im_X8_at : Cond.instanceMethod yX8_at ∈ ja_T := ja_in5 (i := 154) rfl rfl
theorem se_X8_at : Cond.selects yX8_at.cls yX8_at yX8_at ∈ ja_T := ja_inT (i := 30) (by decide +kernel) rfl
def mX8_sizeOf (c9 s9 : Nat) : jM := (yX8_sizeOf, cX8_sizeOf, 5, (some .int), ({ frames := 2, cells := c9, slots := s9, locals := 42 } : Room), [])
set_option maxRecDepth 100000 in
theorem co_X8_sizeOf : Cond.code yX8_sizeOf cX8_sizeOf 5 (some .int) ∈ ja_T := ja_in5 (i := 159) rfl rfl
set_option maxRecDepth 100000 in
theorem ci_X8_sizeOf : Cond.initialized yX8_sizeOf.cls ∈ ja_T := ja_in1 (i := 7) rfl rfl
theorem cn_X8_sizeOf : yX8_sizeOf.cls ≠ "java/lang/invoke/MethodHandle" ∧ yX8_sizeOf.cls ≠ "java/lang/invoke/VarHandle" ∧ (parseMethodDescriptor yX8_sizeOf.desc).map (fun d => d.parameters.length) = some 2 := by decide +kernel
theorem ce_X8_sizeOf (c9 s9 : Nat) : ja_ce (mX8_sizeOf c9 s9) 2 := ⟨rfl, co_X8_sizeOf, ci_X8_sizeOf, cn_X8_sizeOf⟩
set_option maxRecDepth 100000 in
theorem im_X8_sizeOf : Cond.instanceMethod yX8_sizeOf ∈ ja_T := ja_in5 (i := 158) rfl rfl
theorem se_X8_sizeOf : Cond.selects yX8_sizeOf.cls yX8_sizeOf yX8_sizeOf ∈ ja_T := ja_inT (i := 31) (by decide +kernel) rfl
def mX8_split (c9 s9 : Nat) : jM := (yX8_split, cX8_split, 7, (some .int), ({ frames := 4, cells := c9, slots := s9, locals := 91 } : Room), [])
set_option maxRecDepth 100000 in
theorem co_X8_split : Cond.code yX8_split cX8_split 7 (some .int) ∈ ja_T := ja_in5 (i := 163) rfl rfl
set_option maxRecDepth 100000 in
theorem ci_X8_split : Cond.initialized yX8_split.cls ∈ ja_T := ja_in1 (i := 7) rfl rfl
theorem cn_X8_split : yX8_split.cls ≠ "java/lang/invoke/MethodHandle" ∧ yX8_split.cls ≠ "java/lang/invoke/VarHandle" ∧ (parseMethodDescriptor yX8_split.desc).map (fun d => d.parameters.length) = some 5 := by decide +kernel
theorem ce_X8_split (c9 s9 : Nat) : ja_ce (mX8_split c9 s9) 5 := ⟨rfl, co_X8_split, ci_X8_split, cn_X8_split⟩
set_option maxRecDepth 100000 in
theorem im_X8_split : Cond.instanceMethod yX8_split ∈ ja_T := ja_in5 (i := 161) rfl rfl
set_option maxRecDepth 100000 in
theorem se_X8_split : Cond.selects yX8_split.cls yX8_split yX8_split ∈ ja_T := ja_in5 (i := 162) rfl rfl
def mX8_merge (c9 s9 : Nat) : jM := (yX8_merge, cX8_merge, 5, (some .int), ({ frames := 4, cells := c9, slots := s9, locals := 91 } : Room), [])
set_option maxRecDepth 100000 in
theorem co_X8_merge : Cond.code yX8_merge cX8_merge 5 (some .int) ∈ ja_T := ja_in5 (i := 167) rfl rfl
set_option maxRecDepth 100000 in
theorem ci_X8_merge : Cond.initialized yX8_merge.cls ∈ ja_T := ja_in1 (i := 7) rfl rfl
theorem cn_X8_merge : yX8_merge.cls ≠ "java/lang/invoke/MethodHandle" ∧ yX8_merge.cls ≠ "java/lang/invoke/VarHandle" ∧ (parseMethodDescriptor yX8_merge.desc).map (fun d => d.parameters.length) = some 3 := by decide +kernel
theorem ce_X8_merge (c9 s9 : Nat) : ja_ce (mX8_merge c9 s9) 3 := ⟨rfl, co_X8_merge, ci_X8_merge, cn_X8_merge⟩
set_option maxRecDepth 100000 in
theorem im_X8_merge : Cond.instanceMethod yX8_merge ∈ ja_T := ja_in5 (i := 165) rfl rfl
set_option maxRecDepth 100000 in
theorem se_X8_merge : Cond.selects yX8_merge.cls yX8_merge yX8_merge ∈ ja_T := ja_in5 (i := 166) rfl rfl
def mX8_setValue (c9 s9 : Nat) : jM := (yX8_setValue, cX8_setValue, 5, (some .int), ({ frames := 3, cells := c9, slots := s9, locals := 66 } : Room), [])
set_option maxRecDepth 100000 in
theorem co_X8_setValue : Cond.code yX8_setValue cX8_setValue 5 (some .int) ∈ ja_T := ja_in5 (i := 171) rfl rfl
set_option maxRecDepth 100000 in
theorem ci_X8_setValue : Cond.initialized yX8_setValue.cls ∈ ja_T := ja_in1 (i := 7) rfl rfl
theorem cn_X8_setValue : yX8_setValue.cls ≠ "java/lang/invoke/MethodHandle" ∧ yX8_setValue.cls ≠ "java/lang/invoke/VarHandle" ∧ (parseMethodDescriptor yX8_setValue.desc).map (fun d => d.parameters.length) = some 3 := by decide +kernel
theorem ce_X8_setValue (c9 s9 : Nat) : ja_ce (mX8_setValue c9 s9) 3 := ⟨rfl, co_X8_setValue, ci_X8_setValue, cn_X8_setValue⟩
set_option maxRecDepth 100000 in
theorem im_X8_setValue : Cond.instanceMethod yX8_setValue ∈ ja_T := ja_in5 (i := 169) rfl rfl
set_option maxRecDepth 100000 in
theorem se_X8_setValue : Cond.selects yX8_setValue.cls yX8_setValue yX8_setValue ∈ ja_T := ja_in5 (i := 170) rfl rfl
def mX8_setDivides (c9 s9 : Nat) : jM := (yX8_setDivides, cX8_setDivides, 4, (some .boolean), ({ frames := 3, cells := c9, slots := s9, locals := 62 } : Room), [])
set_option maxRecDepth 100000 in
theorem co_X8_setDivides : Cond.code yX8_setDivides cX8_setDivides 4 (some .boolean) ∈ ja_T := ja_in5 (i := 175) rfl rfl
set_option maxRecDepth 100000 in
theorem ci_X8_setDivides : Cond.initialized yX8_setDivides.cls ∈ ja_T := ja_in1 (i := 7) rfl rfl
theorem cn_X8_setDivides : yX8_setDivides.cls ≠ "java/lang/invoke/MethodHandle" ∧ yX8_setDivides.cls ≠ "java/lang/invoke/VarHandle" ∧ (parseMethodDescriptor yX8_setDivides.desc).map (fun d => d.parameters.length) = some 2 := by decide +kernel
theorem ce_X8_setDivides (c9 s9 : Nat) : ja_ce (mX8_setDivides c9 s9) 2 := ⟨rfl, co_X8_setDivides, ci_X8_setDivides, cn_X8_setDivides⟩
set_option maxRecDepth 100000 in
theorem im_X8_setDivides : Cond.instanceMethod yX8_setDivides ∈ ja_T := ja_in5 (i := 173) rfl rfl
set_option maxRecDepth 100000 in
theorem se_X8_setDivides : Cond.selects yX8_setDivides.cls yX8_setDivides yX8_setDivides ∈ ja_T := ja_in5 (i := 174) rfl rfl
def mX8_sign (c9 s9 : Nat) : jM := (yX8_sign, cX8_sign, 4, (some .int), ({ frames := 3, cells := c9, slots := s9, locals := 63 } : Room), [])
set_option maxRecDepth 100000 in
theorem co_X8_sign : Cond.code yX8_sign cX8_sign 4 (some .int) ∈ ja_T := ja_in5 (i := 179) rfl rfl
set_option maxRecDepth 100000 in
theorem ci_X8_sign : Cond.initialized yX8_sign.cls ∈ ja_T := ja_in1 (i := 7) rfl rfl
theorem cn_X8_sign : yX8_sign.cls ≠ "java/lang/invoke/MethodHandle" ∧ yX8_sign.cls ≠ "java/lang/invoke/VarHandle" ∧ (parseMethodDescriptor yX8_sign.desc).map (fun d => d.parameters.length) = some 1 := by decide +kernel
theorem ce_X8_sign (c9 s9 : Nat) : ja_ce (mX8_sign c9 s9) 1 := ⟨rfl, co_X8_sign, ci_X8_sign, cn_X8_sign⟩
set_option maxRecDepth 100000 in
theorem im_X8_sign : Cond.instanceMethod yX8_sign ∈ ja_T := ja_in5 (i := 177) rfl rfl
set_option maxRecDepth 100000 in
theorem se_X8_sign : Cond.selects yX8_sign.cls yX8_sign yX8_sign ∈ ja_T := ja_in5 (i := 178) rfl rfl
def mX8_isRule (c9 s9 : Nat) : jM := (yX8_isRule, cX8_isRule, 2, (some .boolean), ({ frames := 2, cells := c9, slots := s9, locals := 42 } : Room), [])
set_option maxRecDepth 100000 in
theorem co_X8_isRule : Cond.code yX8_isRule cX8_isRule 2 (some .boolean) ∈ ja_T := ja_in5 (i := 183) rfl rfl
set_option maxRecDepth 100000 in
theorem ci_X8_isRule : Cond.initialized yX8_isRule.cls ∈ ja_T := ja_in1 (i := 7) rfl rfl
theorem cn_X8_isRule : yX8_isRule.cls ≠ "java/lang/invoke/MethodHandle" ∧ yX8_isRule.cls ≠ "java/lang/invoke/VarHandle" ∧ (parseMethodDescriptor yX8_isRule.desc).map (fun d => d.parameters.length) = some 1 := by decide +kernel
theorem ce_X8_isRule (c9 s9 : Nat) : ja_ce (mX8_isRule c9 s9) 1 := ⟨rfl, co_X8_isRule, ci_X8_isRule, cn_X8_isRule⟩
set_option maxRecDepth 100000 in
theorem im_X8_isRule : Cond.instanceMethod yX8_isRule ∈ ja_T := ja_in5 (i := 182) rfl rfl
theorem se_X8_isRule : Cond.selects yX8_isRule.cls yX8_isRule yX8_isRule ∈ ja_T := ja_inT (i := 32) (by decide +kernel) rfl
def mX8_keep (c9 s9 : Nat) : jM := (yX8_keep, cX8_keep, 2, (some .int), ({ frames := 4, cells := c9, slots := s9, locals := 92 } : Room), [])
set_option maxRecDepth 100000 in
theorem co_X8_keep : Cond.code yX8_keep cX8_keep 2 (some .int) ∈ ja_T := ja_in5 (i := 187) rfl rfl
set_option maxRecDepth 100000 in
theorem ci_X8_keep : Cond.initialized yX8_keep.cls ∈ ja_T := ja_in1 (i := 7) rfl rfl
theorem cn_X8_keep : yX8_keep.cls ≠ "java/lang/invoke/MethodHandle" ∧ yX8_keep.cls ≠ "java/lang/invoke/VarHandle" ∧ (parseMethodDescriptor yX8_keep.desc).map (fun d => d.parameters.length) = some 0 := by decide +kernel
theorem ce_X8_keep (c9 s9 : Nat) : ja_ce (mX8_keep c9 s9) 0 := ⟨rfl, co_X8_keep, ci_X8_keep, cn_X8_keep⟩
set_option maxRecDepth 100000 in
theorem im_X8_keep : Cond.instanceMethod yX8_keep ∈ ja_T := ja_in5 (i := 185) rfl rfl
set_option maxRecDepth 100000 in
theorem se_X8_keep : Cond.selects yX8_keep.cls yX8_keep yX8_keep ∈ ja_T := ja_in5 (i := 186) rfl rfl
def mX8_brokenAt (c9 s9 : Nat) : jM := (yX8_brokenAt, cX8_brokenAt, 8, (some .int), ({ frames := 3, cells := c9, slots := s9, locals := 65 } : Room), [])
set_option maxRecDepth 100000 in
theorem co_X8_brokenAt : Cond.code yX8_brokenAt cX8_brokenAt 8 (some .int) ∈ ja_T := ja_in5 (i := 191) rfl rfl
set_option maxRecDepth 100000 in
theorem ci_X8_brokenAt : Cond.initialized yX8_brokenAt.cls ∈ ja_T := ja_in1 (i := 7) rfl rfl
theorem cn_X8_brokenAt : yX8_brokenAt.cls ≠ "java/lang/invoke/MethodHandle" ∧ yX8_brokenAt.cls ≠ "java/lang/invoke/VarHandle" ∧ (parseMethodDescriptor yX8_brokenAt.desc).map (fun d => d.parameters.length) = some 1 := by decide +kernel
theorem ce_X8_brokenAt (c9 s9 : Nat) : ja_ce (mX8_brokenAt c9 s9) 1 := ⟨rfl, co_X8_brokenAt, ci_X8_brokenAt, cn_X8_brokenAt⟩
set_option maxRecDepth 100000 in
theorem im_X8_brokenAt : Cond.instanceMethod yX8_brokenAt ∈ ja_T := ja_in5 (i := 190) rfl rfl
theorem se_X8_brokenAt : Cond.selects yX8_brokenAt.cls yX8_brokenAt yX8_brokenAt ∈ ja_T := ja_inT (i := 33) (by decide +kernel) rfl
def mX8_beside (c9 s9 : Nat) : jM := (yX8_beside, cX8_beside, 4, (some .int), ({ frames := 2, cells := c9, slots := s9, locals := 42 } : Room), [])
set_option maxRecDepth 100000 in
theorem co_X8_beside : Cond.code yX8_beside cX8_beside 4 (some .int) ∈ ja_T := ja_in5 (i := 194) rfl rfl
set_option maxRecDepth 100000 in
theorem ci_X8_beside : Cond.initialized yX8_beside.cls ∈ ja_T := ja_in1 (i := 7) rfl rfl
theorem cn_X8_beside : yX8_beside.cls ≠ "java/lang/invoke/MethodHandle" ∧ yX8_beside.cls ≠ "java/lang/invoke/VarHandle" ∧ (parseMethodDescriptor yX8_beside.desc).map (fun d => d.parameters.length) = some 2 := by decide +kernel
theorem ce_X8_beside (c9 s9 : Nat) : ja_ce (mX8_beside c9 s9) 2 := ⟨rfl, co_X8_beside, ci_X8_beside, cn_X8_beside⟩
set_option maxRecDepth 100000 in
theorem st_X8_beside : Cond.static yX8_beside ∈ ja_T := ja_in5 (i := 193) rfl rfl
def mX8_drop (c9 s9 : Nat) : jM := (yX8_drop, cX8_drop, 3, (some .int), ({ frames := 2, cells := c9, slots := s9, locals := 41 } : Room), [])
set_option maxRecDepth 100000 in
theorem co_X8_drop : Cond.code yX8_drop cX8_drop 3 (some .int) ∈ ja_T := ja_in5 (i := 198) rfl rfl
set_option maxRecDepth 100000 in
theorem ci_X8_drop : Cond.initialized yX8_drop.cls ∈ ja_T := ja_in1 (i := 7) rfl rfl
theorem cn_X8_drop : yX8_drop.cls ≠ "java/lang/invoke/MethodHandle" ∧ yX8_drop.cls ≠ "java/lang/invoke/VarHandle" ∧ (parseMethodDescriptor yX8_drop.desc).map (fun d => d.parameters.length) = some 0 := by decide +kernel
theorem ce_X8_drop (c9 s9 : Nat) : ja_ce (mX8_drop c9 s9) 0 := ⟨rfl, co_X8_drop, ci_X8_drop, cn_X8_drop⟩
set_option maxRecDepth 100000 in
theorem im_X8_drop : Cond.instanceMethod yX8_drop ∈ ja_T := ja_in5 (i := 196) rfl rfl
set_option maxRecDepth 100000 in
theorem se_X8_drop : Cond.selects yX8_drop.cls yX8_drop yX8_drop ∈ ja_T := ja_in5 (i := 197) rfl rfl
def mX8_addRule (c9 s9 : Nat) : jM := (yX8_addRule, cX8_addRule, 4, (some .int), ({ frames := 3, cells := c9, slots := s9, locals := 62 } : Room), [])
set_option maxRecDepth 100000 in
theorem co_X8_addRule : Cond.code yX8_addRule cX8_addRule 4 (some .int) ∈ ja_T := ja_in5 (i := 202) rfl rfl
set_option maxRecDepth 100000 in
theorem ci_X8_addRule : Cond.initialized yX8_addRule.cls ∈ ja_T := ja_in1 (i := 7) rfl rfl
theorem cn_X8_addRule : yX8_addRule.cls ≠ "java/lang/invoke/MethodHandle" ∧ yX8_addRule.cls ≠ "java/lang/invoke/VarHandle" ∧ (parseMethodDescriptor yX8_addRule.desc).map (fun d => d.parameters.length) = some 3 := by decide +kernel
theorem ce_X8_addRule (c9 s9 : Nat) : ja_ce (mX8_addRule c9 s9) 3 := ⟨rfl, co_X8_addRule, ci_X8_addRule, cn_X8_addRule⟩
set_option maxRecDepth 100000 in
theorem im_X8_addRule : Cond.instanceMethod yX8_addRule ∈ ja_T := ja_in5 (i := 200) rfl rfl
set_option maxRecDepth 100000 in
theorem se_X8_addRule : Cond.selects yX8_addRule.cls yX8_addRule yX8_addRule ∈ ja_T := ja_in5 (i := 201) rfl rfl
def mX8_broken (c9 s9 : Nat) : jM := (yX8_broken, cX8_broken, 2, (some .int), ({ frames := 4, cells := c9, slots := s9, locals := 92 } : Room), [])
set_option maxRecDepth 100000 in
theorem co_X8_broken : Cond.code yX8_broken cX8_broken 2 (some .int) ∈ ja_T := ja_in5 (i := 206) rfl rfl
set_option maxRecDepth 100000 in
theorem ci_X8_broken : Cond.initialized yX8_broken.cls ∈ ja_T := ja_in1 (i := 7) rfl rfl
theorem cn_X8_broken : yX8_broken.cls ≠ "java/lang/invoke/MethodHandle" ∧ yX8_broken.cls ≠ "java/lang/invoke/VarHandle" ∧ (parseMethodDescriptor yX8_broken.desc).map (fun d => d.parameters.length) = some 1 := by decide +kernel
theorem ce_X8_broken (c9 s9 : Nat) : ja_ce (mX8_broken c9 s9) 1 := ⟨rfl, co_X8_broken, ci_X8_broken, cn_X8_broken⟩
set_option maxRecDepth 100000 in
theorem im_X8_broken : Cond.instanceMethod yX8_broken ∈ ja_T := ja_in5 (i := 204) rfl rfl
set_option maxRecDepth 100000 in
theorem se_X8_broken : Cond.selects yX8_broken.cls yX8_broken yX8_broken ∈ ja_T := ja_in5 (i := 205) rfl rfl
def mX8_leastBroken (c9 s9 : Nat) : jM := (yX8_leastBroken, cX8_leastBroken, 4, (some .int), ({ frames := 4, cells := c9, slots := s9, locals := 92 } : Room), [])
set_option maxRecDepth 100000 in
theorem co_X8_leastBroken : Cond.code yX8_leastBroken cX8_leastBroken 4 (some .int) ∈ ja_T := ja_in5 (i := 210) rfl rfl
set_option maxRecDepth 100000 in
theorem ci_X8_leastBroken : Cond.initialized yX8_leastBroken.cls ∈ ja_T := ja_in1 (i := 7) rfl rfl
theorem cn_X8_leastBroken : yX8_leastBroken.cls ≠ "java/lang/invoke/MethodHandle" ∧ yX8_leastBroken.cls ≠ "java/lang/invoke/VarHandle" ∧ (parseMethodDescriptor yX8_leastBroken.desc).map (fun d => d.parameters.length) = some 0 := by decide +kernel
theorem ce_X8_leastBroken (c9 s9 : Nat) : ja_ce (mX8_leastBroken c9 s9) 0 := ⟨rfl, co_X8_leastBroken, ci_X8_leastBroken, cn_X8_leastBroken⟩
set_option maxRecDepth 100000 in
theorem im_X8_leastBroken : Cond.instanceMethod yX8_leastBroken ∈ ja_T := ja_in5 (i := 208) rfl rfl
set_option maxRecDepth 100000 in
theorem se_X8_leastBroken : Cond.selects yX8_leastBroken.cls yX8_leastBroken yX8_leastBroken ∈ ja_T := ja_in5 (i := 209) rfl rfl
def mX8_areaAt (c9 s9 : Nat) : jM := (yX8_areaAt, cX8_areaAt, 3, (some .int), ({ frames := 3, cells := c9, slots := s9, locals := 62 } : Room), [])
set_option maxRecDepth 100000 in
theorem co_X8_areaAt : Cond.code yX8_areaAt cX8_areaAt 3 (some .int) ∈ ja_T := ja_in5 (i := 214) rfl rfl
set_option maxRecDepth 100000 in
theorem ci_X8_areaAt : Cond.initialized yX8_areaAt.cls ∈ ja_T := ja_in1 (i := 7) rfl rfl
theorem cn_X8_areaAt : yX8_areaAt.cls ≠ "java/lang/invoke/MethodHandle" ∧ yX8_areaAt.cls ≠ "java/lang/invoke/VarHandle" ∧ (parseMethodDescriptor yX8_areaAt.desc).map (fun d => d.parameters.length) = some 2 := by decide +kernel
theorem ce_X8_areaAt (c9 s9 : Nat) : ja_ce (mX8_areaAt c9 s9) 2 := ⟨rfl, co_X8_areaAt, ci_X8_areaAt, cn_X8_areaAt⟩
set_option maxRecDepth 100000 in
theorem im_X8_areaAt : Cond.instanceMethod yX8_areaAt ∈ ja_T := ja_in5 (i := 212) rfl rfl
set_option maxRecDepth 100000 in
theorem se_X8_areaAt : Cond.selects yX8_areaAt.cls yX8_areaAt yX8_areaAt ∈ ja_T := ja_in5 (i := 213) rfl rfl
def mX8_areaThen (c9 s9 : Nat) : jM := (yX8_areaThen, cX8_areaThen, 4, (some .int), ({ frames := 3, cells := c9, slots := s9, locals := 62 } : Room), [])
set_option maxRecDepth 100000 in
theorem co_X8_areaThen : Cond.code yX8_areaThen cX8_areaThen 4 (some .int) ∈ ja_T := ja_in5 (i := 218) rfl rfl
set_option maxRecDepth 100000 in
theorem ci_X8_areaThen : Cond.initialized yX8_areaThen.cls ∈ ja_T := ja_in1 (i := 7) rfl rfl
theorem cn_X8_areaThen : yX8_areaThen.cls ≠ "java/lang/invoke/MethodHandle" ∧ yX8_areaThen.cls ≠ "java/lang/invoke/VarHandle" ∧ (parseMethodDescriptor yX8_areaThen.desc).map (fun d => d.parameters.length) = some 3 := by decide +kernel
theorem ce_X8_areaThen (c9 s9 : Nat) : ja_ce (mX8_areaThen c9 s9) 3 := ⟨rfl, co_X8_areaThen, ci_X8_areaThen, cn_X8_areaThen⟩
set_option maxRecDepth 100000 in
theorem im_X8_areaThen : Cond.instanceMethod yX8_areaThen ∈ ja_T := ja_in5 (i := 216) rfl rfl
set_option maxRecDepth 100000 in
theorem se_X8_areaThen : Cond.selects yX8_areaThen.cls yX8_areaThen yX8_areaThen ∈ ja_T := ja_in5 (i := 217) rfl rfl
def mX8_authorOf (c9 s9 : Nat) : jM := (yX8_authorOf, cX8_authorOf, 6, (some .int), ({ frames := 4, cells := c9, slots := s9, locals := 85 } : Room), [])
set_option maxRecDepth 100000 in
theorem co_X8_authorOf : Cond.code yX8_authorOf cX8_authorOf 6 (some .int) ∈ ja_T := ja_in5 (i := 222) rfl rfl
set_option maxRecDepth 100000 in
theorem ci_X8_authorOf : Cond.initialized yX8_authorOf.cls ∈ ja_T := ja_in1 (i := 7) rfl rfl
theorem cn_X8_authorOf : yX8_authorOf.cls ≠ "java/lang/invoke/MethodHandle" ∧ yX8_authorOf.cls ≠ "java/lang/invoke/VarHandle" ∧ (parseMethodDescriptor yX8_authorOf.desc).map (fun d => d.parameters.length) = some 3 := by decide +kernel
theorem ce_X8_authorOf (c9 s9 : Nat) : ja_ce (mX8_authorOf c9 s9) 3 := ⟨rfl, co_X8_authorOf, ci_X8_authorOf, cn_X8_authorOf⟩
set_option maxRecDepth 100000 in
theorem im_X8_authorOf : Cond.instanceMethod yX8_authorOf ∈ ja_T := ja_in5 (i := 220) rfl rfl
set_option maxRecDepth 100000 in
theorem se_X8_authorOf : Cond.selects yX8_authorOf.cls yX8_authorOf yX8_authorOf ∈ ja_T := ja_in5 (i := 221) rfl rfl
def mX8_size (c9 s9 : Nat) : jM := (yX8_size, cX8_size, 3, (some .int), ({ frames := 4, cells := c9, slots := s9, locals := 84 } : Room), [])
set_option maxRecDepth 100000 in
theorem co_X8_size : Cond.code yX8_size cX8_size 3 (some .int) ∈ ja_T := ja_in5 (i := 227) rfl rfl
set_option maxRecDepth 100000 in
theorem ci_X8_size : Cond.initialized yX8_size.cls ∈ ja_T := ja_in1 (i := 7) rfl rfl
theorem cn_X8_size : yX8_size.cls ≠ "java/lang/invoke/MethodHandle" ∧ yX8_size.cls ≠ "java/lang/invoke/VarHandle" ∧ (parseMethodDescriptor yX8_size.desc).map (fun d => d.parameters.length) = some 2 := by decide +kernel
theorem ce_X8_size (c9 s9 : Nat) : ja_ce (mX8_size c9 s9) 2 := ⟨rfl, co_X8_size, ci_X8_size, cn_X8_size⟩
set_option maxRecDepth 100000 in
theorem im_X8_size : Cond.instanceMethod yX8_size ∈ ja_T := ja_in5 (i := 225) rfl rfl
set_option maxRecDepth 100000 in
theorem se_X8_size : Cond.selects yX8_size.cls yX8_size yX8_size ∈ ja_T := ja_in5 (i := 226) rfl rfl
def mX8_looks (c9 s9 : Nat) : jM := (yX8_looks, cX8_looks, 3, (some .boolean), ({ frames := 3, cells := c9, slots := s9, locals := 62 } : Room), [])
set_option maxRecDepth 100000 in
theorem co_X8_looks : Cond.code yX8_looks cX8_looks 3 (some .boolean) ∈ ja_T := ja_in5 (i := 231) rfl rfl
set_option maxRecDepth 100000 in
theorem ci_X8_looks : Cond.initialized yX8_looks.cls ∈ ja_T := ja_in1 (i := 7) rfl rfl
theorem cn_X8_looks : yX8_looks.cls ≠ "java/lang/invoke/MethodHandle" ∧ yX8_looks.cls ≠ "java/lang/invoke/VarHandle" ∧ (parseMethodDescriptor yX8_looks.desc).map (fun d => d.parameters.length) = some 2 := by decide +kernel
theorem ce_X8_looks (c9 s9 : Nat) : ja_ce (mX8_looks c9 s9) 2 := ⟨rfl, co_X8_looks, ci_X8_looks, cn_X8_looks⟩
set_option maxRecDepth 100000 in
theorem im_X8_looks : Cond.instanceMethod yX8_looks ∈ ja_T := ja_in5 (i := 230) rfl rfl
theorem se_X8_looks : Cond.selects yX8_looks.cls yX8_looks yX8_looks ∈ ja_T := ja_inT (i := 34) (by decide +kernel) rfl
def mX8_value (c9 s9 : Nat) : jM := (yX8_value, cX8_value, 3, (some .int), ({ frames := 4, cells := c9, slots := s9, locals := 84 } : Room), [])
set_option maxRecDepth 100000 in
theorem co_X8_value : Cond.code yX8_value cX8_value 3 (some .int) ∈ ja_T := ja_in5 (i := 235) rfl rfl
set_option maxRecDepth 100000 in
theorem ci_X8_value : Cond.initialized yX8_value.cls ∈ ja_T := ja_in1 (i := 7) rfl rfl
theorem cn_X8_value : yX8_value.cls ≠ "java/lang/invoke/MethodHandle" ∧ yX8_value.cls ≠ "java/lang/invoke/VarHandle" ∧ (parseMethodDescriptor yX8_value.desc).map (fun d => d.parameters.length) = some 2 := by decide +kernel
theorem ce_X8_value (c9 s9 : Nat) : ja_ce (mX8_value c9 s9) 2 := ⟨rfl, co_X8_value, ci_X8_value, cn_X8_value⟩
set_option maxRecDepth 100000 in
theorem im_X8_value : Cond.instanceMethod yX8_value ∈ ja_T := ja_in5 (i := 233) rfl rfl
set_option maxRecDepth 100000 in
theorem se_X8_value : Cond.selects yX8_value.cls yX8_value yX8_value ∈ ja_T := ja_in5 (i := 234) rfl rfl
def mX8_rim (c9 s9 : Nat) : jM := (yX8_rim, cX8_rim, 7, (some .int), ({ frames := 4, cells := c9, slots := s9, locals := 84 } : Room), [])
set_option maxRecDepth 100000 in
theorem co_X8_rim : Cond.code yX8_rim cX8_rim 7 (some .int) ∈ ja_T := ja_in5 (i := 239) rfl rfl
set_option maxRecDepth 100000 in
theorem ci_X8_rim : Cond.initialized yX8_rim.cls ∈ ja_T := ja_in1 (i := 7) rfl rfl
theorem cn_X8_rim : yX8_rim.cls ≠ "java/lang/invoke/MethodHandle" ∧ yX8_rim.cls ≠ "java/lang/invoke/VarHandle" ∧ (parseMethodDescriptor yX8_rim.desc).map (fun d => d.parameters.length) = some 2 := by decide +kernel
theorem ce_X8_rim (c9 s9 : Nat) : ja_ce (mX8_rim c9 s9) 2 := ⟨rfl, co_X8_rim, ci_X8_rim, cn_X8_rim⟩
set_option maxRecDepth 100000 in
theorem im_X8_rim : Cond.instanceMethod yX8_rim ∈ ja_T := ja_in5 (i := 237) rfl rfl
set_option maxRecDepth 100000 in
theorem se_X8_rim : Cond.selects yX8_rim.cls yX8_rim yX8_rim ∈ ja_T := ja_in5 (i := 238) rfl rfl
def mX8_border (c9 s9 : Nat) : jM := (yX8_border, cX8_border, 8, (some .int), ({ frames := 4, cells := c9, slots := s9, locals := 84 } : Room), [])
set_option maxRecDepth 100000 in
theorem co_X8_border : Cond.code yX8_border cX8_border 8 (some .int) ∈ ja_T := ja_in6 (i := 3) rfl rfl
set_option maxRecDepth 100000 in
theorem ci_X8_border : Cond.initialized yX8_border.cls ∈ ja_T := ja_in1 (i := 7) rfl rfl
theorem cn_X8_border : yX8_border.cls ≠ "java/lang/invoke/MethodHandle" ∧ yX8_border.cls ≠ "java/lang/invoke/VarHandle" ∧ (parseMethodDescriptor yX8_border.desc).map (fun d => d.parameters.length) = some 3 := by decide +kernel
theorem ce_X8_border (c9 s9 : Nat) : ja_ce (mX8_border c9 s9) 3 := ⟨rfl, co_X8_border, ci_X8_border, cn_X8_border⟩
set_option maxRecDepth 100000 in
theorem im_X8_border : Cond.instanceMethod yX8_border ∈ ja_T := ja_in6 (i := 1) rfl rfl
set_option maxRecDepth 100000 in
theorem se_X8_border : Cond.selects yX8_border.cls yX8_border yX8_border ∈ ja_T := ja_in6 (i := 2) rfl rfl
def mX8_distance (c9 s9 : Nat) : jM := (yX8_distance, cX8_distance, 5, (some .int), ({ frames := 4, cells := c9, slots := s9, locals := 88 } : Room), [])
set_option maxRecDepth 100000 in
theorem co_X8_distance : Cond.code yX8_distance cX8_distance 5 (some .int) ∈ ja_T := ja_in6 (i := 7) rfl rfl
set_option maxRecDepth 100000 in
theorem ci_X8_distance : Cond.initialized yX8_distance.cls ∈ ja_T := ja_in1 (i := 7) rfl rfl
theorem cn_X8_distance : yX8_distance.cls ≠ "java/lang/invoke/MethodHandle" ∧ yX8_distance.cls ≠ "java/lang/invoke/VarHandle" ∧ (parseMethodDescriptor yX8_distance.desc).map (fun d => d.parameters.length) = some 3 := by decide +kernel
theorem ce_X8_distance (c9 s9 : Nat) : ja_ce (mX8_distance c9 s9) 3 := ⟨rfl, co_X8_distance, ci_X8_distance, cn_X8_distance⟩
set_option maxRecDepth 100000 in
theorem im_X8_distance : Cond.instanceMethod yX8_distance ∈ ja_T := ja_in6 (i := 5) rfl rfl
set_option maxRecDepth 100000 in
theorem se_X8_distance : Cond.selects yX8_distance.cls yX8_distance yX8_distance ∈ ja_T := ja_in6 (i := 6) rfl rfl
def mX8_between (c9 s9 : Nat) : jM := (yX8_between, cX8_between, 8, (some .int), ({ frames := 3, cells := c9, slots := s9, locals := 61 } : Room), [])
set_option maxRecDepth 100000 in
theorem co_X8_between : Cond.code yX8_between cX8_between 8 (some .int) ∈ ja_T := ja_in6 (i := 11) rfl rfl
set_option maxRecDepth 100000 in
theorem ci_X8_between : Cond.initialized yX8_between.cls ∈ ja_T := ja_in1 (i := 7) rfl rfl
theorem cn_X8_between : yX8_between.cls ≠ "java/lang/invoke/MethodHandle" ∧ yX8_between.cls ≠ "java/lang/invoke/VarHandle" ∧ (parseMethodDescriptor yX8_between.desc).map (fun d => d.parameters.length) = some 3 := by decide +kernel
theorem ce_X8_between (c9 s9 : Nat) : ja_ce (mX8_between c9 s9) 3 := ⟨rfl, co_X8_between, ci_X8_between, cn_X8_between⟩
set_option maxRecDepth 100000 in
theorem im_X8_between : Cond.instanceMethod yX8_between ∈ ja_T := ja_in6 (i := 10) rfl rfl
theorem se_X8_between : Cond.selects yX8_between.cls yX8_between yX8_between ∈ ja_T := ja_inT (i := 35) (by decide +kernel) rfl
def mX8_steps (c9 s9 : Nat) : jM := (yX8_steps, cX8_steps, 2, (some .int), ({ frames := 2, cells := c9, slots := s9, locals := 40 } : Room), [])
set_option maxRecDepth 100000 in
theorem co_X8_steps : Cond.code yX8_steps cX8_steps 2 (some .int) ∈ ja_T := ja_in6 (i := 14) rfl rfl
set_option maxRecDepth 100000 in
theorem ci_X8_steps : Cond.initialized yX8_steps.cls ∈ ja_T := ja_in1 (i := 7) rfl rfl
theorem cn_X8_steps : yX8_steps.cls ≠ "java/lang/invoke/MethodHandle" ∧ yX8_steps.cls ≠ "java/lang/invoke/VarHandle" ∧ (parseMethodDescriptor yX8_steps.desc).map (fun d => d.parameters.length) = some 2 := by decide +kernel
theorem ce_X8_steps (c9 s9 : Nat) : ja_ce (mX8_steps c9 s9) 2 := ⟨rfl, co_X8_steps, ci_X8_steps, cn_X8_steps⟩
set_option maxRecDepth 100000 in
theorem st_X8_steps : Cond.static yX8_steps ∈ ja_T := ja_in6 (i := 13) rfl rfl
def mX8_nearest (c9 s9 : Nat) : jM := (yX8_nearest, cX8_nearest, 7, (some .int), ({ frames := 4, cells := c9, slots := s9, locals := 88 } : Room), [])
set_option maxRecDepth 100000 in
theorem co_X8_nearest : Cond.code yX8_nearest cX8_nearest 7 (some .int) ∈ ja_T := ja_in6 (i := 19) rfl rfl
set_option maxRecDepth 100000 in
theorem ci_X8_nearest : Cond.initialized yX8_nearest.cls ∈ ja_T := ja_in1 (i := 7) rfl rfl
theorem cn_X8_nearest : yX8_nearest.cls ≠ "java/lang/invoke/MethodHandle" ∧ yX8_nearest.cls ≠ "java/lang/invoke/VarHandle" ∧ (parseMethodDescriptor yX8_nearest.desc).map (fun d => d.parameters.length) = some 2 := by decide +kernel
theorem ce_X8_nearest (c9 s9 : Nat) : ja_ce (mX8_nearest c9 s9) 2 := ⟨rfl, co_X8_nearest, ci_X8_nearest, cn_X8_nearest⟩
set_option maxRecDepth 100000 in
theorem im_X8_nearest : Cond.instanceMethod yX8_nearest ∈ ja_T := ja_in6 (i := 17) rfl rfl
set_option maxRecDepth 100000 in
theorem se_X8_nearest : Cond.selects yX8_nearest.cls yX8_nearest yX8_nearest ∈ ja_T := ja_in6 (i := 18) rfl rfl
def mX8_belt (c9 s9 : Nat) : jM := (yX8_belt, cX8_belt, 8, (some .int), ({ frames := 4, cells := c9, slots := s9, locals := 84 } : Room), [])
set_option maxRecDepth 100000 in
theorem co_X8_belt : Cond.code yX8_belt cX8_belt 8 (some .int) ∈ ja_T := ja_in6 (i := 23) rfl rfl
set_option maxRecDepth 100000 in
theorem ci_X8_belt : Cond.initialized yX8_belt.cls ∈ ja_T := ja_in1 (i := 7) rfl rfl
theorem cn_X8_belt : yX8_belt.cls ≠ "java/lang/invoke/MethodHandle" ∧ yX8_belt.cls ≠ "java/lang/invoke/VarHandle" ∧ (parseMethodDescriptor yX8_belt.desc).map (fun d => d.parameters.length) = some 3 := by decide +kernel
theorem ce_X8_belt (c9 s9 : Nat) : ja_ce (mX8_belt c9 s9) 3 := ⟨rfl, co_X8_belt, ci_X8_belt, cn_X8_belt⟩
set_option maxRecDepth 100000 in
theorem im_X8_belt : Cond.instanceMethod yX8_belt ∈ ja_T := ja_in6 (i := 21) rfl rfl
set_option maxRecDepth 100000 in
theorem se_X8_belt : Cond.selects yX8_belt.cls yX8_belt yX8_belt ∈ ja_T := ja_in6 (i := 22) rfl rfl
def mX8_checkOut (c9 s9 : Nat) : jM := (yX8_checkOut, cX8_checkOut, 8, (some .int), ({ frames := 3, cells := c9, slots := s9, locals := 65 } : Room), [])
set_option maxRecDepth 100000 in
theorem co_X8_checkOut : Cond.code yX8_checkOut cX8_checkOut 8 (some .int) ∈ ja_T := ja_in6 (i := 27) rfl rfl
set_option maxRecDepth 100000 in
theorem ci_X8_checkOut : Cond.initialized yX8_checkOut.cls ∈ ja_T := ja_in1 (i := 7) rfl rfl
theorem cn_X8_checkOut : yX8_checkOut.cls ≠ "java/lang/invoke/MethodHandle" ∧ yX8_checkOut.cls ≠ "java/lang/invoke/VarHandle" ∧ (parseMethodDescriptor yX8_checkOut.desc).map (fun d => d.parameters.length) = some 5 := by decide +kernel
theorem ce_X8_checkOut (c9 s9 : Nat) : ja_ce (mX8_checkOut c9 s9) 5 := ⟨rfl, co_X8_checkOut, ci_X8_checkOut, cn_X8_checkOut⟩
set_option maxRecDepth 100000 in
theorem im_X8_checkOut : Cond.instanceMethod yX8_checkOut ∈ ja_T := ja_in6 (i := 25) rfl rfl
set_option maxRecDepth 100000 in
theorem se_X8_checkOut : Cond.selects yX8_checkOut.cls yX8_checkOut yX8_checkOut ∈ ja_T := ja_in6 (i := 26) rfl rfl
def mX8_change (c9 s9 : Nat) : jM := (yX8_change, cX8_change, 5, (some .int), ({ frames := 3, cells := c9, slots := s9, locals := 63 } : Room), [])
set_option maxRecDepth 100000 in
theorem co_X8_change : Cond.code yX8_change cX8_change 5 (some .int) ∈ ja_T := ja_in6 (i := 31) rfl rfl
set_option maxRecDepth 100000 in
theorem ci_X8_change : Cond.initialized yX8_change.cls ∈ ja_T := ja_in1 (i := 7) rfl rfl
theorem cn_X8_change : yX8_change.cls ≠ "java/lang/invoke/MethodHandle" ∧ yX8_change.cls ≠ "java/lang/invoke/VarHandle" ∧ (parseMethodDescriptor yX8_change.desc).map (fun d => d.parameters.length) = some 3 := by decide +kernel
theorem ce_X8_change (c9 s9 : Nat) : ja_ce (mX8_change c9 s9) 3 := ⟨rfl, co_X8_change, ci_X8_change, cn_X8_change⟩
set_option maxRecDepth 100000 in
theorem im_X8_change : Cond.instanceMethod yX8_change ∈ ja_T := ja_in6 (i := 29) rfl rfl
set_option maxRecDepth 100000 in
theorem se_X8_change : Cond.selects yX8_change.cls yX8_change yX8_change ∈ ja_T := ja_in6 (i := 30) rfl rfl
def mX8_isVersion (c9 s9 : Nat) : jM := (yX8_isVersion, cX8_isVersion, 2, (some .boolean), ({ frames := 2, cells := c9, slots := s9, locals := 42 } : Room), [])
set_option maxRecDepth 100000 in
theorem co_X8_isVersion : Cond.code yX8_isVersion cX8_isVersion 2 (some .boolean) ∈ ja_T := ja_in6 (i := 35) rfl rfl
set_option maxRecDepth 100000 in
theorem ci_X8_isVersion : Cond.initialized yX8_isVersion.cls ∈ ja_T := ja_in1 (i := 7) rfl rfl
theorem cn_X8_isVersion : yX8_isVersion.cls ≠ "java/lang/invoke/MethodHandle" ∧ yX8_isVersion.cls ≠ "java/lang/invoke/VarHandle" ∧ (parseMethodDescriptor yX8_isVersion.desc).map (fun d => d.parameters.length) = some 1 := by decide +kernel
theorem ce_X8_isVersion (c9 s9 : Nat) : ja_ce (mX8_isVersion c9 s9) 1 := ⟨rfl, co_X8_isVersion, ci_X8_isVersion, cn_X8_isVersion⟩
set_option maxRecDepth 100000 in
theorem im_X8_isVersion : Cond.instanceMethod yX8_isVersion ∈ ja_T := ja_in6 (i := 34) rfl rfl
theorem se_X8_isVersion : Cond.selects yX8_isVersion.cls yX8_isVersion yX8_isVersion ∈ ja_T := ja_inT (i := 36) (by decide +kernel) rfl
def mX8_conflicts (c9 s9 : Nat) : jM := (yX8_conflicts, cX8_conflicts, 4, (some .int), ({ frames := 3, cells := c9, slots := s9, locals := 66 } : Room), [])
set_option maxRecDepth 100000 in
theorem co_X8_conflicts : Cond.code yX8_conflicts cX8_conflicts 4 (some .int) ∈ ja_T := ja_in6 (i := 39) rfl rfl
set_option maxRecDepth 100000 in
theorem ci_X8_conflicts : Cond.initialized yX8_conflicts.cls ∈ ja_T := ja_in1 (i := 7) rfl rfl
theorem cn_X8_conflicts : yX8_conflicts.cls ≠ "java/lang/invoke/MethodHandle" ∧ yX8_conflicts.cls ≠ "java/lang/invoke/VarHandle" ∧ (parseMethodDescriptor yX8_conflicts.desc).map (fun d => d.parameters.length) = some 1 := by decide +kernel
theorem ce_X8_conflicts (c9 s9 : Nat) : ja_ce (mX8_conflicts c9 s9) 1 := ⟨rfl, co_X8_conflicts, ci_X8_conflicts, cn_X8_conflicts⟩
set_option maxRecDepth 100000 in
theorem im_X8_conflicts : Cond.instanceMethod yX8_conflicts ∈ ja_T := ja_in6 (i := 37) rfl rfl
set_option maxRecDepth 100000 in
theorem se_X8_conflicts : Cond.selects yX8_conflicts.cls yX8_conflicts yX8_conflicts ∈ ja_T := ja_in6 (i := 38) rfl rfl
def mX8_isConflict (c9 s9 : Nat) : jM := (yX8_isConflict, cX8_isConflict, 5, (some .boolean), ({ frames := 2, cells := c9, slots := s9, locals := 42 } : Room), [])
set_option maxRecDepth 100000 in
theorem co_X8_isConflict : Cond.code yX8_isConflict cX8_isConflict 5 (some .boolean) ∈ ja_T := ja_in6 (i := 43) rfl rfl
set_option maxRecDepth 100000 in
theorem ci_X8_isConflict : Cond.initialized yX8_isConflict.cls ∈ ja_T := ja_in1 (i := 7) rfl rfl
theorem cn_X8_isConflict : yX8_isConflict.cls ≠ "java/lang/invoke/MethodHandle" ∧ yX8_isConflict.cls ≠ "java/lang/invoke/VarHandle" ∧ (parseMethodDescriptor yX8_isConflict.desc).map (fun d => d.parameters.length) = some 2 := by decide +kernel
theorem ce_X8_isConflict (c9 s9 : Nat) : ja_ce (mX8_isConflict c9 s9) 2 := ⟨rfl, co_X8_isConflict, ci_X8_isConflict, cn_X8_isConflict⟩
set_option maxRecDepth 100000 in
theorem im_X8_isConflict : Cond.instanceMethod yX8_isConflict ∈ ja_T := ja_in6 (i := 42) rfl rfl
theorem se_X8_isConflict : Cond.selects yX8_isConflict.cls yX8_isConflict yX8_isConflict ∈ ja_T := ja_inT (i := 37) (by decide +kernel) rfl
def mX8_clashes (c9 s9 : Nat) : jM := (yX8_clashes, cX8_clashes, 3, (some .int), ({ frames := 4, cells := c9, slots := s9, locals := 91 } : Room), [])
set_option maxRecDepth 100000 in
theorem co_X8_clashes : Cond.code yX8_clashes cX8_clashes 3 (some .int) ∈ ja_T := ja_in6 (i := 47) rfl rfl
set_option maxRecDepth 100000 in
theorem ci_X8_clashes : Cond.initialized yX8_clashes.cls ∈ ja_T := ja_in1 (i := 7) rfl rfl
theorem cn_X8_clashes : yX8_clashes.cls ≠ "java/lang/invoke/MethodHandle" ∧ yX8_clashes.cls ≠ "java/lang/invoke/VarHandle" ∧ (parseMethodDescriptor yX8_clashes.desc).map (fun d => d.parameters.length) = some 1 := by decide +kernel
theorem ce_X8_clashes (c9 s9 : Nat) : ja_ce (mX8_clashes c9 s9) 1 := ⟨rfl, co_X8_clashes, ci_X8_clashes, cn_X8_clashes⟩
set_option maxRecDepth 100000 in
theorem im_X8_clashes : Cond.instanceMethod yX8_clashes ∈ ja_T := ja_in6 (i := 45) rfl rfl
set_option maxRecDepth 100000 in
theorem se_X8_clashes : Cond.selects yX8_clashes.cls yX8_clashes yX8_clashes ∈ ja_T := ja_in6 (i := 46) rfl rfl
def mX8_parts (c9 s9 : Nat) : jM := (yX8_parts, cX8_parts, 7, (some .int), ({ frames := 3, cells := c9, slots := s9, locals := 65 } : Room), [])
set_option maxRecDepth 100000 in
theorem co_X8_parts : Cond.code yX8_parts cX8_parts 7 (some .int) ∈ ja_T := ja_in6 (i := 51) rfl rfl
set_option maxRecDepth 100000 in
theorem ci_X8_parts : Cond.initialized yX8_parts.cls ∈ ja_T := ja_in1 (i := 7) rfl rfl
theorem cn_X8_parts : yX8_parts.cls ≠ "java/lang/invoke/MethodHandle" ∧ yX8_parts.cls ≠ "java/lang/invoke/VarHandle" ∧ (parseMethodDescriptor yX8_parts.desc).map (fun d => d.parameters.length) = some 0 := by decide +kernel
theorem ce_X8_parts (c9 s9 : Nat) : ja_ce (mX8_parts c9 s9) 0 := ⟨rfl, co_X8_parts, ci_X8_parts, cn_X8_parts⟩
set_option maxRecDepth 100000 in
theorem im_X8_parts : Cond.instanceMethod yX8_parts ∈ ja_T := ja_in6 (i := 50) rfl rfl
theorem se_X8_parts : Cond.selects yX8_parts.cls yX8_parts yX8_parts ∈ ja_T := ja_inT (i := 38) (by decide +kernel) rfl
def mX8_reconcile (c9 s9 : Nat) : jM := (yX8_reconcile, cX8_reconcile, 9, (some .int), ({ frames := 4, cells := c9, slots := s9, locals := 91 } : Room), [])
set_option maxRecDepth 100000 in
theorem co_X8_reconcile : Cond.code yX8_reconcile cX8_reconcile 9 (some .int) ∈ ja_T := ja_in6 (i := 55) rfl rfl
set_option maxRecDepth 100000 in
theorem ci_X8_reconcile : Cond.initialized yX8_reconcile.cls ∈ ja_T := ja_in1 (i := 7) rfl rfl
theorem cn_X8_reconcile : yX8_reconcile.cls ≠ "java/lang/invoke/MethodHandle" ∧ yX8_reconcile.cls ≠ "java/lang/invoke/VarHandle" ∧ (parseMethodDescriptor yX8_reconcile.desc).map (fun d => d.parameters.length) = some 2 := by decide +kernel
theorem ce_X8_reconcile (c9 s9 : Nat) : ja_ce (mX8_reconcile c9 s9) 2 := ⟨rfl, co_X8_reconcile, ci_X8_reconcile, cn_X8_reconcile⟩
set_option maxRecDepth 100000 in
theorem im_X8_reconcile : Cond.instanceMethod yX8_reconcile ∈ ja_T := ja_in6 (i := 53) rfl rfl
set_option maxRecDepth 100000 in
theorem se_X8_reconcile : Cond.selects yX8_reconcile.cls yX8_reconcile yX8_reconcile ∈ ja_T := ja_in6 (i := 54) rfl rfl
def mX8_pieces (c9 s9 : Nat) : jM := (yX8_pieces, cX8_pieces, 3, (some .int), ({ frames := 5, cells := c9, slots := s9, locals := 115 } : Room), [])
set_option maxRecDepth 100000 in
theorem co_X8_pieces : Cond.code yX8_pieces cX8_pieces 3 (some .int) ∈ ja_T := ja_in6 (i := 59) rfl rfl
set_option maxRecDepth 100000 in
theorem ci_X8_pieces : Cond.initialized yX8_pieces.cls ∈ ja_T := ja_in1 (i := 7) rfl rfl
theorem cn_X8_pieces : yX8_pieces.cls ≠ "java/lang/invoke/MethodHandle" ∧ yX8_pieces.cls ≠ "java/lang/invoke/VarHandle" ∧ (parseMethodDescriptor yX8_pieces.desc).map (fun d => d.parameters.length) = some 2 := by decide +kernel
theorem ce_X8_pieces (c9 s9 : Nat) : ja_ce (mX8_pieces c9 s9) 2 := ⟨rfl, co_X8_pieces, ci_X8_pieces, cn_X8_pieces⟩
set_option maxRecDepth 100000 in
theorem im_X8_pieces : Cond.instanceMethod yX8_pieces ∈ ja_T := ja_in6 (i := 57) rfl rfl
set_option maxRecDepth 100000 in
theorem se_X8_pieces : Cond.selects yX8_pieces.cls yX8_pieces yX8_pieces ∈ ja_T := ja_in6 (i := 58) rfl rfl
def mX8_areLayers (c9 s9 : Nat) : jM := (yX8_areLayers, cX8_areLayers, 2, (some .boolean), ({ frames := 3, cells := c9, slots := s9, locals := 62 } : Room), [])
set_option maxRecDepth 100000 in
theorem co_X8_areLayers : Cond.code yX8_areLayers cX8_areLayers 2 (some .boolean) ∈ ja_T := ja_in6 (i := 62) rfl rfl
set_option maxRecDepth 100000 in
theorem ci_X8_areLayers : Cond.initialized yX8_areLayers.cls ∈ ja_T := ja_in1 (i := 7) rfl rfl
theorem cn_X8_areLayers : yX8_areLayers.cls ≠ "java/lang/invoke/MethodHandle" ∧ yX8_areLayers.cls ≠ "java/lang/invoke/VarHandle" ∧ (parseMethodDescriptor yX8_areLayers.desc).map (fun d => d.parameters.length) = some 2 := by decide +kernel
theorem ce_X8_areLayers (c9 s9 : Nat) : ja_ce (mX8_areLayers c9 s9) 2 := ⟨rfl, co_X8_areLayers, ci_X8_areLayers, cn_X8_areLayers⟩
set_option maxRecDepth 100000 in
theorem st_X8_areLayers : Cond.static yX8_areLayers ∈ ja_T := ja_in6 (i := 61) rfl rfl
def mX8_overlay (c9 s9 : Nat) : jM := (yX8_overlay, cX8_overlay, 5, (some .int), ({ frames := 4, cells := c9, slots := s9, locals := 91 } : Room), [])
set_option maxRecDepth 100000 in
theorem co_X8_overlay : Cond.code yX8_overlay cX8_overlay 5 (some .int) ∈ ja_T := ja_in6 (i := 66) rfl rfl
set_option maxRecDepth 100000 in
theorem ci_X8_overlay : Cond.initialized yX8_overlay.cls ∈ ja_T := ja_in1 (i := 7) rfl rfl
theorem cn_X8_overlay : yX8_overlay.cls ≠ "java/lang/invoke/MethodHandle" ∧ yX8_overlay.cls ≠ "java/lang/invoke/VarHandle" ∧ (parseMethodDescriptor yX8_overlay.desc).map (fun d => d.parameters.length) = some 2 := by decide +kernel
theorem ce_X8_overlay (c9 s9 : Nat) : ja_ce (mX8_overlay c9 s9) 2 := ⟨rfl, co_X8_overlay, ci_X8_overlay, cn_X8_overlay⟩
set_option maxRecDepth 100000 in
theorem im_X8_overlay : Cond.instanceMethod yX8_overlay ∈ ja_T := ja_in6 (i := 65) rfl rfl
theorem se_X8_overlay : Cond.selects yX8_overlay.cls yX8_overlay yX8_overlay ∈ ja_T := ja_inT (i := 39) (by decide +kernel) rfl
def mX8_pieceSize (c9 s9 : Nat) : jM := (yX8_pieceSize, cX8_pieceSize, 6, (some .int), ({ frames := 5, cells := c9, slots := s9, locals := 115 } : Room), [])
set_option maxRecDepth 100000 in
theorem co_X8_pieceSize : Cond.code yX8_pieceSize cX8_pieceSize 6 (some .int) ∈ ja_T := ja_in6 (i := 70) rfl rfl
set_option maxRecDepth 100000 in
theorem ci_X8_pieceSize : Cond.initialized yX8_pieceSize.cls ∈ ja_T := ja_in1 (i := 7) rfl rfl
theorem cn_X8_pieceSize : yX8_pieceSize.cls ≠ "java/lang/invoke/MethodHandle" ∧ yX8_pieceSize.cls ≠ "java/lang/invoke/VarHandle" ∧ (parseMethodDescriptor yX8_pieceSize.desc).map (fun d => d.parameters.length) = some 3 := by decide +kernel
theorem ce_X8_pieceSize (c9 s9 : Nat) : ja_ce (mX8_pieceSize c9 s9) 3 := ⟨rfl, co_X8_pieceSize, ci_X8_pieceSize, cn_X8_pieceSize⟩
set_option maxRecDepth 100000 in
theorem im_X8_pieceSize : Cond.instanceMethod yX8_pieceSize ∈ ja_T := ja_in6 (i := 68) rfl rfl
set_option maxRecDepth 100000 in
theorem se_X8_pieceSize : Cond.selects yX8_pieceSize.cls yX8_pieceSize yX8_pieceSize ∈ ja_T := ja_in6 (i := 69) rfl rfl
def mX8_parent (c9 s9 : Nat) : jM := (yX8_parent, cX8_parent, 6, (some .int), ({ frames := 5, cells := c9, slots := s9, locals := 115 } : Room), [])
set_option maxRecDepth 100000 in
theorem co_X8_parent : Cond.code yX8_parent cX8_parent 6 (some .int) ∈ ja_T := ja_in6 (i := 74) rfl rfl
set_option maxRecDepth 100000 in
theorem ci_X8_parent : Cond.initialized yX8_parent.cls ∈ ja_T := ja_in1 (i := 7) rfl rfl
theorem cn_X8_parent : yX8_parent.cls ≠ "java/lang/invoke/MethodHandle" ∧ yX8_parent.cls ≠ "java/lang/invoke/VarHandle" ∧ (parseMethodDescriptor yX8_parent.desc).map (fun d => d.parameters.length) = some 4 := by decide +kernel
theorem ce_X8_parent (c9 s9 : Nat) : ja_ce (mX8_parent c9 s9) 4 := ⟨rfl, co_X8_parent, ci_X8_parent, cn_X8_parent⟩
set_option maxRecDepth 100000 in
theorem im_X8_parent : Cond.instanceMethod yX8_parent ∈ ja_T := ja_in6 (i := 72) rfl rfl
set_option maxRecDepth 100000 in
theorem se_X8_parent : Cond.selects yX8_parent.cls yX8_parent yX8_parent ∈ ja_T := ja_in6 (i := 73) rfl rfl
def mX8_match (c9 s9 : Nat) : jM := (yX8_match, cX8_match, 5, (some .int), ({ frames := 4, cells := c9, slots := s9, locals := 94 } : Room), [])
set_option maxRecDepth 100000 in
theorem co_X8_match : Cond.code yX8_match cX8_match 5 (some .int) ∈ ja_T := ja_in6 (i := 78) rfl rfl
set_option maxRecDepth 100000 in
theorem ci_X8_match : Cond.initialized yX8_match.cls ∈ ja_T := ja_in1 (i := 7) rfl rfl
theorem cn_X8_match : yX8_match.cls ≠ "java/lang/invoke/MethodHandle" ∧ yX8_match.cls ≠ "java/lang/invoke/VarHandle" ∧ (parseMethodDescriptor yX8_match.desc).map (fun d => d.parameters.length) = some 3 := by decide +kernel
theorem ce_X8_match (c9 s9 : Nat) : ja_ce (mX8_match c9 s9) 3 := ⟨rfl, co_X8_match, ci_X8_match, cn_X8_match⟩
set_option maxRecDepth 100000 in
theorem im_X8_match : Cond.instanceMethod yX8_match ∈ ja_T := ja_in6 (i := 76) rfl rfl
set_option maxRecDepth 100000 in
theorem se_X8_match : Cond.selects yX8_match.cls yX8_match yX8_match ∈ ja_T := ja_in6 (i := 77) rfl rfl
def mX8_matched (c9 s9 : Nat) : jM := (yX8_matched, cX8_matched, 7, (some .int), ({ frames := 3, cells := c9, slots := s9, locals := 68 } : Room), [])
set_option maxRecDepth 100000 in
theorem co_X8_matched : Cond.code yX8_matched cX8_matched 7 (some .int) ∈ ja_T := ja_in6 (i := 82) rfl rfl
set_option maxRecDepth 100000 in
theorem ci_X8_matched : Cond.initialized yX8_matched.cls ∈ ja_T := ja_in1 (i := 7) rfl rfl
theorem cn_X8_matched : yX8_matched.cls ≠ "java/lang/invoke/MethodHandle" ∧ yX8_matched.cls ≠ "java/lang/invoke/VarHandle" ∧ (parseMethodDescriptor yX8_matched.desc).map (fun d => d.parameters.length) = some 3 := by decide +kernel
theorem ce_X8_matched (c9 s9 : Nat) : ja_ce (mX8_matched c9 s9) 3 := ⟨rfl, co_X8_matched, ci_X8_matched, cn_X8_matched⟩
set_option maxRecDepth 100000 in
theorem im_X8_matched : Cond.instanceMethod yX8_matched ∈ ja_T := ja_in6 (i := 81) rfl rfl
theorem se_X8_matched : Cond.selects yX8_matched.cls yX8_matched yX8_matched ∈ ja_T := ja_inT (i := 40) (by decide +kernel) rfl
def mX8_common (c9 s9 : Nat) : jM := (yX8_common, cX8_common, 7, (some .int), ({ frames := 2, cells := c9, slots := s9, locals := 42 } : Room), [])
set_option maxRecDepth 100000 in
theorem co_X8_common : Cond.code yX8_common cX8_common 7 (some .int) ∈ ja_T := ja_in6 (i := 86) rfl rfl
set_option maxRecDepth 100000 in
theorem ci_X8_common : Cond.initialized yX8_common.cls ∈ ja_T := ja_in1 (i := 7) rfl rfl
theorem cn_X8_common : yX8_common.cls ≠ "java/lang/invoke/MethodHandle" ∧ yX8_common.cls ≠ "java/lang/invoke/VarHandle" ∧ (parseMethodDescriptor yX8_common.desc).map (fun d => d.parameters.length) = some 4 := by decide +kernel
theorem ce_X8_common (c9 s9 : Nat) : ja_ce (mX8_common c9 s9) 4 := ⟨rfl, co_X8_common, ci_X8_common, cn_X8_common⟩
set_option maxRecDepth 100000 in
theorem im_X8_common : Cond.instanceMethod yX8_common ∈ ja_T := ja_in6 (i := 85) rfl rfl
theorem se_X8_common : Cond.selects yX8_common.cls yX8_common yX8_common ∈ ja_T := ja_inT (i := 41) (by decide +kernel) rfl
def mX8_matchKind (c9 s9 : Nat) : jM := (yX8_matchKind, cX8_matchKind, 6, (some .char), ({ frames := 4, cells := c9, slots := s9, locals := 94 } : Room), [])
set_option maxRecDepth 100000 in
theorem co_X8_matchKind : Cond.code yX8_matchKind cX8_matchKind 6 (some .char) ∈ ja_T := ja_in6 (i := 90) rfl rfl
set_option maxRecDepth 100000 in
theorem ci_X8_matchKind : Cond.initialized yX8_matchKind.cls ∈ ja_T := ja_in1 (i := 7) rfl rfl
theorem cn_X8_matchKind : yX8_matchKind.cls ≠ "java/lang/invoke/MethodHandle" ∧ yX8_matchKind.cls ≠ "java/lang/invoke/VarHandle" ∧ (parseMethodDescriptor yX8_matchKind.desc).map (fun d => d.parameters.length) = some 3 := by decide +kernel
theorem ce_X8_matchKind (c9 s9 : Nat) : ja_ce (mX8_matchKind c9 s9) 3 := ⟨rfl, co_X8_matchKind, ci_X8_matchKind, cn_X8_matchKind⟩
set_option maxRecDepth 100000 in
theorem im_X8_matchKind : Cond.instanceMethod yX8_matchKind ∈ ja_T := ja_in6 (i := 88) rfl rfl
set_option maxRecDepth 100000 in
theorem se_X8_matchKind : Cond.selects yX8_matchKind.cls yX8_matchKind yX8_matchKind ∈ ja_T := ja_in6 (i := 89) rfl rfl
def mX8_coarse (c9 s9 : Nat) : jM := (yX8_coarse, cX8_coarse, 4, (some .int), ({ frames := 6, cells := c9, slots := s9, locals := 146 } : Room), [])
set_option maxRecDepth 100000 in
theorem co_X8_coarse : Cond.code yX8_coarse cX8_coarse 4 (some .int) ∈ ja_T := ja_in6 (i := 94) rfl rfl
set_option maxRecDepth 100000 in
theorem ci_X8_coarse : Cond.initialized yX8_coarse.cls ∈ ja_T := ja_in1 (i := 7) rfl rfl
theorem cn_X8_coarse : yX8_coarse.cls ≠ "java/lang/invoke/MethodHandle" ∧ yX8_coarse.cls ≠ "java/lang/invoke/VarHandle" ∧ (parseMethodDescriptor yX8_coarse.desc).map (fun d => d.parameters.length) = some 3 := by decide +kernel
theorem ce_X8_coarse (c9 s9 : Nat) : ja_ce (mX8_coarse c9 s9) 3 := ⟨rfl, co_X8_coarse, ci_X8_coarse, cn_X8_coarse⟩
set_option maxRecDepth 100000 in
theorem im_X8_coarse : Cond.instanceMethod yX8_coarse ∈ ja_T := ja_in6 (i := 92) rfl rfl
set_option maxRecDepth 100000 in
theorem se_X8_coarse : Cond.selects yX8_coarse.cls yX8_coarse yX8_coarse ∈ ja_T := ja_in6 (i := 93) rfl rfl
def mX8_coarsens (c9 s9 : Nat) : jM := (yX8_coarsens, cX8_coarsens, 8, none, ({ frames := 5, cells := c9, slots := s9, locals := 119 } : Room), [])
set_option maxRecDepth 100000 in
theorem co_X8_coarsens : Cond.code yX8_coarsens cX8_coarsens 8 none ∈ ja_T := ja_in6 (i := 98) rfl rfl
set_option maxRecDepth 100000 in
theorem ci_X8_coarsens : Cond.initialized yX8_coarsens.cls ∈ ja_T := ja_in1 (i := 7) rfl rfl
theorem cn_X8_coarsens : yX8_coarsens.cls ≠ "java/lang/invoke/MethodHandle" ∧ yX8_coarsens.cls ≠ "java/lang/invoke/VarHandle" ∧ (parseMethodDescriptor yX8_coarsens.desc).map (fun d => d.parameters.length) = some 2 := by decide +kernel
theorem ce_X8_coarsens (c9 s9 : Nat) : ja_ce (mX8_coarsens c9 s9) 2 := ⟨rfl, co_X8_coarsens, ci_X8_coarsens, cn_X8_coarsens⟩
set_option maxRecDepth 100000 in
theorem im_X8_coarsens : Cond.instanceMethod yX8_coarsens ∈ ja_T := ja_in6 (i := 97) rfl rfl
theorem se_X8_coarsens : Cond.selects yX8_coarsens.cls yX8_coarsens yX8_coarsens ∈ ja_T := ja_inT (i := 42) (by decide +kernel) rfl
def mX8_coarseSize (c9 s9 : Nat) : jM := (yX8_coarseSize, cX8_coarseSize, 5, (some .int), ({ frames := 3, cells := c9, slots := s9, locals := 64 } : Room), [])
set_option maxRecDepth 100000 in
theorem co_X8_coarseSize : Cond.code yX8_coarseSize cX8_coarseSize 5 (some .int) ∈ ja_T := ja_in6 (i := 102) rfl rfl
set_option maxRecDepth 100000 in
theorem ci_X8_coarseSize : Cond.initialized yX8_coarseSize.cls ∈ ja_T := ja_in1 (i := 7) rfl rfl
theorem cn_X8_coarseSize : yX8_coarseSize.cls ≠ "java/lang/invoke/MethodHandle" ∧ yX8_coarseSize.cls ≠ "java/lang/invoke/VarHandle" ∧ (parseMethodDescriptor yX8_coarseSize.desc).map (fun d => d.parameters.length) = some 2 := by decide +kernel
theorem ce_X8_coarseSize (c9 s9 : Nat) : ja_ce (mX8_coarseSize c9 s9) 2 := ⟨rfl, co_X8_coarseSize, ci_X8_coarseSize, cn_X8_coarseSize⟩
set_option maxRecDepth 100000 in
theorem im_X8_coarseSize : Cond.instanceMethod yX8_coarseSize ∈ ja_T := ja_in6 (i := 101) rfl rfl
theorem se_X8_coarseSize : Cond.selects yX8_coarseSize.cls yX8_coarseSize yX8_coarseSize ∈ ja_T := ja_inT (i := 43) (by decide +kernel) rfl
def mX8_coarseAt (c9 s9 : Nat) : jM := (yX8_coarseAt, cX8_coarseAt, 3, (some .int), ({ frames := 2, cells := c9, slots := s9, locals := 42 } : Room), [])
set_option maxRecDepth 100000 in
theorem co_X8_coarseAt : Cond.code yX8_coarseAt cX8_coarseAt 3 (some .int) ∈ ja_T := ja_in6 (i := 106) rfl rfl
set_option maxRecDepth 100000 in
theorem ci_X8_coarseAt : Cond.initialized yX8_coarseAt.cls ∈ ja_T := ja_in1 (i := 7) rfl rfl
theorem cn_X8_coarseAt : yX8_coarseAt.cls ≠ "java/lang/invoke/MethodHandle" ∧ yX8_coarseAt.cls ≠ "java/lang/invoke/VarHandle" ∧ (parseMethodDescriptor yX8_coarseAt.desc).map (fun d => d.parameters.length) = some 2 := by decide +kernel
theorem ce_X8_coarseAt (c9 s9 : Nat) : ja_ce (mX8_coarseAt c9 s9) 2 := ⟨rfl, co_X8_coarseAt, ci_X8_coarseAt, cn_X8_coarseAt⟩
set_option maxRecDepth 100000 in
theorem im_X8_coarseAt : Cond.instanceMethod yX8_coarseAt ∈ ja_T := ja_in6 (i := 105) rfl rfl
theorem se_X8_coarseAt : Cond.selects yX8_coarseAt.cls yX8_coarseAt yX8_coarseAt ∈ ja_T := ja_inT (i := 44) (by decide +kernel) rfl
def mX8_beside_ (c9 s9 : Nat) : jM := (yX8_beside_, cX8_beside_, 8, (some .int), ({ frames := 4, cells := c9, slots := s9, locals := 92 } : Room), [])
set_option maxRecDepth 100000 in
theorem co_X8_beside_ : Cond.code yX8_beside_ cX8_beside_ 8 (some .int) ∈ ja_T := ja_in6 (i := 110) rfl rfl
set_option maxRecDepth 100000 in
theorem ci_X8_beside_ : Cond.initialized yX8_beside_.cls ∈ ja_T := ja_in1 (i := 7) rfl rfl
theorem cn_X8_beside_ : yX8_beside_.cls ≠ "java/lang/invoke/MethodHandle" ∧ yX8_beside_.cls ≠ "java/lang/invoke/VarHandle" ∧ (parseMethodDescriptor yX8_beside_.desc).map (fun d => d.parameters.length) = some 3 := by decide +kernel
theorem ce_X8_beside_ (c9 s9 : Nat) : ja_ce (mX8_beside_ c9 s9) 3 := ⟨rfl, co_X8_beside_, ci_X8_beside_, cn_X8_beside_⟩
set_option maxRecDepth 100000 in
theorem im_X8_beside_ : Cond.instanceMethod yX8_beside_ ∈ ja_T := ja_in6 (i := 109) rfl rfl
theorem se_X8_beside_ : Cond.selects yX8_beside_.cls yX8_beside_ yX8_beside_ ∈ ja_T := ja_inT (i := 45) (by decide +kernel) rfl
def mX8_coarseBorder (c9 s9 : Nat) : jM := (yX8_coarseBorder, cX8_coarseBorder, 8, (some .int), ({ frames := 3, cells := c9, slots := s9, locals := 65 } : Room), [])
set_option maxRecDepth 100000 in
theorem co_X8_coarseBorder : Cond.code yX8_coarseBorder cX8_coarseBorder 8 (some .int) ∈ ja_T := ja_in6 (i := 114) rfl rfl
set_option maxRecDepth 100000 in
theorem ci_X8_coarseBorder : Cond.initialized yX8_coarseBorder.cls ∈ ja_T := ja_in1 (i := 7) rfl rfl
theorem cn_X8_coarseBorder : yX8_coarseBorder.cls ≠ "java/lang/invoke/MethodHandle" ∧ yX8_coarseBorder.cls ≠ "java/lang/invoke/VarHandle" ∧ (parseMethodDescriptor yX8_coarseBorder.desc).map (fun d => d.parameters.length) = some 3 := by decide +kernel
theorem ce_X8_coarseBorder (c9 s9 : Nat) : ja_ce (mX8_coarseBorder c9 s9) 3 := ⟨rfl, co_X8_coarseBorder, ci_X8_coarseBorder, cn_X8_coarseBorder⟩
set_option maxRecDepth 100000 in
theorem im_X8_coarseBorder : Cond.instanceMethod yX8_coarseBorder ∈ ja_T := ja_in6 (i := 113) rfl rfl
theorem se_X8_coarseBorder : Cond.selects yX8_coarseBorder.cls yX8_coarseBorder yX8_coarseBorder ∈ ja_T := ja_inT (i := 46) (by decide +kernel) rfl
def mX8_coarseAreas (c9 s9 : Nat) : jM := (yX8_coarseAreas, cX8_coarseAreas, 5, (some .int), ({ frames := 6, cells := c9, slots := s9, locals := 146 } : Room), [])
set_option maxRecDepth 100000 in
theorem co_X8_coarseAreas : Cond.code yX8_coarseAreas cX8_coarseAreas 5 (some .int) ∈ ja_T := ja_in6 (i := 118) rfl rfl
set_option maxRecDepth 100000 in
theorem ci_X8_coarseAreas : Cond.initialized yX8_coarseAreas.cls ∈ ja_T := ja_in1 (i := 7) rfl rfl
theorem cn_X8_coarseAreas : yX8_coarseAreas.cls ≠ "java/lang/invoke/MethodHandle" ∧ yX8_coarseAreas.cls ≠ "java/lang/invoke/VarHandle" ∧ (parseMethodDescriptor yX8_coarseAreas.desc).map (fun d => d.parameters.length) = some 2 := by decide +kernel
theorem ce_X8_coarseAreas (c9 s9 : Nat) : ja_ce (mX8_coarseAreas c9 s9) 2 := ⟨rfl, co_X8_coarseAreas, ci_X8_coarseAreas, cn_X8_coarseAreas⟩
set_option maxRecDepth 100000 in
theorem im_X8_coarseAreas : Cond.instanceMethod yX8_coarseAreas ∈ ja_T := ja_in6 (i := 116) rfl rfl
set_option maxRecDepth 100000 in
theorem se_X8_coarseAreas : Cond.selects yX8_coarseAreas.cls yX8_coarseAreas yX8_coarseAreas ∈ ja_T := ja_in6 (i := 117) rfl rfl
def mX8_name (c9 s9 : Nat) : jM := (yX8_name, cX8_name, 5, (some .int), ({ frames := 4, cells := c9, slots := s9, locals := 84 } : Room), [])
set_option maxRecDepth 100000 in
theorem co_X8_name : Cond.code yX8_name cX8_name 5 (some .int) ∈ ja_T := ja_in6 (i := 122) rfl rfl
set_option maxRecDepth 100000 in
theorem ci_X8_name : Cond.initialized yX8_name.cls ∈ ja_T := ja_in1 (i := 7) rfl rfl
theorem cn_X8_name : yX8_name.cls ≠ "java/lang/invoke/MethodHandle" ∧ yX8_name.cls ≠ "java/lang/invoke/VarHandle" ∧ (parseMethodDescriptor yX8_name.desc).map (fun d => d.parameters.length) = some 3 := by decide +kernel
theorem ce_X8_name (c9 s9 : Nat) : ja_ce (mX8_name c9 s9) 3 := ⟨rfl, co_X8_name, ci_X8_name, cn_X8_name⟩
set_option maxRecDepth 100000 in
theorem im_X8_name : Cond.instanceMethod yX8_name ∈ ja_T := ja_in6 (i := 120) rfl rfl
set_option maxRecDepth 100000 in
theorem se_X8_name : Cond.selects yX8_name.cls yX8_name yX8_name ∈ ja_T := ja_in6 (i := 121) rfl rfl
def mX8_placeOf (c9 s9 : Nat) : jM := (yX8_placeOf, cX8_placeOf, 6, (some .int), ({ frames := 5, cells := c9, slots := s9, locals := 122 } : Room), [])
set_option maxRecDepth 100000 in
theorem co_X8_placeOf : Cond.code yX8_placeOf cX8_placeOf 6 (some .int) ∈ ja_T := ja_in6 (i := 126) rfl rfl
set_option maxRecDepth 100000 in
theorem ci_X8_placeOf : Cond.initialized yX8_placeOf.cls ∈ ja_T := ja_in1 (i := 7) rfl rfl
theorem cn_X8_placeOf : yX8_placeOf.cls ≠ "java/lang/invoke/MethodHandle" ∧ yX8_placeOf.cls ≠ "java/lang/invoke/VarHandle" ∧ (parseMethodDescriptor yX8_placeOf.desc).map (fun d => d.parameters.length) = some 2 := by decide +kernel
theorem ce_X8_placeOf (c9 s9 : Nat) : ja_ce (mX8_placeOf c9 s9) 2 := ⟨rfl, co_X8_placeOf, ci_X8_placeOf, cn_X8_placeOf⟩
set_option maxRecDepth 100000 in
theorem im_X8_placeOf : Cond.instanceMethod yX8_placeOf ∈ ja_T := ja_in6 (i := 124) rfl rfl
set_option maxRecDepth 100000 in
theorem se_X8_placeOf : Cond.selects yX8_placeOf.cls yX8_placeOf yX8_placeOf ∈ ja_T := ja_in6 (i := 125) rfl rfl
def mX8_places (c9 s9 : Nat) : jM := (yX8_places, cX8_places, 10, none, ({ frames := 4, cells := c9, slots := s9, locals := 93 } : Room), [])
set_option maxRecDepth 100000 in
theorem co_X8_places : Cond.code yX8_places cX8_places 10 none ∈ ja_T := ja_in6 (i := 130) rfl rfl
set_option maxRecDepth 100000 in
theorem ci_X8_places : Cond.initialized yX8_places.cls ∈ ja_T := ja_in1 (i := 7) rfl rfl
theorem cn_X8_places : yX8_places.cls ≠ "java/lang/invoke/MethodHandle" ∧ yX8_places.cls ≠ "java/lang/invoke/VarHandle" ∧ (parseMethodDescriptor yX8_places.desc).map (fun d => d.parameters.length) = some 2 := by decide +kernel
theorem ce_X8_places (c9 s9 : Nat) : ja_ce (mX8_places c9 s9) 2 := ⟨rfl, co_X8_places, ci_X8_places, cn_X8_places⟩
set_option maxRecDepth 100000 in
theorem im_X8_places : Cond.instanceMethod yX8_places ∈ ja_T := ja_in6 (i := 129) rfl rfl
theorem se_X8_places : Cond.selects yX8_places.cls yX8_places yX8_places ∈ ja_T := ja_inT (i := 47) (by decide +kernel) rfl
def mX8_canStand (c9 s9 : Nat) : jM := (yX8_canStand, cX8_canStand, 9, (some .boolean), ({ frames := 3, cells := c9, slots := s9, locals := 65 } : Room), [])
set_option maxRecDepth 100000 in
theorem co_X8_canStand : Cond.code yX8_canStand cX8_canStand 9 (some .boolean) ∈ ja_T := ja_in6 (i := 134) rfl rfl
set_option maxRecDepth 100000 in
theorem ci_X8_canStand : Cond.initialized yX8_canStand.cls ∈ ja_T := ja_in1 (i := 7) rfl rfl
theorem cn_X8_canStand : yX8_canStand.cls ≠ "java/lang/invoke/MethodHandle" ∧ yX8_canStand.cls ≠ "java/lang/invoke/VarHandle" ∧ (parseMethodDescriptor yX8_canStand.desc).map (fun d => d.parameters.length) = some 3 := by decide +kernel
theorem ce_X8_canStand (c9 s9 : Nat) : ja_ce (mX8_canStand c9 s9) 3 := ⟨rfl, co_X8_canStand, ci_X8_canStand, cn_X8_canStand⟩
set_option maxRecDepth 100000 in
theorem im_X8_canStand : Cond.instanceMethod yX8_canStand ∈ ja_T := ja_in6 (i := 133) rfl rfl
theorem se_X8_canStand : Cond.selects yX8_canStand.cls yX8_canStand yX8_canStand ∈ ja_T := ja_inT (i := 48) (by decide +kernel) rfl
def mX8_values (c9 s9 : Nat) : jM := (yX8_values, cX8_values, 5, (some .long), ({ frames := 3, cells := c9, slots := s9, locals := 62 } : Room), [])
set_option maxRecDepth 100000 in
theorem co_X8_values : Cond.code yX8_values cX8_values 5 (some .long) ∈ ja_T := ja_in6 (i := 138) rfl rfl
set_option maxRecDepth 100000 in
theorem ci_X8_values : Cond.initialized yX8_values.cls ∈ ja_T := ja_in1 (i := 7) rfl rfl
theorem cn_X8_values : yX8_values.cls ≠ "java/lang/invoke/MethodHandle" ∧ yX8_values.cls ≠ "java/lang/invoke/VarHandle" ∧ (parseMethodDescriptor yX8_values.desc).map (fun d => d.parameters.length) = some 1 := by decide +kernel
theorem ce_X8_values (c9 s9 : Nat) : ja_ce (mX8_values c9 s9) 1 := ⟨rfl, co_X8_values, ci_X8_values, cn_X8_values⟩
set_option maxRecDepth 100000 in
theorem im_X8_values : Cond.instanceMethod yX8_values ∈ ja_T := ja_in6 (i := 136) rfl rfl
set_option maxRecDepth 100000 in
theorem se_X8_values : Cond.selects yX8_values.cls yX8_values yX8_values ∈ ja_T := ja_in6 (i := 137) rfl rfl
def mX8_covered (c9 s9 : Nat) : jM := (yX8_covered, cX8_covered, 2, (some .float), ({ frames := 3, cells := c9, slots := s9, locals := 66 } : Room), [])
set_option maxRecDepth 100000 in
theorem co_X8_covered : Cond.code yX8_covered cX8_covered 2 (some .float) ∈ ja_T := ja_in6 (i := 142) rfl rfl
set_option maxRecDepth 100000 in
theorem ci_X8_covered : Cond.initialized yX8_covered.cls ∈ ja_T := ja_in1 (i := 7) rfl rfl
theorem cn_X8_covered : yX8_covered.cls ≠ "java/lang/invoke/MethodHandle" ∧ yX8_covered.cls ≠ "java/lang/invoke/VarHandle" ∧ (parseMethodDescriptor yX8_covered.desc).map (fun d => d.parameters.length) = some 1 := by decide +kernel
theorem ce_X8_covered (c9 s9 : Nat) : ja_ce (mX8_covered c9 s9) 1 := ⟨rfl, co_X8_covered, ci_X8_covered, cn_X8_covered⟩
set_option maxRecDepth 100000 in
theorem im_X8_covered : Cond.instanceMethod yX8_covered ∈ ja_T := ja_in6 (i := 140) rfl rfl
set_option maxRecDepth 100000 in
theorem se_X8_covered : Cond.selects yX8_covered.cls yX8_covered yX8_covered ∈ ja_T := ja_in6 (i := 141) rfl rfl
def mX8_meanPiece (c9 s9 : Nat) : jM := (yX8_meanPiece, cX8_meanPiece, 6, (some .double), ({ frames := 5, cells := c9, slots := s9, locals := 115 } : Room), [])
set_option maxRecDepth 100000 in
theorem co_X8_meanPiece : Cond.code yX8_meanPiece cX8_meanPiece 6 (some .double) ∈ ja_T := ja_in6 (i := 147) rfl rfl
set_option maxRecDepth 100000 in
theorem ci_X8_meanPiece : Cond.initialized yX8_meanPiece.cls ∈ ja_T := ja_in1 (i := 7) rfl rfl
theorem cn_X8_meanPiece : yX8_meanPiece.cls ≠ "java/lang/invoke/MethodHandle" ∧ yX8_meanPiece.cls ≠ "java/lang/invoke/VarHandle" ∧ (parseMethodDescriptor yX8_meanPiece.desc).map (fun d => d.parameters.length) = some 2 := by decide +kernel
theorem ce_X8_meanPiece (c9 s9 : Nat) : ja_ce (mX8_meanPiece c9 s9) 2 := ⟨rfl, co_X8_meanPiece, ci_X8_meanPiece, cn_X8_meanPiece⟩
set_option maxRecDepth 100000 in
theorem im_X8_meanPiece : Cond.instanceMethod yX8_meanPiece ∈ ja_T := ja_in6 (i := 145) rfl rfl
set_option maxRecDepth 100000 in
theorem se_X8_meanPiece : Cond.selects yX8_meanPiece.cls yX8_meanPiece yX8_meanPiece ∈ ja_T := ja_in6 (i := 146) rfl rfl
def mX8_isSound (c9 s9 : Nat) : jM := (yX8_isSound, cX8_isSound, 1, (some .boolean), ({ frames := 1, cells := c9, slots := s9, locals := 20 } : Room), [])
set_option maxRecDepth 100000 in
theorem co_X8_isSound : Cond.code yX8_isSound cX8_isSound 1 (some .boolean) ∈ ja_T := ja_in6 (i := 151) rfl rfl
set_option maxRecDepth 100000 in
theorem ci_X8_isSound : Cond.initialized yX8_isSound.cls ∈ ja_T := ja_in1 (i := 7) rfl rfl
theorem cn_X8_isSound : yX8_isSound.cls ≠ "java/lang/invoke/MethodHandle" ∧ yX8_isSound.cls ≠ "java/lang/invoke/VarHandle" ∧ (parseMethodDescriptor yX8_isSound.desc).map (fun d => d.parameters.length) = some 0 := by decide +kernel
theorem ce_X8_isSound (c9 s9 : Nat) : ja_ce (mX8_isSound c9 s9) 0 := ⟨rfl, co_X8_isSound, ci_X8_isSound, cn_X8_isSound⟩
set_option maxRecDepth 100000 in
theorem im_X8_isSound : Cond.instanceMethod yX8_isSound ∈ ja_T := ja_in6 (i := 149) rfl rfl
set_option maxRecDepth 100000 in
theorem se_X8_isSound : Cond.selects yX8_isSound.cls yX8_isSound yX8_isSound ∈ ja_T := ja_in6 (i := 150) rfl rfl
set_option maxRecDepth 100000 in
theorem lk_X7_1 : Cond.methodLink RX7 1 objectInit ∈ ja_T := ja_in1 (i := 29) rfl rfl
set_option maxRecDepth 100000 in
theorem lk_X7_59 : Cond.methodLink RX7 59 yX1_init ∈ ja_T := ja_in1 (i := 108) rfl rfl
set_option maxRecDepth 100000 in
theorem lk_X7_86 : Cond.methodLink RX7 86 yX7_ruleOf ∈ ja_T := ja_in2 (i := 112) rfl rfl
set_option maxRecDepth 100000 in
theorem lk_X7_93 : Cond.methodLink RX7 93 yX7_layerOf ∈ ja_T := ja_in1 (i := 205) rfl rfl
set_option maxRecDepth 100000 in
theorem lk_X7_97 : Cond.methodLink RX7 97 yX1_rememberWorths ∈ ja_T := ja_in2 (i := 132) rfl rfl
set_option maxRecDepth 100000 in
theorem lk_X7_100 : Cond.methodLink RX7 100 yX7_needAreaOrNone ∈ ja_T := ja_in2 (i := 167) rfl rfl
set_option maxRecDepth 100000 in
theorem lk_X7_104 : Cond.methodLink RX7 104 yX7_needBox ∈ ja_T := ja_in2 (i := 177) rfl rfl
set_option maxRecDepth 100000 in
theorem lk_X7_108 : Cond.methodLink RX7 108 yX7_needSession ∈ ja_T := ja_in2 (i := 181) rfl rfl
set_option maxRecDepth 100000 in
theorem lk_X7_111 : Cond.methodLink RX7 111 yX1_openEdit ∈ ja_T := ja_in2 (i := 186) rfl rfl
set_option maxRecDepth 100000 in
theorem lk_X7_114 : Cond.methodLink RX7 114 yX1_give ∈ ja_T := ja_in2 (i := 191) rfl rfl
set_option maxRecDepth 100000 in
theorem lk_X7_118 : Cond.methodLink RX7 118 yX1_closeEdit ∈ ja_T := ja_in2 (i := 200) rfl rfl
set_option maxRecDepth 100000 in
theorem lk_X7_122 : Cond.methodLink RX7 122 yX7_needTwoAreas ∈ ja_T := ja_in2 (i := 216) rfl rfl
set_option maxRecDepth 100000 in
theorem lk_X7_138 : Cond.methodLink RX7 138 yX7_needArea ∈ ja_T := ja_in2 (i := 170) rfl rfl
set_option maxRecDepth 100000 in
theorem lk_X7_151 : Cond.methodLink RX7 151 yX4_breaks ∈ ja_T := ja_in3 (i := 35) rfl rfl
set_option maxRecDepth 100000 in
theorem lk_X7_157 : Cond.methodLink RX7 157 yX1_store ∈ ja_T := ja_in3 (i := 50) rfl rfl
set_option maxRecDepth 100000 in
theorem lk_X7_160 : Cond.methodLink RX7 160 yX1_goBack ∈ ja_T := ja_in3 (i := 61) rfl rfl
set_option maxRecDepth 100000 in
theorem lk_X7_165 : Cond.methodLink RX7 165 yX7_needTwoLayers ∈ ja_T := ja_in3 (i := 73) rfl rfl
set_option maxRecDepth 100000 in
theorem lk_X7_170 : Cond.methodLink RX7 170 yX4_init ∈ ja_T := ja_in3 (i := 79) rfl rfl
set_option maxRecDepth 100000 in
theorem lk_X7_178 : Cond.methodLink RX7 178 yX7_needSquare ∈ ja_T := ja_in3 (i := 118) rfl rfl
set_option maxRecDepth 100000 in
theorem lk_X7_181 : Cond.methodLink RX7 181 yX7_needTime ∈ ja_T := ja_in3 (i := 129) rfl rfl
set_option maxRecDepth 100000 in
theorem lk_X7_184 : Cond.methodLink RX7 184 yX1_areaBy ∈ ja_T := ja_in3 (i := 134) rfl rfl
set_option maxRecDepth 100000 in
theorem lk_X7_190 : Cond.methodLink RX7 190 yX1_openSides ∈ ja_T := ja_in3 (i := 164) rfl rfl
set_option maxRecDepth 100000 in
theorem lk_X7_193 : Cond.methodLink RX7 193 yX7_neighbour ∈ ja_T := ja_in3 (i := 176) rfl rfl
set_option maxRecDepth 100000 in
theorem lk_X7_198 : Cond.methodLink RX7 198 yX5_measure ∈ ja_T := ja_in3 (i := 185) rfl rfl
set_option maxRecDepth 100000 in
theorem lk_X7_202 : Cond.methodLink RX7 202 yX5_fewestTo ∈ ja_T := ja_in3 (i := 194) rfl rfl
set_option maxRecDepth 100000 in
theorem lk_X7_210 : Cond.methodLink RX7 210 yX5_squaresWithin ∈ ja_T := ja_in3 (i := 214) rfl rfl
set_option maxRecDepth 100000 in
theorem lk_X7_218 : Cond.methodLink RX7 218 yX6_init ∈ ja_T := ja_in3 (i := 227) rfl rfl
set_option maxRecDepth 100000 in
theorem lk_X7_221 : Cond.methodLink RX7 221 yX6_rebase ∈ ja_T := ja_in4 (i := 19) rfl rfl
set_option maxRecDepth 100000 in
theorem lk_X7_224 : Cond.methodLink RX7 224 yX7_versionOf ∈ ja_T := ja_in4 (i := 31) rfl rfl
set_option maxRecDepth 100000 in
theorem lk_X7_228 : Cond.methodLink RX7 228 yX6_holds ∈ ja_T := ja_in4 (i := 36) rfl rfl
set_option maxRecDepth 100000 in
theorem lk_X7_238 : Cond.methodLink RX7 238 yX6_markConflicts ∈ ja_T := ja_in4 (i := 48) rfl rfl
set_option maxRecDepth 100000 in
theorem lk_X7_244 : Cond.methodLink RX7 244 yX3_lay ∈ ja_T := ja_in2 (i := 41) rfl rfl
set_option maxRecDepth 100000 in
theorem lk_X7_253 : Cond.methodLink RX7 253 yX6_isDue ∈ ja_T := ja_in4 (i := 76) rfl rfl
set_option maxRecDepth 100000 in
theorem lk_X7_261 : Cond.methodLink RX7 261 yX7_layOver ∈ ja_T := ja_in1 (i := 201) rfl rfl
set_option maxRecDepth 100000 in
theorem lk_X7_264 : Cond.methodLink RX7 264 yX7_needPiece ∈ ja_T := ja_in4 (i := 94) rfl rfl
set_option maxRecDepth 100000 in
theorem lk_X7_274 : Cond.methodLink RX7 274 yX7_bestMatch ∈ ja_T := ja_in4 (i := 113) rfl rfl
set_option maxRecDepth 100000 in
theorem lk_X7_280 : Cond.methodLink RX7 280 yX7_isArea ∈ ja_T := ja_in2 (i := 173) rfl rfl
set_option maxRecDepth 100000 in
theorem lk_X7_283 : Cond.methodLink RX7 283 yX7_commonSize ∈ ja_T := ja_in4 (i := 116) rfl rfl
set_option maxRecDepth 100000 in
theorem lk_X7_287 : Cond.methodLink RX7 287 yX7_needLeast ∈ ja_T := ja_in4 (i := 134) rfl rfl
set_option maxRecDepth 100000 in
theorem lk_X7_290 : Cond.methodLink RX7 290 yX0_draw ∈ ja_T := ja_in4 (i := 138) rfl rfl
set_option maxRecDepth 100000 in
theorem lk_X7_296 : Cond.methodLink RX7 296 yX0_countAreas ∈ ja_T := ja_in4 (i := 172) rfl rfl
set_option maxRecDepth 100000 in
theorem lk_X7_304 : Cond.methodLink RX7 304 yX2_firstSquare ∈ ja_T := ja_in4 (i := 191) rfl rfl
set_option maxRecDepth 100000 in
theorem lk_X7_315 : Cond.methodLink RX7 315 yX7_addsUp ∈ ja_T := ja_in1 (i := 197) rfl rfl
set_option maxRecDepth 100000 in
theorem lk_X7_319 : Cond.methodLink RX7 319 yX1_hasSoundWorths ∈ ja_T := ja_in2 (i := 59) rfl rfl
set_option maxRecDepth 100000 in
theorem lk_X7_323 : Cond.methodLink RX7 323 yX1_isAsStored ∈ ja_T := ja_in2 (i := 63) rfl rfl
set_option maxRecDepth 100000 in
theorem lk_X7_332 : Cond.methodLink RX7 332 yX3_sumOf ∈ ja_T := ja_in2 (i := 55) rfl rfl
set_option maxRecDepth 100000 in
theorem lk_X0_3 : Cond.methodLink RX0 3 objectInit ∈ ja_T := ja_in1 (i := 83) rfl rfl
set_option maxRecDepth 100000 in
theorem lk_X0_26 : Cond.methodLink RX0 26 yJ7_fill_53178 ∈ ja_T := ja_in4 (i := 142) rfl rfl
set_option maxRecDepth 100000 in
theorem lk_X0_32 : Cond.methodLink RX0 32 yX0_countBorders ∈ ja_T := ja_in4 (i := 143) rfl rfl
set_option maxRecDepth 100000 in
theorem lk_X0_36 : Cond.methodLink RX0 36 yX0_smallest ∈ ja_T := ja_in4 (i := 153) rfl rfl
set_option maxRecDepth 100000 in
theorem lk_X0_44 : Cond.methodLink RX0 44 yX0_longestBorder ∈ ja_T := ja_in4 (i := 157) rfl rfl
set_option maxRecDepth 100000 in
theorem lk_X0_47 : Cond.methodLink RX0 47 yX0_join ∈ ja_T := ja_in4 (i := 161) rfl rfl
set_option maxRecDepth 100000 in
theorem lk_X0_58 : Cond.methodLink RX0 58 yX0_countPair ∈ ja_T := ja_in4 (i := 148) rfl rfl
set_option maxRecDepth 100000 in
theorem lk_X1_3 : Cond.methodLink RX1 3 objectInit ∈ ja_T := ja_in1 (i := 111) rfl rfl
set_option maxRecDepth 100000 in
theorem lk_X1_37 : Cond.methodLink RX1 37 yJ7_fill_53178 ∈ ja_T := ja_in2 (i := 190) rfl rfl
set_option maxRecDepth 100000 in
theorem lk_X1_51 : Cond.methodLink RX1 51 yX1_put ∈ ja_T := ja_in2 (i := 196) rfl rfl
set_option maxRecDepth 100000 in
theorem lk_X1_55 : Cond.methodLink RX1 55 yX1_handOver ∈ ja_T := ja_in2 (i := 204) rfl rfl
set_option maxRecDepth 100000 in
theorem lk_X1_58 : Cond.methodLink RX1 58 arraycopyName ∈ ja_T := ja_in2 (i := 136) rfl rfl
set_option maxRecDepth 100000 in
theorem lk_X1_64 : Cond.methodLink RX1 64 yX1_areaBy ∈ ja_T := ja_in2 (i := 67) rfl rfl
set_option maxRecDepth 100000 in
theorem lk_X2_3 : Cond.methodLink RX2 3 objectInit ∈ ja_T := ja_in1 (i := 102) rfl rfl
set_option maxRecDepth 100000 in
theorem lk_X2_15 : Cond.methodLink RX2 15 yJ7_fill_53178 ∈ ja_T := ja_in4 (i := 195) rfl rfl
set_option maxRecDepth 100000 in
theorem lk_X2_21 : Cond.methodLink RX2 21 yX2_nextArea ∈ ja_T := ja_in4 (i := 196) rfl rfl
set_option maxRecDepth 100000 in
theorem lk_X2_29 : Cond.methodLink RX2 29 yX2_bestPlace ∈ ja_T := ja_in4 (i := 204) rfl rfl
set_option maxRecDepth 100000 in
theorem lk_X2_37 : Cond.methodLink RX2 37 yX2_write ∈ ja_T := ja_in4 (i := 223) rfl rfl
set_option maxRecDepth 100000 in
theorem lk_X2_44 : Cond.methodLink RX2 44 yX2_comesBefore ∈ ja_T := ja_in4 (i := 201) rfl rfl
set_option maxRecDepth 100000 in
theorem lk_X2_48 : Cond.methodLink RX2 48 yX2_sumOf ∈ ja_T := ja_in4 (i := 208) rfl rfl
set_option maxRecDepth 100000 in
theorem lk_X2_52 : Cond.methodLink RX2 52 Lib.Math.abs.name ∈ ja_T := ja_in4 (i := 211) rfl rfl
set_option maxRecDepth 100000 in
theorem lk_X2_58 : Cond.methodLink RX2 58 yX2_isFree ∈ ja_T := ja_in4 (i := 214) rfl rfl
set_option maxRecDepth 100000 in
theorem lk_X2_65 : Cond.methodLink RX2 65 yX2_isNearName ∈ ja_T := ja_in4 (i := 218) rfl rfl
set_option maxRecDepth 100000 in
theorem lk_X3_3 : Cond.methodLink RX3 3 objectInit ∈ ja_T := ja_in1 (i := 43) rfl rfl
set_option maxRecDepth 100000 in
theorem lk_X3_31 : Cond.methodLink RX3 31 yJ7_fill_53178 ∈ ja_T := ja_in2 (i := 45) rfl rfl
set_option maxRecDepth 100000 in
theorem lk_X3_37 : Cond.methodLink RX3 37 yX3_spread ∈ ja_T := ja_in2 (i := 48) rfl rfl
set_option maxRecDepth 100000 in
theorem lk_X4_3 : Cond.methodLink RX4 3 objectInit ∈ ja_T := ja_in3 (i := 82) rfl rfl
set_option maxRecDepth 100000 in
theorem lk_X4_22 : Cond.methodLink RX4 22 yX4_breaksAlong ∈ ja_T := ja_in3 (i := 39) rfl rfl
set_option maxRecDepth 100000 in
theorem lk_X4_26 : Cond.methodLink RX4 26 yX4_breaksAt ∈ ja_T := ja_in3 (i := 45) rfl rfl
set_option maxRecDepth 100000 in
theorem lk_X5_3 : Cond.methodLink RX5 3 objectInit ∈ ja_T := ja_in1 (i := 73) rfl rfl
set_option maxRecDepth 100000 in
theorem lk_X5_20 : Cond.methodLink RX5 20 yX5_stepFrom ∈ ja_T := ja_in3 (i := 189) rfl rfl
set_option maxRecDepth 100000 in
theorem lk_X6_3 : Cond.methodLink RX6 3 objectInit ∈ ja_T := ja_in3 (i := 230) rfl rfl
set_option maxRecDepth 100000 in
theorem lk_X6_41 : Cond.methodLink RX6 41 arraycopyName ∈ ja_T := ja_in4 (i := 23) rfl rfl
set_option maxRecDepth 100000 in
theorem lk_X6_47 : Cond.methodLink RX6 47 yX6_isConflict ∈ ja_T := ja_in4 (i := 52) rfl rfl
set_option maxRecDepth 100000 in
theorem lk_X6_51 : Cond.methodLink RX6 51 yX6_isChanged ∈ ja_T := ja_in4 (i := 56) rfl rfl
set_option maxRecDepth 100000 in
theorem lk_X6_54 : Cond.methodLink RX6 54 yX6_holds ∈ ja_T := ja_in4 (i := 60) rfl rfl
set_option maxRecDepth 100000 in
theorem lk_L_7 : Cond.methodLink RL 7 yX7_begin ∈ ja_T := ja_in2 (i := 76) rfl rfl
set_option maxRecDepth 100000 in
theorem lk_L_17 : Cond.methodLink RL 17 yX7_paint ∈ ja_T := ja_in2 (i := 163) rfl rfl
set_option maxRecDepth 100000 in
theorem lk_L_23 : Cond.methodLink RL 23 yX7_split ∈ ja_T := ja_in2 (i := 212) rfl rfl
set_option maxRecDepth 100000 in
theorem lk_L_29 : Cond.methodLink RL 29 yX7_merge ∈ ja_T := ja_in3 (i := 0) rfl rfl
set_option maxRecDepth 100000 in
theorem lk_L_33 : Cond.methodLink RL 33 yX7_setValue ∈ ja_T := ja_in3 (i := 7) rfl rfl
set_option maxRecDepth 100000 in
theorem lk_L_36 : Cond.methodLink RL 36 yX7_setDivides ∈ ja_T := ja_in3 (i := 16) rfl rfl
set_option maxRecDepth 100000 in
theorem lk_L_40 : Cond.methodLink RL 40 yX7_sign ∈ ja_T := ja_in3 (i := 24) rfl rfl
set_option maxRecDepth 100000 in
theorem lk_L_45 : Cond.methodLink RL 45 yX7_keep ∈ ja_T := ja_in3 (i := 31) rfl rfl
set_option maxRecDepth 100000 in
theorem lk_L_49 : Cond.methodLink RL 49 yX7_drop ∈ ja_T := ja_in3 (i := 57) rfl rfl
set_option maxRecDepth 100000 in
theorem lk_L_52 : Cond.methodLink RL 52 yX7_addRule ∈ ja_T := ja_in3 (i := 68) rfl rfl
set_option maxRecDepth 100000 in
theorem lk_L_56 : Cond.methodLink RL 56 yX7_broken ∈ ja_T := ja_in3 (i := 99) rfl rfl
set_option maxRecDepth 100000 in
theorem lk_L_59 : Cond.methodLink RL 59 yX7_leastBroken ∈ ja_T := ja_in3 (i := 106) rfl rfl
set_option maxRecDepth 100000 in
theorem lk_L_62 : Cond.methodLink RL 62 yX7_areaAt ∈ ja_T := ja_in3 (i := 114) rfl rfl
set_option maxRecDepth 100000 in
theorem lk_L_66 : Cond.methodLink RL 66 yX7_areaThen ∈ ja_T := ja_in3 (i := 125) rfl rfl
set_option maxRecDepth 100000 in
theorem lk_L_69 : Cond.methodLink RL 69 yX7_authorOf ∈ ja_T := ja_in3 (i := 138) rfl rfl
set_option maxRecDepth 100000 in
theorem lk_L_72 : Cond.methodLink RL 72 yX7_size ∈ ja_T := ja_in3 (i := 146) rfl rfl
set_option maxRecDepth 100000 in
theorem lk_L_75 : Cond.methodLink RL 75 yX7_value ∈ ja_T := ja_in3 (i := 153) rfl rfl
set_option maxRecDepth 100000 in
theorem lk_L_78 : Cond.methodLink RL 78 yX7_rim ∈ ja_T := ja_in3 (i := 160) rfl rfl
set_option maxRecDepth 100000 in
theorem lk_L_81 : Cond.methodLink RL 81 yX7_border ∈ ja_T := ja_in3 (i := 172) rfl rfl
set_option maxRecDepth 100000 in
theorem lk_L_84 : Cond.methodLink RL 84 yX7_distance ∈ ja_T := ja_in3 (i := 180) rfl rfl
set_option maxRecDepth 100000 in
theorem lk_L_87 : Cond.methodLink RL 87 yX7_nearest ∈ ja_T := ja_in3 (i := 201) rfl rfl
set_option maxRecDepth 100000 in
theorem lk_L_90 : Cond.methodLink RL 90 yX7_belt ∈ ja_T := ja_in3 (i := 209) rfl rfl
set_option maxRecDepth 100000 in
theorem lk_L_93 : Cond.methodLink RL 93 yX7_checkOut ∈ ja_T := ja_in3 (i := 221) rfl rfl
set_option maxRecDepth 100000 in
theorem lk_L_97 : Cond.methodLink RL 97 yX7_change ∈ ja_T := ja_in4 (i := 27) rfl rfl
set_option maxRecDepth 100000 in
theorem lk_L_100 : Cond.methodLink RL 100 yX7_conflicts ∈ ja_T := ja_in4 (i := 44) rfl rfl
set_option maxRecDepth 100000 in
theorem lk_L_103 : Cond.methodLink RL 103 yX7_clashes ∈ ja_T := ja_in4 (i := 64) rfl rfl
set_option maxRecDepth 100000 in
theorem lk_L_106 : Cond.methodLink RL 106 yX7_reconcile ∈ ja_T := ja_in4 (i := 71) rfl rfl
set_option maxRecDepth 100000 in
theorem lk_L_110 : Cond.methodLink RL 110 yX7_pieces ∈ ja_T := ja_in4 (i := 83) rfl rfl
set_option maxRecDepth 100000 in
theorem lk_L_113 : Cond.methodLink RL 113 yX7_pieceSize ∈ ja_T := ja_in4 (i := 90) rfl rfl
set_option maxRecDepth 100000 in
theorem lk_L_116 : Cond.methodLink RL 116 yX7_parent ∈ ja_T := ja_in4 (i := 102) rfl rfl
set_option maxRecDepth 100000 in
theorem lk_L_120 : Cond.methodLink RL 120 yX7_match ∈ ja_T := ja_in4 (i := 109) rfl rfl
set_option maxRecDepth 100000 in
theorem lk_L_123 : Cond.methodLink RL 123 yX7_matchKind ∈ ja_T := ja_in4 (i := 123) rfl rfl
set_option maxRecDepth 100000 in
theorem lk_L_127 : Cond.methodLink RL 127 yX7_coarse ∈ ja_T := ja_in4 (i := 130) rfl rfl
set_option maxRecDepth 100000 in
theorem lk_L_130 : Cond.methodLink RL 130 yX7_coarseAreas ∈ ja_T := ja_in4 (i := 168) rfl rfl
set_option maxRecDepth 100000 in
theorem lk_L_133 : Cond.methodLink RL 133 yX7_name ∈ ja_T := ja_in4 (i := 179) rfl rfl
set_option maxRecDepth 100000 in
theorem lk_L_136 : Cond.methodLink RL 136 yX7_placeOf ∈ ja_T := ja_in4 (i := 187) rfl rfl
set_option maxRecDepth 100000 in
theorem lk_L_139 : Cond.methodLink RL 139 yX7_values ∈ ja_T := ja_in4 (i := 231) rfl rfl
set_option maxRecDepth 100000 in
theorem lk_L_143 : Cond.methodLink RL 143 yX7_covered ∈ ja_T := ja_in4 (i := 238) rfl rfl
set_option maxRecDepth 100000 in
theorem lk_L_147 : Cond.methodLink RL 147 yX7_meanPiece ∈ ja_T := ja_in5 (i := 20) rfl rfl
set_option maxRecDepth 100000 in
theorem lk_L_153 : Cond.methodLink RL 153 yX7_init ∈ ja_T := ja_in1 (i := 26) rfl rfl
set_option maxRecDepth 100000 in
theorem lk_L_156 : Cond.methodLink RL 156 yX8_init ∈ ja_T := ja_in5 (i := 29) rfl rfl
set_option maxRecDepth 100000 in
theorem lk_L_157 : Cond.methodLink RL 157 yL_begin ∈ ja_T := ja_in2 (i := 71) rfl rfl
set_option maxRecDepth 100000 in
theorem lk_L_162 : Cond.methodLink RL 162 yX8_begin ∈ ja_T := ja_in5 (i := 124) rfl rfl
set_option maxRecDepth 100000 in
theorem lk_L_163 : Cond.methodLink RL 163 yX8_thrown ∈ ja_T := ja_in5 (i := 120) rfl rfl
set_option maxRecDepth 100000 in
theorem lk_L_166 : Cond.methodLink RL 166 yL_paint ∈ ja_T := ja_in2 (i := 139) rfl rfl
set_option maxRecDepth 100000 in
theorem lk_L_169 : Cond.methodLink RL 169 yX8_paint ∈ ja_T := ja_in5 (i := 135) rfl rfl
set_option maxRecDepth 100000 in
theorem lk_L_170 : Cond.methodLink RL 170 yL_split ∈ ja_T := ja_in2 (i := 208) rfl rfl
set_option maxRecDepth 100000 in
theorem lk_L_173 : Cond.methodLink RL 173 yX8_split ∈ ja_T := ja_in5 (i := 160) rfl rfl
set_option maxRecDepth 100000 in
theorem lk_L_174 : Cond.methodLink RL 174 yL_merge ∈ ja_T := ja_in2 (i := 237) rfl rfl
set_option maxRecDepth 100000 in
theorem lk_L_177 : Cond.methodLink RL 177 yX8_merge ∈ ja_T := ja_in5 (i := 164) rfl rfl
set_option maxRecDepth 100000 in
theorem lk_L_178 : Cond.methodLink RL 178 yL_setValue ∈ ja_T := ja_in3 (i := 4) rfl rfl
set_option maxRecDepth 100000 in
theorem lk_L_180 : Cond.methodLink RL 180 yX8_setValue ∈ ja_T := ja_in5 (i := 168) rfl rfl
set_option maxRecDepth 100000 in
theorem lk_L_181 : Cond.methodLink RL 181 yL_setDivides ∈ ja_T := ja_in3 (i := 13) rfl rfl
set_option maxRecDepth 100000 in
theorem lk_L_184 : Cond.methodLink RL 184 yX8_setDivides ∈ ja_T := ja_in5 (i := 172) rfl rfl
set_option maxRecDepth 100000 in
theorem lk_L_185 : Cond.methodLink RL 185 yL_sign ∈ ja_T := ja_in3 (i := 20) rfl rfl
set_option maxRecDepth 100000 in
theorem lk_L_187 : Cond.methodLink RL 187 yX8_sign ∈ ja_T := ja_in5 (i := 176) rfl rfl
set_option maxRecDepth 100000 in
theorem lk_L_188 : Cond.methodLink RL 188 yL_keep ∈ ja_T := ja_in3 (i := 28) rfl rfl
set_option maxRecDepth 100000 in
theorem lk_L_191 : Cond.methodLink RL 191 yX8_keep ∈ ja_T := ja_in5 (i := 184) rfl rfl
set_option maxRecDepth 100000 in
theorem lk_L_192 : Cond.methodLink RL 192 yL_drop ∈ ja_T := ja_in3 (i := 54) rfl rfl
set_option maxRecDepth 100000 in
theorem lk_L_194 : Cond.methodLink RL 194 yX8_drop ∈ ja_T := ja_in5 (i := 195) rfl rfl
set_option maxRecDepth 100000 in
theorem lk_L_195 : Cond.methodLink RL 195 yL_addRule ∈ ja_T := ja_in3 (i := 65) rfl rfl
set_option maxRecDepth 100000 in
theorem lk_L_198 : Cond.methodLink RL 198 yX8_addRule ∈ ja_T := ja_in5 (i := 199) rfl rfl
set_option maxRecDepth 100000 in
theorem lk_L_199 : Cond.methodLink RL 199 yL_broken ∈ ja_T := ja_in3 (i := 96) rfl rfl
set_option maxRecDepth 100000 in
theorem lk_L_201 : Cond.methodLink RL 201 yX8_broken ∈ ja_T := ja_in5 (i := 203) rfl rfl
set_option maxRecDepth 100000 in
theorem lk_L_202 : Cond.methodLink RL 202 yL_leastBroken ∈ ja_T := ja_in3 (i := 103) rfl rfl
set_option maxRecDepth 100000 in
theorem lk_L_204 : Cond.methodLink RL 204 yX8_leastBroken ∈ ja_T := ja_in5 (i := 207) rfl rfl
set_option maxRecDepth 100000 in
theorem lk_L_205 : Cond.methodLink RL 205 yL_areaAt ∈ ja_T := ja_in3 (i := 111) rfl rfl
set_option maxRecDepth 100000 in
theorem lk_L_208 : Cond.methodLink RL 208 yX8_areaAt ∈ ja_T := ja_in5 (i := 211) rfl rfl
set_option maxRecDepth 100000 in
theorem lk_L_209 : Cond.methodLink RL 209 yL_areaThen ∈ ja_T := ja_in3 (i := 122) rfl rfl
set_option maxRecDepth 100000 in
theorem lk_L_211 : Cond.methodLink RL 211 yX8_areaThen ∈ ja_T := ja_in5 (i := 215) rfl rfl
set_option maxRecDepth 100000 in
theorem lk_L_212 : Cond.methodLink RL 212 yL_authorOf ∈ ja_T := ja_in3 (i := 135) rfl rfl
set_option maxRecDepth 100000 in
theorem lk_L_214 : Cond.methodLink RL 214 yX8_authorOf ∈ ja_T := ja_in5 (i := 219) rfl rfl
set_option maxRecDepth 100000 in
theorem lk_L_215 : Cond.methodLink RL 215 yL_size ∈ ja_T := ja_in3 (i := 143) rfl rfl
set_option maxRecDepth 100000 in
theorem lk_L_217 : Cond.methodLink RL 217 yX8_size ∈ ja_T := ja_in5 (i := 224) rfl rfl
set_option maxRecDepth 100000 in
theorem lk_L_218 : Cond.methodLink RL 218 yL_value ∈ ja_T := ja_in3 (i := 150) rfl rfl
set_option maxRecDepth 100000 in
theorem lk_L_220 : Cond.methodLink RL 220 yX8_value ∈ ja_T := ja_in5 (i := 232) rfl rfl
set_option maxRecDepth 100000 in
theorem lk_L_221 : Cond.methodLink RL 221 yL_rim ∈ ja_T := ja_in3 (i := 157) rfl rfl
set_option maxRecDepth 100000 in
theorem lk_L_223 : Cond.methodLink RL 223 yX8_rim ∈ ja_T := ja_in5 (i := 236) rfl rfl
set_option maxRecDepth 100000 in
theorem lk_L_224 : Cond.methodLink RL 224 yL_border ∈ ja_T := ja_in3 (i := 169) rfl rfl
set_option maxRecDepth 100000 in
theorem lk_L_226 : Cond.methodLink RL 226 yX8_border ∈ ja_T := ja_in6 (i := 0) rfl rfl
set_option maxRecDepth 100000 in
theorem lk_L_227 : Cond.methodLink RL 227 yL_distance ∈ ja_T := ja_in3 (i := 177) rfl rfl
set_option maxRecDepth 100000 in
theorem lk_L_229 : Cond.methodLink RL 229 yX8_distance ∈ ja_T := ja_in6 (i := 4) rfl rfl
set_option maxRecDepth 100000 in
theorem lk_L_230 : Cond.methodLink RL 230 yL_nearest ∈ ja_T := ja_in3 (i := 198) rfl rfl
set_option maxRecDepth 100000 in
theorem lk_L_232 : Cond.methodLink RL 232 yX8_nearest ∈ ja_T := ja_in6 (i := 16) rfl rfl
set_option maxRecDepth 100000 in
theorem lk_L_233 : Cond.methodLink RL 233 yL_belt ∈ ja_T := ja_in3 (i := 206) rfl rfl
set_option maxRecDepth 100000 in
theorem lk_L_235 : Cond.methodLink RL 235 yX8_belt ∈ ja_T := ja_in6 (i := 20) rfl rfl
set_option maxRecDepth 100000 in
theorem lk_L_236 : Cond.methodLink RL 236 yL_checkOut ∈ ja_T := ja_in3 (i := 218) rfl rfl
set_option maxRecDepth 100000 in
theorem lk_L_239 : Cond.methodLink RL 239 yX8_checkOut ∈ ja_T := ja_in6 (i := 24) rfl rfl
set_option maxRecDepth 100000 in
theorem lk_L_240 : Cond.methodLink RL 240 yL_change ∈ ja_T := ja_in4 (i := 24) rfl rfl
set_option maxRecDepth 100000 in
theorem lk_L_242 : Cond.methodLink RL 242 yX8_change ∈ ja_T := ja_in6 (i := 28) rfl rfl
set_option maxRecDepth 100000 in
theorem lk_L_243 : Cond.methodLink RL 243 yL_conflicts ∈ ja_T := ja_in4 (i := 41) rfl rfl
set_option maxRecDepth 100000 in
theorem lk_L_245 : Cond.methodLink RL 245 yX8_conflicts ∈ ja_T := ja_in6 (i := 36) rfl rfl
set_option maxRecDepth 100000 in
theorem lk_L_246 : Cond.methodLink RL 246 yL_clashes ∈ ja_T := ja_in4 (i := 61) rfl rfl
set_option maxRecDepth 100000 in
theorem lk_L_248 : Cond.methodLink RL 248 yX8_clashes ∈ ja_T := ja_in6 (i := 44) rfl rfl
set_option maxRecDepth 100000 in
theorem lk_L_249 : Cond.methodLink RL 249 yL_reconcile ∈ ja_T := ja_in4 (i := 68) rfl rfl
set_option maxRecDepth 100000 in
theorem lk_L_252 : Cond.methodLink RL 252 yX8_reconcile ∈ ja_T := ja_in6 (i := 52) rfl rfl
set_option maxRecDepth 100000 in
theorem lk_L_253 : Cond.methodLink RL 253 yL_pieces ∈ ja_T := ja_in4 (i := 80) rfl rfl
set_option maxRecDepth 100000 in
theorem lk_L_255 : Cond.methodLink RL 255 yX8_pieces ∈ ja_T := ja_in6 (i := 56) rfl rfl
set_option maxRecDepth 100000 in
theorem lk_L_256 : Cond.methodLink RL 256 yL_pieceSize ∈ ja_T := ja_in4 (i := 87) rfl rfl
set_option maxRecDepth 100000 in
theorem lk_L_258 : Cond.methodLink RL 258 yX8_pieceSize ∈ ja_T := ja_in6 (i := 67) rfl rfl
set_option maxRecDepth 100000 in
theorem lk_L_259 : Cond.methodLink RL 259 yL_parent ∈ ja_T := ja_in4 (i := 99) rfl rfl
set_option maxRecDepth 100000 in
theorem lk_L_262 : Cond.methodLink RL 262 yX8_parent ∈ ja_T := ja_in6 (i := 71) rfl rfl
set_option maxRecDepth 100000 in
theorem lk_L_263 : Cond.methodLink RL 263 yL_match ∈ ja_T := ja_in4 (i := 106) rfl rfl
set_option maxRecDepth 100000 in
theorem lk_L_265 : Cond.methodLink RL 265 yX8_match ∈ ja_T := ja_in6 (i := 75) rfl rfl
set_option maxRecDepth 100000 in
theorem lk_L_266 : Cond.methodLink RL 266 yL_matchKind ∈ ja_T := ja_in4 (i := 120) rfl rfl
set_option maxRecDepth 100000 in
theorem lk_L_268 : Cond.methodLink RL 268 yX8_matchKind ∈ ja_T := ja_in6 (i := 87) rfl rfl
set_option maxRecDepth 100000 in
theorem lk_L_269 : Cond.methodLink RL 269 yL_coarse ∈ ja_T := ja_in4 (i := 127) rfl rfl
set_option maxRecDepth 100000 in
theorem lk_L_271 : Cond.methodLink RL 271 yX8_coarse ∈ ja_T := ja_in6 (i := 91) rfl rfl
set_option maxRecDepth 100000 in
theorem lk_L_272 : Cond.methodLink RL 272 yL_coarseAreas ∈ ja_T := ja_in4 (i := 165) rfl rfl
set_option maxRecDepth 100000 in
theorem lk_L_274 : Cond.methodLink RL 274 yX8_coarseAreas ∈ ja_T := ja_in6 (i := 115) rfl rfl
set_option maxRecDepth 100000 in
theorem lk_L_275 : Cond.methodLink RL 275 yL_name ∈ ja_T := ja_in4 (i := 176) rfl rfl
set_option maxRecDepth 100000 in
theorem lk_L_277 : Cond.methodLink RL 277 yX8_name ∈ ja_T := ja_in6 (i := 119) rfl rfl
set_option maxRecDepth 100000 in
theorem lk_L_278 : Cond.methodLink RL 278 yL_placeOf ∈ ja_T := ja_in4 (i := 184) rfl rfl
set_option maxRecDepth 100000 in
theorem lk_L_280 : Cond.methodLink RL 280 yX8_placeOf ∈ ja_T := ja_in6 (i := 123) rfl rfl
set_option maxRecDepth 100000 in
theorem lk_L_281 : Cond.methodLink RL 281 yL_values ∈ ja_T := ja_in4 (i := 228) rfl rfl
set_option maxRecDepth 100000 in
theorem lk_L_283 : Cond.methodLink RL 283 yX8_values ∈ ja_T := ja_in6 (i := 135) rfl rfl
set_option maxRecDepth 100000 in
theorem lk_L_284 : Cond.methodLink RL 284 yL_covered ∈ ja_T := ja_in4 (i := 235) rfl rfl
set_option maxRecDepth 100000 in
theorem lk_L_287 : Cond.methodLink RL 287 yX8_covered ∈ ja_T := ja_in6 (i := 139) rfl rfl
set_option maxRecDepth 100000 in
theorem lk_L_288 : Cond.methodLink RL 288 yL_meanPiece ∈ ja_T := ja_in5 (i := 3) rfl rfl
set_option maxRecDepth 100000 in
theorem lk_L_291 : Cond.methodLink RL 291 yX8_meanPiece ∈ ja_T := ja_in6 (i := 144) rfl rfl
set_option maxRecDepth 100000 in
theorem lk_L_292 : Cond.methodLink RL 292 yX7_isSound ∈ ja_T := ja_in1 (i := 193) rfl rfl
set_option maxRecDepth 100000 in
theorem lk_L_296 : Cond.methodLink RL 296 yX8_isSound ∈ ja_T := ja_in6 (i := 148) rfl rfl
set_option maxRecDepth 100000 in
theorem lk_X8_1 : Cond.methodLink RX8 1 objectInit ∈ ja_T := ja_in5 (i := 32) rfl rfl
set_option maxRecDepth 100000 in
theorem lk_X8_88 : Cond.methodLink RX8 88 yX8_in ∈ ja_T := ja_in5 (i := 128) rfl rfl
set_option maxRecDepth 100000 in
theorem lk_X8_92 : Cond.methodLink RX8 92 yX8_at ∈ ja_T := ja_in5 (i := 152) rfl rfl
set_option maxRecDepth 100000 in
theorem lk_X8_96 : Cond.methodLink RX8 96 yX8_fails ∈ ja_T := ja_in5 (i := 131) rfl rfl
set_option maxRecDepth 100000 in
theorem lk_X8_103 : Cond.methodLink RX8 103 yX8_sizeOf ∈ ja_T := ja_in5 (i := 156) rfl rfl
set_option maxRecDepth 100000 in
theorem lk_X8_106 : Cond.methodLink RX8 106 yX8_isLayer ∈ ja_T := ja_in5 (i := 139) rfl rfl
set_option maxRecDepth 100000 in
theorem lk_X8_110 : Cond.methodLink RX8 110 yX8_isArea ∈ ja_T := ja_in5 (i := 142) rfl rfl
set_option maxRecDepth 100000 in
theorem lk_X8_113 : Cond.methodLink RX8 113 yX8_isBox ∈ ja_T := ja_in5 (i := 145) rfl rfl
set_option maxRecDepth 100000 in
theorem lk_X8_117 : Cond.methodLink RX8 117 yX8_gives ∈ ja_T := ja_in5 (i := 148) rfl rfl
set_option maxRecDepth 100000 in
theorem lk_X8_123 : Cond.methodLink RX8 123 yX8_isRule ∈ ja_T := ja_in5 (i := 180) rfl rfl
set_option maxRecDepth 100000 in
theorem lk_X8_126 : Cond.methodLink RX8 126 yX8_brokenAt ∈ ja_T := ja_in5 (i := 188) rfl rfl
set_option maxRecDepth 100000 in
theorem lk_X8_129 : Cond.methodLink RX8 129 yX8_beside ∈ ja_T := ja_in5 (i := 192) rfl rfl
set_option maxRecDepth 100000 in
theorem lk_X8_132 : Cond.methodLink RX8 132 yX8_areaThen ∈ ja_T := ja_in5 (i := 223) rfl rfl
set_option maxRecDepth 100000 in
theorem lk_X8_136 : Cond.methodLink RX8 136 yX8_looks ∈ ja_T := ja_in5 (i := 228) rfl rfl
set_option maxRecDepth 100000 in
theorem lk_X8_140 : Cond.methodLink RX8 140 Lib.Math.abs.name ∈ ja_T := ja_in6 (i := 15) rfl rfl
set_option maxRecDepth 100000 in
theorem lk_X8_145 : Cond.methodLink RX8 145 yX8_steps ∈ ja_T := ja_in6 (i := 12) rfl rfl
set_option maxRecDepth 100000 in
theorem lk_X8_148 : Cond.methodLink RX8 148 yX8_between ∈ ja_T := ja_in6 (i := 8) rfl rfl
set_option maxRecDepth 100000 in
theorem lk_X8_154 : Cond.methodLink RX8 154 yX8_isVersion ∈ ja_T := ja_in6 (i := 32) rfl rfl
set_option maxRecDepth 100000 in
theorem lk_X8_157 : Cond.methodLink RX8 157 yX8_isConflict ∈ ja_T := ja_in6 (i := 40) rfl rfl
set_option maxRecDepth 100000 in
theorem lk_X8_160 : Cond.methodLink RX8 160 yX8_parts ∈ ja_T := ja_in6 (i := 48) rfl rfl
set_option maxRecDepth 100000 in
theorem lk_X8_164 : Cond.methodLink RX8 164 yX8_areLayers ∈ ja_T := ja_in6 (i := 60) rfl rfl
set_option maxRecDepth 100000 in
theorem lk_X8_167 : Cond.methodLink RX8 167 yX8_overlay ∈ ja_T := ja_in6 (i := 63) rfl rfl
set_option maxRecDepth 100000 in
theorem lk_X8_170 : Cond.methodLink RX8 170 yX8_common ∈ ja_T := ja_in6 (i := 83) rfl rfl
set_option maxRecDepth 100000 in
theorem lk_X8_174 : Cond.methodLink RX8 174 yX8_matched ∈ ja_T := ja_in6 (i := 79) rfl rfl
set_option maxRecDepth 100000 in
theorem lk_X8_177 : Cond.methodLink RX8 177 yX8_coarseAt ∈ ja_T := ja_in6 (i := 103) rfl rfl
set_option maxRecDepth 100000 in
theorem lk_X8_180 : Cond.methodLink RX8 180 yX8_coarseBorder ∈ ja_T := ja_in6 (i := 111) rfl rfl
set_option maxRecDepth 100000 in
theorem lk_X8_183 : Cond.methodLink RX8 183 yX8_coarseSize ∈ ja_T := ja_in6 (i := 99) rfl rfl
set_option maxRecDepth 100000 in
theorem lk_X8_186 : Cond.methodLink RX8 186 yX8_beside_ ∈ ja_T := ja_in6 (i := 107) rfl rfl
set_option maxRecDepth 100000 in
theorem lk_X8_188 : Cond.methodLink RX8 188 yX8_coarsens ∈ ja_T := ja_in6 (i := 95) rfl rfl
set_option maxRecDepth 100000 in
theorem lk_X8_192 : Cond.methodLink RX8 192 yX8_canStand ∈ ja_T := ja_in6 (i := 131) rfl rfl
set_option maxRecDepth 100000 in
theorem lk_X8_195 : Cond.methodLink RX8 195 yX8_places ∈ ja_T := ja_in6 (i := 127) rfl rfl
theorem nk_X7_33 : (RX7, 33, yX3_init, "Overlayer") ∈ ja_nest := by decide +kernel
theorem nk_X7_40 : (RX7, 40, yX5_init, "Overlayer") ∈ ja_nest := by decide +kernel
theorem nk_X7_47 : (RX7, 47, yX0_init, "Overlayer") ∈ ja_nest := by decide +kernel
theorem nk_X7_54 : (RX7, 54, yX2_init, "Overlayer") ∈ ja_nest := by decide +kernel
theorem nk_X0_40 : (RX0, 40, yX7_isArea, "Overlayer") ∈ ja_nest := by decide +kernel
theorem nk_X0_51 : (RX0, 51, yX7_neighbour, "Overlayer") ∈ ja_nest := by decide +kernel
theorem nk_X1_47 : (RX1, 47, yX7_isArea, "Overlayer") ∈ ja_nest := by decide +kernel
theorem nk_X1_68 : (RX1, 68, yX7_neighbour, "Overlayer") ∈ ja_nest := by decide +kernel
theorem nk_X2_25 : (RX2, 25, yX7_isArea, "Overlayer") ∈ ja_nest := by decide +kernel
theorem nk_X2_68 : (RX2, 68, yX7_neighbour, "Overlayer") ∈ ja_nest := by decide +kernel
theorem nk_X3_41 : (RX3, 41, yX7_neighbour, "Overlayer") ∈ ja_nest := by decide +kernel
theorem nk_X4_36 : (RX4, 36, yX7_neighbour, "Overlayer") ∈ ja_nest := by decide +kernel
theorem nk_X5_24 : (RX5, 24, yX7_neighbour, "Overlayer") ∈ ja_nest := by decide +kernel
set_option maxRecDepth 100000 in
theorem fl_X7_11 : ja_f RX7 11 7 0 true := ⟨_, _, _, k_X7, by decide, ja_in1 (i := 153) rfl rfl, rfl⟩
set_option maxRecDepth 100000 in
theorem fl_X7_17 : ja_f RX7 17 7 1 true := ⟨_, _, _, k_X7, by decide, ja_in1 (i := 154) rfl rfl, rfl⟩
set_option maxRecDepth 100000 in
theorem fl_X7_23 : ja_f RX7 23 7 2 true := ⟨_, _, _, k_X7, by decide, ja_in1 (i := 155) rfl rfl, rfl⟩
set_option maxRecDepth 100000 in
theorem fl_X7_27 : ja_f RX7 27 7 3 true := ⟨_, _, _, k_X7, by decide, ja_in1 (i := 156) rfl rfl, rfl⟩
set_option maxRecDepth 100000 in
theorem fl_X7_34 : ja_f RX7 34 7 9 true := ⟨_, _, _, k_X7, by decide, ja_in1 (i := 162) rfl rfl, rfl⟩
set_option maxRecDepth 100000 in
theorem fl_X7_41 : ja_f RX7 41 7 10 true := ⟨_, _, _, k_X7, by decide, ja_in1 (i := 163) rfl rfl, rfl⟩
set_option maxRecDepth 100000 in
theorem fl_X7_48 : ja_f RX7 48 7 11 true := ⟨_, _, _, k_X7, by decide, ja_in1 (i := 164) rfl rfl, rfl⟩
set_option maxRecDepth 100000 in
theorem fl_X7_55 : ja_f RX7 55 7 12 true := ⟨_, _, _, k_X7, by decide, ja_in1 (i := 165) rfl rfl, rfl⟩
set_option maxRecDepth 100000 in
theorem fl_X7_67 : ja_f RX7 67 7 7 false := ⟨_, _, _, k_X7, by decide, ja_in1 (i := 160) rfl rfl, rfl⟩
set_option maxRecDepth 100000 in
theorem fl_X7_71 : ja_f RX7 71 7 6 false := ⟨_, _, _, k_X7, by decide, ja_in1 (i := 159) rfl rfl, rfl⟩
set_option maxRecDepth 100000 in
theorem fl_X7_80 : ja_f RX7 80 7 8 false := ⟨_, _, _, k_X7, by decide, ja_in1 (i := 161) rfl rfl, rfl⟩
set_option maxRecDepth 100000 in
theorem fl_X7_83 : ja_f RX7 83 7 4 false := ⟨_, _, _, k_X7, by decide, ja_in1 (i := 157) rfl rfl, rfl⟩
set_option maxRecDepth 100000 in
theorem fl_X7_90 : ja_f RX7 90 4 3 false := ⟨_, _, _, k_X4, by decide, ja_in3 (i := 86) rfl rfl, rfl⟩
set_option maxRecDepth 100000 in
theorem fl_X7_127 : ja_f RX7 127 1 1 true := ⟨_, _, _, k_X1, by decide, ja_in1 (i := 122) rfl rfl, rfl⟩
set_option maxRecDepth 100000 in
theorem fl_X7_135 : ja_f RX7 135 1 0 true := ⟨_, _, _, k_X1, by decide, ja_in1 (i := 117) rfl rfl, rfl⟩
set_option maxRecDepth 100000 in
theorem fl_X7_145 : ja_f RX7 145 1 2 true := ⟨_, _, _, k_X1, by decide, ja_in1 (i := 124) rfl rfl, rfl⟩
set_option maxRecDepth 100000 in
theorem fl_X7_148 : ja_f RX7 148 1 4 false := ⟨_, _, _, k_X1, by decide, ja_in1 (i := 129) rfl rfl, rfl⟩
set_option maxRecDepth 100000 in
theorem fl_X7_213 : ja_f RX7 213 7 5 false := ⟨_, _, _, k_X7, by decide, ja_in1 (i := 158) rfl rfl, rfl⟩
set_option maxRecDepth 100000 in
theorem fl_X7_237 : ja_f RX7 237 6 1 true := ⟨_, _, _, k_X6, by decide, ja_in3 (i := 234) rfl rfl, rfl⟩
set_option maxRecDepth 100000 in
theorem fl_X7_241 : ja_f RX7 241 6 2 true := ⟨_, _, _, k_X6, by decide, ja_in3 (i := 236) rfl rfl, rfl⟩
set_option maxRecDepth 100000 in
theorem fl_X7_248 : ja_f RX7 248 3 3 false := ⟨_, _, _, k_X3, by decide, ja_in1 (i := 51) rfl rfl, rfl⟩
set_option maxRecDepth 100000 in
theorem fl_X7_257 : ja_f RX7 257 6 0 true := ⟨_, _, _, k_X6, by decide, ja_in3 (i := 232) rfl rfl, rfl⟩
set_option maxRecDepth 100000 in
theorem fl_X7_267 : ja_f RX7 267 3 0 true := ⟨_, _, _, k_X3, by decide, ja_in1 (i := 45) rfl rfl, rfl⟩
set_option maxRecDepth 100000 in
theorem fl_X7_268 : ja_f RX7 268 3 2 true := ⟨_, _, _, k_X3, by decide, ja_in1 (i := 49) rfl rfl, rfl⟩
set_option maxRecDepth 100000 in
theorem fl_X7_271 : ja_f RX7 271 3 1 true := ⟨_, _, _, k_X3, by decide, ja_in1 (i := 47) rfl rfl, rfl⟩
set_option maxRecDepth 100000 in
theorem fl_X7_293 : ja_f RX7 293 0 0 true := ⟨_, _, _, k_X0, by decide, ja_in1 (i := 87) rfl rfl, rfl⟩
set_option maxRecDepth 100000 in
theorem fl_X7_301 : ja_f RX7 301 1 3 true := ⟨_, _, _, k_X1, by decide, ja_in1 (i := 127) rfl rfl, rfl⟩
set_option maxRecDepth 100000 in
theorem fl_X0_9 : ja_f RX0 9 0 0 true := ⟨_, _, _, k_X0, by decide, ja_in1 (i := 86) rfl rfl, rfl⟩
set_option maxRecDepth 100000 in
theorem fl_X0_15 : ja_f RX0 15 0 1 true := ⟨_, _, _, k_X0, by decide, ja_in1 (i := 88) rfl rfl, rfl⟩
set_option maxRecDepth 100000 in
theorem fl_X0_20 : ja_f RX0 20 0 2 true := ⟨_, _, _, k_X0, by decide, ja_in1 (i := 89) rfl rfl, rfl⟩
set_option maxRecDepth 100000 in
theorem fl_X0_23 : ja_f RX0 23 1 1 true := ⟨_, _, _, k_X1, by decide, ja_in1 (i := 120) rfl rfl, rfl⟩
set_option maxRecDepth 100000 in
theorem fl_X0_55 : ja_f RX0 55 1 0 true := ⟨_, _, _, k_X1, by decide, ja_in1 (i := 116) rfl rfl, rfl⟩
set_option maxRecDepth 100000 in
theorem fl_X1_9 : ja_f RX1 9 1 0 true := ⟨_, _, _, k_X1, by decide, ja_in1 (i := 112) rfl rfl, rfl⟩
set_option maxRecDepth 100000 in
theorem fl_X1_15 : ja_f RX1 15 1 1 true := ⟨_, _, _, k_X1, by decide, ja_in1 (i := 119) rfl rfl, rfl⟩
set_option maxRecDepth 100000 in
theorem fl_X1_18 : ja_f RX1 18 1 2 true := ⟨_, _, _, k_X1, by decide, ja_in1 (i := 123) rfl rfl, rfl⟩
set_option maxRecDepth 100000 in
theorem fl_X1_21 : ja_f RX1 21 1 3 true := ⟨_, _, _, k_X1, by decide, ja_in1 (i := 125) rfl rfl, rfl⟩
set_option maxRecDepth 100000 in
theorem fl_X1_24 : ja_f RX1 24 1 4 false := ⟨_, _, _, k_X1, by decide, ja_in1 (i := 128) rfl rfl, rfl⟩
set_option maxRecDepth 100000 in
theorem fl_X1_28 : ja_f RX1 28 1 5 true := ⟨_, _, _, k_X1, by decide, ja_in1 (i := 130) rfl rfl, rfl⟩
set_option maxRecDepth 100000 in
theorem fl_X1_31 : ja_f RX1 31 1 6 true := ⟨_, _, _, k_X1, by decide, ja_in1 (i := 131) rfl rfl, rfl⟩
set_option maxRecDepth 100000 in
theorem fl_X1_34 : ja_f RX1 34 1 7 true := ⟨_, _, _, k_X1, by decide, ja_in1 (i := 132) rfl rfl, rfl⟩
set_option maxRecDepth 100000 in
theorem fl_X1_43 : ja_f RX1 43 1 8 false := ⟨_, _, _, k_X1, by decide, ja_in1 (i := 133) rfl rfl, rfl⟩
set_option maxRecDepth 100000 in
theorem fl_X2_9 : ja_f RX2 9 2 0 true := ⟨_, _, _, k_X2, by decide, ja_in1 (i := 103) rfl rfl, rfl⟩
set_option maxRecDepth 100000 in
theorem fl_X2_32 : ja_f RX2 32 1 3 true := ⟨_, _, _, k_X1, by decide, ja_in1 (i := 126) rfl rfl, rfl⟩
set_option maxRecDepth 100000 in
theorem fl_X2_41 : ja_f RX2 41 1 1 true := ⟨_, _, _, k_X1, by decide, ja_in1 (i := 121) rfl rfl, rfl⟩
set_option maxRecDepth 100000 in
theorem fl_X2_62 : ja_f RX2 62 1 0 true := ⟨_, _, _, k_X1, by decide, ja_in1 (i := 118) rfl rfl, rfl⟩
set_option maxRecDepth 100000 in
theorem fl_X3_9 : ja_f RX3 9 3 0 true := ⟨_, _, _, k_X3, by decide, ja_in1 (i := 44) rfl rfl, rfl⟩
set_option maxRecDepth 100000 in
theorem fl_X3_15 : ja_f RX3 15 3 1 true := ⟨_, _, _, k_X3, by decide, ja_in1 (i := 46) rfl rfl, rfl⟩
set_option maxRecDepth 100000 in
theorem fl_X3_18 : ja_f RX3 18 3 2 true := ⟨_, _, _, k_X3, by decide, ja_in1 (i := 48) rfl rfl, rfl⟩
set_option maxRecDepth 100000 in
theorem fl_X3_21 : ja_f RX3 21 3 4 true := ⟨_, _, _, k_X3, by decide, ja_in1 (i := 52) rfl rfl, rfl⟩
set_option maxRecDepth 100000 in
theorem fl_X3_24 : ja_f RX3 24 3 5 true := ⟨_, _, _, k_X3, by decide, ja_in1 (i := 53) rfl rfl, rfl⟩
set_option maxRecDepth 100000 in
theorem fl_X3_27 : ja_f RX3 27 3 3 false := ⟨_, _, _, k_X3, by decide, ja_in1 (i := 50) rfl rfl, rfl⟩
set_option maxRecDepth 100000 in
theorem fl_X4_9 : ja_f RX4 9 4 0 true := ⟨_, _, _, k_X4, by decide, ja_in3 (i := 83) rfl rfl, rfl⟩
set_option maxRecDepth 100000 in
theorem fl_X4_15 : ja_f RX4 15 4 1 true := ⟨_, _, _, k_X4, by decide, ja_in3 (i := 84) rfl rfl, rfl⟩
set_option maxRecDepth 100000 in
theorem fl_X4_19 : ja_f RX4 19 4 2 true := ⟨_, _, _, k_X4, by decide, ja_in3 (i := 85) rfl rfl, rfl⟩
set_option maxRecDepth 100000 in
theorem fl_X4_30 : ja_f RX4 30 1 0 true := ⟨_, _, _, k_X1, by decide, ja_in1 (i := 115) rfl rfl, rfl⟩
set_option maxRecDepth 100000 in
theorem fl_X5_9 : ja_f RX5 9 5 0 true := ⟨_, _, _, k_X5, by decide, ja_in1 (i := 74) rfl rfl, rfl⟩
set_option maxRecDepth 100000 in
theorem fl_X5_15 : ja_f RX5 15 1 0 true := ⟨_, _, _, k_X1, by decide, ja_in1 (i := 114) rfl rfl, rfl⟩
set_option maxRecDepth 100000 in
theorem fl_X6_9 : ja_f RX6 9 6 1 true := ⟨_, _, _, k_X6, by decide, ja_in3 (i := 233) rfl rfl, rfl⟩
set_option maxRecDepth 100000 in
theorem fl_X6_15 : ja_f RX6 15 6 2 true := ⟨_, _, _, k_X6, by decide, ja_in3 (i := 235) rfl rfl, rfl⟩
set_option maxRecDepth 100000 in
theorem fl_X6_18 : ja_f RX6 18 6 3 true := ⟨_, _, _, k_X6, by decide, ja_in3 (i := 237) rfl rfl, rfl⟩
set_option maxRecDepth 100000 in
theorem fl_X6_21 : ja_f RX6 21 6 0 true := ⟨_, _, _, k_X6, by decide, ja_in3 (i := 231) rfl rfl, rfl⟩
set_option maxRecDepth 100000 in
theorem fl_X6_25 : ja_f RX6 25 6 4 true := ⟨_, _, _, k_X6, by decide, ja_in3 (i := 238) rfl rfl, rfl⟩
set_option maxRecDepth 100000 in
theorem fl_X6_29 : ja_f RX6 29 6 5 true := ⟨_, _, _, k_X6, by decide, ja_in3 (i := 239) rfl rfl, rfl⟩
set_option maxRecDepth 100000 in
theorem fl_X6_32 : ja_f RX6 32 6 6 true := ⟨_, _, _, k_X6, by decide, ja_in4 (i := 0) rfl rfl, rfl⟩
set_option maxRecDepth 100000 in
theorem fl_X6_35 : ja_f RX6 35 6 7 true := ⟨_, _, _, k_X6, by decide, ja_in4 (i := 1) rfl rfl, rfl⟩
set_option maxRecDepth 100000 in
theorem fl_X6_38 : ja_f RX6 38 1 0 true := ⟨_, _, _, k_X1, by decide, ja_in1 (i := 113) rfl rfl, rfl⟩
set_option maxRecDepth 100000 in
theorem fl_X8_9 : ja_f RX8 9 8 2 false := ⟨_, _, _, k_X8, by decide, ja_in5 (i := 35) rfl rfl, rfl⟩
set_option maxRecDepth 100000 in
theorem fl_X8_13 : ja_f RX8 13 8 3 true := ⟨_, _, _, k_X8, by decide, ja_in5 (i := 36) rfl rfl, rfl⟩
set_option maxRecDepth 100000 in
theorem fl_X8_17 : ja_f RX8 17 8 4 true := ⟨_, _, _, k_X8, by decide, ja_in5 (i := 37) rfl rfl, rfl⟩
set_option maxRecDepth 100000 in
theorem fl_X8_21 : ja_f RX8 21 8 5 true := ⟨_, _, _, k_X8, by decide, ja_in5 (i := 38) rfl rfl, rfl⟩
set_option maxRecDepth 100000 in
theorem fl_X8_24 : ja_f RX8 24 8 6 true := ⟨_, _, _, k_X8, by decide, ja_in5 (i := 39) rfl rfl, rfl⟩
set_option maxRecDepth 100000 in
theorem fl_X8_27 : ja_f RX8 27 8 7 true := ⟨_, _, _, k_X8, by decide, ja_in5 (i := 40) rfl rfl, rfl⟩
set_option maxRecDepth 100000 in
theorem fl_X8_30 : ja_f RX8 30 8 8 true := ⟨_, _, _, k_X8, by decide, ja_in5 (i := 41) rfl rfl, rfl⟩
set_option maxRecDepth 100000 in
theorem fl_X8_33 : ja_f RX8 33 8 9 true := ⟨_, _, _, k_X8, by decide, ja_in5 (i := 42) rfl rfl, rfl⟩
set_option maxRecDepth 100000 in
theorem fl_X8_36 : ja_f RX8 36 8 10 true := ⟨_, _, _, k_X8, by decide, ja_in5 (i := 43) rfl rfl, rfl⟩
set_option maxRecDepth 100000 in
theorem fl_X8_39 : ja_f RX8 39 8 11 true := ⟨_, _, _, k_X8, by decide, ja_in5 (i := 44) rfl rfl, rfl⟩
set_option maxRecDepth 100000 in
theorem fl_X8_42 : ja_f RX8 42 8 13 true := ⟨_, _, _, k_X8, by decide, ja_in5 (i := 46) rfl rfl, rfl⟩
set_option maxRecDepth 100000 in
theorem fl_X8_46 : ja_f RX8 46 8 14 true := ⟨_, _, _, k_X8, by decide, ja_in5 (i := 47) rfl rfl, rfl⟩
set_option maxRecDepth 100000 in
theorem fl_X8_49 : ja_f RX8 49 8 15 true := ⟨_, _, _, k_X8, by decide, ja_in5 (i := 48) rfl rfl, rfl⟩
set_option maxRecDepth 100000 in
theorem fl_X8_52 : ja_f RX8 52 8 17 true := ⟨_, _, _, k_X8, by decide, ja_in5 (i := 50) rfl rfl, rfl⟩
set_option maxRecDepth 100000 in
theorem fl_X8_55 : ja_f RX8 55 8 18 true := ⟨_, _, _, k_X8, by decide, ja_in5 (i := 51) rfl rfl, rfl⟩
set_option maxRecDepth 100000 in
theorem fl_X8_58 : ja_f RX8 58 8 19 true := ⟨_, _, _, k_X8, by decide, ja_in5 (i := 52) rfl rfl, rfl⟩
set_option maxRecDepth 100000 in
theorem fl_X8_61 : ja_f RX8 61 8 20 true := ⟨_, _, _, k_X8, by decide, ja_in5 (i := 53) rfl rfl, rfl⟩
set_option maxRecDepth 100000 in
theorem fl_X8_64 : ja_f RX8 64 8 21 true := ⟨_, _, _, k_X8, by decide, ja_in5 (i := 54) rfl rfl, rfl⟩
set_option maxRecDepth 100000 in
theorem fl_X8_67 : ja_f RX8 67 8 22 true := ⟨_, _, _, k_X8, by decide, ja_in5 (i := 55) rfl rfl, rfl⟩
set_option maxRecDepth 100000 in
theorem fl_X8_70 : ja_f RX8 70 8 23 true := ⟨_, _, _, k_X8, by decide, ja_in5 (i := 56) rfl rfl, rfl⟩
set_option maxRecDepth 100000 in
theorem fl_X8_73 : ja_f RX8 73 8 24 true := ⟨_, _, _, k_X8, by decide, ja_in5 (i := 57) rfl rfl, rfl⟩
set_option maxRecDepth 100000 in
theorem fl_X8_76 : ja_f RX8 76 8 25 true := ⟨_, _, _, k_X8, by decide, ja_in5 (i := 58) rfl rfl, rfl⟩
set_option maxRecDepth 100000 in
theorem fl_X8_79 : ja_f RX8 79 8 26 true := ⟨_, _, _, k_X8, by decide, ja_in5 (i := 59) rfl rfl, rfl⟩
set_option maxRecDepth 100000 in
theorem fl_X8_82 : ja_f RX8 82 8 27 true := ⟨_, _, _, k_X8, by decide, ja_in5 (i := 60) rfl rfl, rfl⟩
set_option maxRecDepth 100000 in
theorem fl_X8_85 : ja_f RX8 85 8 0 false := ⟨_, _, _, k_X8, by decide, ja_in5 (i := 33) rfl rfl, rfl⟩
set_option maxRecDepth 100000 in
theorem fl_X8_100 : ja_f RX8 100 8 1 false := ⟨_, _, _, k_X8, by decide, ja_in5 (i := 34) rfl rfl, rfl⟩
set_option maxRecDepth 100000 in
theorem fl_X8_120 : ja_f RX8 120 8 12 false := ⟨_, _, _, k_X8, by decide, ja_in5 (i := 45) rfl rfl, rfl⟩
set_option maxRecDepth 100000 in
theorem fl_X8_151 : ja_f RX8 151 8 16 false := ⟨_, _, _, k_X8, by decide, ja_in5 (i := 49) rfl rfl, rfl⟩
set_option maxRecDepth 100000 in
theorem cl_X7_9 : Cond.classLink RX7 9 "Overlayer$Layer" ∈ ja_T := ja_in1 (i := 32) rfl rfl
set_option maxRecDepth 100000 in
theorem cl_X7_15 : Cond.classLink RX7 15 "Overlayer$Rule" ∈ ja_T := ja_in1 (i := 34) rfl rfl
set_option maxRecDepth 100000 in
theorem cl_X7_21 : Cond.classLink RX7 21 "Overlayer$Version" ∈ ja_T := ja_in1 (i := 36) rfl rfl
set_option maxRecDepth 100000 in
theorem cl_X7_31 : Cond.classLink RX7 31 "Overlayer$Overlay" ∈ ja_T := ja_in1 (i := 38) rfl rfl
set_option maxRecDepth 100000 in
theorem cl_X7_38 : Cond.classLink RX7 38 "Overlayer$StepMap" ∈ ja_T := ja_in1 (i := 68) rfl rfl
set_option maxRecDepth 100000 in
theorem cl_X7_45 : Cond.classLink RX7 45 "Overlayer$CoarseMap" ∈ ja_T := ja_in1 (i := 78) rfl rfl
set_option maxRecDepth 100000 in
theorem cl_X7_52 : Cond.classLink RX7 52 "Overlayer$NamePlan" ∈ ja_T := ja_in1 (i := 97) rfl rfl
set_option maxRecDepth 100000 in
theorem cl_X7_60 : Cond.classLink RX7 60 "java/lang/IllegalArgumentException" ∈ ja_T := ja_in2 (i := 80) rfl rfl
set_option maxRecDepth 100000 in
theorem cl_X7_75 : Cond.classLink RX7 75 "java/lang/IllegalStateException" ∈ ja_T := ja_in2 (i := 96) rfl rfl
set_option maxRecDepth 100000 in
theorem cl_X7_130 : Cond.classLink RX7 130 "java/lang/UnsupportedOperationException" ∈ ja_T := ja_in2 (i := 221) rfl rfl
set_option maxRecDepth 100000 in
theorem cl_X7_173 : Cond.classLink RX7 173 "java/util/NoSuchElementException" ∈ ja_T := ja_in2 (i := 116) rfl rfl
set_option maxRecDepth 100000 in
theorem cl_X7_232 : Cond.classLink RX7 232 "java/lang/IndexOutOfBoundsException" ∈ ja_T := ja_in1 (i := 209) rfl rfl
set_option maxRecDepth 100000 in
theorem cl_X7_310 : Cond.classLink RX7 310 "java/lang/ArithmeticException" ∈ ja_T := ja_in5 (i := 24) rfl rfl
set_option maxRecDepth 100000 in
theorem cl_X0_18 : Cond.classLink RX0 18 "[[I" ∈ ja_T := ja_in1 (i := 84) rfl rfl
set_option maxRecDepth 100000 in
theorem cl_L_8 : Cond.classLink RL 8 "Overlayer" ∈ ja_T := ja_in1 (i := 24) rfl rfl
set_option maxRecDepth 100000 in
theorem cl_L_13 : Cond.classLink RL 13 "java/lang/IllegalArgumentException" ∈ ja_T := ja_in2 (i := 74) rfl rfl
set_option maxRecDepth 100000 in
theorem cl_L_15 : Cond.classLink RL 15 "java/lang/IllegalStateException" ∈ ja_T := ja_in2 (i := 75) rfl rfl
set_option maxRecDepth 100000 in
theorem cl_L_21 : Cond.classLink RL 21 "java/lang/IndexOutOfBoundsException" ∈ ja_T := ja_in2 (i := 142) rfl rfl
set_option maxRecDepth 100000 in
theorem cl_L_27 : Cond.classLink RL 27 "java/lang/UnsupportedOperationException" ∈ ja_T := ja_in2 (i := 211) rfl rfl
set_option maxRecDepth 100000 in
theorem cl_L_43 : Cond.classLink RL 43 "java/util/NoSuchElementException" ∈ ja_T := ja_in3 (i := 23) rfl rfl
set_option maxRecDepth 100000 in
theorem cl_L_151 : Cond.classLink RL 151 "java/lang/ArithmeticException" ∈ ja_T := ja_in5 (i := 6) rfl rfl
set_option maxRecDepth 100000 in
theorem cl_L_154 : Cond.classLink RL 154 "OverlayerModel" ∈ ja_T := ja_in5 (i := 27) rfl rfl
set_option maxRecDepth 100000 in
theorem oi_im : Cond.instanceMethod objectInit ∈ ja_T := ja_in1 (i := 30) rfl rfl
set_option maxRecDepth 100000 in
theorem oi_co : Cond.code objectInit ⟨#[0xb1]⟩ 1 none ∈ ja_T := ja_in1 (i := 31) rfl rfl
set_option maxRecDepth 100000 in
theorem ac_na : Cond.native arraycopyName ∈ ja_T := ja_in2 (i := 138) rfl rfl
set_option maxRecDepth 100000 in
theorem ac_st : Cond.static arraycopyName ∈ ja_T := ja_in2 (i := 137) rfl rfl
set_option maxRecDepth 100000 in
theorem ac_in : Cond.initialized "java/lang/System" ∈ ja_T := ja_in1 (i := 15) rfl rfl
set_option maxRecDepth 100000 in
theorem ma_st : Cond.static Lib.Math.abs.name ∈ ja_T := ja_in4 (i := 212) rfl rfl
set_option maxRecDepth 100000 in
theorem ma_in : Cond.initialized "java/lang/Math" ∈ ja_T := ja_in1 (i := 21) rfl rfl
set_option maxRecDepth 100000 in
theorem ma_co : Cond.code Lib.Math.abs.name Lib.Math.abs.code 1 (some .int) ∈ ja_T := ja_in4 (i := 213) rfl rfl
theorem ta_X7_236 : ∀ w ∈ vx_atS RX7 236 "java/lang/IndexOutOfBoundsException" ["java/lang/RuntimeException", "java/lang/Exception"], w ∈ ja_T ∨ w ∈ ja_B := fun w h => (show ∀ w ∈ vx_atS RX7 236 "java/lang/IndexOutOfBoundsException" ["java/lang/RuntimeException", "java/lang/Exception"], (w ∈ lw_tbl ∧ goodWord w = true) ∨ (w ∈ lw_tbl ∧ ja_bk w = true) by decide +kernel) w h |>.imp List.mem_filter.mpr List.mem_filter.mpr
set_option maxRecDepth 100000 in
theorem ts_X7_232_326_236 : ja_ts RX7 232 326 236 "java/lang/IndexOutOfBoundsException" "no such layer" := ⟨cl_X7_232, ja_in1 (i := 14) rfl rfl, by decide +kernel, by decide +kernel, ta_X7_236⟩
set_option maxRecDepth 100000 in
theorem ts_X7_232_338_236 : ja_ts RX7 232 338 236 "java/lang/IndexOutOfBoundsException" "no such two layers" := ⟨cl_X7_232, ja_in1 (i := 14) rfl rfl, by decide +kernel, by decide +kernel, ta_X7_236⟩
set_option maxRecDepth 100000 in
theorem ts_X7_232_344_236 : ja_ts RX7 232 344 236 "java/lang/IndexOutOfBoundsException" "no such square" := ⟨cl_X7_232, ja_in1 (i := 14) rfl rfl, by decide +kernel, by decide +kernel, ta_X7_236⟩
set_option maxRecDepth 100000 in
theorem ts_X7_232_234_236 : ja_ts RX7 232 234 236 "java/lang/IndexOutOfBoundsException" "the square is not in the box" := ⟨cl_X7_232, ja_in1 (i := 14) rfl rfl, by decide +kernel, by decide +kernel, ta_X7_236⟩
theorem ta_X7_64 : ∀ w ∈ vx_atS RX7 64 "java/lang/IllegalArgumentException" ["java/lang/RuntimeException", "java/lang/Exception"], w ∈ ja_T ∨ w ∈ ja_B := fun w h => (show ∀ w ∈ vx_atS RX7 64 "java/lang/IllegalArgumentException" ["java/lang/RuntimeException", "java/lang/Exception"], (w ∈ lw_tbl ∧ goodWord w = true) ∨ (w ∈ lw_tbl ∧ ja_bk w = true) by decide +kernel) w h |>.imp List.mem_filter.mpr List.mem_filter.mpr
set_option maxRecDepth 100000 in
theorem ts_X7_60_62_64 : ja_ts RX7 60 62 64 "java/lang/IllegalArgumentException" "no such author" := ⟨cl_X7_60, ja_in1 (i := 11) rfl rfl, by decide +kernel, by decide +kernel, ta_X7_64⟩
set_option maxRecDepth 100000 in
theorem ts_X7_60_346_64 : ja_ts RX7 60 346 64 "java/lang/IllegalArgumentException" "no such area" := ⟨cl_X7_60, ja_in1 (i := 11) rfl rfl, by decide +kernel, by decide +kernel, ta_X7_64⟩
set_option maxRecDepth 100000 in
theorem ts_X7_60_352_64 : ja_ts RX7 60 352 64 "java/lang/IllegalArgumentException" "no such box" := ⟨cl_X7_60, ja_in1 (i := 11) rfl rfl, by decide +kernel, by decide +kernel, ta_X7_64⟩
set_option maxRecDepth 100000 in
theorem ts_X7_60_125_64 : ja_ts RX7 60 125 64 "java/lang/IllegalArgumentException" "no such line" := ⟨cl_X7_60, ja_in1 (i := 11) rfl rfl, by decide +kernel, by decide +kernel, ta_X7_64⟩
set_option maxRecDepth 100000 in
theorem ts_X7_60_348_64 : ja_ts RX7 60 348 64 "java/lang/IllegalArgumentException" "both areas are the same" := ⟨cl_X7_60, ja_in1 (i := 11) rfl rfl, by decide +kernel, by decide +kernel, ta_X7_64⟩
set_option maxRecDepth 100000 in
theorem ts_X7_60_141_64 : ja_ts RX7 60 141 64 "java/lang/IllegalArgumentException" "the value is out of range" := ⟨cl_X7_60, ja_in1 (i := 11) rfl rfl, by decide +kernel, by decide +kernel, ta_X7_64⟩
set_option maxRecDepth 100000 in
theorem ts_X7_60_163_64 : ja_ts RX7 60 163 64 "java/lang/IllegalArgumentException" "no such kind" := ⟨cl_X7_60, ja_in1 (i := 11) rfl rfl, by decide +kernel, by decide +kernel, ta_X7_64⟩
set_option maxRecDepth 100000 in
theorem ts_X7_60_342_64 : ja_ts RX7 60 342 64 "java/lang/IllegalArgumentException" "no such time" := ⟨cl_X7_60, ja_in1 (i := 11) rfl rfl, by decide +kernel, by decide +kernel, ta_X7_64⟩
set_option maxRecDepth 100000 in
theorem ts_X7_60_208_64 : ja_ts RX7 60 208 64 "java/lang/IllegalArgumentException" "the width is out of range" := ⟨cl_X7_60, ja_in1 (i := 11) rfl rfl, by decide +kernel, by decide +kernel, ta_X7_64⟩
set_option maxRecDepth 100000 in
theorem ts_X7_60_251_64 : ja_ts RX7 60 251 64 "java/lang/IllegalArgumentException" "no such side" := ⟨cl_X7_60, ja_in1 (i := 11) rfl rfl, by decide +kernel, by decide +kernel, ta_X7_64⟩
set_option maxRecDepth 100000 in
theorem ts_X7_60_350_64 : ja_ts RX7 60 350 64 "java/lang/IllegalArgumentException" "the least size is out of range" := ⟨cl_X7_60, ja_in1 (i := 11) rfl rfl, by decide +kernel, by decide +kernel, ta_X7_64⟩
set_option maxRecDepth 100000 in
theorem ts_X7_60_299_64 : ja_ts RX7 60 299 64 "java/lang/IllegalArgumentException" "the length is out of range" := ⟨cl_X7_60, ja_in1 (i := 11) rfl rfl, by decide +kernel, by decide +kernel, ta_X7_64⟩
theorem ta_X7_79 : ∀ w ∈ vx_atS RX7 79 "java/lang/IllegalStateException" ["java/lang/RuntimeException", "java/lang/Exception"], w ∈ ja_T ∨ w ∈ ja_B := fun w h => (show ∀ w ∈ vx_atS RX7 79 "java/lang/IllegalStateException" ["java/lang/RuntimeException", "java/lang/Exception"], (w ∈ lw_tbl ∧ goodWord w = true) ∨ (w ∈ lw_tbl ∧ ja_bk w = true) by decide +kernel) w h |>.imp List.mem_filter.mpr List.mem_filter.mpr
set_option maxRecDepth 100000 in
theorem ts_X7_75_77_79 : ja_ts RX7 75 77 79 "java/lang/IllegalStateException" "a session is there, or all were kept" := ⟨cl_X7_75, ja_in1 (i := 12) rfl rfl, by decide +kernel, by decide +kernel, ta_X7_79⟩
set_option maxRecDepth 100000 in
theorem ts_X7_75_336_79 : ja_ts RX7 75 336 79 "java/lang/IllegalStateException" "there is no session" := ⟨cl_X7_75, ja_in1 (i := 12) rfl rfl, by decide +kernel, by decide +kernel, ta_X7_79⟩
set_option maxRecDepth 100000 in
theorem ts_X7_75_168_79 : ja_ts RX7 75 168 79 "java/lang/IllegalStateException" "a session is there, or all rules are" := ⟨cl_X7_75, ja_in1 (i := 12) rfl rfl, by decide +kernel, by decide +kernel, ta_X7_79⟩
set_option maxRecDepth 100000 in
theorem ts_X7_75_216_79 : ja_ts RX7 75 216 79 "java/lang/IllegalStateException" "a session is there, or all versions are" := ⟨cl_X7_75, ja_in1 (i := 12) rfl rfl, by decide +kernel, by decide +kernel, ta_X7_79⟩
theorem ta_X7_134 : ∀ w ∈ vx_atS RX7 134 "java/lang/UnsupportedOperationException" ["java/lang/RuntimeException", "java/lang/Exception"], w ∈ ja_T ∨ w ∈ ja_B := fun w h => (show ∀ w ∈ vx_atS RX7 134 "java/lang/UnsupportedOperationException" ["java/lang/RuntimeException", "java/lang/Exception"], (w ∈ lw_tbl ∧ goodWord w = true) ∨ (w ∈ lw_tbl ∧ ja_bk w = true) by decide +kernel) w h |>.imp List.mem_filter.mpr List.mem_filter.mpr
set_option maxRecDepth 100000 in
theorem ts_X7_130_132_134 : ja_ts RX7 130 132 134 "java/lang/UnsupportedOperationException" "the other area has squares" := ⟨cl_X7_130, ja_in1 (i := 19) rfl rfl, by decide +kernel, by decide +kernel, ta_X7_134⟩
set_option maxRecDepth 100000 in
theorem ts_X7_130_143_134 : ja_ts RX7 130 143 134 "java/lang/UnsupportedOperationException" "the area has no squares" := ⟨cl_X7_130, ja_in1 (i := 19) rfl rfl, by decide +kernel, by decide +kernel, ta_X7_134⟩
set_option maxRecDepth 100000 in
theorem ts_X7_130_155_134 : ja_ts RX7 130 155 134 "java/lang/UnsupportedOperationException" "a rule is broken that is not signed" := ⟨cl_X7_130, ja_in1 (i := 19) rfl rfl, by decide +kernel, by decide +kernel, ta_X7_134⟩
theorem ta_X7_314 : ∀ w ∈ vx_atS RX7 314 "java/lang/ArithmeticException" ["java/lang/RuntimeException", "java/lang/Exception"], w ∈ ja_T ∨ w ∈ ja_B := fun w h => (show ∀ w ∈ vx_atS RX7 314 "java/lang/ArithmeticException" ["java/lang/RuntimeException", "java/lang/Exception"], (w ∈ lw_tbl ∧ goodWord w = true) ∨ (w ∈ lw_tbl ∧ ja_bk w = true) by decide +kernel) w h |>.imp List.mem_filter.mpr List.mem_filter.mpr
set_option maxRecDepth 100000 in
theorem ts_X7_310_312_314 : ja_ts RX7 310 312 314 "java/lang/ArithmeticException" "there are no pieces" := ⟨cl_X7_310, ja_in1 (i := 23) rfl rfl, by decide +kernel, by decide +kernel, ta_X7_314⟩
