/-! THE REFERENCE: calls that only read -/
theorem up_o {D : jD} {id j a : Nat} {x : Int32} (h : a ≠ id) : (ja_up D id j x) a = D a := funext fun b => by simp [ja_up, h]
theorem up_s {D : jD} {id j : Nat} {x : Int32} : (ja_up D id j x) id j = x := by simp [ja_up]
theorem up_n {D : jD} {id j a b : Nat} {x : Int32} (h : ¬ (a = id ∧ b = j)) : (ja_up D id j x) a b = D a b := by simp [ja_up, h]
theorem up_2 {D : jD} {id j : Nat} {x y : Int32} : ja_up (ja_up D id j x) id j y = ja_up D id j y := by
  funext a b
  simp only [ja_up]
  split <;> rfl

set_option maxRecDepth 100000 in
set_option maxHeartbeats 4000000 in
theorem r_size_f1 (l : Launch) {Z : jZ} {D : jD} (hz : zM Z) {ly a : Int32} (hl : ¬ (nI 0 ≤ ly ∧ ly ≤ nI 2)) : ja_M l (mX8_size 0 0) [.ref (100), .int (ly), .int (a)] Z D (ja_jd (some (.int (nI 0))) Z (fun D2 => D2 = ja_up D 100 0 (nI 1))) ja_x0 := by
  refine ja_Mof (lv := [some (.ref (100)), some (.int (ly)), some (.int (a))]) (by decide +kernel) rfl rfl (Nat.le_of_ble_eq_true rfl) rfl ?_
  refine ja_aload_n (i := 0) dX8_size_0 rfl rfl ?_
  refine ja_iload_n (i := 1) dX8_size_1 rfl rfl ?_
  refine ja_iload_n (i := 2) dX8_size_2 rfl rfl ?_
  refine ja_cVd (st := []) (s_looksF1 l hz (a := a) hl) rfl rfl (ce_X8_looks 0 0) im_X8_looks se_X8_looks lk_X8_136 k_X8 (zM_s hz) ⟨(Nat.le_of_ble_eq_true rfl), (Nat.le_of_ble_eq_true rfl)⟩ dX8_size_3 rfl rfl (Nat.le_of_ble_eq_true rfl) (Nat.zero_le _) (Nat.zero_le _) ?_
  intro D3 hD3
  subst hD3
  refine ja_ifB_eq (tgt := 18) dX8_size_6 (by decide) (fun c6 => ?_) (fun c6 => absurd c6 (by decide))
  refine ja_iconst (v := nI 0) dX8_size_18 (by decide +kernel) ?_
  refine ja_iret rfl rfl dX8_size_19 (Nat.zero_le _) (Nat.zero_le _) ?_
  exact ⟨rfl, rfl, rfl⟩

set_option maxRecDepth 100000 in
set_option maxHeartbeats 4000000 in
theorem r_size_f2 (l : Launch) {Z : jZ} {D : jD} (hz : zM Z) {ly : Nat} {a : Int32} (h1 : ly < 3) (ha : ¬ (nI 0 ≤ a ∧ a ≤ nI 9)) : ja_M l (mX8_size 0 0) [.ref (100), .int (nI (ly)), .int (a)] Z D (ja_jd (some (.int (nI 0))) Z (fun D2 => D2 = ja_up D 100 0 (nI 2))) ja_x0 := by
  refine ja_Mof (lv := [some (.ref (100)), some (.int (nI (ly))), some (.int (a))]) (by decide +kernel) rfl rfl (Nat.le_of_ble_eq_true rfl) rfl ?_
  refine ja_aload_n (i := 0) dX8_size_0 rfl rfl ?_
  refine ja_iload_n (i := 1) dX8_size_1 rfl rfl ?_
  refine ja_iload_n (i := 2) dX8_size_2 rfl rfl ?_
  refine ja_cVd (st := []) (s_looksF2 l hz (by omega) ha) rfl rfl (ce_X8_looks 0 0) im_X8_looks se_X8_looks lk_X8_136 k_X8 (zM_s hz) ⟨(Nat.le_of_ble_eq_true rfl), (Nat.le_of_ble_eq_true rfl)⟩ dX8_size_3 rfl rfl (Nat.le_of_ble_eq_true rfl) (Nat.zero_le _) (Nat.zero_le _) ?_
  intro D3 hD3
  subst hD3
  refine ja_ifB_eq (tgt := 18) dX8_size_6 (by decide) (fun c6 => ?_) (fun c6 => absurd c6 (by decide))
  refine ja_iconst (v := nI 0) dX8_size_18 (by decide +kernel) ?_
  refine ja_iret rfl rfl dX8_size_19 (Nat.zero_le _) (Nat.zero_le _) ?_
  exact ⟨rfl, rfl, rfl⟩

set_option maxRecDepth 100000 in
set_option maxHeartbeats 4000000 in
theorem r_size_ok (l : Launch) {Z : jZ} {D : jD} (hz : zM Z) {ly a : Nat} (h1 : ly < 3) (h2 : a < 10) : ja_M l (mX8_size 0 0) [.ref (100), .int (nI (ly)), .int (nI (a))] Z D (ja_jd (some (.int (nI (cSz (D 105) ly (nI a) 256)))) Z (fun D2 => D2 = ja_up D 100 0 (nI 0))) ja_x0 := by
  refine ja_Mof (lv := [some (.ref (100)), some (.int (nI (ly))), some (.int (nI (a)))]) (by decide +kernel) rfl rfl (Nat.le_of_ble_eq_true rfl) rfl ?_
  refine ja_aload_n (i := 0) dX8_size_0 rfl rfl ?_
  refine ja_iload_n (i := 1) dX8_size_1 rfl rfl ?_
  refine ja_iload_n (i := 2) dX8_size_2 rfl rfl ?_
  refine ja_cVd (st := []) (s_looksT l hz (by omega) (by omega)) rfl rfl (ce_X8_looks 0 0) im_X8_looks se_X8_looks lk_X8_136 k_X8 (zM_s hz) ⟨(Nat.le_of_ble_eq_true rfl), (Nat.le_of_ble_eq_true rfl)⟩ dX8_size_3 rfl rfl (Nat.le_of_ble_eq_true rfl) (Nat.zero_le _) (Nat.zero_le _) ?_
  intro D3 hD3
  subst hD3
  refine ja_ifB_eq (tgt := 18) dX8_size_6 (by decide) (fun c6 => absurd c6 (by decide)) (fun c6 => ?_)
  refine ja_aload_n (i := 0) dX8_size_9 rfl rfl ?_
  refine ja_iload_n (i := 1) dX8_size_10 rfl rfl ?_
  refine ja_iload_n (i := 2) dX8_size_11 rfl rfl ?_
  refine ja_cVr (st := []) (s_sizeOf (D := (ja_up D 100 0 (nI 0))) l hz (ly := ly) (by omega) (nI (a))) rfl rfl (ce_X8_sizeOf 0 0) im_X8_sizeOf se_X8_sizeOf lk_X8_103 k_X8 (zM_s hz) ⟨(Nat.le_of_ble_eq_true rfl), (Nat.le_of_ble_eq_true rfl)⟩ dX8_size_12 rfl rfl (Nat.le_of_ble_eq_true rfl) (Nat.zero_le _) (Nat.zero_le _) ?_
  refine ja_goto (tgt := 19) dX8_size_15 (by decide) ?_
  refine ja_iret rfl rfl dX8_size_19 (Nat.zero_le _) (Nat.zero_le _) ?_
  exact ⟨rfl, rfl, rfl⟩

set_option maxRecDepth 100000 in
set_option maxHeartbeats 4000000 in
theorem r_value_f1 (l : Launch) {Z : jZ} {D : jD} (hz : zM Z) {ly a : Int32} (hl : ¬ (nI 0 ≤ ly ∧ ly ≤ nI 2)) : ja_M l (mX8_value 0 0) [.ref (100), .int (ly), .int (a)] Z D (ja_jd (some (.int (nI 0))) Z (fun D2 => D2 = ja_up D 100 0 (nI 1))) ja_x0 := by
  refine ja_Mof (lv := [some (.ref (100)), some (.int (ly)), some (.int (a))]) (by decide +kernel) rfl rfl (Nat.le_of_ble_eq_true rfl) rfl ?_
  refine ja_aload_n (i := 0) dX8_value_0 rfl rfl ?_
  refine ja_iload_n (i := 1) dX8_value_1 rfl rfl ?_
  refine ja_iload_n (i := 2) dX8_value_2 rfl rfl ?_
  refine ja_cVd (st := []) (s_looksF1 l hz (a := a) hl) rfl rfl (ce_X8_looks 0 0) im_X8_looks se_X8_looks lk_X8_136 k_X8 (zM_s hz) ⟨(Nat.le_of_ble_eq_true rfl), (Nat.le_of_ble_eq_true rfl)⟩ dX8_value_3 rfl rfl (Nat.le_of_ble_eq_true rfl) (Nat.zero_le _) (Nat.zero_le _) ?_
  intro D3 hD3
  subst hD3
  refine ja_ifB_eq (tgt := 23) dX8_value_6 (by decide) (fun c6 => ?_) (fun c6 => absurd c6 (by decide))
  refine ja_iconst (v := nI 0) dX8_value_23 (by decide +kernel) ?_
  refine ja_iret rfl rfl dX8_value_24 (Nat.zero_le _) (Nat.zero_le _) ?_
  exact ⟨rfl, rfl, rfl⟩

set_option maxRecDepth 100000 in
set_option maxHeartbeats 4000000 in
theorem r_value_f2 (l : Launch) {Z : jZ} {D : jD} (hz : zM Z) {ly : Nat} {a : Int32} (h1 : ly < 3) (ha : ¬ (nI 0 ≤ a ∧ a ≤ nI 9)) : ja_M l (mX8_value 0 0) [.ref (100), .int (nI (ly)), .int (a)] Z D (ja_jd (some (.int (nI 0))) Z (fun D2 => D2 = ja_up D 100 0 (nI 2))) ja_x0 := by
  refine ja_Mof (lv := [some (.ref (100)), some (.int (nI (ly))), some (.int (a))]) (by decide +kernel) rfl rfl (Nat.le_of_ble_eq_true rfl) rfl ?_
  refine ja_aload_n (i := 0) dX8_value_0 rfl rfl ?_
  refine ja_iload_n (i := 1) dX8_value_1 rfl rfl ?_
  refine ja_iload_n (i := 2) dX8_value_2 rfl rfl ?_
  refine ja_cVd (st := []) (s_looksF2 l hz (by omega) ha) rfl rfl (ce_X8_looks 0 0) im_X8_looks se_X8_looks lk_X8_136 k_X8 (zM_s hz) ⟨(Nat.le_of_ble_eq_true rfl), (Nat.le_of_ble_eq_true rfl)⟩ dX8_value_3 rfl rfl (Nat.le_of_ble_eq_true rfl) (Nat.zero_le _) (Nat.zero_le _) ?_
  intro D3 hD3
  subst hD3
  refine ja_ifB_eq (tgt := 23) dX8_value_6 (by decide) (fun c6 => ?_) (fun c6 => absurd c6 (by decide))
  refine ja_iconst (v := nI 0) dX8_value_23 (by decide +kernel) ?_
  refine ja_iret rfl rfl dX8_value_24 (Nat.zero_le _) (Nat.zero_le _) ?_
  exact ⟨rfl, rfl, rfl⟩

set_option maxRecDepth 100000 in
set_option maxHeartbeats 4000000 in
theorem r_value_ok (l : Launch) {Z : jZ} {D : jD} (hz : zM Z) {ly a : Nat} (h1 : ly < 3) (h2 : a < 10) : ja_M l (mX8_value 0 0) [.ref (100), .int (nI (ly)), .int (nI (a))] Z D (ja_jd (some (.int (D 106 (10 * ly + a)))) Z (fun D2 => D2 = ja_up D 100 0 (nI 0))) ja_x0 := by
  refine ja_Mof (lv := [some (.ref (100)), some (.int (nI (ly))), some (.int (nI (a)))]) (by decide +kernel) rfl rfl (Nat.le_of_ble_eq_true rfl) rfl ?_
  refine ja_aload_n (i := 0) dX8_value_0 rfl rfl ?_
  refine ja_iload_n (i := 1) dX8_value_1 rfl rfl ?_
  refine ja_iload_n (i := 2) dX8_value_2 rfl rfl ?_
  refine ja_cVd (st := []) (s_looksT l hz (by omega) (by omega)) rfl rfl (ce_X8_looks 0 0) im_X8_looks se_X8_looks lk_X8_136 k_X8 (zM_s hz) ⟨(Nat.le_of_ble_eq_true rfl), (Nat.le_of_ble_eq_true rfl)⟩ dX8_value_3 rfl rfl (Nat.le_of_ble_eq_true rfl) (Nat.zero_le _) (Nat.zero_le _) ?_
  intro D3 hD3
  subst hD3
  refine ja_ifB_eq (tgt := 23) dX8_value_6 (by decide) (fun c6 => absurd c6 (by decide)) (fun c6 => ?_)
  refine ja_aload_n (i := 0) dX8_value_9 rfl rfl ?_
  refine ja_getR fl_X8_21 (zM_s hz) rfl (zM_p5 hz) dX8_value_10 ?_
  refine ja_bipush (v := nI 10) dX8_value_13 (by decide +kernel) ?_
  refine ja_iload_n (i := 1) dX8_value_15 rfl rfl ?_
  refine ja_imulN dX8_value_16 ?_
  refine ja_iload_n (i := 2) dX8_value_17 rfl rfl ?_
  refine ja_iaddN dX8_value_18 ?_
  refine ja_iald (zM_a5 hz) rfl (by omega) (by decide) dX8_value_19 ?_
  refine ja_goto (tgt := 24) dX8_value_20 (by decide) ?_
  refine ja_iret rfl rfl dX8_value_24 (Nat.zero_le _) (Nat.zero_le _) ?_
  exact ⟨rfl, rfl, rfl⟩

set_option maxRecDepth 100000 in
set_option maxHeartbeats 4000000 in
theorem r_areaAt_f1 (l : Launch) {Z : jZ} {D : jD} (hz : zM Z) {ly : Int32} (q : Int32) (hl : ¬ (nI 0 ≤ ly ∧ ly ≤ nI 2)) : ja_M l (mX8_areaAt 0 0) [.ref (100), .int (ly), .int (q)] Z D (ja_jd (some (.int (nI 0))) Z (fun D2 => D2 = ja_up D 100 0 (nI 1))) ja_x0 := by
  refine ja_Mof (lv := [some (.ref (100)), some (.int (ly)), some (.int (q))]) (by decide +kernel) rfl rfl (Nat.le_of_ble_eq_true rfl) rfl ?_
  refine ja_aload_n (i := 0) dX8_areaAt_0 rfl rfl ?_
  refine ja_iconst (v := nI 0) dX8_areaAt_1 (by decide +kernel) ?_
  refine ja_putI fl_X8_85 (zM_s hz) rfl rfl rfl dX8_areaAt_2 ?_
  refine ja_iload_n (i := 1) dX8_areaAt_5 rfl rfl ?_
  refine ja_cSr (st := []) (s_isLayerF l hl) rfl rfl (ce_X8_isLayer 0 0) st_X8_isLayer lk_X8_106 ⟨(Nat.le_of_ble_eq_true rfl), (Nat.le_of_ble_eq_true rfl)⟩ dX8_areaAt_6 rfl rfl (Nat.le_of_ble_eq_true rfl) (Nat.zero_le _) (Nat.zero_le _) ?_
  refine ja_ifB_eq (tgt := 32) dX8_areaAt_9 (by decide) (fun c9 => ?_) (fun c9 => absurd c9 (by decide))
  refine ja_aload_n (i := 0) dX8_areaAt_32 rfl rfl ?_
  refine ja_iconst (v := nI 1) dX8_areaAt_33 (by decide +kernel) ?_
  refine ja_cVd (st := []) (s_fails l hz (nI (1))) rfl rfl (ce_X8_fails 0 0) im_X8_fails se_X8_fails lk_X8_96 k_X8 (zM_s hz) ⟨(Nat.le_of_ble_eq_true rfl), (Nat.le_of_ble_eq_true rfl)⟩ dX8_areaAt_34 rfl rfl (Nat.le_of_ble_eq_true rfl) (Nat.zero_le _) (Nat.zero_le _) ?_
  intro D34 hD34
  subst hD34
  refine ja_num (D2 := ja_up D 100 0 (nI (1))) up_2 ?_
  refine ja_iret rfl rfl dX8_areaAt_37 (Nat.zero_le _) (Nat.zero_le _) ?_
  exact ⟨rfl, rfl, rfl⟩

set_option maxRecDepth 100000 in
set_option maxHeartbeats 4000000 in
theorem r_areaAt_f1b (l : Launch) {Z : jZ} {D : jD} (hz : zM Z) {ly : Nat} {q : Int32} (h1 : ly < 3) (hq : ¬ (nI 0 ≤ q ∧ q ≤ nI 255)) : ja_M l (mX8_areaAt 0 0) [.ref (100), .int (nI (ly)), .int (q)] Z D (ja_jd (some (.int (nI 0))) Z (fun D2 => D2 = ja_up D 100 0 (nI 1))) ja_x0 := by
  refine ja_Mof (lv := [some (.ref (100)), some (.int (nI (ly))), some (.int (q))]) (by decide +kernel) rfl rfl (Nat.le_of_ble_eq_true rfl) rfl ?_
  refine ja_aload_n (i := 0) dX8_areaAt_0 rfl rfl ?_
  refine ja_iconst (v := nI 0) dX8_areaAt_1 (by decide +kernel) ?_
  refine ja_putI fl_X8_85 (zM_s hz) rfl rfl rfl dX8_areaAt_2 ?_
  refine ja_iload_n (i := 1) dX8_areaAt_5 rfl rfl ?_
  refine ja_cSr (st := []) (s_isLayerT l (by omega)) rfl rfl (ce_X8_isLayer 0 0) st_X8_isLayer lk_X8_106 ⟨(Nat.le_of_ble_eq_true rfl), (Nat.le_of_ble_eq_true rfl)⟩ dX8_areaAt_6 rfl rfl (Nat.le_of_ble_eq_true rfl) (Nat.zero_le _) (Nat.zero_le _) ?_
  refine ja_ifB_eq (tgt := 32) dX8_areaAt_9 (by decide) (fun c9 => absurd c9 (by decide)) (fun c9 => ?_)
  refine ja_iload_n (i := 2) dX8_areaAt_12 rfl rfl ?_
  refine ja_iconst (v := nI 0) dX8_areaAt_13 (by decide +kernel) ?_
  refine ja_sipush (v := nI 255) dX8_areaAt_14 (by decide +kernel) ?_
  refine ja_cSr (st := []) (s_inF l (q) (nI (0)) (nI (255)) hq) rfl rfl (ce_X8_in 0 0) st_X8_in lk_X8_88 ⟨(Nat.le_of_ble_eq_true rfl), (Nat.le_of_ble_eq_true rfl)⟩ dX8_areaAt_17 rfl rfl (Nat.le_of_ble_eq_true rfl) (Nat.zero_le _) (Nat.zero_le _) ?_
  refine ja_ifB_eq (tgt := 32) dX8_areaAt_20 (by decide) (fun c20 => ?_) (fun c20 => absurd c20 (by decide))
  refine ja_aload_n (i := 0) dX8_areaAt_32 rfl rfl ?_
  refine ja_iconst (v := nI 1) dX8_areaAt_33 (by decide +kernel) ?_
  refine ja_cVd (st := []) (s_fails l hz (nI (1))) rfl rfl (ce_X8_fails 0 0) im_X8_fails se_X8_fails lk_X8_96 k_X8 (zM_s hz) ⟨(Nat.le_of_ble_eq_true rfl), (Nat.le_of_ble_eq_true rfl)⟩ dX8_areaAt_34 rfl rfl (Nat.le_of_ble_eq_true rfl) (Nat.zero_le _) (Nat.zero_le _) ?_
  intro D34 hD34
  subst hD34
  refine ja_num (D2 := ja_up D 100 0 (nI (1))) up_2 ?_
  refine ja_iret rfl rfl dX8_areaAt_37 (Nat.zero_le _) (Nat.zero_le _) ?_
  exact ⟨rfl, rfl, rfl⟩

set_option maxRecDepth 100000 in
set_option maxHeartbeats 4000000 in
theorem r_areaAt_ok (l : Launch) {Z : jZ} {D : jD} (hz : zM Z) {ly q : Nat} (h1 : ly < 3) (h2 : q < 256) : ja_M l (mX8_areaAt 0 0) [.ref (100), .int (nI (ly)), .int (nI (q))] Z D (ja_jd (some (.int (D 105 (256 * ly + q)))) Z (fun D2 => D2 = ja_up D 100 0 (nI 0))) ja_x0 := by
  refine ja_Mof (lv := [some (.ref (100)), some (.int (nI (ly))), some (.int (nI (q)))]) (by decide +kernel) rfl rfl (Nat.le_of_ble_eq_true rfl) rfl ?_
  refine ja_aload_n (i := 0) dX8_areaAt_0 rfl rfl ?_
  refine ja_iconst (v := nI 0) dX8_areaAt_1 (by decide +kernel) ?_
  refine ja_putI fl_X8_85 (zM_s hz) rfl rfl rfl dX8_areaAt_2 ?_
  refine ja_iload_n (i := 1) dX8_areaAt_5 rfl rfl ?_
  refine ja_cSr (st := []) (s_isLayerT l (by omega)) rfl rfl (ce_X8_isLayer 0 0) st_X8_isLayer lk_X8_106 ⟨(Nat.le_of_ble_eq_true rfl), (Nat.le_of_ble_eq_true rfl)⟩ dX8_areaAt_6 rfl rfl (Nat.le_of_ble_eq_true rfl) (Nat.zero_le _) (Nat.zero_le _) ?_
  refine ja_ifB_eq (tgt := 32) dX8_areaAt_9 (by decide) (fun c9 => absurd c9 (by decide)) (fun c9 => ?_)
  refine ja_iload_n (i := 2) dX8_areaAt_12 rfl rfl ?_
  refine ja_iconst (v := nI 0) dX8_areaAt_13 (by decide +kernel) ?_
  refine ja_sipush (v := nI 255) dX8_areaAt_14 (by decide +kernel) ?_
  refine ja_cSr (st := []) (s_inT l (q) 0 255 (by omega) (by omega) (by omega)) rfl rfl (ce_X8_in 0 0) st_X8_in lk_X8_88 ⟨(Nat.le_of_ble_eq_true rfl), (Nat.le_of_ble_eq_true rfl)⟩ dX8_areaAt_17 rfl rfl (Nat.le_of_ble_eq_true rfl) (Nat.zero_le _) (Nat.zero_le _) ?_
  refine ja_ifB_eq (tgt := 32) dX8_areaAt_20 (by decide) (fun c20 => absurd c20 (by decide)) (fun c20 => ?_)
  refine ja_aload_n (i := 0) dX8_areaAt_23 rfl rfl ?_
  refine ja_iload_n (i := 1) dX8_areaAt_24 rfl rfl ?_
  refine ja_iload_n (i := 2) dX8_areaAt_25 rfl rfl ?_
  refine ja_cVr (st := []) (s_at (D := (ja_up D 100 0 (nI (0)))) l hz (ly := ly) (q := q) (by omega) (by omega)) rfl rfl (ce_X8_at 0 0) im_X8_at se_X8_at lk_X8_92 k_X8 (zM_s hz) ⟨(Nat.le_of_ble_eq_true rfl), (Nat.le_of_ble_eq_true rfl)⟩ dX8_areaAt_26 rfl rfl (Nat.le_of_ble_eq_true rfl) (Nat.zero_le _) (Nat.zero_le _) ?_
  refine ja_goto (tgt := 37) dX8_areaAt_29 (by decide) ?_
  refine ja_iret rfl rfl dX8_areaAt_37 (Nat.zero_le _) (Nat.zero_le _) ?_
  exact ⟨rfl, rfl, rfl⟩

def rmQ (c : Nat → Int32) (a : Int32) (q s : Nat) : Nat := match nbM s q with
  | none => 1
  | some j => if c j = a then 0 else 1
def rmS (c : Nat → Int32) (a : Int32) (q : Nat) : Nat := if c q = a then fb_sm (rmQ c a q) 4 else 0
def rmT (c : Nat → Int32) (a : Int32) (n : Nat) : Nat := fb_sm (rmS c a) n
theorem rmQ_le (c : Nat → Int32) (a : Int32) (q s : Nat) : rmQ c a q s ≤ 1 := by
  unfold rmQ
  split
  · omega
  · split <;> omega
theorem rmS_le (c : Nat → Int32) (a : Int32) (q : Nat) : rmS c a q ≤ 4 := by
  unfold rmS
  split
  · exact fb_sm_bound (fun k _ => rmQ_le c a q k)
  · omega
theorem rmT_le (c : Nat → Int32) (a : Int32) (n : Nat) : rmT c a n ≤ n * 4 := fb_sm_bound (fun k _ => rmS_le c a k)
/-- a layer as a map of colours -/
def lyr (f : Nat → Int32) (ly : Nat) (q : Nat) : Int32 := f (256 * ly + q)

set_option maxRecDepth 100000 in
set_option maxHeartbeats 4000000 in
theorem r_rim_f1 (l : Launch) {Z : jZ} {D : jD} (hz : zM Z) {ly a : Int32} (hl : ¬ (nI 0 ≤ ly ∧ ly ≤ nI 2)) : ja_M l (mX8_rim 0 0) [.ref (100), .int (ly), .int (a)] Z D (ja_jd (some (.int (nI 0))) Z (fun D2 => D2 = ja_up D 100 0 (nI 1))) ja_x0 := by
  refine ja_Mof (lv := [some (.ref (100)), some (.int (ly)), some (.int (a)), none, none, none, none]) (by decide +kernel) rfl rfl (Nat.le_of_ble_eq_true rfl) rfl ?_
  refine ja_aload_n (i := 0) dX8_rim_0 rfl rfl ?_
  refine ja_iload_n (i := 1) dX8_rim_1 rfl rfl ?_
  refine ja_iload_n (i := 2) dX8_rim_2 rfl rfl ?_
  refine ja_cVd (st := []) (s_looksF1 l hz (a := a) hl) rfl rfl (ce_X8_looks 0 0) im_X8_looks se_X8_looks lk_X8_136 k_X8 (zM_s hz) ⟨(Nat.le_of_ble_eq_true rfl), (Nat.le_of_ble_eq_true rfl)⟩ dX8_rim_3 rfl rfl (Nat.le_of_ble_eq_true rfl) (Nat.zero_le _) (Nat.zero_le _) ?_
  intro D3 hD3
  subst hD3
  refine ja_ifB_ne (tgt := 11) dX8_rim_6 (by decide) (fun c6 => absurd c6 (by decide)) (fun c6 => ?_)
  refine ja_iconst (v := nI 0) dX8_rim_9 (by decide +kernel) ?_
  refine ja_iret rfl rfl dX8_rim_10 (Nat.zero_le _) (Nat.zero_le _) ?_
  exact ⟨rfl, rfl, rfl⟩

set_option maxRecDepth 100000 in
set_option maxHeartbeats 4000000 in
theorem r_rim_f2 (l : Launch) {Z : jZ} {D : jD} (hz : zM Z) {ly : Nat} {a : Int32} (h1 : ly < 3) (ha : ¬ (nI 0 ≤ a ∧ a ≤ nI 9)) : ja_M l (mX8_rim 0 0) [.ref (100), .int (nI (ly)), .int (a)] Z D (ja_jd (some (.int (nI 0))) Z (fun D2 => D2 = ja_up D 100 0 (nI 2))) ja_x0 := by
  refine ja_Mof (lv := [some (.ref (100)), some (.int (nI (ly))), some (.int (a)), none, none, none, none]) (by decide +kernel) rfl rfl (Nat.le_of_ble_eq_true rfl) rfl ?_
  refine ja_aload_n (i := 0) dX8_rim_0 rfl rfl ?_
  refine ja_iload_n (i := 1) dX8_rim_1 rfl rfl ?_
  refine ja_iload_n (i := 2) dX8_rim_2 rfl rfl ?_
  refine ja_cVd (st := []) (s_looksF2 l hz (by omega) ha) rfl rfl (ce_X8_looks 0 0) im_X8_looks se_X8_looks lk_X8_136 k_X8 (zM_s hz) ⟨(Nat.le_of_ble_eq_true rfl), (Nat.le_of_ble_eq_true rfl)⟩ dX8_rim_3 rfl rfl (Nat.le_of_ble_eq_true rfl) (Nat.zero_le _) (Nat.zero_le _) ?_
  intro D3 hD3
  subst hD3
  refine ja_ifB_ne (tgt := 11) dX8_rim_6 (by decide) (fun c6 => absurd c6 (by decide)) (fun c6 => ?_)
  refine ja_iconst (v := nI 0) dX8_rim_9 (by decide +kernel) ?_
  refine ja_iret rfl rfl dX8_rim_10 (Nat.zero_le _) (Nat.zero_le _) ?_
  exact ⟨rfl, rfl, rfl⟩

set_option maxRecDepth 100000 in
set_option maxHeartbeats 4000000 in
theorem r_rim_ok (l : Launch) {Z : jZ} {D : jD} (hz : zM Z) {ly a : Nat} (h1 : ly < 3) (h2 : a < 10) : ja_M l (mX8_rim 0 0) [.ref (100), .int (nI (ly)), .int (nI (a))] Z D (ja_jd (some (.int (nI (rmT (lyr (D 105) ly) (nI a) 256)))) Z (fun D2 => D2 = ja_up D 100 0 (nI 0))) ja_x0 := by
  refine ja_Mof (lv := [some (.ref (100)), some (.int (nI (ly))), some (.int (nI (a))), none, none, none, none]) (by decide +kernel) rfl rfl (Nat.le_of_ble_eq_true rfl) rfl ?_
  refine ja_aload_n (i := 0) dX8_rim_0 rfl rfl ?_
  refine ja_iload_n (i := 1) dX8_rim_1 rfl rfl ?_
  refine ja_iload_n (i := 2) dX8_rim_2 rfl rfl ?_
  refine ja_cVd (st := []) (s_looksT l hz (by omega) (by omega)) rfl rfl (ce_X8_looks 0 0) im_X8_looks se_X8_looks lk_X8_136 k_X8 (zM_s hz) ⟨(Nat.le_of_ble_eq_true rfl), (Nat.le_of_ble_eq_true rfl)⟩ dX8_rim_3 rfl rfl (Nat.le_of_ble_eq_true rfl) (Nat.zero_le _) (Nat.zero_le _) ?_
  intro D3 hD3
  subst hD3
  refine ja_ifB_ne (tgt := 11) dX8_rim_6 (by decide) (fun c6 => ?_) (fun c6 => absurd c6 (by decide))
  refine ja_iconst (v := nI 0) dX8_rim_11 (by decide +kernel) ?_
  refine ja_istore_n (i := 3) dX8_rim_12 rfl rfl (Nat.le_of_ble_eq_true rfl) ?_
  refine ja_iconst (v := nI 0) dX8_rim_13 (by decide +kernel) ?_
  refine ja_istore (i := 4) dX8_rim_14 rfl (Nat.le_of_ble_eq_true rfl) ?_
  have lp16 : ∀ (k16 : Nat) (q n : Nat), (256 < q + k16) → (q ≤ 256) → (n = rmT (lyr ((ja_up D 100 0 (nI 0)) 105) ly) (nI a) q) → ja_A l (mX8_rim 0 0) ja_sn (ja_Qf (mX8_rim 0 0) (ja_jd (some (.int (nI (rmT (lyr (D 105) ly) (nI a) 256)))) Z (fun D2 => D2 = ja_up D 100 0 (nI 0))) ja_x0) 16 [some (.ref (100)), some (.int (nI (ly))), some (.int (nI (a))), some (.int (nI (n))), some (.int (nI (q))), none, none] [] Z (ja_up D 100 0 (nI 0)) 0 0 := by
    intro k16
    induction k16 with
    | zero => intro q n hk hq hn; exfalso; omega
    | succ k16 ih16 =>
      intro q n hk hq hn
      refine ja_iload (i := 4) dX8_rim_16 rfl ?_
      refine ja_sipush (v := nI 256) dX8_rim_18 (by decide +kernel) ?_
      refine ja_icmpN_ge (tgt := 90) dX8_rim_21 (by decide) (by omega) (by omega) (fun c21 => ?_) (fun c21 => ?_)
      ·
        refine ja_iload_n (i := 3) dX8_rim_90 rfl rfl ?_
        refine ja_iret rfl rfl dX8_rim_91 (Nat.zero_le _) (Nat.zero_le _) ?_
        refine ⟨?_, rfl, rfl⟩
        rw [hn, show q = 256 by omega]
        rfl
      ·
        refine ja_iconst (v := nI 0) dX8_rim_24 (by decide +kernel) ?_
        refine ja_istore (i := 5) dX8_rim_25 rfl (Nat.le_of_ble_eq_true rfl) ?_
        have lp27 : ∀ (k27 : Nat) (s n2 : Nat), (4 < s + k27) → (s ≤ 4) → (n2 = rmT (lyr ((ja_up D 100 0 (nI 0)) 105) ly) (nI a) q + fb_sm (rmQ (lyr ((ja_up D 100 0 (nI 0)) 105) ly) (nI a) q) s) → (s = 0 ∨ (lyr ((ja_up D 100 0 (nI 0)) 105) ly) q = nI a) → ja_A l (mX8_rim 0 0) ja_sn (ja_Qf (mX8_rim 0 0) (ja_jd (some (.int (nI (rmT (lyr (D 105) ly) (nI a) 256)))) Z (fun D2 => D2 = ja_up D 100 0 (nI 0))) ja_x0) 27 [some (.ref (100)), some (.int (nI (ly))), some (.int (nI (a))), some (.int (nI (n2))), some (.int (nI (q))), some (.int (nI (s))), none] [] Z (ja_up D 100 0 (nI 0)) 0 0 := by
          intro k27
          induction k27 with
          | zero => intro s n2 hj4 hs4 hn2 hs0; exfalso; omega
          | succ k27 ih27 =>
            intro s n2 hj4 hs4 hn2 hs0
            refine ja_iload (i := 5) dX8_rim_27 rfl ?_
            refine ja_iconst (v := nI 4) dX8_rim_29 (by decide +kernel) ?_
            refine ja_icmpN_ge (tgt := 84) dX8_rim_30 (by decide) (by omega) (by omega) (fun c30 => ?_) (fun c30 => ?_)
            ·
              refine ja_iincN dX8_rim_84 rfl rfl (Nat.le_of_ble_eq_true rfl) ?_
              refine ja_goto (tgt := 16) dX8_rim_87 (by decide) ?_
              refine ja_forget (i := 5) ?_
              exact ih16 (q + 1) _ (by omega) (by omega) (by rw [hn2]; unfold rmT; rw [fb_sm_succ]; unfold rmS; first | (rw [if_neg (show ¬ (lyr ((ja_up D 100 0 (nI 0)) 105) ly) q = nI a from c41)]; rcases hs0 with e | e; exact (by rw [e]; rfl); exact absurd e c41) | (rw [if_pos (hs0.resolve_left (by omega)), show s = 4 by omega]))
            ·
              refine ja_aload_n (i := 0) dX8_rim_33 rfl rfl ?_
              refine ja_iload_n (i := 1) dX8_rim_34 rfl rfl ?_
              refine ja_iload (i := 4) dX8_rim_35 rfl ?_
              refine ja_cVr (st := []) (s_at (D := (ja_up D 100 0 (nI 0))) l hz (ly := ly) (q := q) (by omega) (by omega)) rfl rfl (ce_X8_at 0 0) im_X8_at se_X8_at lk_X8_92 k_X8 (zM_s hz) ⟨(Nat.le_of_ble_eq_true rfl), (Nat.le_of_ble_eq_true rfl)⟩ dX8_rim_37 rfl rfl (Nat.le_of_ble_eq_true rfl) (Nat.zero_le _) (Nat.zero_le _) ?_
              refine ja_iload_n (i := 2) dX8_rim_40 rfl rfl ?_
              refine ja_icmp_ne (tgt := 84) dX8_rim_41 (by decide) (fun c41 => ?_) (fun c41 => ?_)
              ·
                refine ja_iincN dX8_rim_84 rfl rfl (Nat.le_of_ble_eq_true rfl) ?_
                refine ja_goto (tgt := 16) dX8_rim_87 (by decide) ?_
                refine ja_forget (i := 5) ?_
                exact ih16 (q + 1) _ (by omega) (by omega) (by rw [hn2]; unfold rmT; rw [fb_sm_succ]; unfold rmS; first | (rw [if_neg (show ¬ (lyr ((ja_up D 100 0 (nI 0)) 105) ly) q = nI a from c41)]; rcases hs0 with e | e; exact (by rw [e]; rfl); exact absurd e c41) | (rw [if_pos (hs0.resolve_left (by omega)), show s = 4 by omega]))
              ·
                refine ja_iload (i := 4) dX8_rim_44 rfl ?_
                refine ja_iload (i := 5) dX8_rim_46 rfl ?_
                refine ja_cSr (st := []) (s_beside l (q := q) (side := s) (by omega) (by omega)) rfl rfl (ce_X8_beside 0 0) st_X8_beside lk_X8_129 ⟨(Nat.le_of_ble_eq_true rfl), (Nat.le_of_ble_eq_true rfl)⟩ dX8_rim_48 rfl rfl (Nat.le_of_ble_eq_true rfl) (Nat.zero_le _) (Nat.zero_le _) ?_
                refine ja_istore (i := 6) dX8_rim_51 rfl (Nat.le_of_ble_eq_true rfl) ?_
                rcases hnb : nbM s q with _ | j
                ·
                  refine ja_iload_n (i := 3) dX8_rim_53 rfl rfl ?_
                  refine ja_iload (i := 6) dX8_rim_54 rfl ?_
                  refine ja_iconst (v := (-1)) dX8_rim_56 (by decide +kernel) ?_
                  refine ja_icmp_eq (tgt := 71) dX8_rim_57 (by decide) (fun c57 => ?_) (fun c57 => absurd rfl c57)
                  refine ja_iconst (v := nI 1) dX8_rim_71 (by decide +kernel) ?_
                  refine ja_goto (tgt := 76) dX8_rim_72 (by decide) ?_
                  refine ja_iaddN dX8_rim_76 ?_
                  refine ja_istore_n (i := 3) dX8_rim_77 rfl rfl (Nat.le_of_ble_eq_true rfl) ?_
                  refine ja_iincN dX8_rim_78 rfl rfl (Nat.le_of_ble_eq_true rfl) ?_
                  refine ja_goto (tgt := 27) dX8_rim_81 (by decide) ?_
                  refine ja_forget (i := 6) ?_
                  exact ih27 (s + 1) _ (by omega) (by omega) (by rw [hn2, fb_sm_succ]; simp only [rmQ, hnb]; first | rfl | (rw [if_pos (show (lyr ((ja_up D 100 0 (nI 0)) 105) ly) j = nI a from c68)]; exact Nat.add_assoc _ _ _) | (rw [if_neg (show ¬ (lyr ((ja_up D 100 0 (nI 0)) 105) ly) j = nI a from c68)]; rfl)) (Or.inr c41)
                ·
                  have hj := nbM_lt (by omega) hnb
                  refine ja_iload_n (i := 3) dX8_rim_53 rfl rfl ?_
                  refine ja_iload (i := 6) dX8_rim_54 rfl ?_
                  refine ja_iconst (v := (-1)) dX8_rim_56 (by decide +kernel) ?_
                  refine ja_icmp_eq (tgt := 71) dX8_rim_57 (by decide) (fun c57 => absurd c57 (nI_nm1 (by omega))) (fun c57 => ?_)
                  refine ja_aload_n (i := 0) dX8_rim_60 rfl rfl ?_
                  refine ja_iload_n (i := 1) dX8_rim_61 rfl rfl ?_
                  refine ja_iload (i := 6) dX8_rim_62 rfl ?_
                  refine ja_cVr (st := [.int (nI (n2))]) (s_at (D := (ja_up D 100 0 (nI 0))) l hz (ly := ly) (q := j) (by omega) (by omega)) rfl rfl (ce_X8_at 0 0) im_X8_at se_X8_at lk_X8_92 k_X8 (zM_s hz) ⟨(Nat.le_of_ble_eq_true rfl), (Nat.le_of_ble_eq_true rfl)⟩ dX8_rim_64 rfl rfl (Nat.le_of_ble_eq_true rfl) (Nat.zero_le _) (Nat.zero_le _) ?_
                  refine ja_iload_n (i := 2) dX8_rim_67 rfl rfl ?_
                  refine ja_icmp_eq (tgt := 75) dX8_rim_68 (by decide) (fun c68 => ?_) (fun c68 => ?_)
                  ·
                    refine ja_iconst (v := nI 0) dX8_rim_75 (by decide +kernel) ?_
                    refine ja_iaddN dX8_rim_76 ?_
                    refine ja_istore_n (i := 3) dX8_rim_77 rfl rfl (Nat.le_of_ble_eq_true rfl) ?_
                    refine ja_iincN dX8_rim_78 rfl rfl (Nat.le_of_ble_eq_true rfl) ?_
                    refine ja_goto (tgt := 27) dX8_rim_81 (by decide) ?_
                    refine ja_forget (i := 6) ?_
                    exact ih27 (s + 1) _ (by omega) (by omega) (by rw [hn2, fb_sm_succ]; simp only [rmQ, hnb]; first | rfl | (rw [if_pos (show (lyr ((ja_up D 100 0 (nI 0)) 105) ly) j = nI a from c68)]; exact Nat.add_assoc _ _ _) | (rw [if_neg (show ¬ (lyr ((ja_up D 100 0 (nI 0)) 105) ly) j = nI a from c68)]; rfl)) (Or.inr c41)
                  ·
                    refine ja_iconst (v := nI 1) dX8_rim_71 (by decide +kernel) ?_
                    refine ja_goto (tgt := 76) dX8_rim_72 (by decide) ?_
                    refine ja_iaddN dX8_rim_76 ?_
                    refine ja_istore_n (i := 3) dX8_rim_77 rfl rfl (Nat.le_of_ble_eq_true rfl) ?_
                    refine ja_iincN dX8_rim_78 rfl rfl (Nat.le_of_ble_eq_true rfl) ?_
                    refine ja_goto (tgt := 27) dX8_rim_81 (by decide) ?_
                    refine ja_forget (i := 6) ?_
                    exact ih27 (s + 1) _ (by omega) (by omega) (by rw [hn2, fb_sm_succ]; simp only [rmQ, hnb]; first | rfl | (rw [if_pos (show (lyr ((ja_up D 100 0 (nI 0)) 105) ly) j = nI a from c68)]; exact Nat.add_assoc _ _ _) | (rw [if_neg (show ¬ (lyr ((ja_up D 100 0 (nI 0)) 105) ly) j = nI a from c68)]; rfl)) (Or.inr c41)
        exact lp27 5 0 _ (by omega) (by omega) hn (Or.inl rfl)
  exact lp16 257 0 0 (by omega) (by omega) rfl

set_option maxRecDepth 100000 in
set_option maxHeartbeats 4000000 in
theorem r_border_f1 (l : Launch) {Z : jZ} {D : jD} (hz : zM Z) {ly a : Int32} (o : Int32) (hl : ¬ (nI 0 ≤ ly ∧ ly ≤ nI 2)) : ja_M l (mX8_border 0 0) [.ref (100), .int (ly), .int (a), .int (o)] Z D (ja_jd (some (.int (nI 0))) Z (fun D2 => D2 = ja_up D 100 0 (nI 1))) ja_x0 := by
  refine ja_Mof (lv := [some (.ref (100)), some (.int (ly)), some (.int (a)), some (.int (o)), none, none, none, none]) (by decide +kernel) rfl rfl (Nat.le_of_ble_eq_true rfl) rfl ?_
  refine ja_aload_n (i := 0) dX8_border_0 rfl rfl ?_
  refine ja_iload_n (i := 1) dX8_border_1 rfl rfl ?_
  refine ja_iload_n (i := 2) dX8_border_2 rfl rfl ?_
  refine ja_cVd (st := []) (s_looksF1 l hz (a := a) hl) rfl rfl (ce_X8_looks 0 0) im_X8_looks se_X8_looks lk_X8_136 k_X8 (zM_s hz) ⟨(Nat.le_of_ble_eq_true rfl), (Nat.le_of_ble_eq_true rfl)⟩ dX8_border_3 rfl rfl (Nat.le_of_ble_eq_true rfl) (Nat.zero_le _) (Nat.zero_le _) ?_
  intro D3 hD3
  subst hD3
  refine ja_ifB_ne (tgt := 11) dX8_border_6 (by decide) (fun c6 => absurd c6 (by decide)) (fun c6 => ?_)
  refine ja_iconst (v := nI 0) dX8_border_9 (by decide +kernel) ?_
  refine ja_iret rfl rfl dX8_border_10 (Nat.zero_le _) (Nat.zero_le _) ?_
  exact ⟨rfl, rfl, rfl⟩

set_option maxRecDepth 100000 in
set_option maxHeartbeats 4000000 in
theorem r_border_f2 (l : Launch) {Z : jZ} {D : jD} (hz : zM Z) {ly : Nat} {a : Int32} (o : Int32) (h1 : ly < 3) (ha : ¬ (nI 0 ≤ a ∧ a ≤ nI 9)) : ja_M l (mX8_border 0 0) [.ref (100), .int (nI (ly)), .int (a), .int (o)] Z D (ja_jd (some (.int (nI 0))) Z (fun D2 => D2 = ja_up D 100 0 (nI 2))) ja_x0 := by
  refine ja_Mof (lv := [some (.ref (100)), some (.int (nI (ly))), some (.int (a)), some (.int (o)), none, none, none, none]) (by decide +kernel) rfl rfl (Nat.le_of_ble_eq_true rfl) rfl ?_
  refine ja_aload_n (i := 0) dX8_border_0 rfl rfl ?_
  refine ja_iload_n (i := 1) dX8_border_1 rfl rfl ?_
  refine ja_iload_n (i := 2) dX8_border_2 rfl rfl ?_
  refine ja_cVd (st := []) (s_looksF2 l hz (by omega) ha) rfl rfl (ce_X8_looks 0 0) im_X8_looks se_X8_looks lk_X8_136 k_X8 (zM_s hz) ⟨(Nat.le_of_ble_eq_true rfl), (Nat.le_of_ble_eq_true rfl)⟩ dX8_border_3 rfl rfl (Nat.le_of_ble_eq_true rfl) (Nat.zero_le _) (Nat.zero_le _) ?_
  intro D3 hD3
  subst hD3
  refine ja_ifB_ne (tgt := 11) dX8_border_6 (by decide) (fun c6 => absurd c6 (by decide)) (fun c6 => ?_)
  refine ja_iconst (v := nI 0) dX8_border_9 (by decide +kernel) ?_
  refine ja_iret rfl rfl dX8_border_10 (Nat.zero_le _) (Nat.zero_le _) ?_
  exact ⟨rfl, rfl, rfl⟩

set_option maxRecDepth 100000 in
set_option maxHeartbeats 4000000 in
theorem r_border_f2b (l : Launch) {Z : jZ} {D : jD} (hz : zM Z) {ly a : Nat} (h1 : ly < 3) (h2 : a < 10) {o : Int32} (ho : ¬ (nI 0 ≤ o ∧ o ≤ nI 9)) : ja_M l (mX8_border 0 0) [.ref (100), .int (nI (ly)), .int (nI (a)), .int (o)] Z D (ja_jd (some (.int (nI 0))) Z (fun D2 => D2 = ja_up D 100 0 (nI 2))) ja_x0 := by
  refine ja_Mof (lv := [some (.ref (100)), some (.int (nI (ly))), some (.int (nI (a))), some (.int (o)), none, none, none, none]) (by decide +kernel) rfl rfl (Nat.le_of_ble_eq_true rfl) rfl ?_
  refine ja_aload_n (i := 0) dX8_border_0 rfl rfl ?_
  refine ja_iload_n (i := 1) dX8_border_1 rfl rfl ?_
  refine ja_iload_n (i := 2) dX8_border_2 rfl rfl ?_
  refine ja_cVd (st := []) (s_looksT l hz (by omega) (by omega)) rfl rfl (ce_X8_looks 0 0) im_X8_looks se_X8_looks lk_X8_136 k_X8 (zM_s hz) ⟨(Nat.le_of_ble_eq_true rfl), (Nat.le_of_ble_eq_true rfl)⟩ dX8_border_3 rfl rfl (Nat.le_of_ble_eq_true rfl) (Nat.zero_le _) (Nat.zero_le _) ?_
  intro D3 hD3
  subst hD3
  refine ja_ifB_ne (tgt := 11) dX8_border_6 (by decide) (fun c6 => ?_) (fun c6 => absurd c6 (by decide))
  refine ja_iload_n (i := 3) dX8_border_11 rfl rfl ?_
  refine ja_cSr (st := []) (s_isAreaF l ho) rfl rfl (ce_X8_isArea 0 0) st_X8_isArea lk_X8_110 ⟨(Nat.le_of_ble_eq_true rfl), (Nat.le_of_ble_eq_true rfl)⟩ dX8_border_12 rfl rfl (Nat.le_of_ble_eq_true rfl) (Nat.zero_le _) (Nat.zero_le _) ?_
  refine ja_ifB_eq (tgt := 23) dX8_border_15 (by decide) (fun c15 => ?_) (fun c15 => absurd c15 (by decide))
  refine ja_aload_n (i := 0) dX8_border_23 rfl rfl ?_
  refine ja_iconst (v := nI 2) dX8_border_24 (by decide +kernel) ?_
  refine ja_cVd (st := []) (s_fails l hz (nI (2))) rfl rfl (ce_X8_fails 0 0) im_X8_fails se_X8_fails lk_X8_96 k_X8 (zM_s hz) ⟨(Nat.le_of_ble_eq_true rfl), (Nat.le_of_ble_eq_true rfl)⟩ dX8_border_25 rfl rfl (Nat.le_of_ble_eq_true rfl) (Nat.zero_le _) (Nat.zero_le _) ?_
  intro D25 hD25
  subst hD25
  refine ja_num (D2 := ja_up D 100 0 (nI (2))) up_2 ?_
  refine ja_iret rfl rfl dX8_border_28 (Nat.zero_le _) (Nat.zero_le _) ?_
  exact ⟨rfl, rfl, rfl⟩

set_option maxRecDepth 100000 in
set_option maxHeartbeats 4000000 in
theorem r_border_f2c (l : Launch) {Z : jZ} {D : jD} (hz : zM Z) {ly a : Nat} (h1 : ly < 3) (h2 : a < 10) : ja_M l (mX8_border 0 0) [.ref (100), .int (nI (ly)), .int (nI (a)), .int (nI (a))] Z D (ja_jd (some (.int (nI 0))) Z (fun D2 => D2 = ja_up D 100 0 (nI 2))) ja_x0 := by
  refine ja_Mof (lv := [some (.ref (100)), some (.int (nI (ly))), some (.int (nI (a))), some (.int (nI (a))), none, none, none, none]) (by decide +kernel) rfl rfl (Nat.le_of_ble_eq_true rfl) rfl ?_
  refine ja_aload_n (i := 0) dX8_border_0 rfl rfl ?_
  refine ja_iload_n (i := 1) dX8_border_1 rfl rfl ?_
  refine ja_iload_n (i := 2) dX8_border_2 rfl rfl ?_
  refine ja_cVd (st := []) (s_looksT l hz (by omega) (by omega)) rfl rfl (ce_X8_looks 0 0) im_X8_looks se_X8_looks lk_X8_136 k_X8 (zM_s hz) ⟨(Nat.le_of_ble_eq_true rfl), (Nat.le_of_ble_eq_true rfl)⟩ dX8_border_3 rfl rfl (Nat.le_of_ble_eq_true rfl) (Nat.zero_le _) (Nat.zero_le _) ?_
  intro D3 hD3
  subst hD3
  refine ja_ifB_ne (tgt := 11) dX8_border_6 (by decide) (fun c6 => ?_) (fun c6 => absurd c6 (by decide))
  refine ja_iload_n (i := 3) dX8_border_11 rfl rfl ?_
  refine ja_cSr (st := []) (s_isAreaT l (by omega)) rfl rfl (ce_X8_isArea 0 0) st_X8_isArea lk_X8_110 ⟨(Nat.le_of_ble_eq_true rfl), (Nat.le_of_ble_eq_true rfl)⟩ dX8_border_12 rfl rfl (Nat.le_of_ble_eq_true rfl) (Nat.zero_le _) (Nat.zero_le _) ?_
  refine ja_ifB_eq (tgt := 23) dX8_border_15 (by decide) (fun c15 => absurd c15 (by decide)) (fun c15 => ?_)
  refine ja_iload_n (i := 2) dX8_border_18 rfl rfl ?_
  refine ja_iload_n (i := 3) dX8_border_19 rfl rfl ?_
  refine ja_icmpN_ne (tgt := 29) dX8_border_20 (by decide) (by omega) (by omega) (fun c20 => (by exfalso; omega)) (fun c20 => ?_)
  refine ja_aload_n (i := 0) dX8_border_23 rfl rfl ?_
  refine ja_iconst (v := nI 2) dX8_border_24 (by decide +kernel) ?_
  refine ja_cVd (st := []) (s_fails l hz (nI (2))) rfl rfl (ce_X8_fails 0 0) im_X8_fails se_X8_fails lk_X8_96 k_X8 (zM_s hz) ⟨(Nat.le_of_ble_eq_true rfl), (Nat.le_of_ble_eq_true rfl)⟩ dX8_border_25 rfl rfl (Nat.le_of_ble_eq_true rfl) (Nat.zero_le _) (Nat.zero_le _) ?_
  intro D25 hD25
  subst hD25
  refine ja_num (D2 := ja_up D 100 0 (nI (2))) up_2 ?_
  refine ja_iret rfl rfl dX8_border_28 (Nat.zero_le _) (Nat.zero_le _) ?_
  exact ⟨rfl, rfl, rfl⟩

set_option maxRecDepth 100000 in
set_option maxHeartbeats 4000000 in
theorem r_border_ok (l : Launch) {Z : jZ} {D : jD} (hz : zM Z) {ly a o : Nat} (h1 : ly < 3) (h2 : a < 10) (h3 : o < 10) (h4 : a ≠ o) : ja_M l (mX8_border 0 0) [.ref (100), .int (nI (ly)), .int (nI (a)), .int (nI (o))] Z D (ja_jd (some (.int (nI (bd (lyr (D 105) ly) (nI a) (nI o) 256)))) Z (fun D2 => D2 = ja_up D 100 0 (nI 0))) ja_x0 := by
  refine ja_Mof (lv := [some (.ref (100)), some (.int (nI (ly))), some (.int (nI (a))), some (.int (nI (o))), none, none, none, none]) (by decide +kernel) rfl rfl (Nat.le_of_ble_eq_true rfl) rfl ?_
  refine ja_aload_n (i := 0) dX8_border_0 rfl rfl ?_
  refine ja_iload_n (i := 1) dX8_border_1 rfl rfl ?_
  refine ja_iload_n (i := 2) dX8_border_2 rfl rfl ?_
  refine ja_cVd (st := []) (s_looksT l hz (by omega) (by omega)) rfl rfl (ce_X8_looks 0 0) im_X8_looks se_X8_looks lk_X8_136 k_X8 (zM_s hz) ⟨(Nat.le_of_ble_eq_true rfl), (Nat.le_of_ble_eq_true rfl)⟩ dX8_border_3 rfl rfl (Nat.le_of_ble_eq_true rfl) (Nat.zero_le _) (Nat.zero_le _) ?_
  intro D3 hD3
  subst hD3
  refine ja_ifB_ne (tgt := 11) dX8_border_6 (by decide) (fun c6 => ?_) (fun c6 => absurd c6 (by decide))
  refine ja_iload_n (i := 3) dX8_border_11 rfl rfl ?_
  refine ja_cSr (st := []) (s_isAreaT l (by omega)) rfl rfl (ce_X8_isArea 0 0) st_X8_isArea lk_X8_110 ⟨(Nat.le_of_ble_eq_true rfl), (Nat.le_of_ble_eq_true rfl)⟩ dX8_border_12 rfl rfl (Nat.le_of_ble_eq_true rfl) (Nat.zero_le _) (Nat.zero_le _) ?_
  refine ja_ifB_eq (tgt := 23) dX8_border_15 (by decide) (fun c15 => absurd c15 (by decide)) (fun c15 => ?_)
  refine ja_iload_n (i := 2) dX8_border_18 rfl rfl ?_
  refine ja_iload_n (i := 3) dX8_border_19 rfl rfl ?_
  refine ja_icmpN_ne (tgt := 29) dX8_border_20 (by decide) (by omega) (by omega) (fun c20 => ?_) (fun c20 => (by exfalso; omega))
  refine ja_iconst (v := nI 0) dX8_border_29 (by decide +kernel) ?_
  refine ja_istore (i := 4) dX8_border_30 rfl (Nat.le_of_ble_eq_true rfl) ?_
  refine ja_iconst (v := nI 0) dX8_border_32 (by decide +kernel) ?_
  refine ja_istore (i := 5) dX8_border_33 rfl (Nat.le_of_ble_eq_true rfl) ?_
  have lp35 : ∀ (k35 : Nat) (q n : Nat), (256 < q + k35) → (q ≤ 256) → (n = bd (lyr ((ja_up D 100 0 (nI 0)) 105) ly) (nI a) (nI o) q) → ja_A l (mX8_border 0 0) ja_sn (ja_Qf (mX8_border 0 0) (ja_jd (some (.int (nI (bd (lyr (D 105) ly) (nI a) (nI o) 256)))) Z (fun D2 => D2 = ja_up D 100 0 (nI 0))) ja_x0) 35 [some (.ref (100)), some (.int (nI (ly))), some (.int (nI (a))), some (.int (nI (o))), some (.int (nI (n))), some (.int (nI (q))), none, none] [] Z (ja_up D 100 0 (nI 0)) 0 0 := by
    intro k35
    induction k35 with
    | zero => intro q n hk hq hn; exfalso; omega
    | succ k35 ih35 =>
      intro q n hk hq hn
      refine ja_iload (i := 5) dX8_border_35 rfl ?_
      refine ja_sipush (v := nI 256) dX8_border_37 (by decide +kernel) ?_
      refine ja_icmpN_ge (tgt := 111) dX8_border_40 (by decide) (by omega) (by omega) (fun c40 => ?_) (fun c40 => ?_)
      ·
        refine ja_iload (i := 4) dX8_border_111 rfl ?_
        refine ja_iret rfl rfl dX8_border_113 (Nat.zero_le _) (Nat.zero_le _) ?_
        refine ⟨?_, rfl, rfl⟩
        rw [hn, show q = 256 by omega]
        rfl
      ·
        refine ja_iconst (v := nI 0) dX8_border_43 (by decide +kernel) ?_
        refine ja_istore (i := 6) dX8_border_44 rfl (Nat.le_of_ble_eq_true rfl) ?_
        have lp46 : ∀ (k46 : Nat) (s n2 : Nat), (4 < s + k46) → (s ≤ 4) → (n2 = bd (lyr ((ja_up D 100 0 (nI 0)) 105) ly) (nI a) (nI o) q + fb_sm (nbC (lyr ((ja_up D 100 0 (nI 0)) 105) ly) (nI o) q) s) → (s = 0 ∨ (lyr ((ja_up D 100 0 (nI 0)) 105) ly) q = nI a) → ja_A l (mX8_border 0 0) ja_sn (ja_Qf (mX8_border 0 0) (ja_jd (some (.int (nI (bd (lyr (D 105) ly) (nI a) (nI o) 256)))) Z (fun D2 => D2 = ja_up D 100 0 (nI 0))) ja_x0) 46 [some (.ref (100)), some (.int (nI (ly))), some (.int (nI (a))), some (.int (nI (o))), some (.int (nI (n2))), some (.int (nI (q))), some (.int (nI (s))), none] [] Z (ja_up D 100 0 (nI 0)) 0 0 := by
          intro k46
          induction k46 with
          | zero => intro s n2 hj4 hs4 hn2 hs0; exfalso; omega
          | succ k46 ih46 =>
            intro s n2 hj4 hs4 hn2 hs0
            refine ja_iload (i := 6) dX8_border_46 rfl ?_
            refine ja_iconst (v := nI 4) dX8_border_48 (by decide +kernel) ?_
            refine ja_icmpN_ge (tgt := 105) dX8_border_49 (by decide) (by omega) (by omega) (fun c49 => ?_) (fun c49 => ?_)
            ·
              refine ja_iincN dX8_border_105 rfl rfl (Nat.le_of_ble_eq_true rfl) ?_
              refine ja_goto (tgt := 35) dX8_border_108 (by decide) ?_
              refine ja_forget (i := 6) ?_
              exact ih35 (q + 1) _ (by omega) (by omega) (by rw [hn2]; unfold bd; rw [fb_sm_succ]; unfold bdQ; first | (rw [if_neg (show ¬ (lyr ((ja_up D 100 0 (nI 0)) 105) ly) q = nI a from c60)]; rcases hs0 with e | e; exact (by rw [e]; rfl); exact absurd e c60) | (rw [if_pos (hs0.resolve_left (by omega)), show s = 4 by omega]))
            ·
              refine ja_aload_n (i := 0) dX8_border_52 rfl rfl ?_
              refine ja_iload_n (i := 1) dX8_border_53 rfl rfl ?_
              refine ja_iload (i := 5) dX8_border_54 rfl ?_
              refine ja_cVr (st := []) (s_at (D := (ja_up D 100 0 (nI 0))) l hz (ly := ly) (q := q) (by omega) (by omega)) rfl rfl (ce_X8_at 0 0) im_X8_at se_X8_at lk_X8_92 k_X8 (zM_s hz) ⟨(Nat.le_of_ble_eq_true rfl), (Nat.le_of_ble_eq_true rfl)⟩ dX8_border_56 rfl rfl (Nat.le_of_ble_eq_true rfl) (Nat.zero_le _) (Nat.zero_le _) ?_
              refine ja_iload_n (i := 2) dX8_border_59 rfl rfl ?_
              refine ja_icmp_ne (tgt := 105) dX8_border_60 (by decide) (fun c60 => ?_) (fun c60 => ?_)
              ·
                refine ja_iincN dX8_border_105 rfl rfl (Nat.le_of_ble_eq_true rfl) ?_
                refine ja_goto (tgt := 35) dX8_border_108 (by decide) ?_
                refine ja_forget (i := 6) ?_
                exact ih35 (q + 1) _ (by omega) (by omega) (by rw [hn2]; unfold bd; rw [fb_sm_succ]; unfold bdQ; first | (rw [if_neg (show ¬ (lyr ((ja_up D 100 0 (nI 0)) 105) ly) q = nI a from c60)]; rcases hs0 with e | e; exact (by rw [e]; rfl); exact absurd e c60) | (rw [if_pos (hs0.resolve_left (by omega)), show s = 4 by omega]))
              ·
                refine ja_iload (i := 5) dX8_border_63 rfl ?_
                refine ja_iload (i := 6) dX8_border_65 rfl ?_
                refine ja_cSr (st := []) (s_beside l (q := q) (side := s) (by omega) (by omega)) rfl rfl (ce_X8_beside 0 0) st_X8_beside lk_X8_129 ⟨(Nat.le_of_ble_eq_true rfl), (Nat.le_of_ble_eq_true rfl)⟩ dX8_border_67 rfl rfl (Nat.le_of_ble_eq_true rfl) (Nat.zero_le _) (Nat.zero_le _) ?_
                refine ja_istore (i := 7) dX8_border_70 rfl (Nat.le_of_ble_eq_true rfl) ?_
                rcases hnb : nbM s q with _ | j
                ·
                  refine ja_iload (i := 4) dX8_border_72 rfl ?_
                  refine ja_iload (i := 7) dX8_border_74 rfl ?_
                  refine ja_iconst (v := (-1)) dX8_border_76 (by decide +kernel) ?_
                  refine ja_icmp_eq (tgt := 95) dX8_border_77 (by decide) (fun c77 => ?_) (fun c77 => absurd rfl c77)
                  refine ja_iconst (v := nI 0) dX8_border_95 (by decide +kernel) ?_
                  refine ja_iaddN dX8_border_96 ?_
                  refine ja_istore (i := 4) dX8_border_97 rfl (Nat.le_of_ble_eq_true rfl) ?_
                  refine ja_iincN dX8_border_99 rfl rfl (Nat.le_of_ble_eq_true rfl) ?_
                  refine ja_goto (tgt := 46) dX8_border_102 (by decide) ?_
                  refine ja_forget (i := 7) ?_
                  exact ih46 (s + 1) _ (by omega) (by omega) (by rw [hn2, fb_sm_succ]; simp only [nbC, hnb]; first | rfl | (rw [if_pos (show (lyr ((ja_up D 100 0 (nI 0)) 105) ly) j = nI o from c88)]; exact Nat.add_assoc _ _ _) | (rw [if_neg (show ¬ (lyr ((ja_up D 100 0 (nI 0)) 105) ly) j = nI o from c88)]; rfl)) (Or.inr c60)
                ·
                  have hj := nbM_lt (by omega) hnb
                  refine ja_iload (i := 4) dX8_border_72 rfl ?_
                  refine ja_iload (i := 7) dX8_border_74 rfl ?_
                  refine ja_iconst (v := (-1)) dX8_border_76 (by decide +kernel) ?_
                  refine ja_icmp_eq (tgt := 95) dX8_border_77 (by decide) (fun c77 => absurd c77 (nI_nm1 (by omega))) (fun c77 => ?_)
                  refine ja_aload_n (i := 0) dX8_border_80 rfl rfl ?_
                  refine ja_iload_n (i := 1) dX8_border_81 rfl rfl ?_
                  refine ja_iload (i := 7) dX8_border_82 rfl ?_
                  refine ja_cVr (st := [.int (nI (n2))]) (s_at (D := (ja_up D 100 0 (nI 0))) l hz (ly := ly) (q := j) (by omega) (by omega)) rfl rfl (ce_X8_at 0 0) im_X8_at se_X8_at lk_X8_92 k_X8 (zM_s hz) ⟨(Nat.le_of_ble_eq_true rfl), (Nat.le_of_ble_eq_true rfl)⟩ dX8_border_84 rfl rfl (Nat.le_of_ble_eq_true rfl) (Nat.zero_le _) (Nat.zero_le _) ?_
                  refine ja_iload_n (i := 3) dX8_border_87 rfl rfl ?_
                  refine ja_icmp_ne (tgt := 95) dX8_border_88 (by decide) (fun c88 => ?_) (fun c88 => ?_)
                  ·
                    refine ja_iconst (v := nI 0) dX8_border_95 (by decide +kernel) ?_
                    refine ja_iaddN dX8_border_96 ?_
                    refine ja_istore (i := 4) dX8_border_97 rfl (Nat.le_of_ble_eq_true rfl) ?_
                    refine ja_iincN dX8_border_99 rfl rfl (Nat.le_of_ble_eq_true rfl) ?_
                    refine ja_goto (tgt := 46) dX8_border_102 (by decide) ?_
                    refine ja_forget (i := 7) ?_
                    exact ih46 (s + 1) _ (by omega) (by omega) (by rw [hn2, fb_sm_succ]; simp only [nbC, hnb]; first | rfl | (rw [if_pos (show (lyr ((ja_up D 100 0 (nI 0)) 105) ly) j = nI o from c88)]; exact Nat.add_assoc _ _ _) | (rw [if_neg (show ¬ (lyr ((ja_up D 100 0 (nI 0)) 105) ly) j = nI o from c88)]; rfl)) (Or.inr c60)
                  ·
                    refine ja_iconst (v := nI 1) dX8_border_91 (by decide +kernel) ?_
                    refine ja_goto (tgt := 96) dX8_border_92 (by decide) ?_
                    refine ja_iaddN dX8_border_96 ?_
                    refine ja_istore (i := 4) dX8_border_97 rfl (Nat.le_of_ble_eq_true rfl) ?_
                    refine ja_iincN dX8_border_99 rfl rfl (Nat.le_of_ble_eq_true rfl) ?_
                    refine ja_goto (tgt := 46) dX8_border_102 (by decide) ?_
                    refine ja_forget (i := 7) ?_
                    exact ih46 (s + 1) _ (by omega) (by omega) (by rw [hn2, fb_sm_succ]; simp only [nbC, hnb]; first | rfl | (rw [if_pos (show (lyr ((ja_up D 100 0 (nI 0)) 105) ly) j = nI o from c88)]; exact Nat.add_assoc _ _ _) | (rw [if_neg (show ¬ (lyr ((ja_up D 100 0 (nI 0)) 105) ly) j = nI o from c88)]; rfl)) (Or.inr c60)
        exact lp46 5 0 _ (by omega) (by omega) hn (Or.inl rfl)
  exact lp35 257 0 0 (by omega) (by omega) rfl

set_option maxRecDepth 100000 in
set_option maxHeartbeats 4000000 in
theorem r_distance_f1 (l : Launch) {Z : jZ} {D : jD} (hz : zM Z) {ly a : Int32} (o : Int32) (hl : ¬ (nI 0 ≤ ly ∧ ly ≤ nI 2)) : ja_M l (mX8_distance 0 0) [.ref (100), .int (ly), .int (a), .int (o)] Z D (ja_jd (some (.int (nI 0))) Z (fun D2 => D2 = ja_up D 100 0 (nI 1))) ja_x0 := by
  refine ja_Mof (lv := [some (.ref (100)), some (.int (ly)), some (.int (a)), some (.int (o)), none]) (by decide +kernel) rfl rfl (Nat.le_of_ble_eq_true rfl) rfl ?_
  refine ja_aload_n (i := 0) dX8_distance_0 rfl rfl ?_
  refine ja_iload_n (i := 1) dX8_distance_1 rfl rfl ?_
  refine ja_iload_n (i := 2) dX8_distance_2 rfl rfl ?_
  refine ja_cVd (st := []) (s_looksF1 l hz (a := a) hl) rfl rfl (ce_X8_looks 0 0) im_X8_looks se_X8_looks lk_X8_136 k_X8 (zM_s hz) ⟨(Nat.le_of_ble_eq_true rfl), (Nat.le_of_ble_eq_true rfl)⟩ dX8_distance_3 rfl rfl (Nat.le_of_ble_eq_true rfl) (Nat.zero_le _) (Nat.zero_le _) ?_
  intro D3 hD3
  subst hD3
  refine ja_ifB_ne (tgt := 11) dX8_distance_6 (by decide) (fun c6 => absurd c6 (by decide)) (fun c6 => ?_)
  refine ja_iconst (v := nI 0) dX8_distance_9 (by decide +kernel) ?_
  refine ja_iret rfl rfl dX8_distance_10 (Nat.zero_le _) (Nat.zero_le _) ?_
  exact ⟨rfl, rfl, rfl⟩

set_option maxRecDepth 100000 in
set_option maxHeartbeats 4000000 in
theorem r_distance_f2 (l : Launch) {Z : jZ} {D : jD} (hz : zM Z) {ly : Nat} {a : Int32} (o : Int32) (h1 : ly < 3) (ha : ¬ (nI 0 ≤ a ∧ a ≤ nI 9)) : ja_M l (mX8_distance 0 0) [.ref (100), .int (nI (ly)), .int (a), .int (o)] Z D (ja_jd (some (.int (nI 0))) Z (fun D2 => D2 = ja_up D 100 0 (nI 2))) ja_x0 := by
  refine ja_Mof (lv := [some (.ref (100)), some (.int (nI (ly))), some (.int (a)), some (.int (o)), none]) (by decide +kernel) rfl rfl (Nat.le_of_ble_eq_true rfl) rfl ?_
  refine ja_aload_n (i := 0) dX8_distance_0 rfl rfl ?_
  refine ja_iload_n (i := 1) dX8_distance_1 rfl rfl ?_
  refine ja_iload_n (i := 2) dX8_distance_2 rfl rfl ?_
  refine ja_cVd (st := []) (s_looksF2 l hz (by omega) ha) rfl rfl (ce_X8_looks 0 0) im_X8_looks se_X8_looks lk_X8_136 k_X8 (zM_s hz) ⟨(Nat.le_of_ble_eq_true rfl), (Nat.le_of_ble_eq_true rfl)⟩ dX8_distance_3 rfl rfl (Nat.le_of_ble_eq_true rfl) (Nat.zero_le _) (Nat.zero_le _) ?_
  intro D3 hD3
  subst hD3
  refine ja_ifB_ne (tgt := 11) dX8_distance_6 (by decide) (fun c6 => absurd c6 (by decide)) (fun c6 => ?_)
  refine ja_iconst (v := nI 0) dX8_distance_9 (by decide +kernel) ?_
  refine ja_iret rfl rfl dX8_distance_10 (Nat.zero_le _) (Nat.zero_le _) ?_
  exact ⟨rfl, rfl, rfl⟩

set_option maxRecDepth 100000 in
set_option maxHeartbeats 4000000 in
theorem r_distance_f2b (l : Launch) {Z : jZ} {D : jD} (hz : zM Z) {ly a : Nat} (h1 : ly < 3) (h2 : a < 10) {o : Int32} (ho : ¬ (nI 0 ≤ o ∧ o ≤ nI 9)) : ja_M l (mX8_distance 0 0) [.ref (100), .int (nI (ly)), .int (nI (a)), .int (o)] Z D (ja_jd (some (.int (nI 0))) Z (fun D2 => D2 = ja_up D 100 0 (nI 2))) ja_x0 := by
  refine ja_Mof (lv := [some (.ref (100)), some (.int (nI (ly))), some (.int (nI (a))), some (.int (o)), none]) (by decide +kernel) rfl rfl (Nat.le_of_ble_eq_true rfl) rfl ?_
  refine ja_aload_n (i := 0) dX8_distance_0 rfl rfl ?_
  refine ja_iload_n (i := 1) dX8_distance_1 rfl rfl ?_
  refine ja_iload_n (i := 2) dX8_distance_2 rfl rfl ?_
  refine ja_cVd (st := []) (s_looksT l hz (by omega) (by omega)) rfl rfl (ce_X8_looks 0 0) im_X8_looks se_X8_looks lk_X8_136 k_X8 (zM_s hz) ⟨(Nat.le_of_ble_eq_true rfl), (Nat.le_of_ble_eq_true rfl)⟩ dX8_distance_3 rfl rfl (Nat.le_of_ble_eq_true rfl) (Nat.zero_le _) (Nat.zero_le _) ?_
  intro D3 hD3
  subst hD3
  refine ja_ifB_ne (tgt := 11) dX8_distance_6 (by decide) (fun c6 => ?_) (fun c6 => absurd c6 (by decide))
  refine ja_iload_n (i := 3) dX8_distance_11 rfl rfl ?_
  refine ja_cSr (st := []) (s_isAreaF l ho) rfl rfl (ce_X8_isArea 0 0) st_X8_isArea lk_X8_110 ⟨(Nat.le_of_ble_eq_true rfl), (Nat.le_of_ble_eq_true rfl)⟩ dX8_distance_12 rfl rfl (Nat.le_of_ble_eq_true rfl) (Nat.zero_le _) (Nat.zero_le _) ?_
  refine ja_ifB_eq (tgt := 23) dX8_distance_15 (by decide) (fun c15 => ?_) (fun c15 => absurd c15 (by decide))
  refine ja_aload_n (i := 0) dX8_distance_23 rfl rfl ?_
  refine ja_iconst (v := nI 2) dX8_distance_24 (by decide +kernel) ?_
  refine ja_cVd (st := []) (s_fails l hz (nI (2))) rfl rfl (ce_X8_fails 0 0) im_X8_fails se_X8_fails lk_X8_96 k_X8 (zM_s hz) ⟨(Nat.le_of_ble_eq_true rfl), (Nat.le_of_ble_eq_true rfl)⟩ dX8_distance_25 rfl rfl (Nat.le_of_ble_eq_true rfl) (Nat.zero_le _) (Nat.zero_le _) ?_
  intro D25 hD25
  subst hD25
  refine ja_num (D2 := ja_up D 100 0 (nI (2))) up_2 ?_
  refine ja_iret rfl rfl dX8_distance_28 (Nat.zero_le _) (Nat.zero_le _) ?_
  exact ⟨rfl, rfl, rfl⟩

set_option maxRecDepth 100000 in
set_option maxHeartbeats 4000000 in
theorem r_distance_f2c (l : Launch) {Z : jZ} {D : jD} (hz : zM Z) {ly a : Nat} (h1 : ly < 3) (h2 : a < 10) : ja_M l (mX8_distance 0 0) [.ref (100), .int (nI (ly)), .int (nI (a)), .int (nI (a))] Z D (ja_jd (some (.int (nI 0))) Z (fun D2 => D2 = ja_up D 100 0 (nI 2))) ja_x0 := by
  refine ja_Mof (lv := [some (.ref (100)), some (.int (nI (ly))), some (.int (nI (a))), some (.int (nI (a))), none]) (by decide +kernel) rfl rfl (Nat.le_of_ble_eq_true rfl) rfl ?_
  refine ja_aload_n (i := 0) dX8_distance_0 rfl rfl ?_
  refine ja_iload_n (i := 1) dX8_distance_1 rfl rfl ?_
  refine ja_iload_n (i := 2) dX8_distance_2 rfl rfl ?_
  refine ja_cVd (st := []) (s_looksT l hz (by omega) (by omega)) rfl rfl (ce_X8_looks 0 0) im_X8_looks se_X8_looks lk_X8_136 k_X8 (zM_s hz) ⟨(Nat.le_of_ble_eq_true rfl), (Nat.le_of_ble_eq_true rfl)⟩ dX8_distance_3 rfl rfl (Nat.le_of_ble_eq_true rfl) (Nat.zero_le _) (Nat.zero_le _) ?_
  intro D3 hD3
  subst hD3
  refine ja_ifB_ne (tgt := 11) dX8_distance_6 (by decide) (fun c6 => ?_) (fun c6 => absurd c6 (by decide))
  refine ja_iload_n (i := 3) dX8_distance_11 rfl rfl ?_
  refine ja_cSr (st := []) (s_isAreaT l (by omega)) rfl rfl (ce_X8_isArea 0 0) st_X8_isArea lk_X8_110 ⟨(Nat.le_of_ble_eq_true rfl), (Nat.le_of_ble_eq_true rfl)⟩ dX8_distance_12 rfl rfl (Nat.le_of_ble_eq_true rfl) (Nat.zero_le _) (Nat.zero_le _) ?_
  refine ja_ifB_eq (tgt := 23) dX8_distance_15 (by decide) (fun c15 => absurd c15 (by decide)) (fun c15 => ?_)
  refine ja_iload_n (i := 2) dX8_distance_18 rfl rfl ?_
  refine ja_iload_n (i := 3) dX8_distance_19 rfl rfl ?_
  refine ja_icmpN_ne (tgt := 29) dX8_distance_20 (by decide) (by omega) (by omega) (fun c20 => (by exfalso; omega)) (fun c20 => ?_)
  refine ja_aload_n (i := 0) dX8_distance_23 rfl rfl ?_
  refine ja_iconst (v := nI 2) dX8_distance_24 (by decide +kernel) ?_
  refine ja_cVd (st := []) (s_fails l hz (nI (2))) rfl rfl (ce_X8_fails 0 0) im_X8_fails se_X8_fails lk_X8_96 k_X8 (zM_s hz) ⟨(Nat.le_of_ble_eq_true rfl), (Nat.le_of_ble_eq_true rfl)⟩ dX8_distance_25 rfl rfl (Nat.le_of_ble_eq_true rfl) (Nat.zero_le _) (Nat.zero_le _) ?_
  intro D25 hD25
  subst hD25
  refine ja_num (D2 := ja_up D 100 0 (nI (2))) up_2 ?_
  refine ja_iret rfl rfl dX8_distance_28 (Nat.zero_le _) (Nat.zero_le _) ?_
  exact ⟨rfl, rfl, rfl⟩

set_option maxRecDepth 100000 in
set_option maxHeartbeats 4000000 in
theorem r_distance_f3 (l : Launch) {Z : jZ} {D : jD} (hz : zM Z) {ly a o : Nat} (h1 : ly < 3) (h2 : a < 10) (h3 : o < 10) (h4 : a ≠ o) (hd : lst (btw (D 105) ly (nI a) (nI o)) = none) : ja_M l (mX8_distance 0 0) [.ref (100), .int (nI (ly)), .int (nI (a)), .int (nI (o))] Z D (ja_jd (some (.int (nI 0))) Z (fun D2 => D2 = ja_up D 100 0 (nI 3))) ja_x0 := by
  refine ja_Mof (lv := [some (.ref (100)), some (.int (nI (ly))), some (.int (nI (a))), some (.int (nI (o))), none]) (by decide +kernel) rfl rfl (Nat.le_of_ble_eq_true rfl) rfl ?_
  refine ja_aload_n (i := 0) dX8_distance_0 rfl rfl ?_
  refine ja_iload_n (i := 1) dX8_distance_1 rfl rfl ?_
  refine ja_iload_n (i := 2) dX8_distance_2 rfl rfl ?_
  refine ja_cVd (st := []) (s_looksT l hz (by omega) (by omega)) rfl rfl (ce_X8_looks 0 0) im_X8_looks se_X8_looks lk_X8_136 k_X8 (zM_s hz) ⟨(Nat.le_of_ble_eq_true rfl), (Nat.le_of_ble_eq_true rfl)⟩ dX8_distance_3 rfl rfl (Nat.le_of_ble_eq_true rfl) (Nat.zero_le _) (Nat.zero_le _) ?_
  intro D3 hD3
  subst hD3
  refine ja_ifB_ne (tgt := 11) dX8_distance_6 (by decide) (fun c6 => ?_) (fun c6 => absurd c6 (by decide))
  refine ja_iload_n (i := 3) dX8_distance_11 rfl rfl ?_
  refine ja_cSr (st := []) (s_isAreaT l (by omega)) rfl rfl (ce_X8_isArea 0 0) st_X8_isArea lk_X8_110 ⟨(Nat.le_of_ble_eq_true rfl), (Nat.le_of_ble_eq_true rfl)⟩ dX8_distance_12 rfl rfl (Nat.le_of_ble_eq_true rfl) (Nat.zero_le _) (Nat.zero_le _) ?_
  refine ja_ifB_eq (tgt := 23) dX8_distance_15 (by decide) (fun c15 => absurd c15 (by decide)) (fun c15 => ?_)
  refine ja_iload_n (i := 2) dX8_distance_18 rfl rfl ?_
  refine ja_iload_n (i := 3) dX8_distance_19 rfl rfl ?_
  refine ja_icmpN_ne (tgt := 29) dX8_distance_20 (by decide) (by omega) (by omega) (fun c20 => ?_) (fun c20 => (by exfalso; omega))
  refine ja_aload_n (i := 0) dX8_distance_29 rfl rfl ?_
  refine ja_iload_n (i := 1) dX8_distance_30 rfl rfl ?_
  refine ja_iload_n (i := 2) dX8_distance_31 rfl rfl ?_
  refine ja_iload_n (i := 3) dX8_distance_32 rfl rfl ?_
  refine ja_cVr (st := []) (s_between (D := (ja_up D 100 0 (nI 0))) l hz (ly := ly) (by omega) (nI (a)) (nI (o))) rfl rfl (ce_X8_between 0 0) im_X8_between se_X8_between lk_X8_148 k_X8 (zM_s hz) ⟨(Nat.le_of_ble_eq_true rfl), (Nat.le_of_ble_eq_true rfl)⟩ dX8_distance_33 rfl rfl (Nat.le_of_ble_eq_true rfl) (Nat.zero_le _) (Nat.zero_le _) ?_
  refine ja_top (y := (-1)) (by rw [show lst (btw ((ja_up D 100 0 (nI 0)) 105) ly (nI a) (nI o)) = none from hd]; rfl) ?_
  refine ja_istore (i := 4) dX8_distance_36 rfl (Nat.le_of_ble_eq_true rfl) ?_
  refine ja_iload (i := 4) dX8_distance_38 rfl ?_
  refine ja_iconst (v := (-1)) dX8_distance_40 (by decide +kernel) ?_
  refine ja_icmp_ne (tgt := 52) dX8_distance_41 (by decide) (fun c41 => absurd rfl c41) (fun c41 => ?_)
  refine ja_aload_n (i := 0) dX8_distance_44 rfl rfl ?_
  refine ja_iconst (v := nI 3) dX8_distance_45 (by decide +kernel) ?_
  refine ja_cVd (st := []) (s_fails l hz (nI (3))) rfl rfl (ce_X8_fails 0 0) im_X8_fails se_X8_fails lk_X8_96 k_X8 (zM_s hz) ⟨(Nat.le_of_ble_eq_true rfl), (Nat.le_of_ble_eq_true rfl)⟩ dX8_distance_46 rfl rfl (Nat.le_of_ble_eq_true rfl) (Nat.zero_le _) (Nat.zero_le _) ?_
  intro D46 hD46
  subst hD46
  refine ja_num (D2 := ja_up D 100 0 (nI (3))) up_2 ?_
  refine ja_goto (tgt := 54) dX8_distance_49 (by decide) ?_
  refine ja_iret rfl rfl dX8_distance_54 (Nat.zero_le _) (Nat.zero_le _) ?_
  exact ⟨rfl, rfl, rfl⟩

set_option maxRecDepth 100000 in
set_option maxHeartbeats 4000000 in
theorem r_distance_ok (l : Launch) {Z : jZ} {D : jD} (hz : zM Z) {ly a o : Nat} (h1 : ly < 3) (h2 : a < 10) (h3 : o < 10) (h4 : a ≠ o) {m : Nat} (hd : lst (btw (D 105) ly (nI a) (nI o)) = some m) (hm : m ≤ 30) : ja_M l (mX8_distance 0 0) [.ref (100), .int (nI (ly)), .int (nI (a)), .int (nI (o))] Z D (ja_jd (some (.int (nI m))) Z (fun D2 => D2 = ja_up D 100 0 (nI 0))) ja_x0 := by
  refine ja_Mof (lv := [some (.ref (100)), some (.int (nI (ly))), some (.int (nI (a))), some (.int (nI (o))), none]) (by decide +kernel) rfl rfl (Nat.le_of_ble_eq_true rfl) rfl ?_
  refine ja_aload_n (i := 0) dX8_distance_0 rfl rfl ?_
  refine ja_iload_n (i := 1) dX8_distance_1 rfl rfl ?_
  refine ja_iload_n (i := 2) dX8_distance_2 rfl rfl ?_
  refine ja_cVd (st := []) (s_looksT l hz (by omega) (by omega)) rfl rfl (ce_X8_looks 0 0) im_X8_looks se_X8_looks lk_X8_136 k_X8 (zM_s hz) ⟨(Nat.le_of_ble_eq_true rfl), (Nat.le_of_ble_eq_true rfl)⟩ dX8_distance_3 rfl rfl (Nat.le_of_ble_eq_true rfl) (Nat.zero_le _) (Nat.zero_le _) ?_
  intro D3 hD3
  subst hD3
  refine ja_ifB_ne (tgt := 11) dX8_distance_6 (by decide) (fun c6 => ?_) (fun c6 => absurd c6 (by decide))
  refine ja_iload_n (i := 3) dX8_distance_11 rfl rfl ?_
  refine ja_cSr (st := []) (s_isAreaT l (by omega)) rfl rfl (ce_X8_isArea 0 0) st_X8_isArea lk_X8_110 ⟨(Nat.le_of_ble_eq_true rfl), (Nat.le_of_ble_eq_true rfl)⟩ dX8_distance_12 rfl rfl (Nat.le_of_ble_eq_true rfl) (Nat.zero_le _) (Nat.zero_le _) ?_
  refine ja_ifB_eq (tgt := 23) dX8_distance_15 (by decide) (fun c15 => absurd c15 (by decide)) (fun c15 => ?_)
  refine ja_iload_n (i := 2) dX8_distance_18 rfl rfl ?_
  refine ja_iload_n (i := 3) dX8_distance_19 rfl rfl ?_
  refine ja_icmpN_ne (tgt := 29) dX8_distance_20 (by decide) (by omega) (by omega) (fun c20 => ?_) (fun c20 => (by exfalso; omega))
  refine ja_aload_n (i := 0) dX8_distance_29 rfl rfl ?_
  refine ja_iload_n (i := 1) dX8_distance_30 rfl rfl ?_
  refine ja_iload_n (i := 2) dX8_distance_31 rfl rfl ?_
  refine ja_iload_n (i := 3) dX8_distance_32 rfl rfl ?_
  refine ja_cVr (st := []) (s_between (D := (ja_up D 100 0 (nI 0))) l hz (ly := ly) (by omega) (nI (a)) (nI (o))) rfl rfl (ce_X8_between 0 0) im_X8_between se_X8_between lk_X8_148 k_X8 (zM_s hz) ⟨(Nat.le_of_ble_eq_true rfl), (Nat.le_of_ble_eq_true rfl)⟩ dX8_distance_33 rfl rfl (Nat.le_of_ble_eq_true rfl) (Nat.zero_le _) (Nat.zero_le _) ?_
  refine ja_top (y := nI (m)) (by rw [show lst (btw ((ja_up D 100 0 (nI 0)) 105) ly (nI a) (nI o)) = some m from hd]; rfl) ?_
  refine ja_istore (i := 4) dX8_distance_36 rfl (Nat.le_of_ble_eq_true rfl) ?_
  refine ja_iload (i := 4) dX8_distance_38 rfl ?_
  refine ja_iconst (v := (-1)) dX8_distance_40 (by decide +kernel) ?_
  refine ja_icmp_ne (tgt := 52) dX8_distance_41 (by decide) (fun c41 => ?_) (fun c41 => absurd c41 (nI_nm1 (by omega)))
  refine ja_iload (i := 4) dX8_distance_52 rfl ?_
  refine ja_iret rfl rfl dX8_distance_54 (Nat.zero_le _) (Nat.zero_le _) ?_
  exact ⟨rfl, rfl, rfl⟩
