/-! THE REFERENCE: boxes, rules, conflicts, coarser maps -/
/-- a box that lies on the squares -/
def bxOK (x y dx dy : Int32) : Prop := (nI 0 ≤ x ∧ x ≤ nI 15) ∧ (nI 0 ≤ y ∧ y ≤ nI 15) ∧ (nI 1 ≤ dx ∧ dx ≤ nI 16 - x) ∧ (nI 1 ≤ dy ∧ dy ≤ nI 16 - y)

set_option maxRecDepth 100000 in
set_option maxHeartbeats 4000000 in
theorem s_isBoxT (l : Launch) {Z : jZ} {D : jD} {x y w h : Nat} (h1 : x < 16) (h2 : y < 16) (h3 : 1 ≤ w) (h4 : x + w ≤ 16) (h5 : 1 ≤ h) (h6 : y + h ≤ 16) : ja_M l (mX8_isBox 0 0) [.int (nI (x)), .int (nI (y)), .int (nI (w)), .int (nI (h))] Z D (ja_jr (some (.int (bI true))) Z D) ja_x0 := by
  refine ja_Mof (lv := [some (.int (nI (x))), some (.int (nI (y))), some (.int (nI (w))), some (.int (nI (h)))]) (by decide +kernel) rfl rfl (Nat.le_of_ble_eq_true rfl) rfl ?_
  refine ja_iload_n (i := 0) dX8_isBox_0 rfl rfl ?_
  refine ja_iconst (v := nI 0) dX8_isBox_1 (by decide +kernel) ?_
  refine ja_bipush (v := nI 15) dX8_isBox_2 (by decide +kernel) ?_
  refine ja_cSr (st := []) (s_inT l (x) 0 15 (by omega) (by omega) (by omega)) rfl rfl (ce_X8_in 0 0) st_X8_in lk_X8_88 ⟨(Nat.le_of_ble_eq_true rfl), (Nat.le_of_ble_eq_true rfl)⟩ dX8_isBox_4 rfl rfl (Nat.le_of_ble_eq_true rfl) (Nat.zero_le _) (Nat.zero_le _) ?_
  refine ja_ifB_eq (tgt := 48) dX8_isBox_7 (by decide) (fun c7 => absurd c7 (by decide)) (fun c7 => ?_)
  refine ja_iload_n (i := 1) dX8_isBox_10 rfl rfl ?_
  refine ja_iconst (v := nI 0) dX8_isBox_11 (by decide +kernel) ?_
  refine ja_bipush (v := nI 15) dX8_isBox_12 (by decide +kernel) ?_
  refine ja_cSr (st := []) (s_inT l (y) 0 15 (by omega) (by omega) (by omega)) rfl rfl (ce_X8_in 0 0) st_X8_in lk_X8_88 ⟨(Nat.le_of_ble_eq_true rfl), (Nat.le_of_ble_eq_true rfl)⟩ dX8_isBox_14 rfl rfl (Nat.le_of_ble_eq_true rfl) (Nat.zero_le _) (Nat.zero_le _) ?_
  refine ja_ifB_eq (tgt := 48) dX8_isBox_17 (by decide) (fun c17 => absurd c17 (by decide)) (fun c17 => ?_)
  refine ja_iload_n (i := 2) dX8_isBox_20 rfl rfl ?_
  refine ja_iconst (v := nI 1) dX8_isBox_21 (by decide +kernel) ?_
  refine ja_bipush (v := nI 16) dX8_isBox_22 (by decide +kernel) ?_
  refine ja_iload_n (i := 0) dX8_isBox_24 rfl rfl ?_
  refine ja_isubN dX8_isBox_25 (by omega) ?_
  refine ja_cSr (st := []) (s_inT l (w) 1 (16 - x) (by omega) (by omega) (by omega)) rfl rfl (ce_X8_in 0 0) st_X8_in lk_X8_88 ⟨(Nat.le_of_ble_eq_true rfl), (Nat.le_of_ble_eq_true rfl)⟩ dX8_isBox_26 rfl rfl (Nat.le_of_ble_eq_true rfl) (Nat.zero_le _) (Nat.zero_le _) ?_
  refine ja_ifB_eq (tgt := 48) dX8_isBox_29 (by decide) (fun c29 => absurd c29 (by decide)) (fun c29 => ?_)
  refine ja_iload_n (i := 3) dX8_isBox_32 rfl rfl ?_
  refine ja_iconst (v := nI 1) dX8_isBox_33 (by decide +kernel) ?_
  refine ja_bipush (v := nI 16) dX8_isBox_34 (by decide +kernel) ?_
  refine ja_iload_n (i := 1) dX8_isBox_36 rfl rfl ?_
  refine ja_isubN dX8_isBox_37 (by omega) ?_
  refine ja_cSr (st := []) (s_inT l (h) 1 (16 - y) (by omega) (by omega) (by omega)) rfl rfl (ce_X8_in 0 0) st_X8_in lk_X8_88 ⟨(Nat.le_of_ble_eq_true rfl), (Nat.le_of_ble_eq_true rfl)⟩ dX8_isBox_38 rfl rfl (Nat.le_of_ble_eq_true rfl) (Nat.zero_le _) (Nat.zero_le _) ?_
  refine ja_ifB_eq (tgt := 48) dX8_isBox_41 (by decide) (fun c41 => absurd c41 (by decide)) (fun c41 => ?_)
  refine ja_iconst (v := nI 1) dX8_isBox_44 (by decide +kernel) ?_
  refine ja_goto (tgt := 49) dX8_isBox_45 (by decide) ?_
  refine ja_iret rfl (by decide +kernel) dX8_isBox_49 (Nat.zero_le _) (Nat.zero_le _) ?_
  exact ⟨rfl, rfl, rfl⟩

set_option maxRecDepth 100000 in
set_option maxHeartbeats 4000000 in
theorem s_isBoxF (l : Launch) {Z : jZ} {D : jD} {x y w h : Int32} (hb : ¬ bxOK x y w h) : ja_M l (mX8_isBox 0 0) [.int (x), .int (y), .int (w), .int (h)] Z D (ja_jr (some (.int (bI false))) Z D) ja_x0 := by
  refine ja_Mof (lv := [some (.int (x)), some (.int (y)), some (.int (w)), some (.int (h))]) (by decide +kernel) rfl rfl (Nat.le_of_ble_eq_true rfl) rfl ?_
  refine ja_iload_n (i := 0) dX8_isBox_0 rfl rfl ?_
  refine ja_iconst (v := nI 0) dX8_isBox_1 (by decide +kernel) ?_
  refine ja_bipush (v := nI 15) dX8_isBox_2 (by decide +kernel) ?_
  refine ja_cSr (st := []) (s_in l (x) (nI (0)) (nI (15))) rfl rfl (ce_X8_in 0 0) st_X8_in lk_X8_88 ⟨(Nat.le_of_ble_eq_true rfl), (Nat.le_of_ble_eq_true rfl)⟩ dX8_isBox_4 rfl rfl (Nat.le_of_ble_eq_true rfl) (Nat.zero_le _) (Nat.zero_le _) ?_
  refine ja_ifB_eq (tgt := 48) dX8_isBox_7 (by decide) (fun c7 => ?_) (fun c7 => ?_)
  ·
    refine ja_iconst (v := nI 0) dX8_isBox_48 (by decide +kernel) ?_
    refine ja_iret rfl (by decide +kernel) dX8_isBox_49 (Nat.zero_le _) (Nat.zero_le _) ?_
    exact ⟨rfl, rfl, rfl⟩
  ·
    refine ja_iload_n (i := 1) dX8_isBox_10 rfl rfl ?_
    refine ja_iconst (v := nI 0) dX8_isBox_11 (by decide +kernel) ?_
    refine ja_bipush (v := nI 15) dX8_isBox_12 (by decide +kernel) ?_
    refine ja_cSr (st := []) (s_in l (y) (nI (0)) (nI (15))) rfl rfl (ce_X8_in 0 0) st_X8_in lk_X8_88 ⟨(Nat.le_of_ble_eq_true rfl), (Nat.le_of_ble_eq_true rfl)⟩ dX8_isBox_14 rfl rfl (Nat.le_of_ble_eq_true rfl) (Nat.zero_le _) (Nat.zero_le _) ?_
    refine ja_ifB_eq (tgt := 48) dX8_isBox_17 (by decide) (fun c17 => ?_) (fun c17 => ?_)
    ·
      refine ja_iconst (v := nI 0) dX8_isBox_48 (by decide +kernel) ?_
      refine ja_iret rfl (by decide +kernel) dX8_isBox_49 (Nat.zero_le _) (Nat.zero_le _) ?_
      exact ⟨rfl, rfl, rfl⟩
    ·
      refine ja_iload_n (i := 2) dX8_isBox_20 rfl rfl ?_
      refine ja_iconst (v := nI 1) dX8_isBox_21 (by decide +kernel) ?_
      refine ja_bipush (v := nI 16) dX8_isBox_22 (by decide +kernel) ?_
      refine ja_iload_n (i := 0) dX8_isBox_24 rfl rfl ?_
      refine ja_isub dX8_isBox_25 ?_
      refine ja_cSr (st := []) (s_in l (w) (nI (1)) ((nI (16) - x))) rfl rfl (ce_X8_in 0 0) st_X8_in lk_X8_88 ⟨(Nat.le_of_ble_eq_true rfl), (Nat.le_of_ble_eq_true rfl)⟩ dX8_isBox_26 rfl rfl (Nat.le_of_ble_eq_true rfl) (Nat.zero_le _) (Nat.zero_le _) ?_
      refine ja_ifB_eq (tgt := 48) dX8_isBox_29 (by decide) (fun c29 => ?_) (fun c29 => ?_)
      ·
        refine ja_iconst (v := nI 0) dX8_isBox_48 (by decide +kernel) ?_
        refine ja_iret rfl (by decide +kernel) dX8_isBox_49 (Nat.zero_le _) (Nat.zero_le _) ?_
        exact ⟨rfl, rfl, rfl⟩
      ·
        refine ja_iload_n (i := 3) dX8_isBox_32 rfl rfl ?_
        refine ja_iconst (v := nI 1) dX8_isBox_33 (by decide +kernel) ?_
        refine ja_bipush (v := nI 16) dX8_isBox_34 (by decide +kernel) ?_
        refine ja_iload_n (i := 1) dX8_isBox_36 rfl rfl ?_
        refine ja_isub dX8_isBox_37 ?_
        refine ja_cSr (st := []) (s_in l (h) (nI (1)) ((nI (16) - y))) rfl rfl (ce_X8_in 0 0) st_X8_in lk_X8_88 ⟨(Nat.le_of_ble_eq_true rfl), (Nat.le_of_ble_eq_true rfl)⟩ dX8_isBox_38 rfl rfl (Nat.le_of_ble_eq_true rfl) (Nat.zero_le _) (Nat.zero_le _) ?_
        refine ja_ifB_eq (tgt := 48) dX8_isBox_41 (by decide) (fun c41 => ?_) (fun c41 => ?_)
        ·
          refine ja_iconst (v := nI 0) dX8_isBox_48 (by decide +kernel) ?_
          refine ja_iret rfl (by decide +kernel) dX8_isBox_49 (Nat.zero_le _) (Nat.zero_le _) ?_
          exact ⟨rfl, rfl, rfl⟩
        ·
          refine ja_iconst (v := nI 1) dX8_isBox_44 (by decide +kernel) ?_
          refine ja_goto (tgt := 49) dX8_isBox_45 (by decide) ?_
          refine ja_iret rfl (by decide +kernel) dX8_isBox_49 (Nat.zero_le _) (Nat.zero_le _) ?_
          exfalso
          exact hb ⟨of_decide_eq_true c7, of_decide_eq_true c17, of_decide_eq_true c29, of_decide_eq_true c41⟩

set_option maxRecDepth 100000 in
set_option maxHeartbeats 4000000 in
theorem s_looksT (l : Launch) {Z : jZ} {D : jD} (hz : zM Z) {ly a : Nat} (h1 : ly < 3) (h2 : a < 10) : ja_M l (mX8_looks 0 0) [.ref (100), .int (nI (ly)), .int (nI (a))] Z D (ja_jd (some (.int (bI true))) Z (fun D2 => D2 = ja_up D 100 0 (nI 0))) ja_x0 := by
  refine ja_Mof (lv := [some (.ref (100)), some (.int (nI (ly))), some (.int (nI (a)))]) (by decide +kernel) rfl rfl (Nat.le_of_ble_eq_true rfl) rfl ?_
  refine ja_aload_n (i := 0) dX8_looks_0 rfl rfl ?_
  refine ja_iload_n (i := 1) dX8_looks_1 rfl rfl ?_
  refine ja_cSr (st := [.ref (100)]) (s_isLayerT l (by omega)) rfl rfl (ce_X8_isLayer 0 0) st_X8_isLayer lk_X8_106 ⟨(Nat.le_of_ble_eq_true rfl), (Nat.le_of_ble_eq_true rfl)⟩ dX8_looks_2 rfl rfl (Nat.le_of_ble_eq_true rfl) (Nat.zero_le _) (Nat.zero_le _) ?_
  refine ja_ifB_ne (tgt := 12) dX8_looks_5 (by decide) (fun c5 => ?_) (fun c5 => absurd c5 (by decide))
  refine ja_iload_n (i := 2) dX8_looks_12 rfl rfl ?_
  refine ja_cSr (st := [.ref (100)]) (s_isAreaT l (by omega)) rfl rfl (ce_X8_isArea 0 0) st_X8_isArea lk_X8_110 ⟨(Nat.le_of_ble_eq_true rfl), (Nat.le_of_ble_eq_true rfl)⟩ dX8_looks_13 rfl rfl (Nat.le_of_ble_eq_true rfl) (Nat.zero_le _) (Nat.zero_le _) ?_
  refine ja_ifB_ne (tgt := 23) dX8_looks_16 (by decide) (fun c16 => ?_) (fun c16 => absurd c16 (by decide))
  refine ja_iconst (v := nI 0) dX8_looks_23 (by decide +kernel) ?_
  refine ja_putI fl_X8_85 (zM_s hz) rfl rfl rfl dX8_looks_24 ?_
  refine ja_aload_n (i := 0) dX8_looks_27 rfl rfl ?_
  refine ja_getI fl_X8_85 (zM_s hz) rfl dX8_looks_28 ?_
  refine ja_top (y := nI (0)) (by simp [ja_up]) ?_
  refine ja_ifN_ne (tgt := 38) dX8_looks_31 (by decide) (by omega) (fun c31 => absurd c31 (by decide)) (fun c31 => ?_)
  refine ja_iconst (v := nI 1) dX8_looks_34 (by decide +kernel) ?_
  refine ja_goto (tgt := 39) dX8_looks_35 (by decide) ?_
  refine ja_iret rfl (by decide +kernel) dX8_looks_39 (Nat.zero_le _) (Nat.zero_le _) ?_
  exact ⟨rfl, rfl, rfl⟩

set_option maxRecDepth 100000 in
set_option maxHeartbeats 4000000 in
theorem s_looksF1 (l : Launch) {Z : jZ} {D : jD} (hz : zM Z) {ly a : Int32} (hl : ¬ (nI 0 ≤ ly ∧ ly ≤ nI 2)) : ja_M l (mX8_looks 0 0) [.ref (100), .int (ly), .int (a)] Z D (ja_jd (some (.int (bI false))) Z (fun D2 => D2 = ja_up D 100 0 (nI 1))) ja_x0 := by
  refine ja_Mof (lv := [some (.ref (100)), some (.int (ly)), some (.int (a))]) (by decide +kernel) rfl rfl (Nat.le_of_ble_eq_true rfl) rfl ?_
  refine ja_aload_n (i := 0) dX8_looks_0 rfl rfl ?_
  refine ja_iload_n (i := 1) dX8_looks_1 rfl rfl ?_
  refine ja_cSr (st := [.ref (100)]) (s_isLayerF l hl) rfl rfl (ce_X8_isLayer 0 0) st_X8_isLayer lk_X8_106 ⟨(Nat.le_of_ble_eq_true rfl), (Nat.le_of_ble_eq_true rfl)⟩ dX8_looks_2 rfl rfl (Nat.le_of_ble_eq_true rfl) (Nat.zero_le _) (Nat.zero_le _) ?_
  refine ja_ifB_ne (tgt := 12) dX8_looks_5 (by decide) (fun c5 => absurd c5 (by decide)) (fun c5 => ?_)
  refine ja_iconst (v := nI 1) dX8_looks_8 (by decide +kernel) ?_
  refine ja_goto (tgt := 24) dX8_looks_9 (by decide) ?_
  refine ja_putI fl_X8_85 (zM_s hz) rfl rfl rfl dX8_looks_24 ?_
  refine ja_aload_n (i := 0) dX8_looks_27 rfl rfl ?_
  refine ja_getI fl_X8_85 (zM_s hz) rfl dX8_looks_28 ?_
  refine ja_top (y := nI (1)) (by simp [ja_up]) ?_
  refine ja_ifN_ne (tgt := 38) dX8_looks_31 (by decide) (by omega) (fun c31 => ?_) (fun c31 => absurd c31 (by decide))
  refine ja_iconst (v := nI 0) dX8_looks_38 (by decide +kernel) ?_
  refine ja_iret rfl (by decide +kernel) dX8_looks_39 (Nat.zero_le _) (Nat.zero_le _) ?_
  exact ⟨rfl, rfl, rfl⟩

set_option maxRecDepth 100000 in
set_option maxHeartbeats 4000000 in
theorem s_looksF2 (l : Launch) {Z : jZ} {D : jD} (hz : zM Z) {ly : Nat} {a : Int32} (h1 : ly < 3) (ha : ¬ (nI 0 ≤ a ∧ a ≤ nI 9)) : ja_M l (mX8_looks 0 0) [.ref (100), .int (nI (ly)), .int (a)] Z D (ja_jd (some (.int (bI false))) Z (fun D2 => D2 = ja_up D 100 0 (nI 2))) ja_x0 := by
  refine ja_Mof (lv := [some (.ref (100)), some (.int (nI (ly))), some (.int (a))]) (by decide +kernel) rfl rfl (Nat.le_of_ble_eq_true rfl) rfl ?_
  refine ja_aload_n (i := 0) dX8_looks_0 rfl rfl ?_
  refine ja_iload_n (i := 1) dX8_looks_1 rfl rfl ?_
  refine ja_cSr (st := [.ref (100)]) (s_isLayerT l (by omega)) rfl rfl (ce_X8_isLayer 0 0) st_X8_isLayer lk_X8_106 ⟨(Nat.le_of_ble_eq_true rfl), (Nat.le_of_ble_eq_true rfl)⟩ dX8_looks_2 rfl rfl (Nat.le_of_ble_eq_true rfl) (Nat.zero_le _) (Nat.zero_le _) ?_
  refine ja_ifB_ne (tgt := 12) dX8_looks_5 (by decide) (fun c5 => ?_) (fun c5 => absurd c5 (by decide))
  refine ja_iload_n (i := 2) dX8_looks_12 rfl rfl ?_
  refine ja_cSr (st := [.ref (100)]) (s_isAreaF l ha) rfl rfl (ce_X8_isArea 0 0) st_X8_isArea lk_X8_110 ⟨(Nat.le_of_ble_eq_true rfl), (Nat.le_of_ble_eq_true rfl)⟩ dX8_looks_13 rfl rfl (Nat.le_of_ble_eq_true rfl) (Nat.zero_le _) (Nat.zero_le _) ?_
  refine ja_ifB_ne (tgt := 23) dX8_looks_16 (by decide) (fun c16 => absurd c16 (by decide)) (fun c16 => ?_)
  refine ja_iconst (v := nI 2) dX8_looks_19 (by decide +kernel) ?_
  refine ja_goto (tgt := 24) dX8_looks_20 (by decide) ?_
  refine ja_putI fl_X8_85 (zM_s hz) rfl rfl rfl dX8_looks_24 ?_
  refine ja_aload_n (i := 0) dX8_looks_27 rfl rfl ?_
  refine ja_getI fl_X8_85 (zM_s hz) rfl dX8_looks_28 ?_
  refine ja_top (y := nI (2)) (by simp [ja_up]) ?_
  refine ja_ifN_ne (tgt := 38) dX8_looks_31 (by decide) (by omega) (fun c31 => ?_) (fun c31 => absurd c31 (by decide))
  refine ja_iconst (v := nI 0) dX8_looks_38 (by decide +kernel) ?_
  refine ja_iret rfl (by decide +kernel) dX8_looks_39 (Nat.zero_le _) (Nat.zero_le _) ?_
  exact ⟨rfl, rfl, rfl⟩

set_option maxRecDepth 100000 in
set_option maxHeartbeats 4000000 in
theorem s_isRuleT (l : Launch) {Z : jZ} {D : jD} (hz : zM Z) {k n : Nat} (hn : D 100 12 = nI n) (hb : n < 100) (hk : k < n) : ja_M l (mX8_isRule 0 0) [.ref (100), .int (nI (k))] Z D (ja_jr (some (.int (bI true))) Z D) ja_x0 := by
  refine ja_Mof (lv := [some (.ref (100)), some (.int (nI (k)))]) (by decide +kernel) rfl rfl (Nat.le_of_ble_eq_true rfl) rfl ?_
  refine ja_iload_n (i := 1) dX8_isRule_0 rfl rfl ?_
  refine ja_iconst (v := nI 0) dX8_isRule_1 (by decide +kernel) ?_
  refine ja_aload_n (i := 0) dX8_isRule_2 rfl rfl ?_
  refine ja_getI fl_X8_120 (zM_s hz) rfl dX8_isRule_3 ?_
  refine ja_top (y := nI (n)) hn ?_
  refine ja_iconst (v := nI 1) dX8_isRule_6 (by decide +kernel) ?_
  refine ja_isubN dX8_isRule_7 (by omega) ?_
  refine ja_cSr (st := []) (s_inT l (k) 0 (n - 1) (by omega) (by omega) (by omega)) rfl rfl (ce_X8_in 0 0) st_X8_in lk_X8_88 ⟨(Nat.le_of_ble_eq_true rfl), (Nat.le_of_ble_eq_true rfl)⟩ dX8_isRule_8 rfl rfl (Nat.le_of_ble_eq_true rfl) (Nat.zero_le _) (Nat.zero_le _) ?_
  refine ja_iret rfl (bI_nar _) dX8_isRule_11 (Nat.zero_le _) (Nat.zero_le _) ?_
  exact ⟨rfl, rfl, rfl⟩

set_option maxRecDepth 100000 in
set_option maxHeartbeats 4000000 in
theorem s_isRuleF (l : Launch) {Z : jZ} {D : jD} (hz : zM Z) {k : Int32} {n : Nat} (hn : D 100 12 = nI n) (hb : n < 100) (hk : ¬ (0 ≤ k.toInt ∧ k.toInt < n)) : ja_M l (mX8_isRule 0 0) [.ref (100), .int (k)] Z D (ja_jr (some (.int (bI false))) Z D) ja_x0 := by
  refine ja_Mof (lv := [some (.ref (100)), some (.int (k))]) (by decide +kernel) rfl rfl (Nat.le_of_ble_eq_true rfl) rfl ?_
  refine ja_iload_n (i := 1) dX8_isRule_0 rfl rfl ?_
  refine ja_iconst (v := nI 0) dX8_isRule_1 (by decide +kernel) ?_
  refine ja_aload_n (i := 0) dX8_isRule_2 rfl rfl ?_
  refine ja_getI fl_X8_120 (zM_s hz) rfl dX8_isRule_3 ?_
  refine ja_top (y := nI n) hn ?_
  refine ja_iconst (v := nI 1) dX8_isRule_6 (by decide +kernel) ?_
  refine ja_isub dX8_isRule_7 ?_
  refine ja_cSr (st := []) (s_inF l (k) (nI (0)) ((nI n - nI (1))) (by rintro ⟨e1, e2⟩; rw [Int32.le_iff_toInt_le] at e1 e2; have e3 : (nI n - nI 1).toInt = (n : Int) - 1 := pk_sub_toInt (by omega) (by omega); rw [e3] at e2; rw [nI_toInt (by omega)] at e1; omega)) rfl rfl (ce_X8_in 0 0) st_X8_in lk_X8_88 ⟨(Nat.le_of_ble_eq_true rfl), (Nat.le_of_ble_eq_true rfl)⟩ dX8_isRule_8 rfl rfl (Nat.le_of_ble_eq_true rfl) (Nat.zero_le _) (Nat.zero_le _) ?_
  refine ja_iret rfl (bI_nar _) dX8_isRule_11 (Nat.zero_le _) (Nat.zero_le _) ?_
  exact ⟨rfl, rfl, rfl⟩

set_option maxRecDepth 100000 in
set_option maxHeartbeats 4000000 in
theorem s_isVersionT (l : Launch) {Z : jZ} {D : jD} (hz : zM Z) {k n : Nat} (hn : D 100 16 = nI n) (hb : n < 100) (hk : k < n) : ja_M l (mX8_isVersion 0 0) [.ref (100), .int (nI (k))] Z D (ja_jr (some (.int (bI true))) Z D) ja_x0 := by
  refine ja_Mof (lv := [some (.ref (100)), some (.int (nI (k)))]) (by decide +kernel) rfl rfl (Nat.le_of_ble_eq_true rfl) rfl ?_
  refine ja_iload_n (i := 1) dX8_isVersion_0 rfl rfl ?_
  refine ja_iconst (v := nI 0) dX8_isVersion_1 (by decide +kernel) ?_
  refine ja_aload_n (i := 0) dX8_isVersion_2 rfl rfl ?_
  refine ja_getI fl_X8_151 (zM_s hz) rfl dX8_isVersion_3 ?_
  refine ja_top (y := nI (n)) hn ?_
  refine ja_iconst (v := nI 1) dX8_isVersion_6 (by decide +kernel) ?_
  refine ja_isubN dX8_isVersion_7 (by omega) ?_
  refine ja_cSr (st := []) (s_inT l (k) 0 (n - 1) (by omega) (by omega) (by omega)) rfl rfl (ce_X8_in 0 0) st_X8_in lk_X8_88 ⟨(Nat.le_of_ble_eq_true rfl), (Nat.le_of_ble_eq_true rfl)⟩ dX8_isVersion_8 rfl rfl (Nat.le_of_ble_eq_true rfl) (Nat.zero_le _) (Nat.zero_le _) ?_
  refine ja_iret rfl (bI_nar _) dX8_isVersion_11 (Nat.zero_le _) (Nat.zero_le _) ?_
  exact ⟨rfl, rfl, rfl⟩

set_option maxRecDepth 100000 in
set_option maxHeartbeats 4000000 in
theorem s_isVersionF (l : Launch) {Z : jZ} {D : jD} (hz : zM Z) {k : Int32} {n : Nat} (hn : D 100 16 = nI n) (hb : n < 100) (hk : ¬ (0 ≤ k.toInt ∧ k.toInt < n)) : ja_M l (mX8_isVersion 0 0) [.ref (100), .int (k)] Z D (ja_jr (some (.int (bI false))) Z D) ja_x0 := by
  refine ja_Mof (lv := [some (.ref (100)), some (.int (k))]) (by decide +kernel) rfl rfl (Nat.le_of_ble_eq_true rfl) rfl ?_
  refine ja_iload_n (i := 1) dX8_isVersion_0 rfl rfl ?_
  refine ja_iconst (v := nI 0) dX8_isVersion_1 (by decide +kernel) ?_
  refine ja_aload_n (i := 0) dX8_isVersion_2 rfl rfl ?_
  refine ja_getI fl_X8_151 (zM_s hz) rfl dX8_isVersion_3 ?_
  refine ja_top (y := nI n) hn ?_
  refine ja_iconst (v := nI 1) dX8_isVersion_6 (by decide +kernel) ?_
  refine ja_isub dX8_isVersion_7 ?_
  refine ja_cSr (st := []) (s_inF l (k) (nI (0)) ((nI n - nI (1))) (by rintro ⟨e1, e2⟩; rw [Int32.le_iff_toInt_le] at e1 e2; have e3 : (nI n - nI 1).toInt = (n : Int) - 1 := pk_sub_toInt (by omega) (by omega); rw [e3] at e2; rw [nI_toInt (by omega)] at e1; omega)) rfl rfl (ce_X8_in 0 0) st_X8_in lk_X8_88 ⟨(Nat.le_of_ble_eq_true rfl), (Nat.le_of_ble_eq_true rfl)⟩ dX8_isVersion_8 rfl rfl (Nat.le_of_ble_eq_true rfl) (Nat.zero_le _) (Nat.zero_le _) ?_
  refine ja_iret rfl (bI_nar _) dX8_isVersion_11 (Nat.zero_le _) (Nat.zero_le _) ?_
  exact ⟨rfl, rfl, rfl⟩

def cfl (D : jD) (v ly q : Nat) : Bool := decide (¬ D 119 (256 * v + q) = 0 ∧ ¬ D 121 (256 * v + q) = D 120 (256 * v + q) ∧ ¬ D 105 (256 * ly + q) = D 120 (256 * v + q) ∧ ¬ D 121 (256 * v + q) = D 105 (256 * ly + q))

set_option maxRecDepth 100000 in
set_option maxHeartbeats 4000000 in
theorem s_isConflict (l : Launch) {Z : jZ} {D : jD} (hz : zM Z) {v ly q : Nat} (hv : v < 3) (hly : D 118 v = nI ly) (h1 : ly < 3) (h2 : q < 256) : ja_M l (mX8_isConflict 0 0) [.ref (100), .int (nI (v)), .int (nI (q))] Z D (ja_jr (some (.int (bI (cfl D v ly q)))) Z D) ja_x0 := by
  refine ja_Mof (lv := [some (.ref (100)), some (.int (nI (v))), some (.int (nI (q))), none, none]) (by decide +kernel) rfl rfl (Nat.le_of_ble_eq_true rfl) rfl ?_
  refine ja_sipush (v := nI 256) dX8_isConflict_0 (by decide +kernel) ?_
  refine ja_iload_n (i := 1) dX8_isConflict_3 rfl rfl ?_
  refine ja_imulN dX8_isConflict_4 ?_
  refine ja_iload_n (i := 2) dX8_isConflict_5 rfl rfl ?_
  refine ja_iaddN dX8_isConflict_6 ?_
  refine ja_istore_n (i := 3) dX8_isConflict_7 rfl rfl (Nat.le_of_ble_eq_true rfl) ?_
  refine ja_aload_n (i := 0) dX8_isConflict_8 rfl rfl ?_
  refine ja_aload_n (i := 0) dX8_isConflict_9 rfl rfl ?_
  refine ja_getR fl_X8_52 (zM_s hz) rfl (zM_p17 hz) dX8_isConflict_10 ?_
  refine ja_iload_n (i := 1) dX8_isConflict_13 rfl rfl ?_
  refine ja_iald (zM_a17 hz) rfl (by omega) (by decide) dX8_isConflict_14 ?_
  refine ja_top (y := nI (ly)) hly ?_
  refine ja_iload_n (i := 2) dX8_isConflict_15 rfl rfl ?_
  refine ja_cVr (st := []) (s_at (D := D) l hz (ly := ly) (q := q) (by omega) (by omega)) rfl rfl (ce_X8_at 0 0) im_X8_at se_X8_at lk_X8_92 k_X8 (zM_s hz) ⟨(Nat.le_of_ble_eq_true rfl), (Nat.le_of_ble_eq_true rfl)⟩ dX8_isConflict_16 rfl rfl (Nat.le_of_ble_eq_true rfl) (Nat.zero_le _) (Nat.zero_le _) ?_
  refine ja_istore (i := 4) dX8_isConflict_19 rfl (Nat.le_of_ble_eq_true rfl) ?_
  refine ja_aload_n (i := 0) dX8_isConflict_21 rfl rfl ?_
  refine ja_getR fl_X8_55 (zM_s hz) rfl (zM_p18 hz) dX8_isConflict_22 ?_
  refine ja_iload_n (i := 3) dX8_isConflict_25 rfl rfl ?_
  refine ja_zald (zM_a18 hz) rfl (by omega) (by decide) dX8_isConflict_26 ?_
  refine ja_if_eq (tgt := 71) dX8_isConflict_27 (by decide) (fun c27 => ?_) (fun c27 => ?_)
  ·
    refine ja_iconst (v := nI 0) dX8_isConflict_71 (by decide +kernel) ?_
    refine ja_iret rfl (by decide +kernel) dX8_isConflict_72 (Nat.zero_le _) (Nat.zero_le _) ?_
    exact ⟨congrArg (fun x => some (Value.int x)) (bI_F (by simp_all)), rfl, rfl⟩
  ·
    refine ja_aload_n (i := 0) dX8_isConflict_30 rfl rfl ?_
    refine ja_getR fl_X8_61 (zM_s hz) rfl (zM_p20 hz) dX8_isConflict_31 ?_
    refine ja_iload_n (i := 3) dX8_isConflict_34 rfl rfl ?_
    refine ja_iald (zM_a20 hz) rfl (by omega) (by decide) dX8_isConflict_35 ?_
    refine ja_aload_n (i := 0) dX8_isConflict_36 rfl rfl ?_
    refine ja_getR fl_X8_58 (zM_s hz) rfl (zM_p19 hz) dX8_isConflict_37 ?_
    refine ja_iload_n (i := 3) dX8_isConflict_40 rfl rfl ?_
    refine ja_iald (zM_a19 hz) rfl (by omega) (by decide) dX8_isConflict_41 ?_
    refine ja_icmp_eq (tgt := 71) dX8_isConflict_42 (by decide) (fun c42 => ?_) (fun c42 => ?_)
    ·
      refine ja_iconst (v := nI 0) dX8_isConflict_71 (by decide +kernel) ?_
      refine ja_iret rfl (by decide +kernel) dX8_isConflict_72 (Nat.zero_le _) (Nat.zero_le _) ?_
      exact ⟨congrArg (fun x => some (Value.int x)) (bI_F (by simp_all)), rfl, rfl⟩
    ·
      refine ja_iload (i := 4) dX8_isConflict_45 rfl ?_
      refine ja_aload_n (i := 0) dX8_isConflict_47 rfl rfl ?_
      refine ja_getR fl_X8_58 (zM_s hz) rfl (zM_p19 hz) dX8_isConflict_48 ?_
      refine ja_iload_n (i := 3) dX8_isConflict_51 rfl rfl ?_
      refine ja_iald (zM_a19 hz) rfl (by omega) (by decide) dX8_isConflict_52 ?_
      refine ja_icmp_eq (tgt := 71) dX8_isConflict_53 (by decide) (fun c53 => ?_) (fun c53 => ?_)
      ·
        refine ja_iconst (v := nI 0) dX8_isConflict_71 (by decide +kernel) ?_
        refine ja_iret rfl (by decide +kernel) dX8_isConflict_72 (Nat.zero_le _) (Nat.zero_le _) ?_
        exact ⟨congrArg (fun x => some (Value.int x)) (bI_F (by simp_all)), rfl, rfl⟩
      ·
        refine ja_aload_n (i := 0) dX8_isConflict_56 rfl rfl ?_
        refine ja_getR fl_X8_61 (zM_s hz) rfl (zM_p20 hz) dX8_isConflict_57 ?_
        refine ja_iload_n (i := 3) dX8_isConflict_60 rfl rfl ?_
        refine ja_iald (zM_a20 hz) rfl (by omega) (by decide) dX8_isConflict_61 ?_
        refine ja_iload (i := 4) dX8_isConflict_62 rfl ?_
        refine ja_icmp_eq (tgt := 71) dX8_isConflict_64 (by decide) (fun c64 => ?_) (fun c64 => ?_)
        ·
          refine ja_iconst (v := nI 0) dX8_isConflict_71 (by decide +kernel) ?_
          refine ja_iret rfl (by decide +kernel) dX8_isConflict_72 (Nat.zero_le _) (Nat.zero_le _) ?_
          exact ⟨congrArg (fun x => some (Value.int x)) (bI_F (by simp_all)), rfl, rfl⟩
        ·
          refine ja_iconst (v := nI 1) dX8_isConflict_67 (by decide +kernel) ?_
          refine ja_goto (tgt := 72) dX8_isConflict_68 (by decide) ?_
          refine ja_iret rfl (by decide +kernel) dX8_isConflict_72 (Nat.zero_le _) (Nat.zero_le _) ?_
          exact ⟨congrArg (fun x => some (Value.int x)) (bI_T (by simp_all)), rfl, rfl⟩

def alo (f : Nat → Int32) (fl sl side q : Nat) : Nat := match nbM side q with
  | none => 0
  | some j => if ¬ f (256 * fl + j) = f (256 * fl + q) ∧ f (256 * sl + j) = f (256 * sl + q) then 1 else 0
def bkQ (f : Nat → Int32) (kd : Int32) (fl sl q : Nat) : Nat := (if (kd = nI 105 ∧ ¬ f (256 * fl + q) = -1 ∧ f (256 * sl + q) = -1) ∨ (kd = nI 110 ∧ ¬ f (256 * fl + q) = -1 ∧ ¬ f (256 * sl + q) = -1) then 1 else 0) + if kd = nI 97 then alo f fl sl 0 q + alo f fl sl 2 q else 0
def brk (f : Nat → Int32) (kd : Int32) (fl sl n : Nat) : Nat := fb_sm (bkQ f kd fl sl) n
theorem alo_le (f : Nat → Int32) (fl sl side q : Nat) : alo f fl sl side q ≤ 1 := by
  unfold alo
  split
  · omega
  · split <;> omega
theorem bkQ_le (f : Nat → Int32) (kd : Int32) (fl sl q : Nat) : bkQ f kd fl sl q ≤ 3 := by
  have h1 := alo_le f fl sl 0 q
  have h2 := alo_le f fl sl 2 q
  unfold bkQ
  split <;> split <;> omega
theorem brk_le (f : Nat → Int32) (kd : Int32) (fl sl n : Nat) : brk f kd fl sl n ≤ n * 3 := fb_sm_bound (fun k _ => bkQ_le f kd fl sl k)
/-- one square's sum, part by part -/
def bkA (f : Nat → Int32) (kd : Int32) (fl sl q s : Nat) : Nat := (if (kd = nI 105 ∧ ¬ f (256 * fl + q) = -1 ∧ f (256 * sl + q) = -1) ∨ (kd = nI 110 ∧ ¬ f (256 * fl + q) = -1 ∧ ¬ f (256 * sl + q) = -1) then 1 else 0) + if kd = nI 97 then (if 0 < s then alo f fl sl 0 q else 0) + (if 2 < s then alo f fl sl 2 q else 0) else 0
theorem bkA_end {f : Nat → Int32} {kd : Int32} {fl sl q s : Nat} (h : 4 ≤ s ∨ ¬ kd = nI 97) : bkA f kd fl sl q s = bkQ f kd fl sl q := by
  unfold bkA bkQ
  rcases h with h | h
  · rw [if_pos (show 0 < s by omega), if_pos (show 2 < s by omega)]
  · rw [if_neg h, if_neg h]

set_option maxRecDepth 100000 in
set_option maxHeartbeats 4000000 in
theorem s_brokenAt (l : Launch) {Z : jZ} {D : jD} (hz : zM Z) {r fl sl : Nat} {kd : Int32} (hr : r < 6) (hf : D 115 r = nI fl) (h1 : fl < 3) (hs : D 116 r = nI sl) (h2 : sl < 3) (hkd : D 114 r = kd) : ja_M l (mX8_brokenAt 0 0) [.ref (100), .int (nI (r))] Z D (ja_jr (some (.int (nI (brk (D 105) kd fl sl 256)))) Z D) ja_x0 := by
  refine ja_Mof (lv := [some (.ref (100)), some (.int (nI (r))), none, none, none, none, none, none]) (by decide +kernel) rfl rfl (Nat.le_of_ble_eq_true rfl) rfl ?_
  refine ja_iconst (v := nI 0) dX8_brokenAt_0 (by decide +kernel) ?_
  refine ja_istore_n (i := 2) dX8_brokenAt_1 rfl rfl (Nat.le_of_ble_eq_true rfl) ?_
  refine ja_iconst (v := nI 0) dX8_brokenAt_2 (by decide +kernel) ?_
  refine ja_istore_n (i := 3) dX8_brokenAt_3 rfl rfl (Nat.le_of_ble_eq_true rfl) ?_
  have lp4 : ∀ (k4 : Nat) (q n : Nat), (256 < q + k4) → (q ≤ 256) → (n = brk (D 105) kd fl sl q) → ja_A l (mX8_brokenAt 0 0) ja_sn (ja_Qf (mX8_brokenAt 0 0) (ja_jr (some (.int (nI (brk (D 105) kd fl sl 256)))) Z D) ja_x0) 4 [some (.ref (100)), some (.int (nI (r))), some (.int (nI (n))), some (.int (nI (q))), none, none, none, none] [] Z D 0 0 := by
    intro k4
    induction k4 with
    | zero => intro q n hk hq hn; exfalso; omega
    | succ k4 ih4 =>
      intro q n hk hq hn
      refine ja_iload_n (i := 3) dX8_brokenAt_4 rfl rfl ?_
      refine ja_sipush (v := nI 256) dX8_brokenAt_5 (by decide +kernel) ?_
      refine ja_icmpN_ge (tgt := 179) dX8_brokenAt_8 (by decide) (by omega) (by omega) (fun c8 => ?_) (fun c8 => ?_)
      ·
        refine ja_iload_n (i := 2) dX8_brokenAt_179 rfl rfl ?_
        refine ja_iret rfl rfl dX8_brokenAt_180 (Nat.zero_le _) (Nat.zero_le _) ?_
        refine ⟨?_, rfl, rfl⟩
        rw [hn, show q = 256 by omega]
      ·
        refine ja_aload_n (i := 0) dX8_brokenAt_11 rfl rfl ?_
        refine ja_aload_n (i := 0) dX8_brokenAt_12 rfl rfl ?_
        refine ja_getR fl_X8_46 (zM_s hz) rfl (zM_p14 hz) dX8_brokenAt_13 ?_
        refine ja_iload_n (i := 1) dX8_brokenAt_16 rfl rfl ?_
        refine ja_iald (zM_a14 hz) rfl (by omega) (by decide) dX8_brokenAt_17 ?_
        refine ja_top (y := nI (fl)) hf ?_
        refine ja_iload_n (i := 3) dX8_brokenAt_18 rfl rfl ?_
        refine ja_cVr (st := []) (s_at (D := D) l hz (ly := fl) (q := q) (by omega) (by omega)) rfl rfl (ce_X8_at 0 0) im_X8_at se_X8_at lk_X8_92 k_X8 (zM_s hz) ⟨(Nat.le_of_ble_eq_true rfl), (Nat.le_of_ble_eq_true rfl)⟩ dX8_brokenAt_19 rfl rfl (Nat.le_of_ble_eq_true rfl) (Nat.zero_le _) (Nat.zero_le _) ?_
        refine ja_istore (i := 4) dX8_brokenAt_22 rfl (Nat.le_of_ble_eq_true rfl) ?_
        refine ja_aload_n (i := 0) dX8_brokenAt_24 rfl rfl ?_
        refine ja_aload_n (i := 0) dX8_brokenAt_25 rfl rfl ?_
        refine ja_getR fl_X8_49 (zM_s hz) rfl (zM_p15 hz) dX8_brokenAt_26 ?_
        refine ja_iload_n (i := 1) dX8_brokenAt_29 rfl rfl ?_
        refine ja_iald (zM_a15 hz) rfl (by omega) (by decide) dX8_brokenAt_30 ?_
        refine ja_top (y := nI (sl)) hs ?_
        refine ja_iload_n (i := 3) dX8_brokenAt_31 rfl rfl ?_
        refine ja_cVr (st := []) (s_at (D := D) l hz (ly := sl) (q := q) (by omega) (by omega)) rfl rfl (ce_X8_at 0 0) im_X8_at se_X8_at lk_X8_92 k_X8 (zM_s hz) ⟨(Nat.le_of_ble_eq_true rfl), (Nat.le_of_ble_eq_true rfl)⟩ dX8_brokenAt_32 rfl rfl (Nat.le_of_ble_eq_true rfl) (Nat.zero_le _) (Nat.zero_le _) ?_
        refine ja_istore (i := 5) dX8_brokenAt_35 rfl (Nat.le_of_ble_eq_true rfl) ?_
        refine ja_iload_n (i := 2) dX8_brokenAt_37 rfl rfl ?_
        refine ja_aload_n (i := 0) dX8_brokenAt_38 rfl rfl ?_
        refine ja_getR fl_X8_42 (zM_s hz) rfl (zM_p13 hz) dX8_brokenAt_39 ?_
        refine ja_iload_n (i := 1) dX8_brokenAt_42 rfl rfl ?_
        refine ja_cald (zM_a13 hz) rfl (by omega) (by decide) dX8_brokenAt_43 ?_
        refine ja_top (y := kd) hkd ?_
        refine ja_bipush (v := nI 105) dX8_brokenAt_44 (by decide +kernel) ?_
        refine ja_icmp_ne (tgt := 61) dX8_brokenAt_46 (by decide) (fun c46 => ?_) (fun c46 => ?_)
        ·
          refine ja_aload_n (i := 0) dX8_brokenAt_61 rfl rfl ?_
          refine ja_getR fl_X8_42 (zM_s hz) rfl (zM_p13 hz) dX8_brokenAt_62 ?_
          refine ja_iload_n (i := 1) dX8_brokenAt_65 rfl rfl ?_
          refine ja_cald (zM_a13 hz) rfl (by omega) (by decide) dX8_brokenAt_66 ?_
          refine ja_top (y := kd) hkd ?_
          refine ja_bipush (v := nI 110) dX8_brokenAt_67 (by decide +kernel) ?_
          refine ja_icmp_ne (tgt := 88) dX8_brokenAt_69 (by decide) (fun c69 => ?_) (fun c69 => ?_)
          ·
            refine ja_iconst (v := nI 0) dX8_brokenAt_88 (by decide +kernel) ?_
            refine ja_iaddN dX8_brokenAt_89 ?_
            refine ja_istore_n (i := 2) dX8_brokenAt_90 rfl rfl (Nat.le_of_ble_eq_true rfl) ?_
            refine ja_iconst (v := nI 0) dX8_brokenAt_91 (by decide +kernel) ?_
            refine ja_istore (i := 6) dX8_brokenAt_92 rfl (Nat.le_of_ble_eq_true rfl) ?_
            have lp94 : ∀ (k94 : Nat) (s n2 : Nat), (4 < s + k94) → (s = 0 ∨ s = 2 ∨ s = 4) → (n2 = brk (D 105) kd fl sl q + bkA (D 105) kd fl sl q s) → ja_A l (mX8_brokenAt 0 0) ja_sn (ja_Qf (mX8_brokenAt 0 0) (ja_jr (some (.int (nI (brk (D 105) kd fl sl 256)))) Z D) ja_x0) 94 [some (.ref (100)), some (.int (nI (r))), some (.int (nI (n2))), some (.int (nI (q))), some (.int (D 105 (256 * fl + q))), some (.int (D 105 (256 * sl + q))), some (.int (nI (s))), none] [] Z D 0 0 := by
              intro k94
              induction k94 with
              | zero => intro s n2 hj4 hs4 hn2; exfalso; omega
              | succ k94 ih94 =>
                intro s n2 hj4 hs4 hn2
                refine ja_iload (i := 6) dX8_brokenAt_94 rfl ?_
                refine ja_iconst (v := nI 4) dX8_brokenAt_96 (by decide +kernel) ?_
                refine ja_icmpN_ge (tgt := 173) dX8_brokenAt_97 (by decide) (by omega) (by omega) (fun c97 => ?_) (fun c97 => ?_)
                ·
                  refine ja_iincN dX8_brokenAt_173 rfl rfl (Nat.le_of_ble_eq_true rfl) ?_
                  refine ja_goto (tgt := 4) dX8_brokenAt_176 (by decide) ?_
                  refine ja_forget (i := 4) ?_
                  refine ja_forget (i := 5) ?_
                  refine ja_forget (i := 6) ?_
                  exact ih4 (q + 1) _ (by omega) (by omega) (by rw [hn2, bkA_end (by first | exact Or.inl (by omega) | exact Or.inr c108)]; rfl)
                ·
                  refine ja_aload_n (i := 0) dX8_brokenAt_100 rfl rfl ?_
                  refine ja_getR fl_X8_42 (zM_s hz) rfl (zM_p13 hz) dX8_brokenAt_101 ?_
                  refine ja_iload_n (i := 1) dX8_brokenAt_104 rfl rfl ?_
                  refine ja_cald (zM_a13 hz) rfl (by omega) (by decide) dX8_brokenAt_105 ?_
                  refine ja_top (y := kd) hkd ?_
                  refine ja_bipush (v := nI 97) dX8_brokenAt_106 (by decide +kernel) ?_
                  refine ja_icmp_ne (tgt := 173) dX8_brokenAt_108 (by decide) (fun c108 => ?_) (fun c108 => ?_)
                  ·
                    refine ja_iincN dX8_brokenAt_173 rfl rfl (Nat.le_of_ble_eq_true rfl) ?_
                    refine ja_goto (tgt := 4) dX8_brokenAt_176 (by decide) ?_
                    refine ja_forget (i := 4) ?_
                    refine ja_forget (i := 5) ?_
                    refine ja_forget (i := 6) ?_
                    exact ih4 (q + 1) _ (by omega) (by omega) (by rw [hn2, bkA_end (by first | exact Or.inl (by omega) | exact Or.inr c108)]; rfl)
                  ·
                    refine ja_iload_n (i := 3) dX8_brokenAt_111 rfl rfl ?_
                    refine ja_iload (i := 6) dX8_brokenAt_112 rfl ?_
                    refine ja_cSr (st := []) (s_beside l (q := q) (side := s) (by omega) (by omega)) rfl rfl (ce_X8_beside 0 0) st_X8_beside lk_X8_129 ⟨(Nat.le_of_ble_eq_true rfl), (Nat.le_of_ble_eq_true rfl)⟩ dX8_brokenAt_114 rfl rfl (Nat.le_of_ble_eq_true rfl) (Nat.zero_le _) (Nat.zero_le _) ?_
                    refine ja_istore (i := 7) dX8_brokenAt_117 rfl (Nat.le_of_ble_eq_true rfl) ?_
                    rcases hnb : nbM s q with _ | j
                    ·
                      refine ja_iload_n (i := 2) dX8_brokenAt_119 rfl rfl ?_
                      refine ja_iload (i := 7) dX8_brokenAt_120 rfl ?_
                      refine ja_iconst (v := (-1)) dX8_brokenAt_122 (by decide +kernel) ?_
                      refine ja_icmp_eq (tgt := 164) dX8_brokenAt_123 (by decide) (fun c123 => ?_) (fun c123 => absurd rfl c123)
                      refine ja_iconst (v := nI 0) dX8_brokenAt_164 (by decide +kernel) ?_
                      refine ja_iaddN dX8_brokenAt_165 ?_
                      refine ja_istore_n (i := 2) dX8_brokenAt_166 rfl rfl (Nat.le_of_ble_eq_true rfl) ?_
                      refine ja_iinc (v := nI (s + 2)) dX8_brokenAt_167 rfl (nI_add s 2) rfl (Nat.le_of_ble_eq_true rfl) ?_
                      refine ja_goto (tgt := 94) dX8_brokenAt_170 (by decide) ?_
                      refine ja_forget (i := 7) ?_
                      exact ih94 (s + 2) _ (by omega) (by omega) (by rcases (show s = 0 ∨ s = 2 by omega) with rfl | rfl <;> (rw [hn2]; simp [bkA, alo, c108, hnb, brk]; try simp_all; try omega))
                    ·
                      have hj := nbM_lt (by omega) hnb
                      refine ja_iload_n (i := 2) dX8_brokenAt_119 rfl rfl ?_
                      refine ja_iload (i := 7) dX8_brokenAt_120 rfl ?_
                      refine ja_iconst (v := (-1)) dX8_brokenAt_122 (by decide +kernel) ?_
                      refine ja_icmp_eq (tgt := 164) dX8_brokenAt_123 (by decide) (fun c123 => absurd c123 (nI_nm1 (by omega))) (fun c123 => ?_)
                      refine ja_aload_n (i := 0) dX8_brokenAt_126 rfl rfl ?_
                      refine ja_aload_n (i := 0) dX8_brokenAt_127 rfl rfl ?_
                      refine ja_getR fl_X8_46 (zM_s hz) rfl (zM_p14 hz) dX8_brokenAt_128 ?_
                      refine ja_iload_n (i := 1) dX8_brokenAt_131 rfl rfl ?_
                      refine ja_iald (zM_a14 hz) rfl (by omega) (by decide) dX8_brokenAt_132 ?_
                      refine ja_top (y := nI (fl)) hf ?_
                      refine ja_iload (i := 7) dX8_brokenAt_133 rfl ?_
                      refine ja_cVr (st := [.int (nI (n2))]) (s_at (D := D) l hz (ly := fl) (q := j) (by omega) (by omega)) rfl rfl (ce_X8_at 0 0) im_X8_at se_X8_at lk_X8_92 k_X8 (zM_s hz) ⟨(Nat.le_of_ble_eq_true rfl), (Nat.le_of_ble_eq_true rfl)⟩ dX8_brokenAt_135 rfl rfl (Nat.le_of_ble_eq_true rfl) (Nat.zero_le _) (Nat.zero_le _) ?_
                      refine ja_iload (i := 4) dX8_brokenAt_138 rfl ?_
                      refine ja_icmp_eq (tgt := 164) dX8_brokenAt_140 (by decide) (fun c140 => ?_) (fun c140 => ?_)
                      ·
                        refine ja_iconst (v := nI 0) dX8_brokenAt_164 (by decide +kernel) ?_
                        refine ja_iaddN dX8_brokenAt_165 ?_
                        refine ja_istore_n (i := 2) dX8_brokenAt_166 rfl rfl (Nat.le_of_ble_eq_true rfl) ?_
                        refine ja_iinc (v := nI (s + 2)) dX8_brokenAt_167 rfl (nI_add s 2) rfl (Nat.le_of_ble_eq_true rfl) ?_
                        refine ja_goto (tgt := 94) dX8_brokenAt_170 (by decide) ?_
                        refine ja_forget (i := 7) ?_
                        exact ih94 (s + 2) _ (by omega) (by omega) (by rcases (show s = 0 ∨ s = 2 by omega) with rfl | rfl <;> (rw [hn2]; simp [bkA, alo, c108, hnb, brk]; try simp_all; try omega))
                      ·
                        refine ja_aload_n (i := 0) dX8_brokenAt_143 rfl rfl ?_
                        refine ja_aload_n (i := 0) dX8_brokenAt_144 rfl rfl ?_
                        refine ja_getR fl_X8_49 (zM_s hz) rfl (zM_p15 hz) dX8_brokenAt_145 ?_
                        refine ja_iload_n (i := 1) dX8_brokenAt_148 rfl rfl ?_
                        refine ja_iald (zM_a15 hz) rfl (by omega) (by decide) dX8_brokenAt_149 ?_
                        refine ja_top (y := nI (sl)) hs ?_
                        refine ja_iload (i := 7) dX8_brokenAt_150 rfl ?_
                        refine ja_cVr (st := [.int (nI (n2))]) (s_at (D := D) l hz (ly := sl) (q := j) (by omega) (by omega)) rfl rfl (ce_X8_at 0 0) im_X8_at se_X8_at lk_X8_92 k_X8 (zM_s hz) ⟨(Nat.le_of_ble_eq_true rfl), (Nat.le_of_ble_eq_true rfl)⟩ dX8_brokenAt_152 rfl rfl (Nat.le_of_ble_eq_true rfl) (Nat.zero_le _) (Nat.zero_le _) ?_
                        refine ja_iload (i := 5) dX8_brokenAt_155 rfl ?_
                        refine ja_icmp_ne (tgt := 164) dX8_brokenAt_157 (by decide) (fun c157 => ?_) (fun c157 => ?_)
                        ·
                          refine ja_iconst (v := nI 0) dX8_brokenAt_164 (by decide +kernel) ?_
                          refine ja_iaddN dX8_brokenAt_165 ?_
                          refine ja_istore_n (i := 2) dX8_brokenAt_166 rfl rfl (Nat.le_of_ble_eq_true rfl) ?_
                          refine ja_iinc (v := nI (s + 2)) dX8_brokenAt_167 rfl (nI_add s 2) rfl (Nat.le_of_ble_eq_true rfl) ?_
                          refine ja_goto (tgt := 94) dX8_brokenAt_170 (by decide) ?_
                          refine ja_forget (i := 7) ?_
                          exact ih94 (s + 2) _ (by omega) (by omega) (by rcases (show s = 0 ∨ s = 2 by omega) with rfl | rfl <;> (rw [hn2]; simp [bkA, alo, c108, hnb, brk]; try simp_all; try omega))
                        ·
                          refine ja_iconst (v := nI 1) dX8_brokenAt_160 (by decide +kernel) ?_
                          refine ja_goto (tgt := 165) dX8_brokenAt_161 (by decide) ?_
                          refine ja_iaddN dX8_brokenAt_165 ?_
                          refine ja_istore_n (i := 2) dX8_brokenAt_166 rfl rfl (Nat.le_of_ble_eq_true rfl) ?_
                          refine ja_iinc (v := nI (s + 2)) dX8_brokenAt_167 rfl (nI_add s 2) rfl (Nat.le_of_ble_eq_true rfl) ?_
                          refine ja_goto (tgt := 94) dX8_brokenAt_170 (by decide) ?_
                          refine ja_forget (i := 7) ?_
                          exact ih94 (s + 2) _ (by omega) (by omega) (by rcases (show s = 0 ∨ s = 2 by omega) with rfl | rfl <;> (rw [hn2]; simp [bkA, alo, c108, hnb, brk]; try simp_all; try omega))
            exact lp94 5 0 _ (by omega) (by omega) (by rw [← hn]; simp [bkA]; simp_all)
          ·
            refine ja_iload (i := 4) dX8_brokenAt_72 rfl ?_
            refine ja_iconst (v := (-1)) dX8_brokenAt_74 (by decide +kernel) ?_
            refine ja_icmp_eq (tgt := 88) dX8_brokenAt_75 (by decide) (fun c75 => ?_) (fun c75 => ?_)
            ·
              refine ja_iconst (v := nI 0) dX8_brokenAt_88 (by decide +kernel) ?_
              refine ja_iaddN dX8_brokenAt_89 ?_
              refine ja_istore_n (i := 2) dX8_brokenAt_90 rfl rfl (Nat.le_of_ble_eq_true rfl) ?_
              refine ja_iconst (v := nI 0) dX8_brokenAt_91 (by decide +kernel) ?_
              refine ja_istore (i := 6) dX8_brokenAt_92 rfl (Nat.le_of_ble_eq_true rfl) ?_
              have lp94 : ∀ (k94 : Nat) (s n2 : Nat), (4 < s + k94) → (s = 0 ∨ s = 2 ∨ s = 4) → (n2 = brk (D 105) kd fl sl q + bkA (D 105) kd fl sl q s) → ja_A l (mX8_brokenAt 0 0) ja_sn (ja_Qf (mX8_brokenAt 0 0) (ja_jr (some (.int (nI (brk (D 105) kd fl sl 256)))) Z D) ja_x0) 94 [some (.ref (100)), some (.int (nI (r))), some (.int (nI (n2))), some (.int (nI (q))), some (.int (D 105 (256 * fl + q))), some (.int (D 105 (256 * sl + q))), some (.int (nI (s))), none] [] Z D 0 0 := by
                intro k94
                induction k94 with
                | zero => intro s n2 hj4 hs4 hn2; exfalso; omega
                | succ k94 ih94 =>
                  intro s n2 hj4 hs4 hn2
                  refine ja_iload (i := 6) dX8_brokenAt_94 rfl ?_
                  refine ja_iconst (v := nI 4) dX8_brokenAt_96 (by decide +kernel) ?_
                  refine ja_icmpN_ge (tgt := 173) dX8_brokenAt_97 (by decide) (by omega) (by omega) (fun c97 => ?_) (fun c97 => ?_)
                  ·
                    refine ja_iincN dX8_brokenAt_173 rfl rfl (Nat.le_of_ble_eq_true rfl) ?_
                    refine ja_goto (tgt := 4) dX8_brokenAt_176 (by decide) ?_
                    refine ja_forget (i := 4) ?_
                    refine ja_forget (i := 5) ?_
                    refine ja_forget (i := 6) ?_
                    exact ih4 (q + 1) _ (by omega) (by omega) (by rw [hn2, bkA_end (by first | exact Or.inl (by omega) | exact Or.inr c108)]; rfl)
                  ·
                    refine ja_aload_n (i := 0) dX8_brokenAt_100 rfl rfl ?_
                    refine ja_getR fl_X8_42 (zM_s hz) rfl (zM_p13 hz) dX8_brokenAt_101 ?_
                    refine ja_iload_n (i := 1) dX8_brokenAt_104 rfl rfl ?_
                    refine ja_cald (zM_a13 hz) rfl (by omega) (by decide) dX8_brokenAt_105 ?_
                    refine ja_top (y := kd) hkd ?_
                    refine ja_bipush (v := nI 97) dX8_brokenAt_106 (by decide +kernel) ?_
                    refine ja_icmp_ne (tgt := 173) dX8_brokenAt_108 (by decide) (fun c108 => ?_) (fun c108 => ?_)
                    ·
                      refine ja_iincN dX8_brokenAt_173 rfl rfl (Nat.le_of_ble_eq_true rfl) ?_
                      refine ja_goto (tgt := 4) dX8_brokenAt_176 (by decide) ?_
                      refine ja_forget (i := 4) ?_
                      refine ja_forget (i := 5) ?_
                      refine ja_forget (i := 6) ?_
                      exact ih4 (q + 1) _ (by omega) (by omega) (by rw [hn2, bkA_end (by first | exact Or.inl (by omega) | exact Or.inr c108)]; rfl)
                    ·
                      refine ja_iload_n (i := 3) dX8_brokenAt_111 rfl rfl ?_
                      refine ja_iload (i := 6) dX8_brokenAt_112 rfl ?_
                      refine ja_cSr (st := []) (s_beside l (q := q) (side := s) (by omega) (by omega)) rfl rfl (ce_X8_beside 0 0) st_X8_beside lk_X8_129 ⟨(Nat.le_of_ble_eq_true rfl), (Nat.le_of_ble_eq_true rfl)⟩ dX8_brokenAt_114 rfl rfl (Nat.le_of_ble_eq_true rfl) (Nat.zero_le _) (Nat.zero_le _) ?_
                      refine ja_istore (i := 7) dX8_brokenAt_117 rfl (Nat.le_of_ble_eq_true rfl) ?_
                      rcases hnb : nbM s q with _ | j
                      ·
                        refine ja_iload_n (i := 2) dX8_brokenAt_119 rfl rfl ?_
                        refine ja_iload (i := 7) dX8_brokenAt_120 rfl ?_
                        refine ja_iconst (v := (-1)) dX8_brokenAt_122 (by decide +kernel) ?_
                        refine ja_icmp_eq (tgt := 164) dX8_brokenAt_123 (by decide) (fun c123 => ?_) (fun c123 => absurd rfl c123)
                        refine ja_iconst (v := nI 0) dX8_brokenAt_164 (by decide +kernel) ?_
                        refine ja_iaddN dX8_brokenAt_165 ?_
                        refine ja_istore_n (i := 2) dX8_brokenAt_166 rfl rfl (Nat.le_of_ble_eq_true rfl) ?_
                        refine ja_iinc (v := nI (s + 2)) dX8_brokenAt_167 rfl (nI_add s 2) rfl (Nat.le_of_ble_eq_true rfl) ?_
                        refine ja_goto (tgt := 94) dX8_brokenAt_170 (by decide) ?_
                        refine ja_forget (i := 7) ?_
                        exact ih94 (s + 2) _ (by omega) (by omega) (by rcases (show s = 0 ∨ s = 2 by omega) with rfl | rfl <;> (rw [hn2]; simp [bkA, alo, c108, hnb, brk]; try simp_all; try omega))
                      ·
                        have hj := nbM_lt (by omega) hnb
                        refine ja_iload_n (i := 2) dX8_brokenAt_119 rfl rfl ?_
                        refine ja_iload (i := 7) dX8_brokenAt_120 rfl ?_
                        refine ja_iconst (v := (-1)) dX8_brokenAt_122 (by decide +kernel) ?_
                        refine ja_icmp_eq (tgt := 164) dX8_brokenAt_123 (by decide) (fun c123 => absurd c123 (nI_nm1 (by omega))) (fun c123 => ?_)
                        refine ja_aload_n (i := 0) dX8_brokenAt_126 rfl rfl ?_
                        refine ja_aload_n (i := 0) dX8_brokenAt_127 rfl rfl ?_
                        refine ja_getR fl_X8_46 (zM_s hz) rfl (zM_p14 hz) dX8_brokenAt_128 ?_
                        refine ja_iload_n (i := 1) dX8_brokenAt_131 rfl rfl ?_
                        refine ja_iald (zM_a14 hz) rfl (by omega) (by decide) dX8_brokenAt_132 ?_
                        refine ja_top (y := nI (fl)) hf ?_
                        refine ja_iload (i := 7) dX8_brokenAt_133 rfl ?_
                        refine ja_cVr (st := [.int (nI (n2))]) (s_at (D := D) l hz (ly := fl) (q := j) (by omega) (by omega)) rfl rfl (ce_X8_at 0 0) im_X8_at se_X8_at lk_X8_92 k_X8 (zM_s hz) ⟨(Nat.le_of_ble_eq_true rfl), (Nat.le_of_ble_eq_true rfl)⟩ dX8_brokenAt_135 rfl rfl (Nat.le_of_ble_eq_true rfl) (Nat.zero_le _) (Nat.zero_le _) ?_
                        refine ja_iload (i := 4) dX8_brokenAt_138 rfl ?_
                        refine ja_icmp_eq (tgt := 164) dX8_brokenAt_140 (by decide) (fun c140 => ?_) (fun c140 => ?_)
                        ·
                          refine ja_iconst (v := nI 0) dX8_brokenAt_164 (by decide +kernel) ?_
                          refine ja_iaddN dX8_brokenAt_165 ?_
                          refine ja_istore_n (i := 2) dX8_brokenAt_166 rfl rfl (Nat.le_of_ble_eq_true rfl) ?_
                          refine ja_iinc (v := nI (s + 2)) dX8_brokenAt_167 rfl (nI_add s 2) rfl (Nat.le_of_ble_eq_true rfl) ?_
                          refine ja_goto (tgt := 94) dX8_brokenAt_170 (by decide) ?_
                          refine ja_forget (i := 7) ?_
                          exact ih94 (s + 2) _ (by omega) (by omega) (by rcases (show s = 0 ∨ s = 2 by omega) with rfl | rfl <;> (rw [hn2]; simp [bkA, alo, c108, hnb, brk]; try simp_all; try omega))
                        ·
                          refine ja_aload_n (i := 0) dX8_brokenAt_143 rfl rfl ?_
                          refine ja_aload_n (i := 0) dX8_brokenAt_144 rfl rfl ?_
                          refine ja_getR fl_X8_49 (zM_s hz) rfl (zM_p15 hz) dX8_brokenAt_145 ?_
                          refine ja_iload_n (i := 1) dX8_brokenAt_148 rfl rfl ?_
                          refine ja_iald (zM_a15 hz) rfl (by omega) (by decide) dX8_brokenAt_149 ?_
                          refine ja_top (y := nI (sl)) hs ?_
                          refine ja_iload (i := 7) dX8_brokenAt_150 rfl ?_
                          refine ja_cVr (st := [.int (nI (n2))]) (s_at (D := D) l hz (ly := sl) (q := j) (by omega) (by omega)) rfl rfl (ce_X8_at 0 0) im_X8_at se_X8_at lk_X8_92 k_X8 (zM_s hz) ⟨(Nat.le_of_ble_eq_true rfl), (Nat.le_of_ble_eq_true rfl)⟩ dX8_brokenAt_152 rfl rfl (Nat.le_of_ble_eq_true rfl) (Nat.zero_le _) (Nat.zero_le _) ?_
                          refine ja_iload (i := 5) dX8_brokenAt_155 rfl ?_
                          refine ja_icmp_ne (tgt := 164) dX8_brokenAt_157 (by decide) (fun c157 => ?_) (fun c157 => ?_)
                          ·
                            refine ja_iconst (v := nI 0) dX8_brokenAt_164 (by decide +kernel) ?_
                            refine ja_iaddN dX8_brokenAt_165 ?_
                            refine ja_istore_n (i := 2) dX8_brokenAt_166 rfl rfl (Nat.le_of_ble_eq_true rfl) ?_
                            refine ja_iinc (v := nI (s + 2)) dX8_brokenAt_167 rfl (nI_add s 2) rfl (Nat.le_of_ble_eq_true rfl) ?_
                            refine ja_goto (tgt := 94) dX8_brokenAt_170 (by decide) ?_
                            refine ja_forget (i := 7) ?_
                            exact ih94 (s + 2) _ (by omega) (by omega) (by rcases (show s = 0 ∨ s = 2 by omega) with rfl | rfl <;> (rw [hn2]; simp [bkA, alo, c108, hnb, brk]; try simp_all; try omega))
                          ·
                            refine ja_iconst (v := nI 1) dX8_brokenAt_160 (by decide +kernel) ?_
                            refine ja_goto (tgt := 165) dX8_brokenAt_161 (by decide) ?_
                            refine ja_iaddN dX8_brokenAt_165 ?_
                            refine ja_istore_n (i := 2) dX8_brokenAt_166 rfl rfl (Nat.le_of_ble_eq_true rfl) ?_
                            refine ja_iinc (v := nI (s + 2)) dX8_brokenAt_167 rfl (nI_add s 2) rfl (Nat.le_of_ble_eq_true rfl) ?_
                            refine ja_goto (tgt := 94) dX8_brokenAt_170 (by decide) ?_
                            refine ja_forget (i := 7) ?_
                            exact ih94 (s + 2) _ (by omega) (by omega) (by rcases (show s = 0 ∨ s = 2 by omega) with rfl | rfl <;> (rw [hn2]; simp [bkA, alo, c108, hnb, brk]; try simp_all; try omega))
              exact lp94 5 0 _ (by omega) (by omega) (by rw [← hn]; simp [bkA]; simp_all)
            ·
              refine ja_iload (i := 5) dX8_brokenAt_78 rfl ?_
              refine ja_iconst (v := (-1)) dX8_brokenAt_80 (by decide +kernel) ?_
              refine ja_icmp_eq (tgt := 88) dX8_brokenAt_81 (by decide) (fun c81 => ?_) (fun c81 => ?_)
              ·
                refine ja_iconst (v := nI 0) dX8_brokenAt_88 (by decide +kernel) ?_
                refine ja_iaddN dX8_brokenAt_89 ?_
                refine ja_istore_n (i := 2) dX8_brokenAt_90 rfl rfl (Nat.le_of_ble_eq_true rfl) ?_
                refine ja_iconst (v := nI 0) dX8_brokenAt_91 (by decide +kernel) ?_
                refine ja_istore (i := 6) dX8_brokenAt_92 rfl (Nat.le_of_ble_eq_true rfl) ?_
                have lp94 : ∀ (k94 : Nat) (s n2 : Nat), (4 < s + k94) → (s = 0 ∨ s = 2 ∨ s = 4) → (n2 = brk (D 105) kd fl sl q + bkA (D 105) kd fl sl q s) → ja_A l (mX8_brokenAt 0 0) ja_sn (ja_Qf (mX8_brokenAt 0 0) (ja_jr (some (.int (nI (brk (D 105) kd fl sl 256)))) Z D) ja_x0) 94 [some (.ref (100)), some (.int (nI (r))), some (.int (nI (n2))), some (.int (nI (q))), some (.int (D 105 (256 * fl + q))), some (.int (D 105 (256 * sl + q))), some (.int (nI (s))), none] [] Z D 0 0 := by
                  intro k94
                  induction k94 with
                  | zero => intro s n2 hj4 hs4 hn2; exfalso; omega
                  | succ k94 ih94 =>
                    intro s n2 hj4 hs4 hn2
                    refine ja_iload (i := 6) dX8_brokenAt_94 rfl ?_
                    refine ja_iconst (v := nI 4) dX8_brokenAt_96 (by decide +kernel) ?_
                    refine ja_icmpN_ge (tgt := 173) dX8_brokenAt_97 (by decide) (by omega) (by omega) (fun c97 => ?_) (fun c97 => ?_)
                    ·
                      refine ja_iincN dX8_brokenAt_173 rfl rfl (Nat.le_of_ble_eq_true rfl) ?_
                      refine ja_goto (tgt := 4) dX8_brokenAt_176 (by decide) ?_
                      refine ja_forget (i := 4) ?_
                      refine ja_forget (i := 5) ?_
                      refine ja_forget (i := 6) ?_
                      exact ih4 (q + 1) _ (by omega) (by omega) (by rw [hn2, bkA_end (by first | exact Or.inl (by omega) | exact Or.inr c108)]; rfl)
                    ·
                      refine ja_aload_n (i := 0) dX8_brokenAt_100 rfl rfl ?_
                      refine ja_getR fl_X8_42 (zM_s hz) rfl (zM_p13 hz) dX8_brokenAt_101 ?_
                      refine ja_iload_n (i := 1) dX8_brokenAt_104 rfl rfl ?_
                      refine ja_cald (zM_a13 hz) rfl (by omega) (by decide) dX8_brokenAt_105 ?_
                      refine ja_top (y := kd) hkd ?_
                      refine ja_bipush (v := nI 97) dX8_brokenAt_106 (by decide +kernel) ?_
                      refine ja_icmp_ne (tgt := 173) dX8_brokenAt_108 (by decide) (fun c108 => ?_) (fun c108 => ?_)
                      ·
                        refine ja_iincN dX8_brokenAt_173 rfl rfl (Nat.le_of_ble_eq_true rfl) ?_
                        refine ja_goto (tgt := 4) dX8_brokenAt_176 (by decide) ?_
                        refine ja_forget (i := 4) ?_
                        refine ja_forget (i := 5) ?_
                        refine ja_forget (i := 6) ?_
                        exact ih4 (q + 1) _ (by omega) (by omega) (by rw [hn2, bkA_end (by first | exact Or.inl (by omega) | exact Or.inr c108)]; rfl)
                      ·
                        refine ja_iload_n (i := 3) dX8_brokenAt_111 rfl rfl ?_
                        refine ja_iload (i := 6) dX8_brokenAt_112 rfl ?_
                        refine ja_cSr (st := []) (s_beside l (q := q) (side := s) (by omega) (by omega)) rfl rfl (ce_X8_beside 0 0) st_X8_beside lk_X8_129 ⟨(Nat.le_of_ble_eq_true rfl), (Nat.le_of_ble_eq_true rfl)⟩ dX8_brokenAt_114 rfl rfl (Nat.le_of_ble_eq_true rfl) (Nat.zero_le _) (Nat.zero_le _) ?_
                        refine ja_istore (i := 7) dX8_brokenAt_117 rfl (Nat.le_of_ble_eq_true rfl) ?_
                        rcases hnb : nbM s q with _ | j
                        ·
                          refine ja_iload_n (i := 2) dX8_brokenAt_119 rfl rfl ?_
                          refine ja_iload (i := 7) dX8_brokenAt_120 rfl ?_
                          refine ja_iconst (v := (-1)) dX8_brokenAt_122 (by decide +kernel) ?_
                          refine ja_icmp_eq (tgt := 164) dX8_brokenAt_123 (by decide) (fun c123 => ?_) (fun c123 => absurd rfl c123)
                          refine ja_iconst (v := nI 0) dX8_brokenAt_164 (by decide +kernel) ?_
                          refine ja_iaddN dX8_brokenAt_165 ?_
                          refine ja_istore_n (i := 2) dX8_brokenAt_166 rfl rfl (Nat.le_of_ble_eq_true rfl) ?_
                          refine ja_iinc (v := nI (s + 2)) dX8_brokenAt_167 rfl (nI_add s 2) rfl (Nat.le_of_ble_eq_true rfl) ?_
                          refine ja_goto (tgt := 94) dX8_brokenAt_170 (by decide) ?_
                          refine ja_forget (i := 7) ?_
                          exact ih94 (s + 2) _ (by omega) (by omega) (by rcases (show s = 0 ∨ s = 2 by omega) with rfl | rfl <;> (rw [hn2]; simp [bkA, alo, c108, hnb, brk]; try simp_all; try omega))
                        ·
                          have hj := nbM_lt (by omega) hnb
                          refine ja_iload_n (i := 2) dX8_brokenAt_119 rfl rfl ?_
                          refine ja_iload (i := 7) dX8_brokenAt_120 rfl ?_
                          refine ja_iconst (v := (-1)) dX8_brokenAt_122 (by decide +kernel) ?_
                          refine ja_icmp_eq (tgt := 164) dX8_brokenAt_123 (by decide) (fun c123 => absurd c123 (nI_nm1 (by omega))) (fun c123 => ?_)
                          refine ja_aload_n (i := 0) dX8_brokenAt_126 rfl rfl ?_
                          refine ja_aload_n (i := 0) dX8_brokenAt_127 rfl rfl ?_
                          refine ja_getR fl_X8_46 (zM_s hz) rfl (zM_p14 hz) dX8_brokenAt_128 ?_
                          refine ja_iload_n (i := 1) dX8_brokenAt_131 rfl rfl ?_
                          refine ja_iald (zM_a14 hz) rfl (by omega) (by decide) dX8_brokenAt_132 ?_
                          refine ja_top (y := nI (fl)) hf ?_
                          refine ja_iload (i := 7) dX8_brokenAt_133 rfl ?_
                          refine ja_cVr (st := [.int (nI (n2))]) (s_at (D := D) l hz (ly := fl) (q := j) (by omega) (by omega)) rfl rfl (ce_X8_at 0 0) im_X8_at se_X8_at lk_X8_92 k_X8 (zM_s hz) ⟨(Nat.le_of_ble_eq_true rfl), (Nat.le_of_ble_eq_true rfl)⟩ dX8_brokenAt_135 rfl rfl (Nat.le_of_ble_eq_true rfl) (Nat.zero_le _) (Nat.zero_le _) ?_
                          refine ja_iload (i := 4) dX8_brokenAt_138 rfl ?_
                          refine ja_icmp_eq (tgt := 164) dX8_brokenAt_140 (by decide) (fun c140 => ?_) (fun c140 => ?_)
                          ·
                            refine ja_iconst (v := nI 0) dX8_brokenAt_164 (by decide +kernel) ?_
                            refine ja_iaddN dX8_brokenAt_165 ?_
                            refine ja_istore_n (i := 2) dX8_brokenAt_166 rfl rfl (Nat.le_of_ble_eq_true rfl) ?_
                            refine ja_iinc (v := nI (s + 2)) dX8_brokenAt_167 rfl (nI_add s 2) rfl (Nat.le_of_ble_eq_true rfl) ?_
                            refine ja_goto (tgt := 94) dX8_brokenAt_170 (by decide) ?_
                            refine ja_forget (i := 7) ?_
                            exact ih94 (s + 2) _ (by omega) (by omega) (by rcases (show s = 0 ∨ s = 2 by omega) with rfl | rfl <;> (rw [hn2]; simp [bkA, alo, c108, hnb, brk]; try simp_all; try omega))
                          ·
                            refine ja_aload_n (i := 0) dX8_brokenAt_143 rfl rfl ?_
                            refine ja_aload_n (i := 0) dX8_brokenAt_144 rfl rfl ?_
                            refine ja_getR fl_X8_49 (zM_s hz) rfl (zM_p15 hz) dX8_brokenAt_145 ?_
                            refine ja_iload_n (i := 1) dX8_brokenAt_148 rfl rfl ?_
                            refine ja_iald (zM_a15 hz) rfl (by omega) (by decide) dX8_brokenAt_149 ?_
                            refine ja_top (y := nI (sl)) hs ?_
                            refine ja_iload (i := 7) dX8_brokenAt_150 rfl ?_
                            refine ja_cVr (st := [.int (nI (n2))]) (s_at (D := D) l hz (ly := sl) (q := j) (by omega) (by omega)) rfl rfl (ce_X8_at 0 0) im_X8_at se_X8_at lk_X8_92 k_X8 (zM_s hz) ⟨(Nat.le_of_ble_eq_true rfl), (Nat.le_of_ble_eq_true rfl)⟩ dX8_brokenAt_152 rfl rfl (Nat.le_of_ble_eq_true rfl) (Nat.zero_le _) (Nat.zero_le _) ?_
                            refine ja_iload (i := 5) dX8_brokenAt_155 rfl ?_
                            refine ja_icmp_ne (tgt := 164) dX8_brokenAt_157 (by decide) (fun c157 => ?_) (fun c157 => ?_)
                            ·
                              refine ja_iconst (v := nI 0) dX8_brokenAt_164 (by decide +kernel) ?_
                              refine ja_iaddN dX8_brokenAt_165 ?_
                              refine ja_istore_n (i := 2) dX8_brokenAt_166 rfl rfl (Nat.le_of_ble_eq_true rfl) ?_
                              refine ja_iinc (v := nI (s + 2)) dX8_brokenAt_167 rfl (nI_add s 2) rfl (Nat.le_of_ble_eq_true rfl) ?_
                              refine ja_goto (tgt := 94) dX8_brokenAt_170 (by decide) ?_
                              refine ja_forget (i := 7) ?_
                              exact ih94 (s + 2) _ (by omega) (by omega) (by rcases (show s = 0 ∨ s = 2 by omega) with rfl | rfl <;> (rw [hn2]; simp [bkA, alo, c108, hnb, brk]; try simp_all; try omega))
                            ·
                              refine ja_iconst (v := nI 1) dX8_brokenAt_160 (by decide +kernel) ?_
                              refine ja_goto (tgt := 165) dX8_brokenAt_161 (by decide) ?_
                              refine ja_iaddN dX8_brokenAt_165 ?_
                              refine ja_istore_n (i := 2) dX8_brokenAt_166 rfl rfl (Nat.le_of_ble_eq_true rfl) ?_
                              refine ja_iinc (v := nI (s + 2)) dX8_brokenAt_167 rfl (nI_add s 2) rfl (Nat.le_of_ble_eq_true rfl) ?_
                              refine ja_goto (tgt := 94) dX8_brokenAt_170 (by decide) ?_
                              refine ja_forget (i := 7) ?_
                              exact ih94 (s + 2) _ (by omega) (by omega) (by rcases (show s = 0 ∨ s = 2 by omega) with rfl | rfl <;> (rw [hn2]; simp [bkA, alo, c108, hnb, brk]; try simp_all; try omega))
                exact lp94 5 0 _ (by omega) (by omega) (by rw [← hn]; simp [bkA]; simp_all)
              ·
                refine ja_iconst (v := nI 1) dX8_brokenAt_84 (by decide +kernel) ?_
                refine ja_goto (tgt := 89) dX8_brokenAt_85 (by decide) ?_
                refine ja_iaddN dX8_brokenAt_89 ?_
                refine ja_istore_n (i := 2) dX8_brokenAt_90 rfl rfl (Nat.le_of_ble_eq_true rfl) ?_
                refine ja_iconst (v := nI 0) dX8_brokenAt_91 (by decide +kernel) ?_
                refine ja_istore (i := 6) dX8_brokenAt_92 rfl (Nat.le_of_ble_eq_true rfl) ?_
                have lp94 : ∀ (k94 : Nat) (s n2 : Nat), (4 < s + k94) → (s = 0 ∨ s = 2 ∨ s = 4) → (n2 = brk (D 105) kd fl sl q + bkA (D 105) kd fl sl q s) → ja_A l (mX8_brokenAt 0 0) ja_sn (ja_Qf (mX8_brokenAt 0 0) (ja_jr (some (.int (nI (brk (D 105) kd fl sl 256)))) Z D) ja_x0) 94 [some (.ref (100)), some (.int (nI (r))), some (.int (nI (n2))), some (.int (nI (q))), some (.int (D 105 (256 * fl + q))), some (.int (D 105 (256 * sl + q))), some (.int (nI (s))), none] [] Z D 0 0 := by
                  intro k94
                  induction k94 with
                  | zero => intro s n2 hj4 hs4 hn2; exfalso; omega
                  | succ k94 ih94 =>
                    intro s n2 hj4 hs4 hn2
                    refine ja_iload (i := 6) dX8_brokenAt_94 rfl ?_
                    refine ja_iconst (v := nI 4) dX8_brokenAt_96 (by decide +kernel) ?_
                    refine ja_icmpN_ge (tgt := 173) dX8_brokenAt_97 (by decide) (by omega) (by omega) (fun c97 => ?_) (fun c97 => ?_)
                    ·
                      refine ja_iincN dX8_brokenAt_173 rfl rfl (Nat.le_of_ble_eq_true rfl) ?_
                      refine ja_goto (tgt := 4) dX8_brokenAt_176 (by decide) ?_
                      refine ja_forget (i := 4) ?_
                      refine ja_forget (i := 5) ?_
                      refine ja_forget (i := 6) ?_
                      exact ih4 (q + 1) _ (by omega) (by omega) (by rw [hn2, bkA_end (by first | exact Or.inl (by omega) | exact Or.inr c108)]; rfl)
                    ·
                      refine ja_aload_n (i := 0) dX8_brokenAt_100 rfl rfl ?_
                      refine ja_getR fl_X8_42 (zM_s hz) rfl (zM_p13 hz) dX8_brokenAt_101 ?_
                      refine ja_iload_n (i := 1) dX8_brokenAt_104 rfl rfl ?_
                      refine ja_cald (zM_a13 hz) rfl (by omega) (by decide) dX8_brokenAt_105 ?_
                      refine ja_top (y := kd) hkd ?_
                      refine ja_bipush (v := nI 97) dX8_brokenAt_106 (by decide +kernel) ?_
                      refine ja_icmp_ne (tgt := 173) dX8_brokenAt_108 (by decide) (fun c108 => ?_) (fun c108 => ?_)
                      ·
                        refine ja_iincN dX8_brokenAt_173 rfl rfl (Nat.le_of_ble_eq_true rfl) ?_
                        refine ja_goto (tgt := 4) dX8_brokenAt_176 (by decide) ?_
                        refine ja_forget (i := 4) ?_
                        refine ja_forget (i := 5) ?_
                        refine ja_forget (i := 6) ?_
                        exact ih4 (q + 1) _ (by omega) (by omega) (by rw [hn2, bkA_end (by first | exact Or.inl (by omega) | exact Or.inr c108)]; rfl)
                      ·
                        refine ja_iload_n (i := 3) dX8_brokenAt_111 rfl rfl ?_
                        refine ja_iload (i := 6) dX8_brokenAt_112 rfl ?_
                        refine ja_cSr (st := []) (s_beside l (q := q) (side := s) (by omega) (by omega)) rfl rfl (ce_X8_beside 0 0) st_X8_beside lk_X8_129 ⟨(Nat.le_of_ble_eq_true rfl), (Nat.le_of_ble_eq_true rfl)⟩ dX8_brokenAt_114 rfl rfl (Nat.le_of_ble_eq_true rfl) (Nat.zero_le _) (Nat.zero_le _) ?_
                        refine ja_istore (i := 7) dX8_brokenAt_117 rfl (Nat.le_of_ble_eq_true rfl) ?_
                        rcases hnb : nbM s q with _ | j
                        ·
                          refine ja_iload_n (i := 2) dX8_brokenAt_119 rfl rfl ?_
                          refine ja_iload (i := 7) dX8_brokenAt_120 rfl ?_
                          refine ja_iconst (v := (-1)) dX8_brokenAt_122 (by decide +kernel) ?_
                          refine ja_icmp_eq (tgt := 164) dX8_brokenAt_123 (by decide) (fun c123 => ?_) (fun c123 => absurd rfl c123)
                          refine ja_iconst (v := nI 0) dX8_brokenAt_164 (by decide +kernel) ?_
                          refine ja_iaddN dX8_brokenAt_165 ?_
                          refine ja_istore_n (i := 2) dX8_brokenAt_166 rfl rfl (Nat.le_of_ble_eq_true rfl) ?_
                          refine ja_iinc (v := nI (s + 2)) dX8_brokenAt_167 rfl (nI_add s 2) rfl (Nat.le_of_ble_eq_true rfl) ?_
                          refine ja_goto (tgt := 94) dX8_brokenAt_170 (by decide) ?_
                          refine ja_forget (i := 7) ?_
                          exact ih94 (s + 2) _ (by omega) (by omega) (by rcases (show s = 0 ∨ s = 2 by omega) with rfl | rfl <;> (rw [hn2]; simp [bkA, alo, c108, hnb, brk]; try simp_all; try omega))
                        ·
                          have hj := nbM_lt (by omega) hnb
                          refine ja_iload_n (i := 2) dX8_brokenAt_119 rfl rfl ?_
                          refine ja_iload (i := 7) dX8_brokenAt_120 rfl ?_
                          refine ja_iconst (v := (-1)) dX8_brokenAt_122 (by decide +kernel) ?_
                          refine ja_icmp_eq (tgt := 164) dX8_brokenAt_123 (by decide) (fun c123 => absurd c123 (nI_nm1 (by omega))) (fun c123 => ?_)
                          refine ja_aload_n (i := 0) dX8_brokenAt_126 rfl rfl ?_
                          refine ja_aload_n (i := 0) dX8_brokenAt_127 rfl rfl ?_
                          refine ja_getR fl_X8_46 (zM_s hz) rfl (zM_p14 hz) dX8_brokenAt_128 ?_
                          refine ja_iload_n (i := 1) dX8_brokenAt_131 rfl rfl ?_
                          refine ja_iald (zM_a14 hz) rfl (by omega) (by decide) dX8_brokenAt_132 ?_
                          refine ja_top (y := nI (fl)) hf ?_
                          refine ja_iload (i := 7) dX8_brokenAt_133 rfl ?_
                          refine ja_cVr (st := [.int (nI (n2))]) (s_at (D := D) l hz (ly := fl) (q := j) (by omega) (by omega)) rfl rfl (ce_X8_at 0 0) im_X8_at se_X8_at lk_X8_92 k_X8 (zM_s hz) ⟨(Nat.le_of_ble_eq_true rfl), (Nat.le_of_ble_eq_true rfl)⟩ dX8_brokenAt_135 rfl rfl (Nat.le_of_ble_eq_true rfl) (Nat.zero_le _) (Nat.zero_le _) ?_
                          refine ja_iload (i := 4) dX8_brokenAt_138 rfl ?_
                          refine ja_icmp_eq (tgt := 164) dX8_brokenAt_140 (by decide) (fun c140 => ?_) (fun c140 => ?_)
                          ·
                            refine ja_iconst (v := nI 0) dX8_brokenAt_164 (by decide +kernel) ?_
                            refine ja_iaddN dX8_brokenAt_165 ?_
                            refine ja_istore_n (i := 2) dX8_brokenAt_166 rfl rfl (Nat.le_of_ble_eq_true rfl) ?_
                            refine ja_iinc (v := nI (s + 2)) dX8_brokenAt_167 rfl (nI_add s 2) rfl (Nat.le_of_ble_eq_true rfl) ?_
                            refine ja_goto (tgt := 94) dX8_brokenAt_170 (by decide) ?_
                            refine ja_forget (i := 7) ?_
                            exact ih94 (s + 2) _ (by omega) (by omega) (by rcases (show s = 0 ∨ s = 2 by omega) with rfl | rfl <;> (rw [hn2]; simp [bkA, alo, c108, hnb, brk]; try simp_all; try omega))
                          ·
                            refine ja_aload_n (i := 0) dX8_brokenAt_143 rfl rfl ?_
                            refine ja_aload_n (i := 0) dX8_brokenAt_144 rfl rfl ?_
                            refine ja_getR fl_X8_49 (zM_s hz) rfl (zM_p15 hz) dX8_brokenAt_145 ?_
                            refine ja_iload_n (i := 1) dX8_brokenAt_148 rfl rfl ?_
                            refine ja_iald (zM_a15 hz) rfl (by omega) (by decide) dX8_brokenAt_149 ?_
                            refine ja_top (y := nI (sl)) hs ?_
                            refine ja_iload (i := 7) dX8_brokenAt_150 rfl ?_
                            refine ja_cVr (st := [.int (nI (n2))]) (s_at (D := D) l hz (ly := sl) (q := j) (by omega) (by omega)) rfl rfl (ce_X8_at 0 0) im_X8_at se_X8_at lk_X8_92 k_X8 (zM_s hz) ⟨(Nat.le_of_ble_eq_true rfl), (Nat.le_of_ble_eq_true rfl)⟩ dX8_brokenAt_152 rfl rfl (Nat.le_of_ble_eq_true rfl) (Nat.zero_le _) (Nat.zero_le _) ?_
                            refine ja_iload (i := 5) dX8_brokenAt_155 rfl ?_
                            refine ja_icmp_ne (tgt := 164) dX8_brokenAt_157 (by decide) (fun c157 => ?_) (fun c157 => ?_)
                            ·
                              refine ja_iconst (v := nI 0) dX8_brokenAt_164 (by decide +kernel) ?_
                              refine ja_iaddN dX8_brokenAt_165 ?_
                              refine ja_istore_n (i := 2) dX8_brokenAt_166 rfl rfl (Nat.le_of_ble_eq_true rfl) ?_
                              refine ja_iinc (v := nI (s + 2)) dX8_brokenAt_167 rfl (nI_add s 2) rfl (Nat.le_of_ble_eq_true rfl) ?_
                              refine ja_goto (tgt := 94) dX8_brokenAt_170 (by decide) ?_
                              refine ja_forget (i := 7) ?_
                              exact ih94 (s + 2) _ (by omega) (by omega) (by rcases (show s = 0 ∨ s = 2 by omega) with rfl | rfl <;> (rw [hn2]; simp [bkA, alo, c108, hnb, brk]; try simp_all; try omega))
                            ·
                              refine ja_iconst (v := nI 1) dX8_brokenAt_160 (by decide +kernel) ?_
                              refine ja_goto (tgt := 165) dX8_brokenAt_161 (by decide) ?_
                              refine ja_iaddN dX8_brokenAt_165 ?_
                              refine ja_istore_n (i := 2) dX8_brokenAt_166 rfl rfl (Nat.le_of_ble_eq_true rfl) ?_
                              refine ja_iinc (v := nI (s + 2)) dX8_brokenAt_167 rfl (nI_add s 2) rfl (Nat.le_of_ble_eq_true rfl) ?_
                              refine ja_goto (tgt := 94) dX8_brokenAt_170 (by decide) ?_
                              refine ja_forget (i := 7) ?_
                              exact ih94 (s + 2) _ (by omega) (by omega) (by rcases (show s = 0 ∨ s = 2 by omega) with rfl | rfl <;> (rw [hn2]; simp [bkA, alo, c108, hnb, brk]; try simp_all; try omega))
                exact lp94 5 0 _ (by omega) (by omega) (by rw [← hn]; simp [bkA]; simp_all)
        ·
          refine ja_iload (i := 4) dX8_brokenAt_49 rfl ?_
          refine ja_iconst (v := (-1)) dX8_brokenAt_51 (by decide +kernel) ?_
          refine ja_icmp_eq (tgt := 61) dX8_brokenAt_52 (by decide) (fun c52 => ?_) (fun c52 => ?_)
          ·
            refine ja_aload_n (i := 0) dX8_brokenAt_61 rfl rfl ?_
            refine ja_getR fl_X8_42 (zM_s hz) rfl (zM_p13 hz) dX8_brokenAt_62 ?_
            refine ja_iload_n (i := 1) dX8_brokenAt_65 rfl rfl ?_
            refine ja_cald (zM_a13 hz) rfl (by omega) (by decide) dX8_brokenAt_66 ?_
            refine ja_top (y := kd) hkd ?_
            refine ja_bipush (v := nI 110) dX8_brokenAt_67 (by decide +kernel) ?_
            refine ja_icmp_ne (tgt := 88) dX8_brokenAt_69 (by decide) (fun c69 => ?_) (fun c69 => ?_)
            ·
              refine ja_iconst (v := nI 0) dX8_brokenAt_88 (by decide +kernel) ?_
              refine ja_iaddN dX8_brokenAt_89 ?_
              refine ja_istore_n (i := 2) dX8_brokenAt_90 rfl rfl (Nat.le_of_ble_eq_true rfl) ?_
              refine ja_iconst (v := nI 0) dX8_brokenAt_91 (by decide +kernel) ?_
              refine ja_istore (i := 6) dX8_brokenAt_92 rfl (Nat.le_of_ble_eq_true rfl) ?_
              have lp94 : ∀ (k94 : Nat) (s n2 : Nat), (4 < s + k94) → (s = 0 ∨ s = 2 ∨ s = 4) → (n2 = brk (D 105) kd fl sl q + bkA (D 105) kd fl sl q s) → ja_A l (mX8_brokenAt 0 0) ja_sn (ja_Qf (mX8_brokenAt 0 0) (ja_jr (some (.int (nI (brk (D 105) kd fl sl 256)))) Z D) ja_x0) 94 [some (.ref (100)), some (.int (nI (r))), some (.int (nI (n2))), some (.int (nI (q))), some (.int (D 105 (256 * fl + q))), some (.int (D 105 (256 * sl + q))), some (.int (nI (s))), none] [] Z D 0 0 := by
                intro k94
                induction k94 with
                | zero => intro s n2 hj4 hs4 hn2; exfalso; omega
                | succ k94 ih94 =>
                  intro s n2 hj4 hs4 hn2
                  refine ja_iload (i := 6) dX8_brokenAt_94 rfl ?_
                  refine ja_iconst (v := nI 4) dX8_brokenAt_96 (by decide +kernel) ?_
                  refine ja_icmpN_ge (tgt := 173) dX8_brokenAt_97 (by decide) (by omega) (by omega) (fun c97 => ?_) (fun c97 => ?_)
                  ·
                    refine ja_iincN dX8_brokenAt_173 rfl rfl (Nat.le_of_ble_eq_true rfl) ?_
                    refine ja_goto (tgt := 4) dX8_brokenAt_176 (by decide) ?_
                    refine ja_forget (i := 4) ?_
                    refine ja_forget (i := 5) ?_
                    refine ja_forget (i := 6) ?_
                    exact ih4 (q + 1) _ (by omega) (by omega) (by rw [hn2, bkA_end (by first | exact Or.inl (by omega) | exact Or.inr c108)]; rfl)
                  ·
                    refine ja_aload_n (i := 0) dX8_brokenAt_100 rfl rfl ?_
                    refine ja_getR fl_X8_42 (zM_s hz) rfl (zM_p13 hz) dX8_brokenAt_101 ?_
                    refine ja_iload_n (i := 1) dX8_brokenAt_104 rfl rfl ?_
                    refine ja_cald (zM_a13 hz) rfl (by omega) (by decide) dX8_brokenAt_105 ?_
                    refine ja_top (y := kd) hkd ?_
                    refine ja_bipush (v := nI 97) dX8_brokenAt_106 (by decide +kernel) ?_
                    refine ja_icmp_ne (tgt := 173) dX8_brokenAt_108 (by decide) (fun c108 => ?_) (fun c108 => ?_)
                    ·
                      refine ja_iincN dX8_brokenAt_173 rfl rfl (Nat.le_of_ble_eq_true rfl) ?_
                      refine ja_goto (tgt := 4) dX8_brokenAt_176 (by decide) ?_
                      refine ja_forget (i := 4) ?_
                      refine ja_forget (i := 5) ?_
                      refine ja_forget (i := 6) ?_
                      exact ih4 (q + 1) _ (by omega) (by omega) (by rw [hn2, bkA_end (by first | exact Or.inl (by omega) | exact Or.inr c108)]; rfl)
                    ·
                      refine ja_iload_n (i := 3) dX8_brokenAt_111 rfl rfl ?_
                      refine ja_iload (i := 6) dX8_brokenAt_112 rfl ?_
                      refine ja_cSr (st := []) (s_beside l (q := q) (side := s) (by omega) (by omega)) rfl rfl (ce_X8_beside 0 0) st_X8_beside lk_X8_129 ⟨(Nat.le_of_ble_eq_true rfl), (Nat.le_of_ble_eq_true rfl)⟩ dX8_brokenAt_114 rfl rfl (Nat.le_of_ble_eq_true rfl) (Nat.zero_le _) (Nat.zero_le _) ?_
                      refine ja_istore (i := 7) dX8_brokenAt_117 rfl (Nat.le_of_ble_eq_true rfl) ?_
                      rcases hnb : nbM s q with _ | j
                      ·
                        refine ja_iload_n (i := 2) dX8_brokenAt_119 rfl rfl ?_
                        refine ja_iload (i := 7) dX8_brokenAt_120 rfl ?_
                        refine ja_iconst (v := (-1)) dX8_brokenAt_122 (by decide +kernel) ?_
                        refine ja_icmp_eq (tgt := 164) dX8_brokenAt_123 (by decide) (fun c123 => ?_) (fun c123 => absurd rfl c123)
                        refine ja_iconst (v := nI 0) dX8_brokenAt_164 (by decide +kernel) ?_
                        refine ja_iaddN dX8_brokenAt_165 ?_
                        refine ja_istore_n (i := 2) dX8_brokenAt_166 rfl rfl (Nat.le_of_ble_eq_true rfl) ?_
                        refine ja_iinc (v := nI (s + 2)) dX8_brokenAt_167 rfl (nI_add s 2) rfl (Nat.le_of_ble_eq_true rfl) ?_
                        refine ja_goto (tgt := 94) dX8_brokenAt_170 (by decide) ?_
                        refine ja_forget (i := 7) ?_
                        exact ih94 (s + 2) _ (by omega) (by omega) (by rcases (show s = 0 ∨ s = 2 by omega) with rfl | rfl <;> (rw [hn2]; simp [bkA, alo, c108, hnb, brk]; try simp_all; try omega))
                      ·
                        have hj := nbM_lt (by omega) hnb
                        refine ja_iload_n (i := 2) dX8_brokenAt_119 rfl rfl ?_
                        refine ja_iload (i := 7) dX8_brokenAt_120 rfl ?_
                        refine ja_iconst (v := (-1)) dX8_brokenAt_122 (by decide +kernel) ?_
                        refine ja_icmp_eq (tgt := 164) dX8_brokenAt_123 (by decide) (fun c123 => absurd c123 (nI_nm1 (by omega))) (fun c123 => ?_)
                        refine ja_aload_n (i := 0) dX8_brokenAt_126 rfl rfl ?_
                        refine ja_aload_n (i := 0) dX8_brokenAt_127 rfl rfl ?_
                        refine ja_getR fl_X8_46 (zM_s hz) rfl (zM_p14 hz) dX8_brokenAt_128 ?_
                        refine ja_iload_n (i := 1) dX8_brokenAt_131 rfl rfl ?_
                        refine ja_iald (zM_a14 hz) rfl (by omega) (by decide) dX8_brokenAt_132 ?_
                        refine ja_top (y := nI (fl)) hf ?_
                        refine ja_iload (i := 7) dX8_brokenAt_133 rfl ?_
                        refine ja_cVr (st := [.int (nI (n2))]) (s_at (D := D) l hz (ly := fl) (q := j) (by omega) (by omega)) rfl rfl (ce_X8_at 0 0) im_X8_at se_X8_at lk_X8_92 k_X8 (zM_s hz) ⟨(Nat.le_of_ble_eq_true rfl), (Nat.le_of_ble_eq_true rfl)⟩ dX8_brokenAt_135 rfl rfl (Nat.le_of_ble_eq_true rfl) (Nat.zero_le _) (Nat.zero_le _) ?_
                        refine ja_iload (i := 4) dX8_brokenAt_138 rfl ?_
                        refine ja_icmp_eq (tgt := 164) dX8_brokenAt_140 (by decide) (fun c140 => ?_) (fun c140 => ?_)
                        ·
                          refine ja_iconst (v := nI 0) dX8_brokenAt_164 (by decide +kernel) ?_
                          refine ja_iaddN dX8_brokenAt_165 ?_
                          refine ja_istore_n (i := 2) dX8_brokenAt_166 rfl rfl (Nat.le_of_ble_eq_true rfl) ?_
                          refine ja_iinc (v := nI (s + 2)) dX8_brokenAt_167 rfl (nI_add s 2) rfl (Nat.le_of_ble_eq_true rfl) ?_
                          refine ja_goto (tgt := 94) dX8_brokenAt_170 (by decide) ?_
                          refine ja_forget (i := 7) ?_
                          exact ih94 (s + 2) _ (by omega) (by omega) (by rcases (show s = 0 ∨ s = 2 by omega) with rfl | rfl <;> (rw [hn2]; simp [bkA, alo, c108, hnb, brk]; try simp_all; try omega))
                        ·
                          refine ja_aload_n (i := 0) dX8_brokenAt_143 rfl rfl ?_
                          refine ja_aload_n (i := 0) dX8_brokenAt_144 rfl rfl ?_
                          refine ja_getR fl_X8_49 (zM_s hz) rfl (zM_p15 hz) dX8_brokenAt_145 ?_
                          refine ja_iload_n (i := 1) dX8_brokenAt_148 rfl rfl ?_
                          refine ja_iald (zM_a15 hz) rfl (by omega) (by decide) dX8_brokenAt_149 ?_
                          refine ja_top (y := nI (sl)) hs ?_
                          refine ja_iload (i := 7) dX8_brokenAt_150 rfl ?_
                          refine ja_cVr (st := [.int (nI (n2))]) (s_at (D := D) l hz (ly := sl) (q := j) (by omega) (by omega)) rfl rfl (ce_X8_at 0 0) im_X8_at se_X8_at lk_X8_92 k_X8 (zM_s hz) ⟨(Nat.le_of_ble_eq_true rfl), (Nat.le_of_ble_eq_true rfl)⟩ dX8_brokenAt_152 rfl rfl (Nat.le_of_ble_eq_true rfl) (Nat.zero_le _) (Nat.zero_le _) ?_
                          refine ja_iload (i := 5) dX8_brokenAt_155 rfl ?_
                          refine ja_icmp_ne (tgt := 164) dX8_brokenAt_157 (by decide) (fun c157 => ?_) (fun c157 => ?_)
                          ·
                            refine ja_iconst (v := nI 0) dX8_brokenAt_164 (by decide +kernel) ?_
                            refine ja_iaddN dX8_brokenAt_165 ?_
                            refine ja_istore_n (i := 2) dX8_brokenAt_166 rfl rfl (Nat.le_of_ble_eq_true rfl) ?_
                            refine ja_iinc (v := nI (s + 2)) dX8_brokenAt_167 rfl (nI_add s 2) rfl (Nat.le_of_ble_eq_true rfl) ?_
                            refine ja_goto (tgt := 94) dX8_brokenAt_170 (by decide) ?_
                            refine ja_forget (i := 7) ?_
                            exact ih94 (s + 2) _ (by omega) (by omega) (by rcases (show s = 0 ∨ s = 2 by omega) with rfl | rfl <;> (rw [hn2]; simp [bkA, alo, c108, hnb, brk]; try simp_all; try omega))
                          ·
                            refine ja_iconst (v := nI 1) dX8_brokenAt_160 (by decide +kernel) ?_
                            refine ja_goto (tgt := 165) dX8_brokenAt_161 (by decide) ?_
                            refine ja_iaddN dX8_brokenAt_165 ?_
                            refine ja_istore_n (i := 2) dX8_brokenAt_166 rfl rfl (Nat.le_of_ble_eq_true rfl) ?_
                            refine ja_iinc (v := nI (s + 2)) dX8_brokenAt_167 rfl (nI_add s 2) rfl (Nat.le_of_ble_eq_true rfl) ?_
                            refine ja_goto (tgt := 94) dX8_brokenAt_170 (by decide) ?_
                            refine ja_forget (i := 7) ?_
                            exact ih94 (s + 2) _ (by omega) (by omega) (by rcases (show s = 0 ∨ s = 2 by omega) with rfl | rfl <;> (rw [hn2]; simp [bkA, alo, c108, hnb, brk]; try simp_all; try omega))
              exact lp94 5 0 _ (by omega) (by omega) (by rw [← hn]; simp [bkA]; simp_all)
            ·
              refine ja_iload (i := 4) dX8_brokenAt_72 rfl ?_
              refine ja_iconst (v := (-1)) dX8_brokenAt_74 (by decide +kernel) ?_
              refine ja_icmp_eq (tgt := 88) dX8_brokenAt_75 (by decide) (fun c75 => ?_) (fun c75 => ?_)
              ·
                refine ja_iconst (v := nI 0) dX8_brokenAt_88 (by decide +kernel) ?_
                refine ja_iaddN dX8_brokenAt_89 ?_
                refine ja_istore_n (i := 2) dX8_brokenAt_90 rfl rfl (Nat.le_of_ble_eq_true rfl) ?_
                refine ja_iconst (v := nI 0) dX8_brokenAt_91 (by decide +kernel) ?_
                refine ja_istore (i := 6) dX8_brokenAt_92 rfl (Nat.le_of_ble_eq_true rfl) ?_
                have lp94 : ∀ (k94 : Nat) (s n2 : Nat), (4 < s + k94) → (s = 0 ∨ s = 2 ∨ s = 4) → (n2 = brk (D 105) kd fl sl q + bkA (D 105) kd fl sl q s) → ja_A l (mX8_brokenAt 0 0) ja_sn (ja_Qf (mX8_brokenAt 0 0) (ja_jr (some (.int (nI (brk (D 105) kd fl sl 256)))) Z D) ja_x0) 94 [some (.ref (100)), some (.int (nI (r))), some (.int (nI (n2))), some (.int (nI (q))), some (.int (D 105 (256 * fl + q))), some (.int (D 105 (256 * sl + q))), some (.int (nI (s))), none] [] Z D 0 0 := by
                  intro k94
                  induction k94 with
                  | zero => intro s n2 hj4 hs4 hn2; exfalso; omega
                  | succ k94 ih94 =>
                    intro s n2 hj4 hs4 hn2
                    refine ja_iload (i := 6) dX8_brokenAt_94 rfl ?_
                    refine ja_iconst (v := nI 4) dX8_brokenAt_96 (by decide +kernel) ?_
                    refine ja_icmpN_ge (tgt := 173) dX8_brokenAt_97 (by decide) (by omega) (by omega) (fun c97 => ?_) (fun c97 => ?_)
                    ·
                      refine ja_iincN dX8_brokenAt_173 rfl rfl (Nat.le_of_ble_eq_true rfl) ?_
                      refine ja_goto (tgt := 4) dX8_brokenAt_176 (by decide) ?_
                      refine ja_forget (i := 4) ?_
                      refine ja_forget (i := 5) ?_
                      refine ja_forget (i := 6) ?_
                      exact ih4 (q + 1) _ (by omega) (by omega) (by rw [hn2, bkA_end (by first | exact Or.inl (by omega) | exact Or.inr c108)]; rfl)
                    ·
                      refine ja_aload_n (i := 0) dX8_brokenAt_100 rfl rfl ?_
                      refine ja_getR fl_X8_42 (zM_s hz) rfl (zM_p13 hz) dX8_brokenAt_101 ?_
                      refine ja_iload_n (i := 1) dX8_brokenAt_104 rfl rfl ?_
                      refine ja_cald (zM_a13 hz) rfl (by omega) (by decide) dX8_brokenAt_105 ?_
                      refine ja_top (y := kd) hkd ?_
                      refine ja_bipush (v := nI 97) dX8_brokenAt_106 (by decide +kernel) ?_
                      refine ja_icmp_ne (tgt := 173) dX8_brokenAt_108 (by decide) (fun c108 => ?_) (fun c108 => ?_)
                      ·
                        refine ja_iincN dX8_brokenAt_173 rfl rfl (Nat.le_of_ble_eq_true rfl) ?_
                        refine ja_goto (tgt := 4) dX8_brokenAt_176 (by decide) ?_
                        refine ja_forget (i := 4) ?_
                        refine ja_forget (i := 5) ?_
                        refine ja_forget (i := 6) ?_
                        exact ih4 (q + 1) _ (by omega) (by omega) (by rw [hn2, bkA_end (by first | exact Or.inl (by omega) | exact Or.inr c108)]; rfl)
                      ·
                        refine ja_iload_n (i := 3) dX8_brokenAt_111 rfl rfl ?_
                        refine ja_iload (i := 6) dX8_brokenAt_112 rfl ?_
                        refine ja_cSr (st := []) (s_beside l (q := q) (side := s) (by omega) (by omega)) rfl rfl (ce_X8_beside 0 0) st_X8_beside lk_X8_129 ⟨(Nat.le_of_ble_eq_true rfl), (Nat.le_of_ble_eq_true rfl)⟩ dX8_brokenAt_114 rfl rfl (Nat.le_of_ble_eq_true rfl) (Nat.zero_le _) (Nat.zero_le _) ?_
                        refine ja_istore (i := 7) dX8_brokenAt_117 rfl (Nat.le_of_ble_eq_true rfl) ?_
                        rcases hnb : nbM s q with _ | j
                        ·
                          refine ja_iload_n (i := 2) dX8_brokenAt_119 rfl rfl ?_
                          refine ja_iload (i := 7) dX8_brokenAt_120 rfl ?_
                          refine ja_iconst (v := (-1)) dX8_brokenAt_122 (by decide +kernel) ?_
                          refine ja_icmp_eq (tgt := 164) dX8_brokenAt_123 (by decide) (fun c123 => ?_) (fun c123 => absurd rfl c123)
                          refine ja_iconst (v := nI 0) dX8_brokenAt_164 (by decide +kernel) ?_
                          refine ja_iaddN dX8_brokenAt_165 ?_
                          refine ja_istore_n (i := 2) dX8_brokenAt_166 rfl rfl (Nat.le_of_ble_eq_true rfl) ?_
                          refine ja_iinc (v := nI (s + 2)) dX8_brokenAt_167 rfl (nI_add s 2) rfl (Nat.le_of_ble_eq_true rfl) ?_
                          refine ja_goto (tgt := 94) dX8_brokenAt_170 (by decide) ?_
                          refine ja_forget (i := 7) ?_
                          exact ih94 (s + 2) _ (by omega) (by omega) (by rcases (show s = 0 ∨ s = 2 by omega) with rfl | rfl <;> (rw [hn2]; simp [bkA, alo, c108, hnb, brk]; try simp_all; try omega))
                        ·
                          have hj := nbM_lt (by omega) hnb
                          refine ja_iload_n (i := 2) dX8_brokenAt_119 rfl rfl ?_
                          refine ja_iload (i := 7) dX8_brokenAt_120 rfl ?_
                          refine ja_iconst (v := (-1)) dX8_brokenAt_122 (by decide +kernel) ?_
                          refine ja_icmp_eq (tgt := 164) dX8_brokenAt_123 (by decide) (fun c123 => absurd c123 (nI_nm1 (by omega))) (fun c123 => ?_)
                          refine ja_aload_n (i := 0) dX8_brokenAt_126 rfl rfl ?_
                          refine ja_aload_n (i := 0) dX8_brokenAt_127 rfl rfl ?_
                          refine ja_getR fl_X8_46 (zM_s hz) rfl (zM_p14 hz) dX8_brokenAt_128 ?_
                          refine ja_iload_n (i := 1) dX8_brokenAt_131 rfl rfl ?_
                          refine ja_iald (zM_a14 hz) rfl (by omega) (by decide) dX8_brokenAt_132 ?_
                          refine ja_top (y := nI (fl)) hf ?_
                          refine ja_iload (i := 7) dX8_brokenAt_133 rfl ?_
                          refine ja_cVr (st := [.int (nI (n2))]) (s_at (D := D) l hz (ly := fl) (q := j) (by omega) (by omega)) rfl rfl (ce_X8_at 0 0) im_X8_at se_X8_at lk_X8_92 k_X8 (zM_s hz) ⟨(Nat.le_of_ble_eq_true rfl), (Nat.le_of_ble_eq_true rfl)⟩ dX8_brokenAt_135 rfl rfl (Nat.le_of_ble_eq_true rfl) (Nat.zero_le _) (Nat.zero_le _) ?_
                          refine ja_iload (i := 4) dX8_brokenAt_138 rfl ?_
                          refine ja_icmp_eq (tgt := 164) dX8_brokenAt_140 (by decide) (fun c140 => ?_) (fun c140 => ?_)
                          ·
                            refine ja_iconst (v := nI 0) dX8_brokenAt_164 (by decide +kernel) ?_
                            refine ja_iaddN dX8_brokenAt_165 ?_
                            refine ja_istore_n (i := 2) dX8_brokenAt_166 rfl rfl (Nat.le_of_ble_eq_true rfl) ?_
                            refine ja_iinc (v := nI (s + 2)) dX8_brokenAt_167 rfl (nI_add s 2) rfl (Nat.le_of_ble_eq_true rfl) ?_
                            refine ja_goto (tgt := 94) dX8_brokenAt_170 (by decide) ?_
                            refine ja_forget (i := 7) ?_
                            exact ih94 (s + 2) _ (by omega) (by omega) (by rcases (show s = 0 ∨ s = 2 by omega) with rfl | rfl <;> (rw [hn2]; simp [bkA, alo, c108, hnb, brk]; try simp_all; try omega))
                          ·
                            refine ja_aload_n (i := 0) dX8_brokenAt_143 rfl rfl ?_
                            refine ja_aload_n (i := 0) dX8_brokenAt_144 rfl rfl ?_
                            refine ja_getR fl_X8_49 (zM_s hz) rfl (zM_p15 hz) dX8_brokenAt_145 ?_
                            refine ja_iload_n (i := 1) dX8_brokenAt_148 rfl rfl ?_
                            refine ja_iald (zM_a15 hz) rfl (by omega) (by decide) dX8_brokenAt_149 ?_
                            refine ja_top (y := nI (sl)) hs ?_
                            refine ja_iload (i := 7) dX8_brokenAt_150 rfl ?_
                            refine ja_cVr (st := [.int (nI (n2))]) (s_at (D := D) l hz (ly := sl) (q := j) (by omega) (by omega)) rfl rfl (ce_X8_at 0 0) im_X8_at se_X8_at lk_X8_92 k_X8 (zM_s hz) ⟨(Nat.le_of_ble_eq_true rfl), (Nat.le_of_ble_eq_true rfl)⟩ dX8_brokenAt_152 rfl rfl (Nat.le_of_ble_eq_true rfl) (Nat.zero_le _) (Nat.zero_le _) ?_
                            refine ja_iload (i := 5) dX8_brokenAt_155 rfl ?_
                            refine ja_icmp_ne (tgt := 164) dX8_brokenAt_157 (by decide) (fun c157 => ?_) (fun c157 => ?_)
                            ·
                              refine ja_iconst (v := nI 0) dX8_brokenAt_164 (by decide +kernel) ?_
                              refine ja_iaddN dX8_brokenAt_165 ?_
                              refine ja_istore_n (i := 2) dX8_brokenAt_166 rfl rfl (Nat.le_of_ble_eq_true rfl) ?_
                              refine ja_iinc (v := nI (s + 2)) dX8_brokenAt_167 rfl (nI_add s 2) rfl (Nat.le_of_ble_eq_true rfl) ?_
                              refine ja_goto (tgt := 94) dX8_brokenAt_170 (by decide) ?_
                              refine ja_forget (i := 7) ?_
                              exact ih94 (s + 2) _ (by omega) (by omega) (by rcases (show s = 0 ∨ s = 2 by omega) with rfl | rfl <;> (rw [hn2]; simp [bkA, alo, c108, hnb, brk]; try simp_all; try omega))
                            ·
                              refine ja_iconst (v := nI 1) dX8_brokenAt_160 (by decide +kernel) ?_
                              refine ja_goto (tgt := 165) dX8_brokenAt_161 (by decide) ?_
                              refine ja_iaddN dX8_brokenAt_165 ?_
                              refine ja_istore_n (i := 2) dX8_brokenAt_166 rfl rfl (Nat.le_of_ble_eq_true rfl) ?_
                              refine ja_iinc (v := nI (s + 2)) dX8_brokenAt_167 rfl (nI_add s 2) rfl (Nat.le_of_ble_eq_true rfl) ?_
                              refine ja_goto (tgt := 94) dX8_brokenAt_170 (by decide) ?_
                              refine ja_forget (i := 7) ?_
                              exact ih94 (s + 2) _ (by omega) (by omega) (by rcases (show s = 0 ∨ s = 2 by omega) with rfl | rfl <;> (rw [hn2]; simp [bkA, alo, c108, hnb, brk]; try simp_all; try omega))
                exact lp94 5 0 _ (by omega) (by omega) (by rw [← hn]; simp [bkA]; simp_all)
              ·
                refine ja_iload (i := 5) dX8_brokenAt_78 rfl ?_
                refine ja_iconst (v := (-1)) dX8_brokenAt_80 (by decide +kernel) ?_
                refine ja_icmp_eq (tgt := 88) dX8_brokenAt_81 (by decide) (fun c81 => ?_) (fun c81 => ?_)
                ·
                  refine ja_iconst (v := nI 0) dX8_brokenAt_88 (by decide +kernel) ?_
                  refine ja_iaddN dX8_brokenAt_89 ?_
                  refine ja_istore_n (i := 2) dX8_brokenAt_90 rfl rfl (Nat.le_of_ble_eq_true rfl) ?_
                  refine ja_iconst (v := nI 0) dX8_brokenAt_91 (by decide +kernel) ?_
                  refine ja_istore (i := 6) dX8_brokenAt_92 rfl (Nat.le_of_ble_eq_true rfl) ?_
                  have lp94 : ∀ (k94 : Nat) (s n2 : Nat), (4 < s + k94) → (s = 0 ∨ s = 2 ∨ s = 4) → (n2 = brk (D 105) kd fl sl q + bkA (D 105) kd fl sl q s) → ja_A l (mX8_brokenAt 0 0) ja_sn (ja_Qf (mX8_brokenAt 0 0) (ja_jr (some (.int (nI (brk (D 105) kd fl sl 256)))) Z D) ja_x0) 94 [some (.ref (100)), some (.int (nI (r))), some (.int (nI (n2))), some (.int (nI (q))), some (.int (D 105 (256 * fl + q))), some (.int (D 105 (256 * sl + q))), some (.int (nI (s))), none] [] Z D 0 0 := by
                    intro k94
                    induction k94 with
                    | zero => intro s n2 hj4 hs4 hn2; exfalso; omega
                    | succ k94 ih94 =>
                      intro s n2 hj4 hs4 hn2
                      refine ja_iload (i := 6) dX8_brokenAt_94 rfl ?_
                      refine ja_iconst (v := nI 4) dX8_brokenAt_96 (by decide +kernel) ?_
                      refine ja_icmpN_ge (tgt := 173) dX8_brokenAt_97 (by decide) (by omega) (by omega) (fun c97 => ?_) (fun c97 => ?_)
                      ·
                        refine ja_iincN dX8_brokenAt_173 rfl rfl (Nat.le_of_ble_eq_true rfl) ?_
                        refine ja_goto (tgt := 4) dX8_brokenAt_176 (by decide) ?_
                        refine ja_forget (i := 4) ?_
                        refine ja_forget (i := 5) ?_
                        refine ja_forget (i := 6) ?_
                        exact ih4 (q + 1) _ (by omega) (by omega) (by rw [hn2, bkA_end (by first | exact Or.inl (by omega) | exact Or.inr c108)]; rfl)
                      ·
                        refine ja_aload_n (i := 0) dX8_brokenAt_100 rfl rfl ?_
                        refine ja_getR fl_X8_42 (zM_s hz) rfl (zM_p13 hz) dX8_brokenAt_101 ?_
                        refine ja_iload_n (i := 1) dX8_brokenAt_104 rfl rfl ?_
                        refine ja_cald (zM_a13 hz) rfl (by omega) (by decide) dX8_brokenAt_105 ?_
                        refine ja_top (y := kd) hkd ?_
                        refine ja_bipush (v := nI 97) dX8_brokenAt_106 (by decide +kernel) ?_
                        refine ja_icmp_ne (tgt := 173) dX8_brokenAt_108 (by decide) (fun c108 => ?_) (fun c108 => ?_)
                        ·
                          refine ja_iincN dX8_brokenAt_173 rfl rfl (Nat.le_of_ble_eq_true rfl) ?_
                          refine ja_goto (tgt := 4) dX8_brokenAt_176 (by decide) ?_
                          refine ja_forget (i := 4) ?_
                          refine ja_forget (i := 5) ?_
                          refine ja_forget (i := 6) ?_
                          exact ih4 (q + 1) _ (by omega) (by omega) (by rw [hn2, bkA_end (by first | exact Or.inl (by omega) | exact Or.inr c108)]; rfl)
                        ·
                          refine ja_iload_n (i := 3) dX8_brokenAt_111 rfl rfl ?_
                          refine ja_iload (i := 6) dX8_brokenAt_112 rfl ?_
                          refine ja_cSr (st := []) (s_beside l (q := q) (side := s) (by omega) (by omega)) rfl rfl (ce_X8_beside 0 0) st_X8_beside lk_X8_129 ⟨(Nat.le_of_ble_eq_true rfl), (Nat.le_of_ble_eq_true rfl)⟩ dX8_brokenAt_114 rfl rfl (Nat.le_of_ble_eq_true rfl) (Nat.zero_le _) (Nat.zero_le _) ?_
                          refine ja_istore (i := 7) dX8_brokenAt_117 rfl (Nat.le_of_ble_eq_true rfl) ?_
                          rcases hnb : nbM s q with _ | j
                          ·
                            refine ja_iload_n (i := 2) dX8_brokenAt_119 rfl rfl ?_
                            refine ja_iload (i := 7) dX8_brokenAt_120 rfl ?_
                            refine ja_iconst (v := (-1)) dX8_brokenAt_122 (by decide +kernel) ?_
                            refine ja_icmp_eq (tgt := 164) dX8_brokenAt_123 (by decide) (fun c123 => ?_) (fun c123 => absurd rfl c123)
                            refine ja_iconst (v := nI 0) dX8_brokenAt_164 (by decide +kernel) ?_
                            refine ja_iaddN dX8_brokenAt_165 ?_
                            refine ja_istore_n (i := 2) dX8_brokenAt_166 rfl rfl (Nat.le_of_ble_eq_true rfl) ?_
                            refine ja_iinc (v := nI (s + 2)) dX8_brokenAt_167 rfl (nI_add s 2) rfl (Nat.le_of_ble_eq_true rfl) ?_
                            refine ja_goto (tgt := 94) dX8_brokenAt_170 (by decide) ?_
                            refine ja_forget (i := 7) ?_
                            exact ih94 (s + 2) _ (by omega) (by omega) (by rcases (show s = 0 ∨ s = 2 by omega) with rfl | rfl <;> (rw [hn2]; simp [bkA, alo, c108, hnb, brk]; try simp_all; try omega))
                          ·
                            have hj := nbM_lt (by omega) hnb
                            refine ja_iload_n (i := 2) dX8_brokenAt_119 rfl rfl ?_
                            refine ja_iload (i := 7) dX8_brokenAt_120 rfl ?_
                            refine ja_iconst (v := (-1)) dX8_brokenAt_122 (by decide +kernel) ?_
                            refine ja_icmp_eq (tgt := 164) dX8_brokenAt_123 (by decide) (fun c123 => absurd c123 (nI_nm1 (by omega))) (fun c123 => ?_)
                            refine ja_aload_n (i := 0) dX8_brokenAt_126 rfl rfl ?_
                            refine ja_aload_n (i := 0) dX8_brokenAt_127 rfl rfl ?_
                            refine ja_getR fl_X8_46 (zM_s hz) rfl (zM_p14 hz) dX8_brokenAt_128 ?_
                            refine ja_iload_n (i := 1) dX8_brokenAt_131 rfl rfl ?_
                            refine ja_iald (zM_a14 hz) rfl (by omega) (by decide) dX8_brokenAt_132 ?_
                            refine ja_top (y := nI (fl)) hf ?_
                            refine ja_iload (i := 7) dX8_brokenAt_133 rfl ?_
                            refine ja_cVr (st := [.int (nI (n2))]) (s_at (D := D) l hz (ly := fl) (q := j) (by omega) (by omega)) rfl rfl (ce_X8_at 0 0) im_X8_at se_X8_at lk_X8_92 k_X8 (zM_s hz) ⟨(Nat.le_of_ble_eq_true rfl), (Nat.le_of_ble_eq_true rfl)⟩ dX8_brokenAt_135 rfl rfl (Nat.le_of_ble_eq_true rfl) (Nat.zero_le _) (Nat.zero_le _) ?_
                            refine ja_iload (i := 4) dX8_brokenAt_138 rfl ?_
                            refine ja_icmp_eq (tgt := 164) dX8_brokenAt_140 (by decide) (fun c140 => ?_) (fun c140 => ?_)
                            ·
                              refine ja_iconst (v := nI 0) dX8_brokenAt_164 (by decide +kernel) ?_
                              refine ja_iaddN dX8_brokenAt_165 ?_
                              refine ja_istore_n (i := 2) dX8_brokenAt_166 rfl rfl (Nat.le_of_ble_eq_true rfl) ?_
                              refine ja_iinc (v := nI (s + 2)) dX8_brokenAt_167 rfl (nI_add s 2) rfl (Nat.le_of_ble_eq_true rfl) ?_
                              refine ja_goto (tgt := 94) dX8_brokenAt_170 (by decide) ?_
                              refine ja_forget (i := 7) ?_
                              exact ih94 (s + 2) _ (by omega) (by omega) (by rcases (show s = 0 ∨ s = 2 by omega) with rfl | rfl <;> (rw [hn2]; simp [bkA, alo, c108, hnb, brk]; try simp_all; try omega))
                            ·
                              refine ja_aload_n (i := 0) dX8_brokenAt_143 rfl rfl ?_
                              refine ja_aload_n (i := 0) dX8_brokenAt_144 rfl rfl ?_
                              refine ja_getR fl_X8_49 (zM_s hz) rfl (zM_p15 hz) dX8_brokenAt_145 ?_
                              refine ja_iload_n (i := 1) dX8_brokenAt_148 rfl rfl ?_
                              refine ja_iald (zM_a15 hz) rfl (by omega) (by decide) dX8_brokenAt_149 ?_
                              refine ja_top (y := nI (sl)) hs ?_
                              refine ja_iload (i := 7) dX8_brokenAt_150 rfl ?_
                              refine ja_cVr (st := [.int (nI (n2))]) (s_at (D := D) l hz (ly := sl) (q := j) (by omega) (by omega)) rfl rfl (ce_X8_at 0 0) im_X8_at se_X8_at lk_X8_92 k_X8 (zM_s hz) ⟨(Nat.le_of_ble_eq_true rfl), (Nat.le_of_ble_eq_true rfl)⟩ dX8_brokenAt_152 rfl rfl (Nat.le_of_ble_eq_true rfl) (Nat.zero_le _) (Nat.zero_le _) ?_
                              refine ja_iload (i := 5) dX8_brokenAt_155 rfl ?_
                              refine ja_icmp_ne (tgt := 164) dX8_brokenAt_157 (by decide) (fun c157 => ?_) (fun c157 => ?_)
                              ·
                                refine ja_iconst (v := nI 0) dX8_brokenAt_164 (by decide +kernel) ?_
                                refine ja_iaddN dX8_brokenAt_165 ?_
                                refine ja_istore_n (i := 2) dX8_brokenAt_166 rfl rfl (Nat.le_of_ble_eq_true rfl) ?_
                                refine ja_iinc (v := nI (s + 2)) dX8_brokenAt_167 rfl (nI_add s 2) rfl (Nat.le_of_ble_eq_true rfl) ?_
                                refine ja_goto (tgt := 94) dX8_brokenAt_170 (by decide) ?_
                                refine ja_forget (i := 7) ?_
                                exact ih94 (s + 2) _ (by omega) (by omega) (by rcases (show s = 0 ∨ s = 2 by omega) with rfl | rfl <;> (rw [hn2]; simp [bkA, alo, c108, hnb, brk]; try simp_all; try omega))
                              ·
                                refine ja_iconst (v := nI 1) dX8_brokenAt_160 (by decide +kernel) ?_
                                refine ja_goto (tgt := 165) dX8_brokenAt_161 (by decide) ?_
                                refine ja_iaddN dX8_brokenAt_165 ?_
                                refine ja_istore_n (i := 2) dX8_brokenAt_166 rfl rfl (Nat.le_of_ble_eq_true rfl) ?_
                                refine ja_iinc (v := nI (s + 2)) dX8_brokenAt_167 rfl (nI_add s 2) rfl (Nat.le_of_ble_eq_true rfl) ?_
                                refine ja_goto (tgt := 94) dX8_brokenAt_170 (by decide) ?_
                                refine ja_forget (i := 7) ?_
                                exact ih94 (s + 2) _ (by omega) (by omega) (by rcases (show s = 0 ∨ s = 2 by omega) with rfl | rfl <;> (rw [hn2]; simp [bkA, alo, c108, hnb, brk]; try simp_all; try omega))
                  exact lp94 5 0 _ (by omega) (by omega) (by rw [← hn]; simp [bkA]; simp_all)
                ·
                  refine ja_iconst (v := nI 1) dX8_brokenAt_84 (by decide +kernel) ?_
                  refine ja_goto (tgt := 89) dX8_brokenAt_85 (by decide) ?_
                  refine ja_iaddN dX8_brokenAt_89 ?_
                  refine ja_istore_n (i := 2) dX8_brokenAt_90 rfl rfl (Nat.le_of_ble_eq_true rfl) ?_
                  refine ja_iconst (v := nI 0) dX8_brokenAt_91 (by decide +kernel) ?_
                  refine ja_istore (i := 6) dX8_brokenAt_92 rfl (Nat.le_of_ble_eq_true rfl) ?_
                  have lp94 : ∀ (k94 : Nat) (s n2 : Nat), (4 < s + k94) → (s = 0 ∨ s = 2 ∨ s = 4) → (n2 = brk (D 105) kd fl sl q + bkA (D 105) kd fl sl q s) → ja_A l (mX8_brokenAt 0 0) ja_sn (ja_Qf (mX8_brokenAt 0 0) (ja_jr (some (.int (nI (brk (D 105) kd fl sl 256)))) Z D) ja_x0) 94 [some (.ref (100)), some (.int (nI (r))), some (.int (nI (n2))), some (.int (nI (q))), some (.int (D 105 (256 * fl + q))), some (.int (D 105 (256 * sl + q))), some (.int (nI (s))), none] [] Z D 0 0 := by
                    intro k94
                    induction k94 with
                    | zero => intro s n2 hj4 hs4 hn2; exfalso; omega
                    | succ k94 ih94 =>
                      intro s n2 hj4 hs4 hn2
                      refine ja_iload (i := 6) dX8_brokenAt_94 rfl ?_
                      refine ja_iconst (v := nI 4) dX8_brokenAt_96 (by decide +kernel) ?_
                      refine ja_icmpN_ge (tgt := 173) dX8_brokenAt_97 (by decide) (by omega) (by omega) (fun c97 => ?_) (fun c97 => ?_)
                      ·
                        refine ja_iincN dX8_brokenAt_173 rfl rfl (Nat.le_of_ble_eq_true rfl) ?_
                        refine ja_goto (tgt := 4) dX8_brokenAt_176 (by decide) ?_
                        refine ja_forget (i := 4) ?_
                        refine ja_forget (i := 5) ?_
                        refine ja_forget (i := 6) ?_
                        exact ih4 (q + 1) _ (by omega) (by omega) (by rw [hn2, bkA_end (by first | exact Or.inl (by omega) | exact Or.inr c108)]; rfl)
                      ·
                        refine ja_aload_n (i := 0) dX8_brokenAt_100 rfl rfl ?_
                        refine ja_getR fl_X8_42 (zM_s hz) rfl (zM_p13 hz) dX8_brokenAt_101 ?_
                        refine ja_iload_n (i := 1) dX8_brokenAt_104 rfl rfl ?_
                        refine ja_cald (zM_a13 hz) rfl (by omega) (by decide) dX8_brokenAt_105 ?_
                        refine ja_top (y := kd) hkd ?_
                        refine ja_bipush (v := nI 97) dX8_brokenAt_106 (by decide +kernel) ?_
                        refine ja_icmp_ne (tgt := 173) dX8_brokenAt_108 (by decide) (fun c108 => ?_) (fun c108 => ?_)
                        ·
                          refine ja_iincN dX8_brokenAt_173 rfl rfl (Nat.le_of_ble_eq_true rfl) ?_
                          refine ja_goto (tgt := 4) dX8_brokenAt_176 (by decide) ?_
                          refine ja_forget (i := 4) ?_
                          refine ja_forget (i := 5) ?_
                          refine ja_forget (i := 6) ?_
                          exact ih4 (q + 1) _ (by omega) (by omega) (by rw [hn2, bkA_end (by first | exact Or.inl (by omega) | exact Or.inr c108)]; rfl)
                        ·
                          refine ja_iload_n (i := 3) dX8_brokenAt_111 rfl rfl ?_
                          refine ja_iload (i := 6) dX8_brokenAt_112 rfl ?_
                          refine ja_cSr (st := []) (s_beside l (q := q) (side := s) (by omega) (by omega)) rfl rfl (ce_X8_beside 0 0) st_X8_beside lk_X8_129 ⟨(Nat.le_of_ble_eq_true rfl), (Nat.le_of_ble_eq_true rfl)⟩ dX8_brokenAt_114 rfl rfl (Nat.le_of_ble_eq_true rfl) (Nat.zero_le _) (Nat.zero_le _) ?_
                          refine ja_istore (i := 7) dX8_brokenAt_117 rfl (Nat.le_of_ble_eq_true rfl) ?_
                          rcases hnb : nbM s q with _ | j
                          ·
                            refine ja_iload_n (i := 2) dX8_brokenAt_119 rfl rfl ?_
                            refine ja_iload (i := 7) dX8_brokenAt_120 rfl ?_
                            refine ja_iconst (v := (-1)) dX8_brokenAt_122 (by decide +kernel) ?_
                            refine ja_icmp_eq (tgt := 164) dX8_brokenAt_123 (by decide) (fun c123 => ?_) (fun c123 => absurd rfl c123)
                            refine ja_iconst (v := nI 0) dX8_brokenAt_164 (by decide +kernel) ?_
                            refine ja_iaddN dX8_brokenAt_165 ?_
                            refine ja_istore_n (i := 2) dX8_brokenAt_166 rfl rfl (Nat.le_of_ble_eq_true rfl) ?_
                            refine ja_iinc (v := nI (s + 2)) dX8_brokenAt_167 rfl (nI_add s 2) rfl (Nat.le_of_ble_eq_true rfl) ?_
                            refine ja_goto (tgt := 94) dX8_brokenAt_170 (by decide) ?_
                            refine ja_forget (i := 7) ?_
                            exact ih94 (s + 2) _ (by omega) (by omega) (by rcases (show s = 0 ∨ s = 2 by omega) with rfl | rfl <;> (rw [hn2]; simp [bkA, alo, c108, hnb, brk]; try simp_all; try omega))
                          ·
                            have hj := nbM_lt (by omega) hnb
                            refine ja_iload_n (i := 2) dX8_brokenAt_119 rfl rfl ?_
                            refine ja_iload (i := 7) dX8_brokenAt_120 rfl ?_
                            refine ja_iconst (v := (-1)) dX8_brokenAt_122 (by decide +kernel) ?_
                            refine ja_icmp_eq (tgt := 164) dX8_brokenAt_123 (by decide) (fun c123 => absurd c123 (nI_nm1 (by omega))) (fun c123 => ?_)
                            refine ja_aload_n (i := 0) dX8_brokenAt_126 rfl rfl ?_
                            refine ja_aload_n (i := 0) dX8_brokenAt_127 rfl rfl ?_
                            refine ja_getR fl_X8_46 (zM_s hz) rfl (zM_p14 hz) dX8_brokenAt_128 ?_
                            refine ja_iload_n (i := 1) dX8_brokenAt_131 rfl rfl ?_
                            refine ja_iald (zM_a14 hz) rfl (by omega) (by decide) dX8_brokenAt_132 ?_
                            refine ja_top (y := nI (fl)) hf ?_
                            refine ja_iload (i := 7) dX8_brokenAt_133 rfl ?_
                            refine ja_cVr (st := [.int (nI (n2))]) (s_at (D := D) l hz (ly := fl) (q := j) (by omega) (by omega)) rfl rfl (ce_X8_at 0 0) im_X8_at se_X8_at lk_X8_92 k_X8 (zM_s hz) ⟨(Nat.le_of_ble_eq_true rfl), (Nat.le_of_ble_eq_true rfl)⟩ dX8_brokenAt_135 rfl rfl (Nat.le_of_ble_eq_true rfl) (Nat.zero_le _) (Nat.zero_le _) ?_
                            refine ja_iload (i := 4) dX8_brokenAt_138 rfl ?_
                            refine ja_icmp_eq (tgt := 164) dX8_brokenAt_140 (by decide) (fun c140 => ?_) (fun c140 => ?_)
                            ·
                              refine ja_iconst (v := nI 0) dX8_brokenAt_164 (by decide +kernel) ?_
                              refine ja_iaddN dX8_brokenAt_165 ?_
                              refine ja_istore_n (i := 2) dX8_brokenAt_166 rfl rfl (Nat.le_of_ble_eq_true rfl) ?_
                              refine ja_iinc (v := nI (s + 2)) dX8_brokenAt_167 rfl (nI_add s 2) rfl (Nat.le_of_ble_eq_true rfl) ?_
                              refine ja_goto (tgt := 94) dX8_brokenAt_170 (by decide) ?_
                              refine ja_forget (i := 7) ?_
                              exact ih94 (s + 2) _ (by omega) (by omega) (by rcases (show s = 0 ∨ s = 2 by omega) with rfl | rfl <;> (rw [hn2]; simp [bkA, alo, c108, hnb, brk]; try simp_all; try omega))
                            ·
                              refine ja_aload_n (i := 0) dX8_brokenAt_143 rfl rfl ?_
                              refine ja_aload_n (i := 0) dX8_brokenAt_144 rfl rfl ?_
                              refine ja_getR fl_X8_49 (zM_s hz) rfl (zM_p15 hz) dX8_brokenAt_145 ?_
                              refine ja_iload_n (i := 1) dX8_brokenAt_148 rfl rfl ?_
                              refine ja_iald (zM_a15 hz) rfl (by omega) (by decide) dX8_brokenAt_149 ?_
                              refine ja_top (y := nI (sl)) hs ?_
                              refine ja_iload (i := 7) dX8_brokenAt_150 rfl ?_
                              refine ja_cVr (st := [.int (nI (n2))]) (s_at (D := D) l hz (ly := sl) (q := j) (by omega) (by omega)) rfl rfl (ce_X8_at 0 0) im_X8_at se_X8_at lk_X8_92 k_X8 (zM_s hz) ⟨(Nat.le_of_ble_eq_true rfl), (Nat.le_of_ble_eq_true rfl)⟩ dX8_brokenAt_152 rfl rfl (Nat.le_of_ble_eq_true rfl) (Nat.zero_le _) (Nat.zero_le _) ?_
                              refine ja_iload (i := 5) dX8_brokenAt_155 rfl ?_
                              refine ja_icmp_ne (tgt := 164) dX8_brokenAt_157 (by decide) (fun c157 => ?_) (fun c157 => ?_)
                              ·
                                refine ja_iconst (v := nI 0) dX8_brokenAt_164 (by decide +kernel) ?_
                                refine ja_iaddN dX8_brokenAt_165 ?_
                                refine ja_istore_n (i := 2) dX8_brokenAt_166 rfl rfl (Nat.le_of_ble_eq_true rfl) ?_
                                refine ja_iinc (v := nI (s + 2)) dX8_brokenAt_167 rfl (nI_add s 2) rfl (Nat.le_of_ble_eq_true rfl) ?_
                                refine ja_goto (tgt := 94) dX8_brokenAt_170 (by decide) ?_
                                refine ja_forget (i := 7) ?_
                                exact ih94 (s + 2) _ (by omega) (by omega) (by rcases (show s = 0 ∨ s = 2 by omega) with rfl | rfl <;> (rw [hn2]; simp [bkA, alo, c108, hnb, brk]; try simp_all; try omega))
                              ·
                                refine ja_iconst (v := nI 1) dX8_brokenAt_160 (by decide +kernel) ?_
                                refine ja_goto (tgt := 165) dX8_brokenAt_161 (by decide) ?_
                                refine ja_iaddN dX8_brokenAt_165 ?_
                                refine ja_istore_n (i := 2) dX8_brokenAt_166 rfl rfl (Nat.le_of_ble_eq_true rfl) ?_
                                refine ja_iinc (v := nI (s + 2)) dX8_brokenAt_167 rfl (nI_add s 2) rfl (Nat.le_of_ble_eq_true rfl) ?_
                                refine ja_goto (tgt := 94) dX8_brokenAt_170 (by decide) ?_
                                refine ja_forget (i := 7) ?_
                                exact ih94 (s + 2) _ (by omega) (by omega) (by rcases (show s = 0 ∨ s = 2 by omega) with rfl | rfl <;> (rw [hn2]; simp [bkA, alo, c108, hnb, brk]; try simp_all; try omega))
                  exact lp94 5 0 _ (by omega) (by omega) (by rw [← hn]; simp [bkA]; simp_all)
          ·
            refine ja_iload (i := 5) dX8_brokenAt_55 rfl ?_
            refine ja_iconst (v := (-1)) dX8_brokenAt_57 (by decide +kernel) ?_
            refine ja_icmp_eq (tgt := 84) dX8_brokenAt_58 (by decide) (fun c58 => ?_) (fun c58 => ?_)
            ·
              refine ja_iconst (v := nI 1) dX8_brokenAt_84 (by decide +kernel) ?_
              refine ja_goto (tgt := 89) dX8_brokenAt_85 (by decide) ?_
              refine ja_iaddN dX8_brokenAt_89 ?_
              refine ja_istore_n (i := 2) dX8_brokenAt_90 rfl rfl (Nat.le_of_ble_eq_true rfl) ?_
              refine ja_iconst (v := nI 0) dX8_brokenAt_91 (by decide +kernel) ?_
              refine ja_istore (i := 6) dX8_brokenAt_92 rfl (Nat.le_of_ble_eq_true rfl) ?_
              have lp94 : ∀ (k94 : Nat) (s n2 : Nat), (4 < s + k94) → (s = 0 ∨ s = 2 ∨ s = 4) → (n2 = brk (D 105) kd fl sl q + bkA (D 105) kd fl sl q s) → ja_A l (mX8_brokenAt 0 0) ja_sn (ja_Qf (mX8_brokenAt 0 0) (ja_jr (some (.int (nI (brk (D 105) kd fl sl 256)))) Z D) ja_x0) 94 [some (.ref (100)), some (.int (nI (r))), some (.int (nI (n2))), some (.int (nI (q))), some (.int (D 105 (256 * fl + q))), some (.int (D 105 (256 * sl + q))), some (.int (nI (s))), none] [] Z D 0 0 := by
                intro k94
                induction k94 with
                | zero => intro s n2 hj4 hs4 hn2; exfalso; omega
                | succ k94 ih94 =>
                  intro s n2 hj4 hs4 hn2
                  refine ja_iload (i := 6) dX8_brokenAt_94 rfl ?_
                  refine ja_iconst (v := nI 4) dX8_brokenAt_96 (by decide +kernel) ?_
                  refine ja_icmpN_ge (tgt := 173) dX8_brokenAt_97 (by decide) (by omega) (by omega) (fun c97 => ?_) (fun c97 => ?_)
                  ·
                    refine ja_iincN dX8_brokenAt_173 rfl rfl (Nat.le_of_ble_eq_true rfl) ?_
                    refine ja_goto (tgt := 4) dX8_brokenAt_176 (by decide) ?_
                    refine ja_forget (i := 4) ?_
                    refine ja_forget (i := 5) ?_
                    refine ja_forget (i := 6) ?_
                    exact ih4 (q + 1) _ (by omega) (by omega) (by rw [hn2, bkA_end (by first | exact Or.inl (by omega) | exact Or.inr c108)]; rfl)
                  ·
                    refine ja_aload_n (i := 0) dX8_brokenAt_100 rfl rfl ?_
                    refine ja_getR fl_X8_42 (zM_s hz) rfl (zM_p13 hz) dX8_brokenAt_101 ?_
                    refine ja_iload_n (i := 1) dX8_brokenAt_104 rfl rfl ?_
                    refine ja_cald (zM_a13 hz) rfl (by omega) (by decide) dX8_brokenAt_105 ?_
                    refine ja_top (y := kd) hkd ?_
                    refine ja_bipush (v := nI 97) dX8_brokenAt_106 (by decide +kernel) ?_
                    refine ja_icmp_ne (tgt := 173) dX8_brokenAt_108 (by decide) (fun c108 => ?_) (fun c108 => ?_)
                    ·
                      refine ja_iincN dX8_brokenAt_173 rfl rfl (Nat.le_of_ble_eq_true rfl) ?_
                      refine ja_goto (tgt := 4) dX8_brokenAt_176 (by decide) ?_
                      refine ja_forget (i := 4) ?_
                      refine ja_forget (i := 5) ?_
                      refine ja_forget (i := 6) ?_
                      exact ih4 (q + 1) _ (by omega) (by omega) (by rw [hn2, bkA_end (by first | exact Or.inl (by omega) | exact Or.inr c108)]; rfl)
                    ·
                      refine ja_iload_n (i := 3) dX8_brokenAt_111 rfl rfl ?_
                      refine ja_iload (i := 6) dX8_brokenAt_112 rfl ?_
                      refine ja_cSr (st := []) (s_beside l (q := q) (side := s) (by omega) (by omega)) rfl rfl (ce_X8_beside 0 0) st_X8_beside lk_X8_129 ⟨(Nat.le_of_ble_eq_true rfl), (Nat.le_of_ble_eq_true rfl)⟩ dX8_brokenAt_114 rfl rfl (Nat.le_of_ble_eq_true rfl) (Nat.zero_le _) (Nat.zero_le _) ?_
                      refine ja_istore (i := 7) dX8_brokenAt_117 rfl (Nat.le_of_ble_eq_true rfl) ?_
                      rcases hnb : nbM s q with _ | j
                      ·
                        refine ja_iload_n (i := 2) dX8_brokenAt_119 rfl rfl ?_
                        refine ja_iload (i := 7) dX8_brokenAt_120 rfl ?_
                        refine ja_iconst (v := (-1)) dX8_brokenAt_122 (by decide +kernel) ?_
                        refine ja_icmp_eq (tgt := 164) dX8_brokenAt_123 (by decide) (fun c123 => ?_) (fun c123 => absurd rfl c123)
                        refine ja_iconst (v := nI 0) dX8_brokenAt_164 (by decide +kernel) ?_
                        refine ja_iaddN dX8_brokenAt_165 ?_
                        refine ja_istore_n (i := 2) dX8_brokenAt_166 rfl rfl (Nat.le_of_ble_eq_true rfl) ?_
                        refine ja_iinc (v := nI (s + 2)) dX8_brokenAt_167 rfl (nI_add s 2) rfl (Nat.le_of_ble_eq_true rfl) ?_
                        refine ja_goto (tgt := 94) dX8_brokenAt_170 (by decide) ?_
                        refine ja_forget (i := 7) ?_
                        exact ih94 (s + 2) _ (by omega) (by omega) (by rcases (show s = 0 ∨ s = 2 by omega) with rfl | rfl <;> (rw [hn2]; simp [bkA, alo, c108, hnb, brk]; try simp_all; try omega))
                      ·
                        have hj := nbM_lt (by omega) hnb
                        refine ja_iload_n (i := 2) dX8_brokenAt_119 rfl rfl ?_
                        refine ja_iload (i := 7) dX8_brokenAt_120 rfl ?_
                        refine ja_iconst (v := (-1)) dX8_brokenAt_122 (by decide +kernel) ?_
                        refine ja_icmp_eq (tgt := 164) dX8_brokenAt_123 (by decide) (fun c123 => absurd c123 (nI_nm1 (by omega))) (fun c123 => ?_)
                        refine ja_aload_n (i := 0) dX8_brokenAt_126 rfl rfl ?_
                        refine ja_aload_n (i := 0) dX8_brokenAt_127 rfl rfl ?_
                        refine ja_getR fl_X8_46 (zM_s hz) rfl (zM_p14 hz) dX8_brokenAt_128 ?_
                        refine ja_iload_n (i := 1) dX8_brokenAt_131 rfl rfl ?_
                        refine ja_iald (zM_a14 hz) rfl (by omega) (by decide) dX8_brokenAt_132 ?_
                        refine ja_top (y := nI (fl)) hf ?_
                        refine ja_iload (i := 7) dX8_brokenAt_133 rfl ?_
                        refine ja_cVr (st := [.int (nI (n2))]) (s_at (D := D) l hz (ly := fl) (q := j) (by omega) (by omega)) rfl rfl (ce_X8_at 0 0) im_X8_at se_X8_at lk_X8_92 k_X8 (zM_s hz) ⟨(Nat.le_of_ble_eq_true rfl), (Nat.le_of_ble_eq_true rfl)⟩ dX8_brokenAt_135 rfl rfl (Nat.le_of_ble_eq_true rfl) (Nat.zero_le _) (Nat.zero_le _) ?_
                        refine ja_iload (i := 4) dX8_brokenAt_138 rfl ?_
                        refine ja_icmp_eq (tgt := 164) dX8_brokenAt_140 (by decide) (fun c140 => ?_) (fun c140 => ?_)
                        ·
                          refine ja_iconst (v := nI 0) dX8_brokenAt_164 (by decide +kernel) ?_
                          refine ja_iaddN dX8_brokenAt_165 ?_
                          refine ja_istore_n (i := 2) dX8_brokenAt_166 rfl rfl (Nat.le_of_ble_eq_true rfl) ?_
                          refine ja_iinc (v := nI (s + 2)) dX8_brokenAt_167 rfl (nI_add s 2) rfl (Nat.le_of_ble_eq_true rfl) ?_
                          refine ja_goto (tgt := 94) dX8_brokenAt_170 (by decide) ?_
                          refine ja_forget (i := 7) ?_
                          exact ih94 (s + 2) _ (by omega) (by omega) (by rcases (show s = 0 ∨ s = 2 by omega) with rfl | rfl <;> (rw [hn2]; simp [bkA, alo, c108, hnb, brk]; try simp_all; try omega))
                        ·
                          refine ja_aload_n (i := 0) dX8_brokenAt_143 rfl rfl ?_
                          refine ja_aload_n (i := 0) dX8_brokenAt_144 rfl rfl ?_
                          refine ja_getR fl_X8_49 (zM_s hz) rfl (zM_p15 hz) dX8_brokenAt_145 ?_
                          refine ja_iload_n (i := 1) dX8_brokenAt_148 rfl rfl ?_
                          refine ja_iald (zM_a15 hz) rfl (by omega) (by decide) dX8_brokenAt_149 ?_
                          refine ja_top (y := nI (sl)) hs ?_
                          refine ja_iload (i := 7) dX8_brokenAt_150 rfl ?_
                          refine ja_cVr (st := [.int (nI (n2))]) (s_at (D := D) l hz (ly := sl) (q := j) (by omega) (by omega)) rfl rfl (ce_X8_at 0 0) im_X8_at se_X8_at lk_X8_92 k_X8 (zM_s hz) ⟨(Nat.le_of_ble_eq_true rfl), (Nat.le_of_ble_eq_true rfl)⟩ dX8_brokenAt_152 rfl rfl (Nat.le_of_ble_eq_true rfl) (Nat.zero_le _) (Nat.zero_le _) ?_
                          refine ja_iload (i := 5) dX8_brokenAt_155 rfl ?_
                          refine ja_icmp_ne (tgt := 164) dX8_brokenAt_157 (by decide) (fun c157 => ?_) (fun c157 => ?_)
                          ·
                            refine ja_iconst (v := nI 0) dX8_brokenAt_164 (by decide +kernel) ?_
                            refine ja_iaddN dX8_brokenAt_165 ?_
                            refine ja_istore_n (i := 2) dX8_brokenAt_166 rfl rfl (Nat.le_of_ble_eq_true rfl) ?_
                            refine ja_iinc (v := nI (s + 2)) dX8_brokenAt_167 rfl (nI_add s 2) rfl (Nat.le_of_ble_eq_true rfl) ?_
                            refine ja_goto (tgt := 94) dX8_brokenAt_170 (by decide) ?_
                            refine ja_forget (i := 7) ?_
                            exact ih94 (s + 2) _ (by omega) (by omega) (by rcases (show s = 0 ∨ s = 2 by omega) with rfl | rfl <;> (rw [hn2]; simp [bkA, alo, c108, hnb, brk]; try simp_all; try omega))
                          ·
                            refine ja_iconst (v := nI 1) dX8_brokenAt_160 (by decide +kernel) ?_
                            refine ja_goto (tgt := 165) dX8_brokenAt_161 (by decide) ?_
                            refine ja_iaddN dX8_brokenAt_165 ?_
                            refine ja_istore_n (i := 2) dX8_brokenAt_166 rfl rfl (Nat.le_of_ble_eq_true rfl) ?_
                            refine ja_iinc (v := nI (s + 2)) dX8_brokenAt_167 rfl (nI_add s 2) rfl (Nat.le_of_ble_eq_true rfl) ?_
                            refine ja_goto (tgt := 94) dX8_brokenAt_170 (by decide) ?_
                            refine ja_forget (i := 7) ?_
                            exact ih94 (s + 2) _ (by omega) (by omega) (by rcases (show s = 0 ∨ s = 2 by omega) with rfl | rfl <;> (rw [hn2]; simp [bkA, alo, c108, hnb, brk]; try simp_all; try omega))
              exact lp94 5 0 _ (by omega) (by omega) (by rw [← hn]; simp [bkA]; simp_all)
            ·
              refine ja_aload_n (i := 0) dX8_brokenAt_61 rfl rfl ?_
              refine ja_getR fl_X8_42 (zM_s hz) rfl (zM_p13 hz) dX8_brokenAt_62 ?_
              refine ja_iload_n (i := 1) dX8_brokenAt_65 rfl rfl ?_
              refine ja_cald (zM_a13 hz) rfl (by omega) (by decide) dX8_brokenAt_66 ?_
              refine ja_top (y := kd) hkd ?_
              refine ja_bipush (v := nI 110) dX8_brokenAt_67 (by decide +kernel) ?_
              refine ja_icmp_ne (tgt := 88) dX8_brokenAt_69 (by decide) (fun c69 => ?_) (fun c69 => ?_)
              ·
                refine ja_iconst (v := nI 0) dX8_brokenAt_88 (by decide +kernel) ?_
                refine ja_iaddN dX8_brokenAt_89 ?_
                refine ja_istore_n (i := 2) dX8_brokenAt_90 rfl rfl (Nat.le_of_ble_eq_true rfl) ?_
                refine ja_iconst (v := nI 0) dX8_brokenAt_91 (by decide +kernel) ?_
                refine ja_istore (i := 6) dX8_brokenAt_92 rfl (Nat.le_of_ble_eq_true rfl) ?_
                have lp94 : ∀ (k94 : Nat) (s n2 : Nat), (4 < s + k94) → (s = 0 ∨ s = 2 ∨ s = 4) → (n2 = brk (D 105) kd fl sl q + bkA (D 105) kd fl sl q s) → ja_A l (mX8_brokenAt 0 0) ja_sn (ja_Qf (mX8_brokenAt 0 0) (ja_jr (some (.int (nI (brk (D 105) kd fl sl 256)))) Z D) ja_x0) 94 [some (.ref (100)), some (.int (nI (r))), some (.int (nI (n2))), some (.int (nI (q))), some (.int (D 105 (256 * fl + q))), some (.int (D 105 (256 * sl + q))), some (.int (nI (s))), none] [] Z D 0 0 := by
                  intro k94
                  induction k94 with
                  | zero => intro s n2 hj4 hs4 hn2; exfalso; omega
                  | succ k94 ih94 =>
                    intro s n2 hj4 hs4 hn2
                    refine ja_iload (i := 6) dX8_brokenAt_94 rfl ?_
                    refine ja_iconst (v := nI 4) dX8_brokenAt_96 (by decide +kernel) ?_
                    refine ja_icmpN_ge (tgt := 173) dX8_brokenAt_97 (by decide) (by omega) (by omega) (fun c97 => ?_) (fun c97 => ?_)
                    ·
                      refine ja_iincN dX8_brokenAt_173 rfl rfl (Nat.le_of_ble_eq_true rfl) ?_
                      refine ja_goto (tgt := 4) dX8_brokenAt_176 (by decide) ?_
                      refine ja_forget (i := 4) ?_
                      refine ja_forget (i := 5) ?_
                      refine ja_forget (i := 6) ?_
                      exact ih4 (q + 1) _ (by omega) (by omega) (by rw [hn2, bkA_end (by first | exact Or.inl (by omega) | exact Or.inr c108)]; rfl)
                    ·
                      refine ja_aload_n (i := 0) dX8_brokenAt_100 rfl rfl ?_
                      refine ja_getR fl_X8_42 (zM_s hz) rfl (zM_p13 hz) dX8_brokenAt_101 ?_
                      refine ja_iload_n (i := 1) dX8_brokenAt_104 rfl rfl ?_
                      refine ja_cald (zM_a13 hz) rfl (by omega) (by decide) dX8_brokenAt_105 ?_
                      refine ja_top (y := kd) hkd ?_
                      refine ja_bipush (v := nI 97) dX8_brokenAt_106 (by decide +kernel) ?_
                      refine ja_icmp_ne (tgt := 173) dX8_brokenAt_108 (by decide) (fun c108 => ?_) (fun c108 => ?_)
                      ·
                        refine ja_iincN dX8_brokenAt_173 rfl rfl (Nat.le_of_ble_eq_true rfl) ?_
                        refine ja_goto (tgt := 4) dX8_brokenAt_176 (by decide) ?_
                        refine ja_forget (i := 4) ?_
                        refine ja_forget (i := 5) ?_
                        refine ja_forget (i := 6) ?_
                        exact ih4 (q + 1) _ (by omega) (by omega) (by rw [hn2, bkA_end (by first | exact Or.inl (by omega) | exact Or.inr c108)]; rfl)
                      ·
                        refine ja_iload_n (i := 3) dX8_brokenAt_111 rfl rfl ?_
                        refine ja_iload (i := 6) dX8_brokenAt_112 rfl ?_
                        refine ja_cSr (st := []) (s_beside l (q := q) (side := s) (by omega) (by omega)) rfl rfl (ce_X8_beside 0 0) st_X8_beside lk_X8_129 ⟨(Nat.le_of_ble_eq_true rfl), (Nat.le_of_ble_eq_true rfl)⟩ dX8_brokenAt_114 rfl rfl (Nat.le_of_ble_eq_true rfl) (Nat.zero_le _) (Nat.zero_le _) ?_
                        refine ja_istore (i := 7) dX8_brokenAt_117 rfl (Nat.le_of_ble_eq_true rfl) ?_
                        rcases hnb : nbM s q with _ | j
                        ·
                          refine ja_iload_n (i := 2) dX8_brokenAt_119 rfl rfl ?_
                          refine ja_iload (i := 7) dX8_brokenAt_120 rfl ?_
                          refine ja_iconst (v := (-1)) dX8_brokenAt_122 (by decide +kernel) ?_
                          refine ja_icmp_eq (tgt := 164) dX8_brokenAt_123 (by decide) (fun c123 => ?_) (fun c123 => absurd rfl c123)
                          refine ja_iconst (v := nI 0) dX8_brokenAt_164 (by decide +kernel) ?_
                          refine ja_iaddN dX8_brokenAt_165 ?_
                          refine ja_istore_n (i := 2) dX8_brokenAt_166 rfl rfl (Nat.le_of_ble_eq_true rfl) ?_
                          refine ja_iinc (v := nI (s + 2)) dX8_brokenAt_167 rfl (nI_add s 2) rfl (Nat.le_of_ble_eq_true rfl) ?_
                          refine ja_goto (tgt := 94) dX8_brokenAt_170 (by decide) ?_
                          refine ja_forget (i := 7) ?_
                          exact ih94 (s + 2) _ (by omega) (by omega) (by rcases (show s = 0 ∨ s = 2 by omega) with rfl | rfl <;> (rw [hn2]; simp [bkA, alo, c108, hnb, brk]; try simp_all; try omega))
                        ·
                          have hj := nbM_lt (by omega) hnb
                          refine ja_iload_n (i := 2) dX8_brokenAt_119 rfl rfl ?_
                          refine ja_iload (i := 7) dX8_brokenAt_120 rfl ?_
                          refine ja_iconst (v := (-1)) dX8_brokenAt_122 (by decide +kernel) ?_
                          refine ja_icmp_eq (tgt := 164) dX8_brokenAt_123 (by decide) (fun c123 => absurd c123 (nI_nm1 (by omega))) (fun c123 => ?_)
                          refine ja_aload_n (i := 0) dX8_brokenAt_126 rfl rfl ?_
                          refine ja_aload_n (i := 0) dX8_brokenAt_127 rfl rfl ?_
                          refine ja_getR fl_X8_46 (zM_s hz) rfl (zM_p14 hz) dX8_brokenAt_128 ?_
                          refine ja_iload_n (i := 1) dX8_brokenAt_131 rfl rfl ?_
                          refine ja_iald (zM_a14 hz) rfl (by omega) (by decide) dX8_brokenAt_132 ?_
                          refine ja_top (y := nI (fl)) hf ?_
                          refine ja_iload (i := 7) dX8_brokenAt_133 rfl ?_
                          refine ja_cVr (st := [.int (nI (n2))]) (s_at (D := D) l hz (ly := fl) (q := j) (by omega) (by omega)) rfl rfl (ce_X8_at 0 0) im_X8_at se_X8_at lk_X8_92 k_X8 (zM_s hz) ⟨(Nat.le_of_ble_eq_true rfl), (Nat.le_of_ble_eq_true rfl)⟩ dX8_brokenAt_135 rfl rfl (Nat.le_of_ble_eq_true rfl) (Nat.zero_le _) (Nat.zero_le _) ?_
                          refine ja_iload (i := 4) dX8_brokenAt_138 rfl ?_
                          refine ja_icmp_eq (tgt := 164) dX8_brokenAt_140 (by decide) (fun c140 => ?_) (fun c140 => ?_)
                          ·
                            refine ja_iconst (v := nI 0) dX8_brokenAt_164 (by decide +kernel) ?_
                            refine ja_iaddN dX8_brokenAt_165 ?_
                            refine ja_istore_n (i := 2) dX8_brokenAt_166 rfl rfl (Nat.le_of_ble_eq_true rfl) ?_
                            refine ja_iinc (v := nI (s + 2)) dX8_brokenAt_167 rfl (nI_add s 2) rfl (Nat.le_of_ble_eq_true rfl) ?_
                            refine ja_goto (tgt := 94) dX8_brokenAt_170 (by decide) ?_
                            refine ja_forget (i := 7) ?_
                            exact ih94 (s + 2) _ (by omega) (by omega) (by rcases (show s = 0 ∨ s = 2 by omega) with rfl | rfl <;> (rw [hn2]; simp [bkA, alo, c108, hnb, brk]; try simp_all; try omega))
                          ·
                            refine ja_aload_n (i := 0) dX8_brokenAt_143 rfl rfl ?_
                            refine ja_aload_n (i := 0) dX8_brokenAt_144 rfl rfl ?_
                            refine ja_getR fl_X8_49 (zM_s hz) rfl (zM_p15 hz) dX8_brokenAt_145 ?_
                            refine ja_iload_n (i := 1) dX8_brokenAt_148 rfl rfl ?_
                            refine ja_iald (zM_a15 hz) rfl (by omega) (by decide) dX8_brokenAt_149 ?_
                            refine ja_top (y := nI (sl)) hs ?_
                            refine ja_iload (i := 7) dX8_brokenAt_150 rfl ?_
                            refine ja_cVr (st := [.int (nI (n2))]) (s_at (D := D) l hz (ly := sl) (q := j) (by omega) (by omega)) rfl rfl (ce_X8_at 0 0) im_X8_at se_X8_at lk_X8_92 k_X8 (zM_s hz) ⟨(Nat.le_of_ble_eq_true rfl), (Nat.le_of_ble_eq_true rfl)⟩ dX8_brokenAt_152 rfl rfl (Nat.le_of_ble_eq_true rfl) (Nat.zero_le _) (Nat.zero_le _) ?_
                            refine ja_iload (i := 5) dX8_brokenAt_155 rfl ?_
                            refine ja_icmp_ne (tgt := 164) dX8_brokenAt_157 (by decide) (fun c157 => ?_) (fun c157 => ?_)
                            ·
                              refine ja_iconst (v := nI 0) dX8_brokenAt_164 (by decide +kernel) ?_
                              refine ja_iaddN dX8_brokenAt_165 ?_
                              refine ja_istore_n (i := 2) dX8_brokenAt_166 rfl rfl (Nat.le_of_ble_eq_true rfl) ?_
                              refine ja_iinc (v := nI (s + 2)) dX8_brokenAt_167 rfl (nI_add s 2) rfl (Nat.le_of_ble_eq_true rfl) ?_
                              refine ja_goto (tgt := 94) dX8_brokenAt_170 (by decide) ?_
                              refine ja_forget (i := 7) ?_
                              exact ih94 (s + 2) _ (by omega) (by omega) (by rcases (show s = 0 ∨ s = 2 by omega) with rfl | rfl <;> (rw [hn2]; simp [bkA, alo, c108, hnb, brk]; try simp_all; try omega))
                            ·
                              refine ja_iconst (v := nI 1) dX8_brokenAt_160 (by decide +kernel) ?_
                              refine ja_goto (tgt := 165) dX8_brokenAt_161 (by decide) ?_
                              refine ja_iaddN dX8_brokenAt_165 ?_
                              refine ja_istore_n (i := 2) dX8_brokenAt_166 rfl rfl (Nat.le_of_ble_eq_true rfl) ?_
                              refine ja_iinc (v := nI (s + 2)) dX8_brokenAt_167 rfl (nI_add s 2) rfl (Nat.le_of_ble_eq_true rfl) ?_
                              refine ja_goto (tgt := 94) dX8_brokenAt_170 (by decide) ?_
                              refine ja_forget (i := 7) ?_
                              exact ih94 (s + 2) _ (by omega) (by omega) (by rcases (show s = 0 ∨ s = 2 by omega) with rfl | rfl <;> (rw [hn2]; simp [bkA, alo, c108, hnb, brk]; try simp_all; try omega))
                exact lp94 5 0 _ (by omega) (by omega) (by rw [← hn]; simp [bkA]; simp_all)
              ·
                refine ja_iload (i := 4) dX8_brokenAt_72 rfl ?_
                refine ja_iconst (v := (-1)) dX8_brokenAt_74 (by decide +kernel) ?_
                refine ja_icmp_eq (tgt := 88) dX8_brokenAt_75 (by decide) (fun c75 => ?_) (fun c75 => ?_)
                ·
                  refine ja_iconst (v := nI 0) dX8_brokenAt_88 (by decide +kernel) ?_
                  refine ja_iaddN dX8_brokenAt_89 ?_
                  refine ja_istore_n (i := 2) dX8_brokenAt_90 rfl rfl (Nat.le_of_ble_eq_true rfl) ?_
                  refine ja_iconst (v := nI 0) dX8_brokenAt_91 (by decide +kernel) ?_
                  refine ja_istore (i := 6) dX8_brokenAt_92 rfl (Nat.le_of_ble_eq_true rfl) ?_
                  have lp94 : ∀ (k94 : Nat) (s n2 : Nat), (4 < s + k94) → (s = 0 ∨ s = 2 ∨ s = 4) → (n2 = brk (D 105) kd fl sl q + bkA (D 105) kd fl sl q s) → ja_A l (mX8_brokenAt 0 0) ja_sn (ja_Qf (mX8_brokenAt 0 0) (ja_jr (some (.int (nI (brk (D 105) kd fl sl 256)))) Z D) ja_x0) 94 [some (.ref (100)), some (.int (nI (r))), some (.int (nI (n2))), some (.int (nI (q))), some (.int (D 105 (256 * fl + q))), some (.int (D 105 (256 * sl + q))), some (.int (nI (s))), none] [] Z D 0 0 := by
                    intro k94
                    induction k94 with
                    | zero => intro s n2 hj4 hs4 hn2; exfalso; omega
                    | succ k94 ih94 =>
                      intro s n2 hj4 hs4 hn2
                      refine ja_iload (i := 6) dX8_brokenAt_94 rfl ?_
                      refine ja_iconst (v := nI 4) dX8_brokenAt_96 (by decide +kernel) ?_
                      refine ja_icmpN_ge (tgt := 173) dX8_brokenAt_97 (by decide) (by omega) (by omega) (fun c97 => ?_) (fun c97 => ?_)
                      ·
                        refine ja_iincN dX8_brokenAt_173 rfl rfl (Nat.le_of_ble_eq_true rfl) ?_
                        refine ja_goto (tgt := 4) dX8_brokenAt_176 (by decide) ?_
                        refine ja_forget (i := 4) ?_
                        refine ja_forget (i := 5) ?_
                        refine ja_forget (i := 6) ?_
                        exact ih4 (q + 1) _ (by omega) (by omega) (by rw [hn2, bkA_end (by first | exact Or.inl (by omega) | exact Or.inr c108)]; rfl)
                      ·
                        refine ja_aload_n (i := 0) dX8_brokenAt_100 rfl rfl ?_
                        refine ja_getR fl_X8_42 (zM_s hz) rfl (zM_p13 hz) dX8_brokenAt_101 ?_
                        refine ja_iload_n (i := 1) dX8_brokenAt_104 rfl rfl ?_
                        refine ja_cald (zM_a13 hz) rfl (by omega) (by decide) dX8_brokenAt_105 ?_
                        refine ja_top (y := kd) hkd ?_
                        refine ja_bipush (v := nI 97) dX8_brokenAt_106 (by decide +kernel) ?_
                        refine ja_icmp_ne (tgt := 173) dX8_brokenAt_108 (by decide) (fun c108 => ?_) (fun c108 => ?_)
                        ·
                          refine ja_iincN dX8_brokenAt_173 rfl rfl (Nat.le_of_ble_eq_true rfl) ?_
                          refine ja_goto (tgt := 4) dX8_brokenAt_176 (by decide) ?_
                          refine ja_forget (i := 4) ?_
                          refine ja_forget (i := 5) ?_
                          refine ja_forget (i := 6) ?_
                          exact ih4 (q + 1) _ (by omega) (by omega) (by rw [hn2, bkA_end (by first | exact Or.inl (by omega) | exact Or.inr c108)]; rfl)
                        ·
                          refine ja_iload_n (i := 3) dX8_brokenAt_111 rfl rfl ?_
                          refine ja_iload (i := 6) dX8_brokenAt_112 rfl ?_
                          refine ja_cSr (st := []) (s_beside l (q := q) (side := s) (by omega) (by omega)) rfl rfl (ce_X8_beside 0 0) st_X8_beside lk_X8_129 ⟨(Nat.le_of_ble_eq_true rfl), (Nat.le_of_ble_eq_true rfl)⟩ dX8_brokenAt_114 rfl rfl (Nat.le_of_ble_eq_true rfl) (Nat.zero_le _) (Nat.zero_le _) ?_
                          refine ja_istore (i := 7) dX8_brokenAt_117 rfl (Nat.le_of_ble_eq_true rfl) ?_
                          rcases hnb : nbM s q with _ | j
                          ·
                            refine ja_iload_n (i := 2) dX8_brokenAt_119 rfl rfl ?_
                            refine ja_iload (i := 7) dX8_brokenAt_120 rfl ?_
                            refine ja_iconst (v := (-1)) dX8_brokenAt_122 (by decide +kernel) ?_
                            refine ja_icmp_eq (tgt := 164) dX8_brokenAt_123 (by decide) (fun c123 => ?_) (fun c123 => absurd rfl c123)
                            refine ja_iconst (v := nI 0) dX8_brokenAt_164 (by decide +kernel) ?_
                            refine ja_iaddN dX8_brokenAt_165 ?_
                            refine ja_istore_n (i := 2) dX8_brokenAt_166 rfl rfl (Nat.le_of_ble_eq_true rfl) ?_
                            refine ja_iinc (v := nI (s + 2)) dX8_brokenAt_167 rfl (nI_add s 2) rfl (Nat.le_of_ble_eq_true rfl) ?_
                            refine ja_goto (tgt := 94) dX8_brokenAt_170 (by decide) ?_
                            refine ja_forget (i := 7) ?_
                            exact ih94 (s + 2) _ (by omega) (by omega) (by rcases (show s = 0 ∨ s = 2 by omega) with rfl | rfl <;> (rw [hn2]; simp [bkA, alo, c108, hnb, brk]; try simp_all; try omega))
                          ·
                            have hj := nbM_lt (by omega) hnb
                            refine ja_iload_n (i := 2) dX8_brokenAt_119 rfl rfl ?_
                            refine ja_iload (i := 7) dX8_brokenAt_120 rfl ?_
                            refine ja_iconst (v := (-1)) dX8_brokenAt_122 (by decide +kernel) ?_
                            refine ja_icmp_eq (tgt := 164) dX8_brokenAt_123 (by decide) (fun c123 => absurd c123 (nI_nm1 (by omega))) (fun c123 => ?_)
                            refine ja_aload_n (i := 0) dX8_brokenAt_126 rfl rfl ?_
                            refine ja_aload_n (i := 0) dX8_brokenAt_127 rfl rfl ?_
                            refine ja_getR fl_X8_46 (zM_s hz) rfl (zM_p14 hz) dX8_brokenAt_128 ?_
                            refine ja_iload_n (i := 1) dX8_brokenAt_131 rfl rfl ?_
                            refine ja_iald (zM_a14 hz) rfl (by omega) (by decide) dX8_brokenAt_132 ?_
                            refine ja_top (y := nI (fl)) hf ?_
                            refine ja_iload (i := 7) dX8_brokenAt_133 rfl ?_
                            refine ja_cVr (st := [.int (nI (n2))]) (s_at (D := D) l hz (ly := fl) (q := j) (by omega) (by omega)) rfl rfl (ce_X8_at 0 0) im_X8_at se_X8_at lk_X8_92 k_X8 (zM_s hz) ⟨(Nat.le_of_ble_eq_true rfl), (Nat.le_of_ble_eq_true rfl)⟩ dX8_brokenAt_135 rfl rfl (Nat.le_of_ble_eq_true rfl) (Nat.zero_le _) (Nat.zero_le _) ?_
                            refine ja_iload (i := 4) dX8_brokenAt_138 rfl ?_
                            refine ja_icmp_eq (tgt := 164) dX8_brokenAt_140 (by decide) (fun c140 => ?_) (fun c140 => ?_)
                            ·
                              refine ja_iconst (v := nI 0) dX8_brokenAt_164 (by decide +kernel) ?_
                              refine ja_iaddN dX8_brokenAt_165 ?_
                              refine ja_istore_n (i := 2) dX8_brokenAt_166 rfl rfl (Nat.le_of_ble_eq_true rfl) ?_
                              refine ja_iinc (v := nI (s + 2)) dX8_brokenAt_167 rfl (nI_add s 2) rfl (Nat.le_of_ble_eq_true rfl) ?_
                              refine ja_goto (tgt := 94) dX8_brokenAt_170 (by decide) ?_
                              refine ja_forget (i := 7) ?_
                              exact ih94 (s + 2) _ (by omega) (by omega) (by rcases (show s = 0 ∨ s = 2 by omega) with rfl | rfl <;> (rw [hn2]; simp [bkA, alo, c108, hnb, brk]; try simp_all; try omega))
                            ·
                              refine ja_aload_n (i := 0) dX8_brokenAt_143 rfl rfl ?_
                              refine ja_aload_n (i := 0) dX8_brokenAt_144 rfl rfl ?_
                              refine ja_getR fl_X8_49 (zM_s hz) rfl (zM_p15 hz) dX8_brokenAt_145 ?_
                              refine ja_iload_n (i := 1) dX8_brokenAt_148 rfl rfl ?_
                              refine ja_iald (zM_a15 hz) rfl (by omega) (by decide) dX8_brokenAt_149 ?_
                              refine ja_top (y := nI (sl)) hs ?_
                              refine ja_iload (i := 7) dX8_brokenAt_150 rfl ?_
                              refine ja_cVr (st := [.int (nI (n2))]) (s_at (D := D) l hz (ly := sl) (q := j) (by omega) (by omega)) rfl rfl (ce_X8_at 0 0) im_X8_at se_X8_at lk_X8_92 k_X8 (zM_s hz) ⟨(Nat.le_of_ble_eq_true rfl), (Nat.le_of_ble_eq_true rfl)⟩ dX8_brokenAt_152 rfl rfl (Nat.le_of_ble_eq_true rfl) (Nat.zero_le _) (Nat.zero_le _) ?_
                              refine ja_iload (i := 5) dX8_brokenAt_155 rfl ?_
                              refine ja_icmp_ne (tgt := 164) dX8_brokenAt_157 (by decide) (fun c157 => ?_) (fun c157 => ?_)
                              ·
                                refine ja_iconst (v := nI 0) dX8_brokenAt_164 (by decide +kernel) ?_
                                refine ja_iaddN dX8_brokenAt_165 ?_
                                refine ja_istore_n (i := 2) dX8_brokenAt_166 rfl rfl (Nat.le_of_ble_eq_true rfl) ?_
                                refine ja_iinc (v := nI (s + 2)) dX8_brokenAt_167 rfl (nI_add s 2) rfl (Nat.le_of_ble_eq_true rfl) ?_
                                refine ja_goto (tgt := 94) dX8_brokenAt_170 (by decide) ?_
                                refine ja_forget (i := 7) ?_
                                exact ih94 (s + 2) _ (by omega) (by omega) (by rcases (show s = 0 ∨ s = 2 by omega) with rfl | rfl <;> (rw [hn2]; simp [bkA, alo, c108, hnb, brk]; try simp_all; try omega))
                              ·
                                refine ja_iconst (v := nI 1) dX8_brokenAt_160 (by decide +kernel) ?_
                                refine ja_goto (tgt := 165) dX8_brokenAt_161 (by decide) ?_
                                refine ja_iaddN dX8_brokenAt_165 ?_
                                refine ja_istore_n (i := 2) dX8_brokenAt_166 rfl rfl (Nat.le_of_ble_eq_true rfl) ?_
                                refine ja_iinc (v := nI (s + 2)) dX8_brokenAt_167 rfl (nI_add s 2) rfl (Nat.le_of_ble_eq_true rfl) ?_
                                refine ja_goto (tgt := 94) dX8_brokenAt_170 (by decide) ?_
                                refine ja_forget (i := 7) ?_
                                exact ih94 (s + 2) _ (by omega) (by omega) (by rcases (show s = 0 ∨ s = 2 by omega) with rfl | rfl <;> (rw [hn2]; simp [bkA, alo, c108, hnb, brk]; try simp_all; try omega))
                  exact lp94 5 0 _ (by omega) (by omega) (by rw [← hn]; simp [bkA]; simp_all)
                ·
                  refine ja_iload (i := 5) dX8_brokenAt_78 rfl ?_
                  refine ja_iconst (v := (-1)) dX8_brokenAt_80 (by decide +kernel) ?_
                  refine ja_icmp_eq (tgt := 88) dX8_brokenAt_81 (by decide) (fun c81 => ?_) (fun c81 => ?_)
                  ·
                    refine ja_iconst (v := nI 0) dX8_brokenAt_88 (by decide +kernel) ?_
                    refine ja_iaddN dX8_brokenAt_89 ?_
                    refine ja_istore_n (i := 2) dX8_brokenAt_90 rfl rfl (Nat.le_of_ble_eq_true rfl) ?_
                    refine ja_iconst (v := nI 0) dX8_brokenAt_91 (by decide +kernel) ?_
                    refine ja_istore (i := 6) dX8_brokenAt_92 rfl (Nat.le_of_ble_eq_true rfl) ?_
                    have lp94 : ∀ (k94 : Nat) (s n2 : Nat), (4 < s + k94) → (s = 0 ∨ s = 2 ∨ s = 4) → (n2 = brk (D 105) kd fl sl q + bkA (D 105) kd fl sl q s) → ja_A l (mX8_brokenAt 0 0) ja_sn (ja_Qf (mX8_brokenAt 0 0) (ja_jr (some (.int (nI (brk (D 105) kd fl sl 256)))) Z D) ja_x0) 94 [some (.ref (100)), some (.int (nI (r))), some (.int (nI (n2))), some (.int (nI (q))), some (.int (D 105 (256 * fl + q))), some (.int (D 105 (256 * sl + q))), some (.int (nI (s))), none] [] Z D 0 0 := by
                      intro k94
                      induction k94 with
                      | zero => intro s n2 hj4 hs4 hn2; exfalso; omega
                      | succ k94 ih94 =>
                        intro s n2 hj4 hs4 hn2
                        refine ja_iload (i := 6) dX8_brokenAt_94 rfl ?_
                        refine ja_iconst (v := nI 4) dX8_brokenAt_96 (by decide +kernel) ?_
                        refine ja_icmpN_ge (tgt := 173) dX8_brokenAt_97 (by decide) (by omega) (by omega) (fun c97 => ?_) (fun c97 => ?_)
                        ·
                          refine ja_iincN dX8_brokenAt_173 rfl rfl (Nat.le_of_ble_eq_true rfl) ?_
                          refine ja_goto (tgt := 4) dX8_brokenAt_176 (by decide) ?_
                          refine ja_forget (i := 4) ?_
                          refine ja_forget (i := 5) ?_
                          refine ja_forget (i := 6) ?_
                          exact ih4 (q + 1) _ (by omega) (by omega) (by rw [hn2, bkA_end (by first | exact Or.inl (by omega) | exact Or.inr c108)]; rfl)
                        ·
                          refine ja_aload_n (i := 0) dX8_brokenAt_100 rfl rfl ?_
                          refine ja_getR fl_X8_42 (zM_s hz) rfl (zM_p13 hz) dX8_brokenAt_101 ?_
                          refine ja_iload_n (i := 1) dX8_brokenAt_104 rfl rfl ?_
                          refine ja_cald (zM_a13 hz) rfl (by omega) (by decide) dX8_brokenAt_105 ?_
                          refine ja_top (y := kd) hkd ?_
                          refine ja_bipush (v := nI 97) dX8_brokenAt_106 (by decide +kernel) ?_
                          refine ja_icmp_ne (tgt := 173) dX8_brokenAt_108 (by decide) (fun c108 => ?_) (fun c108 => ?_)
                          ·
                            refine ja_iincN dX8_brokenAt_173 rfl rfl (Nat.le_of_ble_eq_true rfl) ?_
                            refine ja_goto (tgt := 4) dX8_brokenAt_176 (by decide) ?_
                            refine ja_forget (i := 4) ?_
                            refine ja_forget (i := 5) ?_
                            refine ja_forget (i := 6) ?_
                            exact ih4 (q + 1) _ (by omega) (by omega) (by rw [hn2, bkA_end (by first | exact Or.inl (by omega) | exact Or.inr c108)]; rfl)
                          ·
                            refine ja_iload_n (i := 3) dX8_brokenAt_111 rfl rfl ?_
                            refine ja_iload (i := 6) dX8_brokenAt_112 rfl ?_
                            refine ja_cSr (st := []) (s_beside l (q := q) (side := s) (by omega) (by omega)) rfl rfl (ce_X8_beside 0 0) st_X8_beside lk_X8_129 ⟨(Nat.le_of_ble_eq_true rfl), (Nat.le_of_ble_eq_true rfl)⟩ dX8_brokenAt_114 rfl rfl (Nat.le_of_ble_eq_true rfl) (Nat.zero_le _) (Nat.zero_le _) ?_
                            refine ja_istore (i := 7) dX8_brokenAt_117 rfl (Nat.le_of_ble_eq_true rfl) ?_
                            rcases hnb : nbM s q with _ | j
                            ·
                              refine ja_iload_n (i := 2) dX8_brokenAt_119 rfl rfl ?_
                              refine ja_iload (i := 7) dX8_brokenAt_120 rfl ?_
                              refine ja_iconst (v := (-1)) dX8_brokenAt_122 (by decide +kernel) ?_
                              refine ja_icmp_eq (tgt := 164) dX8_brokenAt_123 (by decide) (fun c123 => ?_) (fun c123 => absurd rfl c123)
                              refine ja_iconst (v := nI 0) dX8_brokenAt_164 (by decide +kernel) ?_
                              refine ja_iaddN dX8_brokenAt_165 ?_
                              refine ja_istore_n (i := 2) dX8_brokenAt_166 rfl rfl (Nat.le_of_ble_eq_true rfl) ?_
                              refine ja_iinc (v := nI (s + 2)) dX8_brokenAt_167 rfl (nI_add s 2) rfl (Nat.le_of_ble_eq_true rfl) ?_
                              refine ja_goto (tgt := 94) dX8_brokenAt_170 (by decide) ?_
                              refine ja_forget (i := 7) ?_
                              exact ih94 (s + 2) _ (by omega) (by omega) (by rcases (show s = 0 ∨ s = 2 by omega) with rfl | rfl <;> (rw [hn2]; simp [bkA, alo, c108, hnb, brk]; try simp_all; try omega))
                            ·
                              have hj := nbM_lt (by omega) hnb
                              refine ja_iload_n (i := 2) dX8_brokenAt_119 rfl rfl ?_
                              refine ja_iload (i := 7) dX8_brokenAt_120 rfl ?_
                              refine ja_iconst (v := (-1)) dX8_brokenAt_122 (by decide +kernel) ?_
                              refine ja_icmp_eq (tgt := 164) dX8_brokenAt_123 (by decide) (fun c123 => absurd c123 (nI_nm1 (by omega))) (fun c123 => ?_)
                              refine ja_aload_n (i := 0) dX8_brokenAt_126 rfl rfl ?_
                              refine ja_aload_n (i := 0) dX8_brokenAt_127 rfl rfl ?_
                              refine ja_getR fl_X8_46 (zM_s hz) rfl (zM_p14 hz) dX8_brokenAt_128 ?_
                              refine ja_iload_n (i := 1) dX8_brokenAt_131 rfl rfl ?_
                              refine ja_iald (zM_a14 hz) rfl (by omega) (by decide) dX8_brokenAt_132 ?_
                              refine ja_top (y := nI (fl)) hf ?_
                              refine ja_iload (i := 7) dX8_brokenAt_133 rfl ?_
                              refine ja_cVr (st := [.int (nI (n2))]) (s_at (D := D) l hz (ly := fl) (q := j) (by omega) (by omega)) rfl rfl (ce_X8_at 0 0) im_X8_at se_X8_at lk_X8_92 k_X8 (zM_s hz) ⟨(Nat.le_of_ble_eq_true rfl), (Nat.le_of_ble_eq_true rfl)⟩ dX8_brokenAt_135 rfl rfl (Nat.le_of_ble_eq_true rfl) (Nat.zero_le _) (Nat.zero_le _) ?_
                              refine ja_iload (i := 4) dX8_brokenAt_138 rfl ?_
                              refine ja_icmp_eq (tgt := 164) dX8_brokenAt_140 (by decide) (fun c140 => ?_) (fun c140 => ?_)
                              ·
                                refine ja_iconst (v := nI 0) dX8_brokenAt_164 (by decide +kernel) ?_
                                refine ja_iaddN dX8_brokenAt_165 ?_
                                refine ja_istore_n (i := 2) dX8_brokenAt_166 rfl rfl (Nat.le_of_ble_eq_true rfl) ?_
                                refine ja_iinc (v := nI (s + 2)) dX8_brokenAt_167 rfl (nI_add s 2) rfl (Nat.le_of_ble_eq_true rfl) ?_
                                refine ja_goto (tgt := 94) dX8_brokenAt_170 (by decide) ?_
                                refine ja_forget (i := 7) ?_
                                exact ih94 (s + 2) _ (by omega) (by omega) (by rcases (show s = 0 ∨ s = 2 by omega) with rfl | rfl <;> (rw [hn2]; simp [bkA, alo, c108, hnb, brk]; try simp_all; try omega))
                              ·
                                refine ja_aload_n (i := 0) dX8_brokenAt_143 rfl rfl ?_
                                refine ja_aload_n (i := 0) dX8_brokenAt_144 rfl rfl ?_
                                refine ja_getR fl_X8_49 (zM_s hz) rfl (zM_p15 hz) dX8_brokenAt_145 ?_
                                refine ja_iload_n (i := 1) dX8_brokenAt_148 rfl rfl ?_
                                refine ja_iald (zM_a15 hz) rfl (by omega) (by decide) dX8_brokenAt_149 ?_
                                refine ja_top (y := nI (sl)) hs ?_
                                refine ja_iload (i := 7) dX8_brokenAt_150 rfl ?_
                                refine ja_cVr (st := [.int (nI (n2))]) (s_at (D := D) l hz (ly := sl) (q := j) (by omega) (by omega)) rfl rfl (ce_X8_at 0 0) im_X8_at se_X8_at lk_X8_92 k_X8 (zM_s hz) ⟨(Nat.le_of_ble_eq_true rfl), (Nat.le_of_ble_eq_true rfl)⟩ dX8_brokenAt_152 rfl rfl (Nat.le_of_ble_eq_true rfl) (Nat.zero_le _) (Nat.zero_le _) ?_
                                refine ja_iload (i := 5) dX8_brokenAt_155 rfl ?_
                                refine ja_icmp_ne (tgt := 164) dX8_brokenAt_157 (by decide) (fun c157 => ?_) (fun c157 => ?_)
                                ·
                                  refine ja_iconst (v := nI 0) dX8_brokenAt_164 (by decide +kernel) ?_
                                  refine ja_iaddN dX8_brokenAt_165 ?_
                                  refine ja_istore_n (i := 2) dX8_brokenAt_166 rfl rfl (Nat.le_of_ble_eq_true rfl) ?_
                                  refine ja_iinc (v := nI (s + 2)) dX8_brokenAt_167 rfl (nI_add s 2) rfl (Nat.le_of_ble_eq_true rfl) ?_
                                  refine ja_goto (tgt := 94) dX8_brokenAt_170 (by decide) ?_
                                  refine ja_forget (i := 7) ?_
                                  exact ih94 (s + 2) _ (by omega) (by omega) (by rcases (show s = 0 ∨ s = 2 by omega) with rfl | rfl <;> (rw [hn2]; simp [bkA, alo, c108, hnb, brk]; try simp_all; try omega))
                                ·
                                  refine ja_iconst (v := nI 1) dX8_brokenAt_160 (by decide +kernel) ?_
                                  refine ja_goto (tgt := 165) dX8_brokenAt_161 (by decide) ?_
                                  refine ja_iaddN dX8_brokenAt_165 ?_
                                  refine ja_istore_n (i := 2) dX8_brokenAt_166 rfl rfl (Nat.le_of_ble_eq_true rfl) ?_
                                  refine ja_iinc (v := nI (s + 2)) dX8_brokenAt_167 rfl (nI_add s 2) rfl (Nat.le_of_ble_eq_true rfl) ?_
                                  refine ja_goto (tgt := 94) dX8_brokenAt_170 (by decide) ?_
                                  refine ja_forget (i := 7) ?_
                                  exact ih94 (s + 2) _ (by omega) (by omega) (by rcases (show s = 0 ∨ s = 2 by omega) with rfl | rfl <;> (rw [hn2]; simp [bkA, alo, c108, hnb, brk]; try simp_all; try omega))
                    exact lp94 5 0 _ (by omega) (by omega) (by rw [← hn]; simp [bkA]; simp_all)
                  ·
                    refine ja_iconst (v := nI 1) dX8_brokenAt_84 (by decide +kernel) ?_
                    refine ja_goto (tgt := 89) dX8_brokenAt_85 (by decide) ?_
                    refine ja_iaddN dX8_brokenAt_89 ?_
                    refine ja_istore_n (i := 2) dX8_brokenAt_90 rfl rfl (Nat.le_of_ble_eq_true rfl) ?_
                    refine ja_iconst (v := nI 0) dX8_brokenAt_91 (by decide +kernel) ?_
                    refine ja_istore (i := 6) dX8_brokenAt_92 rfl (Nat.le_of_ble_eq_true rfl) ?_
                    have lp94 : ∀ (k94 : Nat) (s n2 : Nat), (4 < s + k94) → (s = 0 ∨ s = 2 ∨ s = 4) → (n2 = brk (D 105) kd fl sl q + bkA (D 105) kd fl sl q s) → ja_A l (mX8_brokenAt 0 0) ja_sn (ja_Qf (mX8_brokenAt 0 0) (ja_jr (some (.int (nI (brk (D 105) kd fl sl 256)))) Z D) ja_x0) 94 [some (.ref (100)), some (.int (nI (r))), some (.int (nI (n2))), some (.int (nI (q))), some (.int (D 105 (256 * fl + q))), some (.int (D 105 (256 * sl + q))), some (.int (nI (s))), none] [] Z D 0 0 := by
                      intro k94
                      induction k94 with
                      | zero => intro s n2 hj4 hs4 hn2; exfalso; omega
                      | succ k94 ih94 =>
                        intro s n2 hj4 hs4 hn2
                        refine ja_iload (i := 6) dX8_brokenAt_94 rfl ?_
                        refine ja_iconst (v := nI 4) dX8_brokenAt_96 (by decide +kernel) ?_
                        refine ja_icmpN_ge (tgt := 173) dX8_brokenAt_97 (by decide) (by omega) (by omega) (fun c97 => ?_) (fun c97 => ?_)
                        ·
                          refine ja_iincN dX8_brokenAt_173 rfl rfl (Nat.le_of_ble_eq_true rfl) ?_
                          refine ja_goto (tgt := 4) dX8_brokenAt_176 (by decide) ?_
                          refine ja_forget (i := 4) ?_
                          refine ja_forget (i := 5) ?_
                          refine ja_forget (i := 6) ?_
                          exact ih4 (q + 1) _ (by omega) (by omega) (by rw [hn2, bkA_end (by first | exact Or.inl (by omega) | exact Or.inr c108)]; rfl)
                        ·
                          refine ja_aload_n (i := 0) dX8_brokenAt_100 rfl rfl ?_
                          refine ja_getR fl_X8_42 (zM_s hz) rfl (zM_p13 hz) dX8_brokenAt_101 ?_
                          refine ja_iload_n (i := 1) dX8_brokenAt_104 rfl rfl ?_
                          refine ja_cald (zM_a13 hz) rfl (by omega) (by decide) dX8_brokenAt_105 ?_
                          refine ja_top (y := kd) hkd ?_
                          refine ja_bipush (v := nI 97) dX8_brokenAt_106 (by decide +kernel) ?_
                          refine ja_icmp_ne (tgt := 173) dX8_brokenAt_108 (by decide) (fun c108 => ?_) (fun c108 => ?_)
                          ·
                            refine ja_iincN dX8_brokenAt_173 rfl rfl (Nat.le_of_ble_eq_true rfl) ?_
                            refine ja_goto (tgt := 4) dX8_brokenAt_176 (by decide) ?_
                            refine ja_forget (i := 4) ?_
                            refine ja_forget (i := 5) ?_
                            refine ja_forget (i := 6) ?_
                            exact ih4 (q + 1) _ (by omega) (by omega) (by rw [hn2, bkA_end (by first | exact Or.inl (by omega) | exact Or.inr c108)]; rfl)
                          ·
                            refine ja_iload_n (i := 3) dX8_brokenAt_111 rfl rfl ?_
                            refine ja_iload (i := 6) dX8_brokenAt_112 rfl ?_
                            refine ja_cSr (st := []) (s_beside l (q := q) (side := s) (by omega) (by omega)) rfl rfl (ce_X8_beside 0 0) st_X8_beside lk_X8_129 ⟨(Nat.le_of_ble_eq_true rfl), (Nat.le_of_ble_eq_true rfl)⟩ dX8_brokenAt_114 rfl rfl (Nat.le_of_ble_eq_true rfl) (Nat.zero_le _) (Nat.zero_le _) ?_
                            refine ja_istore (i := 7) dX8_brokenAt_117 rfl (Nat.le_of_ble_eq_true rfl) ?_
                            rcases hnb : nbM s q with _ | j
                            ·
                              refine ja_iload_n (i := 2) dX8_brokenAt_119 rfl rfl ?_
                              refine ja_iload (i := 7) dX8_brokenAt_120 rfl ?_
                              refine ja_iconst (v := (-1)) dX8_brokenAt_122 (by decide +kernel) ?_
                              refine ja_icmp_eq (tgt := 164) dX8_brokenAt_123 (by decide) (fun c123 => ?_) (fun c123 => absurd rfl c123)
                              refine ja_iconst (v := nI 0) dX8_brokenAt_164 (by decide +kernel) ?_
                              refine ja_iaddN dX8_brokenAt_165 ?_
                              refine ja_istore_n (i := 2) dX8_brokenAt_166 rfl rfl (Nat.le_of_ble_eq_true rfl) ?_
                              refine ja_iinc (v := nI (s + 2)) dX8_brokenAt_167 rfl (nI_add s 2) rfl (Nat.le_of_ble_eq_true rfl) ?_
                              refine ja_goto (tgt := 94) dX8_brokenAt_170 (by decide) ?_
                              refine ja_forget (i := 7) ?_
                              exact ih94 (s + 2) _ (by omega) (by omega) (by rcases (show s = 0 ∨ s = 2 by omega) with rfl | rfl <;> (rw [hn2]; simp [bkA, alo, c108, hnb, brk]; try simp_all; try omega))
                            ·
                              have hj := nbM_lt (by omega) hnb
                              refine ja_iload_n (i := 2) dX8_brokenAt_119 rfl rfl ?_
                              refine ja_iload (i := 7) dX8_brokenAt_120 rfl ?_
                              refine ja_iconst (v := (-1)) dX8_brokenAt_122 (by decide +kernel) ?_
                              refine ja_icmp_eq (tgt := 164) dX8_brokenAt_123 (by decide) (fun c123 => absurd c123 (nI_nm1 (by omega))) (fun c123 => ?_)
                              refine ja_aload_n (i := 0) dX8_brokenAt_126 rfl rfl ?_
                              refine ja_aload_n (i := 0) dX8_brokenAt_127 rfl rfl ?_
                              refine ja_getR fl_X8_46 (zM_s hz) rfl (zM_p14 hz) dX8_brokenAt_128 ?_
                              refine ja_iload_n (i := 1) dX8_brokenAt_131 rfl rfl ?_
                              refine ja_iald (zM_a14 hz) rfl (by omega) (by decide) dX8_brokenAt_132 ?_
                              refine ja_top (y := nI (fl)) hf ?_
                              refine ja_iload (i := 7) dX8_brokenAt_133 rfl ?_
                              refine ja_cVr (st := [.int (nI (n2))]) (s_at (D := D) l hz (ly := fl) (q := j) (by omega) (by omega)) rfl rfl (ce_X8_at 0 0) im_X8_at se_X8_at lk_X8_92 k_X8 (zM_s hz) ⟨(Nat.le_of_ble_eq_true rfl), (Nat.le_of_ble_eq_true rfl)⟩ dX8_brokenAt_135 rfl rfl (Nat.le_of_ble_eq_true rfl) (Nat.zero_le _) (Nat.zero_le _) ?_
                              refine ja_iload (i := 4) dX8_brokenAt_138 rfl ?_
                              refine ja_icmp_eq (tgt := 164) dX8_brokenAt_140 (by decide) (fun c140 => ?_) (fun c140 => ?_)
                              ·
                                refine ja_iconst (v := nI 0) dX8_brokenAt_164 (by decide +kernel) ?_
                                refine ja_iaddN dX8_brokenAt_165 ?_
                                refine ja_istore_n (i := 2) dX8_brokenAt_166 rfl rfl (Nat.le_of_ble_eq_true rfl) ?_
                                refine ja_iinc (v := nI (s + 2)) dX8_brokenAt_167 rfl (nI_add s 2) rfl (Nat.le_of_ble_eq_true rfl) ?_
                                refine ja_goto (tgt := 94) dX8_brokenAt_170 (by decide) ?_
                                refine ja_forget (i := 7) ?_
                                exact ih94 (s + 2) _ (by omega) (by omega) (by rcases (show s = 0 ∨ s = 2 by omega) with rfl | rfl <;> (rw [hn2]; simp [bkA, alo, c108, hnb, brk]; try simp_all; try omega))
                              ·
                                refine ja_aload_n (i := 0) dX8_brokenAt_143 rfl rfl ?_
                                refine ja_aload_n (i := 0) dX8_brokenAt_144 rfl rfl ?_
                                refine ja_getR fl_X8_49 (zM_s hz) rfl (zM_p15 hz) dX8_brokenAt_145 ?_
                                refine ja_iload_n (i := 1) dX8_brokenAt_148 rfl rfl ?_
                                refine ja_iald (zM_a15 hz) rfl (by omega) (by decide) dX8_brokenAt_149 ?_
                                refine ja_top (y := nI (sl)) hs ?_
                                refine ja_iload (i := 7) dX8_brokenAt_150 rfl ?_
                                refine ja_cVr (st := [.int (nI (n2))]) (s_at (D := D) l hz (ly := sl) (q := j) (by omega) (by omega)) rfl rfl (ce_X8_at 0 0) im_X8_at se_X8_at lk_X8_92 k_X8 (zM_s hz) ⟨(Nat.le_of_ble_eq_true rfl), (Nat.le_of_ble_eq_true rfl)⟩ dX8_brokenAt_152 rfl rfl (Nat.le_of_ble_eq_true rfl) (Nat.zero_le _) (Nat.zero_le _) ?_
                                refine ja_iload (i := 5) dX8_brokenAt_155 rfl ?_
                                refine ja_icmp_ne (tgt := 164) dX8_brokenAt_157 (by decide) (fun c157 => ?_) (fun c157 => ?_)
                                ·
                                  refine ja_iconst (v := nI 0) dX8_brokenAt_164 (by decide +kernel) ?_
                                  refine ja_iaddN dX8_brokenAt_165 ?_
                                  refine ja_istore_n (i := 2) dX8_brokenAt_166 rfl rfl (Nat.le_of_ble_eq_true rfl) ?_
                                  refine ja_iinc (v := nI (s + 2)) dX8_brokenAt_167 rfl (nI_add s 2) rfl (Nat.le_of_ble_eq_true rfl) ?_
                                  refine ja_goto (tgt := 94) dX8_brokenAt_170 (by decide) ?_
                                  refine ja_forget (i := 7) ?_
                                  exact ih94 (s + 2) _ (by omega) (by omega) (by rcases (show s = 0 ∨ s = 2 by omega) with rfl | rfl <;> (rw [hn2]; simp [bkA, alo, c108, hnb, brk]; try simp_all; try omega))
                                ·
                                  refine ja_iconst (v := nI 1) dX8_brokenAt_160 (by decide +kernel) ?_
                                  refine ja_goto (tgt := 165) dX8_brokenAt_161 (by decide) ?_
                                  refine ja_iaddN dX8_brokenAt_165 ?_
                                  refine ja_istore_n (i := 2) dX8_brokenAt_166 rfl rfl (Nat.le_of_ble_eq_true rfl) ?_
                                  refine ja_iinc (v := nI (s + 2)) dX8_brokenAt_167 rfl (nI_add s 2) rfl (Nat.le_of_ble_eq_true rfl) ?_
                                  refine ja_goto (tgt := 94) dX8_brokenAt_170 (by decide) ?_
                                  refine ja_forget (i := 7) ?_
                                  exact ih94 (s + 2) _ (by omega) (by omega) (by rcases (show s = 0 ∨ s = 2 by omega) with rfl | rfl <;> (rw [hn2]; simp [bkA, alo, c108, hnb, brk]; try simp_all; try omega))
                    exact lp94 5 0 _ (by omega) (by omega) (by rw [← hn]; simp [bkA]; simp_all)
  exact lp4 257 0 0 (by omega) (by omega) rfl
