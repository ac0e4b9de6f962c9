/-! THE CLASS: helpers, 2 -/
set_option maxRecDepth 100000 in
set_option maxHeartbeats 4000000 in
theorem c_needTwoLayers (l : Launch) {Z : jZ} {D : jD} (hx : zX Z) {a b : Nat} (h1 : a < 3) (h2 : b < 3) (h3 : a ≠ b) : ja_M l (mX7_needTwoLayers 0 0) [.ref (0), .int (nI (a)), .int (nI (b))] Z D (ja_jr none Z D) ja_x0 := by
  refine ja_Mof (lv := [some (.ref (0)), some (.int (nI (a))), some (.int (nI (b)))]) (by decide +kernel) rfl rfl (Nat.le_of_ble_eq_true rfl) rfl ?_
  refine ja_iload_n (i := 1) dX7_needTwoLayers_0 rfl rfl ?_
  refine ja_ifN_lt dX7_needTwoLayers_1 (tgt := 23) (by decide) (by omega) ?_
  refine ja_iload_n (i := 1) dX7_needTwoLayers_4 rfl rfl ?_
  refine ja_iconst (v := nI 3) dX7_needTwoLayers_5 (by decide +kernel) ?_
  refine ja_icmpN_ge (tgt := 23) dX7_needTwoLayers_6 (by decide) (by omega) (by omega) (fun c6 => (by exfalso; omega)) (fun c6 => ?_)
  refine ja_iload_n (i := 2) dX7_needTwoLayers_9 rfl rfl ?_
  refine ja_ifN_lt dX7_needTwoLayers_10 (tgt := 23) (by decide) (by omega) ?_
  refine ja_iload_n (i := 2) dX7_needTwoLayers_13 rfl rfl ?_
  refine ja_iconst (v := nI 3) dX7_needTwoLayers_14 (by decide +kernel) ?_
  refine ja_icmpN_ge (tgt := 23) dX7_needTwoLayers_15 (by decide) (by omega) (by omega) (fun c15 => (by exfalso; omega)) (fun c15 => ?_)
  refine ja_iload_n (i := 1) dX7_needTwoLayers_18 rfl rfl ?_
  refine ja_iload_n (i := 2) dX7_needTwoLayers_19 rfl rfl ?_
  refine ja_icmpN_ne (tgt := 34) dX7_needTwoLayers_20 (by decide) (by omega) (by omega) (fun c20 => ?_) (fun c20 => (by exfalso; omega))
  refine ja_vret rfl dX7_needTwoLayers_34 (Nat.zero_le _) (Nat.zero_le _) ?_
  exact ⟨rfl, rfl, rfl⟩

set_option maxRecDepth 100000 in
set_option maxHeartbeats 4000000 in
theorem c_needTwoLayers_x (l : Launch) {Z : jZ} {D : jD} (hx : zX Z) {x y : Int32} (hal : ¬ areL x y) : ja_M l (mX7_needTwoLayers 1 6) [.ref (0), .int (x), .int (y)] Z D ja_r0 (ja_jx "java/lang/IndexOutOfBoundsException" Z D) := by
  refine ja_Mof (lv := [some (.ref (0)), some (.int (x)), some (.int (y))]) (by decide +kernel) rfl rfl (Nat.le_of_ble_eq_true rfl) rfl ?_
  refine ja_iload_n (i := 1) dX7_needTwoLayers_0 rfl rfl ?_
  refine ja_if_lt (tgt := 23) dX7_needTwoLayers_1 (by decide) (fun c1 => ?_) (fun c1 => ?_)
  ·
    refine ja_throwW ts_X7_232_338_236 rfl dX7_needTwoLayers_23 dX7_needTwoLayers_26 dX7_needTwoLayers_27 dX7_needTwoLayers_30 dX7_needTwoLayers_33 (Nat.le_of_ble_eq_true rfl) (Nat.le_of_ble_eq_true rfl) (Nat.le_of_ble_eq_true rfl) (Nat.le_of_ble_eq_true rfl) ?_
    exact ⟨rfl, rfl, rfl⟩
  ·
    refine ja_iload_n (i := 1) dX7_needTwoLayers_4 rfl rfl ?_
    refine ja_iconst (v := nI 3) dX7_needTwoLayers_5 (by decide +kernel) ?_
    refine ja_icmp_ge (tgt := 23) dX7_needTwoLayers_6 (by decide) (fun c6 => ?_) (fun c6 => ?_)
    ·
      refine ja_throwW ts_X7_232_338_236 rfl dX7_needTwoLayers_23 dX7_needTwoLayers_26 dX7_needTwoLayers_27 dX7_needTwoLayers_30 dX7_needTwoLayers_33 (Nat.le_of_ble_eq_true rfl) (Nat.le_of_ble_eq_true rfl) (Nat.le_of_ble_eq_true rfl) (Nat.le_of_ble_eq_true rfl) ?_
      exact ⟨rfl, rfl, rfl⟩
    ·
      refine ja_iload_n (i := 2) dX7_needTwoLayers_9 rfl rfl ?_
      refine ja_if_lt (tgt := 23) dX7_needTwoLayers_10 (by decide) (fun c10 => ?_) (fun c10 => ?_)
      ·
        refine ja_throwW ts_X7_232_338_236 rfl dX7_needTwoLayers_23 dX7_needTwoLayers_26 dX7_needTwoLayers_27 dX7_needTwoLayers_30 dX7_needTwoLayers_33 (Nat.le_of_ble_eq_true rfl) (Nat.le_of_ble_eq_true rfl) (Nat.le_of_ble_eq_true rfl) (Nat.le_of_ble_eq_true rfl) ?_
        exact ⟨rfl, rfl, rfl⟩
      ·
        refine ja_iload_n (i := 2) dX7_needTwoLayers_13 rfl rfl ?_
        refine ja_iconst (v := nI 3) dX7_needTwoLayers_14 (by decide +kernel) ?_
        refine ja_icmp_ge (tgt := 23) dX7_needTwoLayers_15 (by decide) (fun c15 => ?_) (fun c15 => ?_)
        ·
          refine ja_throwW ts_X7_232_338_236 rfl dX7_needTwoLayers_23 dX7_needTwoLayers_26 dX7_needTwoLayers_27 dX7_needTwoLayers_30 dX7_needTwoLayers_33 (Nat.le_of_ble_eq_true rfl) (Nat.le_of_ble_eq_true rfl) (Nat.le_of_ble_eq_true rfl) (Nat.le_of_ble_eq_true rfl) ?_
          exact ⟨rfl, rfl, rfl⟩
        ·
          refine ja_iload_n (i := 1) dX7_needTwoLayers_18 rfl rfl ?_
          refine ja_iload_n (i := 2) dX7_needTwoLayers_19 rfl rfl ?_
          refine ja_icmp_ne (tgt := 34) dX7_needTwoLayers_20 (by decide) (fun c20 => ?_) (fun c20 => ?_)
          ·
            exact absurd ⟨bnd (by decide) c1 c6, bnd (by decide) c10 c15, c20⟩ hal
          ·
            refine ja_throwW ts_X7_232_338_236 rfl dX7_needTwoLayers_23 dX7_needTwoLayers_26 dX7_needTwoLayers_27 dX7_needTwoLayers_30 dX7_needTwoLayers_33 (Nat.le_of_ble_eq_true rfl) (Nat.le_of_ble_eq_true rfl) (Nat.le_of_ble_eq_true rfl) (Nat.le_of_ble_eq_true rfl) ?_
            exact ⟨rfl, rfl, rfl⟩

set_option maxRecDepth 100000 in
set_option maxHeartbeats 4000000 in
theorem c_needTime (l : Launch) {Z : jZ} {D : jD} (hx : zX Z) {tn t : Nat} (hnow : D 0 6 = nI tn) (htn : tn ≤ 40) (hb : t ≤ tn) : ja_M l (mX7_needTime 0 0) [.ref (0), .int (nI (t))] Z D (ja_jr none Z D) ja_x0 := by
  refine ja_Mof (lv := [some (.ref (0)), some (.int (nI (t)))]) (by decide +kernel) rfl rfl (Nat.le_of_ble_eq_true rfl) rfl ?_
  refine ja_iload_n (i := 1) dX7_needTime_0 rfl rfl ?_
  refine ja_ifN_lt dX7_needTime_1 (tgt := 12) (by decide) (by omega) ?_
  refine ja_iload_n (i := 1) dX7_needTime_4 rfl rfl ?_
  refine ja_aload_n (i := 0) dX7_needTime_5 rfl rfl ?_
  refine ja_getI fl_X7_71 (zX_o0 hx) rfl dX7_needTime_6 ?_
  refine ja_top (y := nI (tn)) hnow ?_
  refine ja_icmpN_le (tgt := 23) dX7_needTime_9 (by decide) (by omega) (by omega) (fun c9 => ?_) (fun c9 => (by exfalso; omega))
  refine ja_vret rfl dX7_needTime_23 (Nat.zero_le _) (Nat.zero_le _) ?_
  exact ⟨rfl, rfl, rfl⟩

set_option maxRecDepth 100000 in
set_option maxHeartbeats 4000000 in
theorem c_needTime_x (l : Launch) {Z : jZ} {D : jD} (hx : zX Z) {tn : Nat} {t : Int32} (hnow : D 0 6 = nI tn) (htn : tn ≤ 40) (hb : ¬ (nI 0 ≤ t ∧ t ≤ nI tn)) : ja_M l (mX7_needTime 1 6) [.ref (0), .int (t)] Z D ja_r0 (ja_jx "java/lang/IllegalArgumentException" Z D) := by
  refine ja_Mof (lv := [some (.ref (0)), some (.int (t))]) (by decide +kernel) rfl rfl (Nat.le_of_ble_eq_true rfl) rfl ?_
  refine ja_iload_n (i := 1) dX7_needTime_0 rfl rfl ?_
  refine ja_if_lt (tgt := 12) dX7_needTime_1 (by decide) (fun c1 => ?_) (fun c1 => ?_)
  ·
    refine ja_throwW ts_X7_60_342_64 rfl dX7_needTime_12 dX7_needTime_15 dX7_needTime_16 dX7_needTime_19 dX7_needTime_22 (Nat.le_of_ble_eq_true rfl) (Nat.le_of_ble_eq_true rfl) (Nat.le_of_ble_eq_true rfl) (Nat.le_of_ble_eq_true rfl) ?_
    exact ⟨rfl, rfl, rfl⟩
  ·
    refine ja_iload_n (i := 1) dX7_needTime_4 rfl rfl ?_
    refine ja_aload_n (i := 0) dX7_needTime_5 rfl rfl ?_
    refine ja_getI fl_X7_71 (zX_o0 hx) rfl dX7_needTime_6 ?_
    refine ja_top (y := nI tn) hnow ?_
    refine ja_icmp_le (tgt := 23) dX7_needTime_9 (by decide) (fun c9 => ?_) (fun c9 => ?_)
    ·
      exact absurd ⟨Int32.not_lt.mp c1, c9⟩ hb
    ·
      refine ja_throwW ts_X7_60_342_64 rfl dX7_needTime_12 dX7_needTime_15 dX7_needTime_16 dX7_needTime_19 dX7_needTime_22 (Nat.le_of_ble_eq_true rfl) (Nat.le_of_ble_eq_true rfl) (Nat.le_of_ble_eq_true rfl) (Nat.le_of_ble_eq_true rfl) ?_
      exact ⟨rfl, rfl, rfl⟩

set_option maxRecDepth 100000 in
set_option maxHeartbeats 4000000 in
theorem c_needSquare (l : Launch) {Z : jZ} {D : jD} {q : Nat} (h : q < 256) : ja_M l (mX7_needSquare 0 0) [.int (nI (q))] Z D (ja_jr none Z D) ja_x0 := by
  refine ja_Mof (lv := [some (.int (nI (q)))]) (by decide +kernel) rfl rfl (Nat.le_of_ble_eq_true rfl) rfl ?_
  refine ja_iload_n (i := 0) dX7_needSquare_0 rfl rfl ?_
  refine ja_ifN_lt dX7_needSquare_1 (tgt := 11) (by decide) (by omega) ?_
  refine ja_iload_n (i := 0) dX7_needSquare_4 rfl rfl ?_
  refine ja_sipush (v := nI 256) dX7_needSquare_5 (by decide +kernel) ?_
  refine ja_icmpN_lt (tgt := 22) dX7_needSquare_8 (by decide) (by omega) (by omega) (fun c8 => ?_) (fun c8 => (by exfalso; omega))
  refine ja_vret rfl dX7_needSquare_22 (Nat.zero_le _) (Nat.zero_le _) ?_
  exact ⟨rfl, rfl, rfl⟩

set_option maxRecDepth 100000 in
set_option maxHeartbeats 4000000 in
theorem c_needSquare_x (l : Launch) {Z : jZ} {D : jD} {q : Int32} (hq : ¬ (nI 0 ≤ q ∧ q ≤ nI 255)) : ja_M l (mX7_needSquare 1 6) [.int (q)] Z D ja_r0 (ja_jx "java/lang/IndexOutOfBoundsException" Z D) := by
  refine ja_Mof (lv := [some (.int (q))]) (by decide +kernel) rfl rfl (Nat.le_of_ble_eq_true rfl) rfl ?_
  refine ja_iload_n (i := 0) dX7_needSquare_0 rfl rfl ?_
  refine ja_if_lt (tgt := 11) dX7_needSquare_1 (by decide) (fun c1 => ?_) (fun c1 => ?_)
  ·
    refine ja_throwW ts_X7_232_344_236 rfl dX7_needSquare_11 dX7_needSquare_14 dX7_needSquare_15 dX7_needSquare_18 dX7_needSquare_21 (Nat.le_of_ble_eq_true rfl) (Nat.le_of_ble_eq_true rfl) (Nat.le_of_ble_eq_true rfl) (Nat.le_of_ble_eq_true rfl) ?_
    exact ⟨rfl, rfl, rfl⟩
  ·
    refine ja_iload_n (i := 0) dX7_needSquare_4 rfl rfl ?_
    refine ja_sipush (v := nI 256) dX7_needSquare_5 (by decide +kernel) ?_
    refine ja_icmp_lt (tgt := 22) dX7_needSquare_8 (by decide) (fun c8 => ?_) (fun c8 => ?_)
    ·
      exact absurd (bnd (by decide) c1 (Int32.not_le.mpr c8)) hq
    ·
      refine ja_throwW ts_X7_232_344_236 rfl dX7_needSquare_11 dX7_needSquare_14 dX7_needSquare_15 dX7_needSquare_18 dX7_needSquare_21 (Nat.le_of_ble_eq_true rfl) (Nat.le_of_ble_eq_true rfl) (Nat.le_of_ble_eq_true rfl) (Nat.le_of_ble_eq_true rfl) ?_
      exact ⟨rfl, rfl, rfl⟩

set_option maxRecDepth 100000 in
set_option maxHeartbeats 4000000 in
theorem c_needAreaOrNone (l : Launch) {Z : jZ} {D : jD} {a : Nat} (h : a < 10) : ja_M l (mX7_needAreaOrNone 0 0) [.int (nI (a))] Z D (ja_jr none Z D) ja_x0 := by
  refine ja_Mof (lv := [some (.int (nI (a)))]) (by decide +kernel) rfl rfl (Nat.le_of_ble_eq_true rfl) rfl ?_
  refine ja_iload_n (i := 0) dX7_needAreaOrNone_0 rfl rfl ?_
  refine ja_iconst (v := (-1)) dX7_needAreaOrNone_1 (by decide +kernel) ?_
  refine ja_icmp_eq (tgt := 9) dX7_needAreaOrNone_2 (by decide) (fun c2 => absurd c2 (nI_nm1 (by omega))) (fun c2 => ?_)
  refine ja_iload_n (i := 0) dX7_needAreaOrNone_5 rfl rfl ?_
  refine ja_cSr0 (st := []) (c_needArea l (by omega)) rfl rfl (ce_X7_needArea 0 0) st_X7_needArea lk_X7_138 ⟨(Nat.le_of_ble_eq_true rfl), (Nat.le_of_ble_eq_true rfl)⟩ dX7_needAreaOrNone_6 rfl rfl (Nat.le_of_ble_eq_true rfl) (Nat.zero_le _) (Nat.zero_le _) ?_
  refine ja_vret rfl dX7_needAreaOrNone_9 (Nat.zero_le _) (Nat.zero_le _) ?_
  exact ⟨rfl, rfl, rfl⟩

set_option maxRecDepth 100000 in
set_option maxHeartbeats 4000000 in
theorem c_needAreaOrNone_N (l : Launch) {Z : jZ} {D : jD}  : ja_M l (mX7_needAreaOrNone 0 0) [.int ((-1))] Z D (ja_jr none Z D) ja_x0 := by
  refine ja_Mof (lv := [some (.int ((-1)))]) (by decide +kernel) rfl rfl (Nat.le_of_ble_eq_true rfl) rfl ?_
  refine ja_iload_n (i := 0) dX7_needAreaOrNone_0 rfl rfl ?_
  refine ja_iconst (v := (-1)) dX7_needAreaOrNone_1 (by decide +kernel) ?_
  refine ja_icmp_eq (tgt := 9) dX7_needAreaOrNone_2 (by decide) (fun c2 => ?_) (fun c2 => absurd rfl c2)
  refine ja_vret rfl dX7_needAreaOrNone_9 (Nat.zero_le _) (Nat.zero_le _) ?_
  exact ⟨rfl, rfl, rfl⟩

set_option maxRecDepth 100000 in
set_option maxHeartbeats 4000000 in
theorem c_needAreaOrNone_x (l : Launch) {Z : jZ} {D : jD} {a : Int32} (hn : ¬ a = -1) (ha : ¬ (nI 0 ≤ a ∧ a ≤ nI 9)) : ja_M l (mX7_needAreaOrNone 1 6) [.int (a)] Z D ja_r0 (ja_jx "java/lang/IllegalArgumentException" Z D) := by
  refine ja_Mof (lv := [some (.int (a))]) (by decide +kernel) rfl rfl (Nat.le_of_ble_eq_true rfl) rfl ?_
  refine ja_iload_n (i := 0) dX7_needAreaOrNone_0 rfl rfl ?_
  refine ja_iconst (v := (-1)) dX7_needAreaOrNone_1 (by decide +kernel) ?_
  refine ja_icmp_eq (tgt := 9) dX7_needAreaOrNone_2 (by decide) (fun c2 => absurd c2 hn) (fun c2 => ?_)
  refine ja_iload_n (i := 0) dX7_needAreaOrNone_5 rfl rfl ?_
  refine ja_cSx (st := []) (c_needArea_x l ha) (ce_X7_needArea 1 6) st_X7_needArea lk_X7_138 ⟨(Nat.le_of_ble_eq_true rfl), (Nat.le_of_ble_eq_true rfl)⟩ dX7_needAreaOrNone_6 rfl rfl (Nat.le_of_ble_eq_true rfl) (Nat.le_of_ble_eq_true rfl) (Nat.le_of_ble_eq_true rfl) ?_
  refine ja_out rfl (Nat.le_of_ble_eq_true rfl) (Nat.le_of_ble_eq_true rfl) ?_
  exact ⟨rfl, rfl, rfl⟩

set_option maxRecDepth 100000 in
set_option maxHeartbeats 4000000 in
theorem c_needTwoAreas (l : Launch) {Z : jZ} {D : jD} {a o : Nat} (h2 : a < 10) (h3 : o < 10) (h4 : a ≠ o) : ja_M l (mX7_needTwoAreas 0 0) [.int (nI (a)), .int (nI (o))] Z D (ja_jr none Z D) ja_x0 := by
  refine ja_Mof (lv := [some (.int (nI (a))), some (.int (nI (o)))]) (by decide +kernel) rfl rfl (Nat.le_of_ble_eq_true rfl) rfl ?_
  refine ja_iload_n (i := 0) dX7_needTwoAreas_0 rfl rfl ?_
  refine ja_cSr0 (st := []) (c_needArea l (by omega)) rfl rfl (ce_X7_needArea 0 0) st_X7_needArea lk_X7_138 ⟨(Nat.le_of_ble_eq_true rfl), (Nat.le_of_ble_eq_true rfl)⟩ dX7_needTwoAreas_1 rfl rfl (Nat.le_of_ble_eq_true rfl) (Nat.zero_le _) (Nat.zero_le _) ?_
  refine ja_iload_n (i := 1) dX7_needTwoAreas_4 rfl rfl ?_
  refine ja_cSr0 (st := []) (c_needArea l (by omega)) rfl rfl (ce_X7_needArea 0 0) st_X7_needArea lk_X7_138 ⟨(Nat.le_of_ble_eq_true rfl), (Nat.le_of_ble_eq_true rfl)⟩ dX7_needTwoAreas_5 rfl rfl (Nat.le_of_ble_eq_true rfl) (Nat.zero_le _) (Nat.zero_le _) ?_
  refine ja_iload_n (i := 0) dX7_needTwoAreas_8 rfl rfl ?_
  refine ja_iload_n (i := 1) dX7_needTwoAreas_9 rfl rfl ?_
  refine ja_icmpN_ne (tgt := 24) dX7_needTwoAreas_10 (by decide) (by omega) (by omega) (fun c10 => ?_) (fun c10 => (by exfalso; omega))
  refine ja_vret rfl dX7_needTwoAreas_24 (Nat.zero_le _) (Nat.zero_le _) ?_
  exact ⟨rfl, rfl, rfl⟩

set_option maxRecDepth 100000 in
set_option maxHeartbeats 4000000 in
theorem c_needTwoAreas_x1 (l : Launch) {Z : jZ} {D : jD} {a : Int32} (o : Int32) (ha : ¬ (nI 0 ≤ a ∧ a ≤ nI 9)) : ja_M l (mX7_needTwoAreas 1 6) [.int (a), .int (o)] Z D ja_r0 (ja_jx "java/lang/IllegalArgumentException" Z D) := by
  refine ja_Mof (lv := [some (.int (a)), some (.int (o))]) (by decide +kernel) rfl rfl (Nat.le_of_ble_eq_true rfl) rfl ?_
  refine ja_iload_n (i := 0) dX7_needTwoAreas_0 rfl rfl ?_
  refine ja_cSx (st := []) (c_needArea_x l ha) (ce_X7_needArea 1 6) st_X7_needArea lk_X7_138 ⟨(Nat.le_of_ble_eq_true rfl), (Nat.le_of_ble_eq_true rfl)⟩ dX7_needTwoAreas_1 rfl rfl (Nat.le_of_ble_eq_true rfl) (Nat.le_of_ble_eq_true rfl) (Nat.le_of_ble_eq_true rfl) ?_
  refine ja_out rfl (Nat.le_of_ble_eq_true rfl) (Nat.le_of_ble_eq_true rfl) ?_
  exact ⟨rfl, rfl, rfl⟩

set_option maxRecDepth 100000 in
set_option maxHeartbeats 4000000 in
theorem c_needTwoAreas_x2 (l : Launch) {Z : jZ} {D : jD} {a : Nat} {o : Int32} (h2 : a < 10) (ha : ¬ (nI 0 ≤ o ∧ o ≤ nI 9)) : ja_M l (mX7_needTwoAreas 1 6) [.int (nI (a)), .int (o)] Z D ja_r0 (ja_jx "java/lang/IllegalArgumentException" Z D) := by
  refine ja_Mof (lv := [some (.int (nI (a))), some (.int (o))]) (by decide +kernel) rfl rfl (Nat.le_of_ble_eq_true rfl) rfl ?_
  refine ja_iload_n (i := 0) dX7_needTwoAreas_0 rfl rfl ?_
  refine ja_cSr0 (st := []) (c_needArea l (by omega)) rfl rfl (ce_X7_needArea 0 0) st_X7_needArea lk_X7_138 ⟨(Nat.le_of_ble_eq_true rfl), (Nat.le_of_ble_eq_true rfl)⟩ dX7_needTwoAreas_1 rfl rfl (Nat.le_of_ble_eq_true rfl) (Nat.zero_le _) (Nat.zero_le _) ?_
  refine ja_iload_n (i := 1) dX7_needTwoAreas_4 rfl rfl ?_
  refine ja_cSx (st := []) (c_needArea_x l ha) (ce_X7_needArea 1 6) st_X7_needArea lk_X7_138 ⟨(Nat.le_of_ble_eq_true rfl), (Nat.le_of_ble_eq_true rfl)⟩ dX7_needTwoAreas_5 rfl rfl (Nat.le_of_ble_eq_true rfl) (Nat.le_of_ble_eq_true rfl) (Nat.le_of_ble_eq_true rfl) ?_
  refine ja_out rfl (Nat.le_of_ble_eq_true rfl) (Nat.le_of_ble_eq_true rfl) ?_
  exact ⟨rfl, rfl, rfl⟩

set_option maxRecDepth 100000 in
set_option maxHeartbeats 4000000 in
theorem c_needTwoAreas_x3 (l : Launch) {Z : jZ} {D : jD} {a : Nat} (h2 : a < 10) : ja_M l (mX7_needTwoAreas 1 6) [.int (nI (a)), .int (nI (a))] Z D ja_r0 (ja_jx "java/lang/IllegalArgumentException" Z D) := by
  refine ja_Mof (lv := [some (.int (nI (a))), some (.int (nI (a)))]) (by decide +kernel) rfl rfl (Nat.le_of_ble_eq_true rfl) rfl ?_
  refine ja_iload_n (i := 0) dX7_needTwoAreas_0 rfl rfl ?_
  refine ja_cSr0 (st := []) (c_needArea l (by omega)) rfl rfl (ce_X7_needArea 0 0) st_X7_needArea lk_X7_138 ⟨(Nat.le_of_ble_eq_true rfl), (Nat.le_of_ble_eq_true rfl)⟩ dX7_needTwoAreas_1 rfl rfl (Nat.le_of_ble_eq_true rfl) (Nat.zero_le _) (Nat.zero_le _) ?_
  refine ja_iload_n (i := 1) dX7_needTwoAreas_4 rfl rfl ?_
  refine ja_cSr0 (st := []) (c_needArea l (by omega)) rfl rfl (ce_X7_needArea 0 0) st_X7_needArea lk_X7_138 ⟨(Nat.le_of_ble_eq_true rfl), (Nat.le_of_ble_eq_true rfl)⟩ dX7_needTwoAreas_5 rfl rfl (Nat.le_of_ble_eq_true rfl) (Nat.zero_le _) (Nat.zero_le _) ?_
  refine ja_iload_n (i := 0) dX7_needTwoAreas_8 rfl rfl ?_
  refine ja_iload_n (i := 1) dX7_needTwoAreas_9 rfl rfl ?_
  refine ja_icmpN_ne (tgt := 24) dX7_needTwoAreas_10 (by decide) (by omega) (by omega) (fun c10 => (by exfalso; omega)) (fun c10 => ?_)
  refine ja_throwW ts_X7_60_348_64 rfl dX7_needTwoAreas_13 dX7_needTwoAreas_16 dX7_needTwoAreas_17 dX7_needTwoAreas_20 dX7_needTwoAreas_23 (Nat.le_of_ble_eq_true rfl) (Nat.le_of_ble_eq_true rfl) (Nat.le_of_ble_eq_true rfl) (Nat.le_of_ble_eq_true rfl) ?_
  exact ⟨rfl, rfl, rfl⟩

set_option maxRecDepth 100000 in
set_option maxHeartbeats 4000000 in
theorem c_needLeast (l : Launch) {Z : jZ} {D : jD} {le : Nat} (hl1 : 1 ≤ le) (hl2 : le ≤ 256) : ja_M l (mX7_needLeast 0 0) [.int (nI (le))] Z D (ja_jr none Z D) ja_x0 := by
  refine ja_Mof (lv := [some (.int (nI (le)))]) (by decide +kernel) rfl rfl (Nat.le_of_ble_eq_true rfl) rfl ?_
  refine ja_iload_n (i := 0) dX7_needLeast_0 rfl rfl ?_
  refine ja_iconst (v := nI 1) dX7_needLeast_1 (by decide +kernel) ?_
  refine ja_icmpN_lt (tgt := 12) dX7_needLeast_2 (by decide) (by omega) (by omega) (fun c2 => (by exfalso; omega)) (fun c2 => ?_)
  refine ja_iload_n (i := 0) dX7_needLeast_5 rfl rfl ?_
  refine ja_sipush (v := nI 256) dX7_needLeast_6 (by decide +kernel) ?_
  refine ja_icmpN_le (tgt := 23) dX7_needLeast_9 (by decide) (by omega) (by omega) (fun c9 => ?_) (fun c9 => (by exfalso; omega))
  refine ja_vret rfl dX7_needLeast_23 (Nat.zero_le _) (Nat.zero_le _) ?_
  exact ⟨rfl, rfl, rfl⟩

set_option maxRecDepth 100000 in
set_option maxHeartbeats 4000000 in
theorem c_needLeast_x (l : Launch) {Z : jZ} {D : jD} {le : Int32} (hle : ¬ (nI 1 ≤ le ∧ le ≤ nI 256)) : ja_M l (mX7_needLeast 1 6) [.int (le)] Z D ja_r0 (ja_jx "java/lang/IllegalArgumentException" Z D) := by
  refine ja_Mof (lv := [some (.int (le))]) (by decide +kernel) rfl rfl (Nat.le_of_ble_eq_true rfl) rfl ?_
  refine ja_iload_n (i := 0) dX7_needLeast_0 rfl rfl ?_
  refine ja_iconst (v := nI 1) dX7_needLeast_1 (by decide +kernel) ?_
  refine ja_icmp_lt (tgt := 12) dX7_needLeast_2 (by decide) (fun c2 => ?_) (fun c2 => ?_)
  ·
    refine ja_throwW ts_X7_60_350_64 rfl dX7_needLeast_12 dX7_needLeast_15 dX7_needLeast_16 dX7_needLeast_19 dX7_needLeast_22 (Nat.le_of_ble_eq_true rfl) (Nat.le_of_ble_eq_true rfl) (Nat.le_of_ble_eq_true rfl) (Nat.le_of_ble_eq_true rfl) ?_
    exact ⟨rfl, rfl, rfl⟩
  ·
    refine ja_iload_n (i := 0) dX7_needLeast_5 rfl rfl ?_
    refine ja_sipush (v := nI 256) dX7_needLeast_6 (by decide +kernel) ?_
    refine ja_icmp_le (tgt := 23) dX7_needLeast_9 (by decide) (fun c9 => ?_) (fun c9 => ?_)
    ·
      exact absurd ⟨Int32.not_lt.mp c2, c9⟩ hle
    ·
      refine ja_throwW ts_X7_60_350_64 rfl dX7_needLeast_12 dX7_needLeast_15 dX7_needLeast_16 dX7_needLeast_19 dX7_needLeast_22 (Nat.le_of_ble_eq_true rfl) (Nat.le_of_ble_eq_true rfl) (Nat.le_of_ble_eq_true rfl) (Nat.le_of_ble_eq_true rfl) ?_
      exact ⟨rfl, rfl, rfl⟩

set_option maxRecDepth 100000 in
set_option maxHeartbeats 4000000 in
theorem c_needBox (l : Launch) {Z : jZ} {D : jD} {x y w h : Nat} (hx : x < 16) (hy : y < 16) (hw1 : 1 ≤ w) (hw : x + w ≤ 16) (hh1 : 1 ≤ h) (hh : y + h ≤ 16) : ja_M l (mX7_needBox 0 0) [.int (nI (x)), .int (nI (y)), .int (nI (w)), .int (nI (h))] Z D (ja_jr none Z D) ja_x0 := by
  refine ja_Mof (lv := [some (.int (nI (x))), some (.int (nI (y))), some (.int (nI (w))), some (.int (nI (h)))]) (by decide +kernel) rfl rfl (Nat.le_of_ble_eq_true rfl) rfl ?_
  refine ja_iload_n (i := 0) dX7_needBox_0 rfl rfl ?_
  refine ja_ifN_lt dX7_needBox_1 (tgt := 46) (by decide) (by omega) ?_
  refine ja_iload_n (i := 0) dX7_needBox_4 rfl rfl ?_
  refine ja_bipush (v := nI 16) dX7_needBox_5 (by decide +kernel) ?_
  refine ja_icmpN_ge (tgt := 46) dX7_needBox_7 (by decide) (by omega) (by omega) (fun c7 => (by exfalso; omega)) (fun c7 => ?_)
  refine ja_iload_n (i := 2) dX7_needBox_10 rfl rfl ?_
  refine ja_iconst (v := nI 1) dX7_needBox_11 (by decide +kernel) ?_
  refine ja_icmpN_lt (tgt := 46) dX7_needBox_12 (by decide) (by omega) (by omega) (fun c12 => (by exfalso; omega)) (fun c12 => ?_)
  refine ja_iload_n (i := 2) dX7_needBox_15 rfl rfl ?_
  refine ja_bipush (v := nI 16) dX7_needBox_16 (by decide +kernel) ?_
  refine ja_iload_n (i := 0) dX7_needBox_18 rfl rfl ?_
  refine ja_isubN dX7_needBox_19 (by omega) ?_
  refine ja_icmpN_gt (tgt := 46) dX7_needBox_20 (by decide) (by omega) (by omega) (fun c20 => (by exfalso; omega)) (fun c20 => ?_)
  refine ja_iload_n (i := 1) dX7_needBox_23 rfl rfl ?_
  refine ja_ifN_lt dX7_needBox_24 (tgt := 46) (by decide) (by omega) ?_
  refine ja_iload_n (i := 1) dX7_needBox_27 rfl rfl ?_
  refine ja_bipush (v := nI 16) dX7_needBox_28 (by decide +kernel) ?_
  refine ja_icmpN_ge (tgt := 46) dX7_needBox_30 (by decide) (by omega) (by omega) (fun c30 => (by exfalso; omega)) (fun c30 => ?_)
  refine ja_iload_n (i := 3) dX7_needBox_33 rfl rfl ?_
  refine ja_iconst (v := nI 1) dX7_needBox_34 (by decide +kernel) ?_
  refine ja_icmpN_lt (tgt := 46) dX7_needBox_35 (by decide) (by omega) (by omega) (fun c35 => (by exfalso; omega)) (fun c35 => ?_)
  refine ja_iload_n (i := 3) dX7_needBox_38 rfl rfl ?_
  refine ja_bipush (v := nI 16) dX7_needBox_39 (by decide +kernel) ?_
  refine ja_iload_n (i := 1) dX7_needBox_41 rfl rfl ?_
  refine ja_isubN dX7_needBox_42 (by omega) ?_
  refine ja_icmpN_le (tgt := 57) dX7_needBox_43 (by decide) (by omega) (by omega) (fun c43 => ?_) (fun c43 => (by exfalso; omega))
  refine ja_vret rfl dX7_needBox_57 (Nat.zero_le _) (Nat.zero_le _) ?_
  exact ⟨rfl, rfl, rfl⟩

set_option maxRecDepth 100000 in
set_option maxHeartbeats 4000000 in
theorem c_needBox_x (l : Launch) {Z : jZ} {D : jD} {x y w h : Int32} (hb : ¬ bxOK x y w h) : ja_M l (mX7_needBox 1 6) [.int (x), .int (y), .int (w), .int (h)] Z D ja_r0 (ja_jx "java/lang/IllegalArgumentException" Z D) := by
  refine ja_Mof (lv := [some (.int (x)), some (.int (y)), some (.int (w)), some (.int (h))]) (by decide +kernel) rfl rfl (Nat.le_of_ble_eq_true rfl) rfl ?_
  refine ja_iload_n (i := 0) dX7_needBox_0 rfl rfl ?_
  refine ja_if_lt (tgt := 46) dX7_needBox_1 (by decide) (fun c1 => ?_) (fun c1 => ?_)
  ·
    refine ja_throwW ts_X7_60_352_64 rfl dX7_needBox_46 dX7_needBox_49 dX7_needBox_50 dX7_needBox_53 dX7_needBox_56 (Nat.le_of_ble_eq_true rfl) (Nat.le_of_ble_eq_true rfl) (Nat.le_of_ble_eq_true rfl) (Nat.le_of_ble_eq_true rfl) ?_
    exact ⟨rfl, rfl, rfl⟩
  ·
    refine ja_iload_n (i := 0) dX7_needBox_4 rfl rfl ?_
    refine ja_bipush (v := nI 16) dX7_needBox_5 (by decide +kernel) ?_
    refine ja_icmp_ge (tgt := 46) dX7_needBox_7 (by decide) (fun c7 => ?_) (fun c7 => ?_)
    ·
      refine ja_throwW ts_X7_60_352_64 rfl dX7_needBox_46 dX7_needBox_49 dX7_needBox_50 dX7_needBox_53 dX7_needBox_56 (Nat.le_of_ble_eq_true rfl) (Nat.le_of_ble_eq_true rfl) (Nat.le_of_ble_eq_true rfl) (Nat.le_of_ble_eq_true rfl) ?_
      exact ⟨rfl, rfl, rfl⟩
    ·
      refine ja_iload_n (i := 2) dX7_needBox_10 rfl rfl ?_
      refine ja_iconst (v := nI 1) dX7_needBox_11 (by decide +kernel) ?_
      refine ja_icmp_lt (tgt := 46) dX7_needBox_12 (by decide) (fun c12 => ?_) (fun c12 => ?_)
      ·
        refine ja_throwW ts_X7_60_352_64 rfl dX7_needBox_46 dX7_needBox_49 dX7_needBox_50 dX7_needBox_53 dX7_needBox_56 (Nat.le_of_ble_eq_true rfl) (Nat.le_of_ble_eq_true rfl) (Nat.le_of_ble_eq_true rfl) (Nat.le_of_ble_eq_true rfl) ?_
        exact ⟨rfl, rfl, rfl⟩
      ·
        refine ja_iload_n (i := 2) dX7_needBox_15 rfl rfl ?_
        refine ja_bipush (v := nI 16) dX7_needBox_16 (by decide +kernel) ?_
        refine ja_iload_n (i := 0) dX7_needBox_18 rfl rfl ?_
        refine ja_isub dX7_needBox_19 ?_
        refine ja_icmp_gt (tgt := 46) dX7_needBox_20 (by decide) (fun c20 => ?_) (fun c20 => ?_)
        ·
          refine ja_throwW ts_X7_60_352_64 rfl dX7_needBox_46 dX7_needBox_49 dX7_needBox_50 dX7_needBox_53 dX7_needBox_56 (Nat.le_of_ble_eq_true rfl) (Nat.le_of_ble_eq_true rfl) (Nat.le_of_ble_eq_true rfl) (Nat.le_of_ble_eq_true rfl) ?_
          exact ⟨rfl, rfl, rfl⟩
        ·
          refine ja_iload_n (i := 1) dX7_needBox_23 rfl rfl ?_
          refine ja_if_lt (tgt := 46) dX7_needBox_24 (by decide) (fun c24 => ?_) (fun c24 => ?_)
          ·
            refine ja_throwW ts_X7_60_352_64 rfl dX7_needBox_46 dX7_needBox_49 dX7_needBox_50 dX7_needBox_53 dX7_needBox_56 (Nat.le_of_ble_eq_true rfl) (Nat.le_of_ble_eq_true rfl) (Nat.le_of_ble_eq_true rfl) (Nat.le_of_ble_eq_true rfl) ?_
            exact ⟨rfl, rfl, rfl⟩
          ·
            refine ja_iload_n (i := 1) dX7_needBox_27 rfl rfl ?_
            refine ja_bipush (v := nI 16) dX7_needBox_28 (by decide +kernel) ?_
            refine ja_icmp_ge (tgt := 46) dX7_needBox_30 (by decide) (fun c30 => ?_) (fun c30 => ?_)
            ·
              refine ja_throwW ts_X7_60_352_64 rfl dX7_needBox_46 dX7_needBox_49 dX7_needBox_50 dX7_needBox_53 dX7_needBox_56 (Nat.le_of_ble_eq_true rfl) (Nat.le_of_ble_eq_true rfl) (Nat.le_of_ble_eq_true rfl) (Nat.le_of_ble_eq_true rfl) ?_
              exact ⟨rfl, rfl, rfl⟩
            ·
              refine ja_iload_n (i := 3) dX7_needBox_33 rfl rfl ?_
              refine ja_iconst (v := nI 1) dX7_needBox_34 (by decide +kernel) ?_
              refine ja_icmp_lt (tgt := 46) dX7_needBox_35 (by decide) (fun c35 => ?_) (fun c35 => ?_)
              ·
                refine ja_throwW ts_X7_60_352_64 rfl dX7_needBox_46 dX7_needBox_49 dX7_needBox_50 dX7_needBox_53 dX7_needBox_56 (Nat.le_of_ble_eq_true rfl) (Nat.le_of_ble_eq_true rfl) (Nat.le_of_ble_eq_true rfl) (Nat.le_of_ble_eq_true rfl) ?_
                exact ⟨rfl, rfl, rfl⟩
              ·
                refine ja_iload_n (i := 3) dX7_needBox_38 rfl rfl ?_
                refine ja_bipush (v := nI 16) dX7_needBox_39 (by decide +kernel) ?_
                refine ja_iload_n (i := 1) dX7_needBox_41 rfl rfl ?_
                refine ja_isub dX7_needBox_42 ?_
                refine ja_icmp_le (tgt := 57) dX7_needBox_43 (by decide) (fun c43 => ?_) (fun c43 => ?_)
                ·
                  exact absurd ⟨bnd (by decide) c1 c7, bnd (by decide) c24 c30, ⟨Int32.not_lt.mp c12, Int32.not_lt.mp c20⟩, ⟨Int32.not_lt.mp c35, c43⟩⟩ hb
                ·
                  refine ja_throwW ts_X7_60_352_64 rfl dX7_needBox_46 dX7_needBox_49 dX7_needBox_50 dX7_needBox_53 dX7_needBox_56 (Nat.le_of_ble_eq_true rfl) (Nat.le_of_ble_eq_true rfl) (Nat.le_of_ble_eq_true rfl) (Nat.le_of_ble_eq_true rfl) ?_
                  exact ⟨rfl, rfl, rfl⟩

def cXm (D : jD) (l1 : Nat) (a : Int32) (l2 : Nat) (o : Int32) (n : Nat) : Nat := fb_ct (fun q => decide (D (31 + 10 * l1) q = a) && decide (D (31 + 10 * l2) q = o)) n

set_option maxRecDepth 100000 in
set_option maxHeartbeats 4000000 in
theorem c_commonSize (l : Launch) {Z : jZ} {D : jD} (hx : zX Z) {l1 l2 : Nat} (h1 : l1 < 3) (h2 : l2 < 3) (a o : Int32) : ja_M l (mX7_commonSize 0 0) [.ref (30 + 10 * l1), .int (a), .ref (30 + 10 * l2), .int (o)] Z D (ja_jr (some (.int (nI (cXm D l1 a l2 o 256)))) Z D) ja_x0 := by
  refine ja_Mof (lv := [some (.ref (30 + 10 * l1)), some (.int (a)), some (.ref (30 + 10 * l2)), some (.int (o)), none, none]) (by decide +kernel) rfl rfl (Nat.le_of_ble_eq_true rfl) rfl ?_
  refine ja_iconst (v := nI 0) dX7_commonSize_0 (by decide +kernel) ?_
  refine ja_istore (i := 4) dX7_commonSize_1 rfl (Nat.le_of_ble_eq_true rfl) ?_
  refine ja_iconst (v := nI 0) dX7_commonSize_3 (by decide +kernel) ?_
  refine ja_istore (i := 5) dX7_commonSize_4 rfl (Nat.le_of_ble_eq_true rfl) ?_
  have lp6 : ∀ (f6 : Nat) (q n : Nat), (256 < q + f6) → (q ≤ 256) → (n = cXm D l1 a l2 o q) → ja_A l (mX7_commonSize 0 0) ja_sn (ja_Qf (mX7_commonSize 0 0) (ja_jr (some (.int (nI (cXm D l1 a l2 o 256)))) Z D) ja_x0) 6 [some (.ref (30 + 10 * l1)), some (.int (a)), some (.ref (30 + 10 * l2)), some (.int (o)), some (.int (nI (n))), some (.int (nI (q)))] [] Z D 0 0 := by
    intro f6
    induction f6 with
    | zero => intro q n hf hq hn; exfalso; omega
    | succ f6 ih6 =>
      intro q n hf hq hn
      refine ja_iload (i := 5) dX7_commonSize_6 rfl ?_
      refine ja_sipush (v := nI 256) dX7_commonSize_8 (by decide +kernel) ?_
      refine ja_icmpN_ge (tgt := 45) dX7_commonSize_11 (by decide) (by omega) (by omega) (fun c11 => ?_) (fun c11 => ?_)
      ·
        refine ja_iload (i := 4) dX7_commonSize_45 rfl ?_
        refine ja_iret rfl rfl dX7_commonSize_47 (Nat.zero_le _) (Nat.zero_le _) ?_
        exact ⟨by rw [hn, show q = 256 by omega], rfl, rfl⟩
      ·
        refine ja_aload_n (i := 0) dX7_commonSize_14 rfl rfl ?_
        refine ja_getR fl_X7_135 (zL_o hx (l := l1) (by omega)) rfl (zL_p0 hx (l := l1) (by omega)) dX7_commonSize_15 ?_
        refine ja_iload (i := 5) dX7_commonSize_18 rfl ?_
        refine ja_iald (zL_a0 hx (l := l1) (by omega)) rfl (by omega) (by decide) dX7_commonSize_20 ?_
        refine ja_iload_n (i := 1) dX7_commonSize_21 rfl rfl ?_
        refine ja_icmp_ne (tgt := 39) dX7_commonSize_22 (by decide) (fun c22 => ?_) (fun c22 => ?_)
        ·
          refine ja_iincN dX7_commonSize_39 rfl rfl (Nat.le_of_ble_eq_true rfl) ?_
          refine ja_goto (tgt := 6) dX7_commonSize_42 (by decide) ?_
          exact ih6 (q + 1) _ (by omega) (by omega) (by rw [hn, cXm, cXm, fb_ct_succ]; simp_all)
        ·
          refine ja_aload_n (i := 2) dX7_commonSize_25 rfl rfl ?_
          refine ja_getR fl_X7_135 (zL_o hx (l := l2) (by omega)) rfl (zL_p0 hx (l := l2) (by omega)) dX7_commonSize_26 ?_
          refine ja_iload (i := 5) dX7_commonSize_29 rfl ?_
          refine ja_iald (zL_a0 hx (l := l2) (by omega)) rfl (by omega) (by decide) dX7_commonSize_31 ?_
          refine ja_iload_n (i := 3) dX7_commonSize_32 rfl rfl ?_
          refine ja_icmp_ne (tgt := 39) dX7_commonSize_33 (by decide) (fun c33 => ?_) (fun c33 => ?_)
          ·
            refine ja_iincN dX7_commonSize_39 rfl rfl (Nat.le_of_ble_eq_true rfl) ?_
            refine ja_goto (tgt := 6) dX7_commonSize_42 (by decide) ?_
            exact ih6 (q + 1) _ (by omega) (by omega) (by rw [hn, cXm, cXm, fb_ct_succ]; simp_all)
          ·
            refine ja_iincN dX7_commonSize_36 rfl rfl (Nat.le_of_ble_eq_true rfl) ?_
            refine ja_iincN dX7_commonSize_39 rfl rfl (Nat.le_of_ble_eq_true rfl) ?_
            refine ja_goto (tgt := 6) dX7_commonSize_42 (by decide) ?_
            exact ih6 (q + 1) _ (by omega) (by omega) (by rw [hn, cXm, cXm, fb_ct_succ]; simp_all)
  exact lp6 257 0 0 (by omega) (by omega) rfl

set_option maxRecDepth 100000 in
set_option maxHeartbeats 4000000 in
theorem c_bestMatch (l : Launch) {Z : jZ} {D : jD} (hx : zX Z) {l1 l2 : Nat} (h1 : l1 < 3) (h2 : l2 < 3) (a : Int32) : ja_M l (mX7_bestMatch 0 0) [.ref (30 + 10 * l1), .int (a), .ref (30 + 10 * l2)] Z D (ja_jr (some (.int (oI (bM (fun o => cXm D l1 a l2 (nI o) 256) 10)))) Z D) ja_x0 := by
  refine ja_Mof (lv := [some (.ref (30 + 10 * l1)), some (.int (a)), some (.ref (30 + 10 * l2)), none, none, none, none]) (by decide +kernel) rfl rfl (Nat.le_of_ble_eq_true rfl) rfl ?_
  refine ja_iconst (v := (-1)) dX7_bestMatch_0 (by decide +kernel) ?_
  refine ja_istore_n (i := 3) dX7_bestMatch_1 rfl rfl (Nat.le_of_ble_eq_true rfl) ?_
  refine ja_iconst (v := nI 0) dX7_bestMatch_2 (by decide +kernel) ?_
  refine ja_istore (i := 4) dX7_bestMatch_3 rfl (Nat.le_of_ble_eq_true rfl) ?_
  refine ja_iconst (v := nI 0) dX7_bestMatch_5 (by decide +kernel) ?_
  refine ja_istore (i := 5) dX7_bestMatch_6 rfl (Nat.le_of_ble_eq_true rfl) ?_
  have lp8 : ∀ (f8 : Nat) (o m : Nat) (r : Option Nat), (10 < o + f8) → (o ≤ 10) → (m ≤ 256) → (r = bM (fun o => cXm D l1 a l2 (nI o) 256) o) → (m = bMg (fun o => cXm D l1 a l2 (nI o) 256) r) → ja_A l (mX7_bestMatch 0 0) ja_sn (ja_Qf (mX7_bestMatch 0 0) (ja_jr (some (.int (oI (bM (fun o => cXm D l1 a l2 (nI o) 256) 10)))) Z D) ja_x0) 8 [some (.ref (30 + 10 * l1)), some (.int (a)), some (.ref (30 + 10 * l2)), some (.int (oI r)), some (.int (nI (m))), some (.int (nI (o))), none] [] Z D 0 0 := by
    intro f8
    induction f8 with
    | zero => intro o m r hf ho hmb hr hm; exfalso; omega
    | succ f8 ih8 =>
      intro o m r hf ho hmb hr hm
      have hc1 : cXm D l1 a l2 (nI o) 256 ≤ 256 := fb_ct_le _ _
      refine ja_iload (i := 5) dX7_bestMatch_8 rfl ?_
      refine ja_bipush (v := nI 10) dX7_bestMatch_10 (by decide +kernel) ?_
      refine ja_icmpN_ge (tgt := 45) dX7_bestMatch_12 (by decide) (by omega) (by omega) (fun c12 => ?_) (fun c12 => ?_)
      ·
        refine ja_iload_n (i := 3) dX7_bestMatch_45 rfl rfl ?_
        refine ja_iret rfl rfl dX7_bestMatch_46 (Nat.zero_le _) (Nat.zero_le _) ?_
        exact ⟨by rw [hr, show o = 10 by omega], rfl, rfl⟩
      ·
        refine ja_aload_n (i := 0) dX7_bestMatch_15 rfl rfl ?_
        refine ja_iload_n (i := 1) dX7_bestMatch_16 rfl rfl ?_
        refine ja_aload_n (i := 2) dX7_bestMatch_17 rfl rfl ?_
        refine ja_iload (i := 5) dX7_bestMatch_18 rfl ?_
        refine ja_cSr (st := []) (c_commonSize (D := D) l hx (l1 := l1) (l2 := l2) (by omega) (by omega) (a) (nI (o))) rfl rfl (ce_X7_commonSize 0 0) st_X7_commonSize lk_X7_283 ⟨(Nat.le_of_ble_eq_true rfl), (Nat.le_of_ble_eq_true rfl)⟩ dX7_bestMatch_20 rfl rfl (Nat.le_of_ble_eq_true rfl) (Nat.zero_le _) (Nat.zero_le _) ?_
        refine ja_istore (i := 6) dX7_bestMatch_23 rfl (Nat.le_of_ble_eq_true rfl) ?_
        refine ja_iload (i := 6) dX7_bestMatch_25 rfl ?_
        refine ja_iload (i := 4) dX7_bestMatch_27 rfl ?_
        refine ja_icmpN_le (tgt := 39) dX7_bestMatch_29 (by decide) (by omega) (by omega) (fun c29 => ?_) (fun c29 => ?_)
        ·
          refine ja_iincN dX7_bestMatch_39 rfl rfl (Nat.le_of_ble_eq_true rfl) ?_
          refine ja_goto (tgt := 8) dX7_bestMatch_42 (by decide) ?_
          refine ja_forget (i := 6) ?_
          exact ih8 (o + 1) m r (by omega) (by omega) hmb ((bM_step hr hm).2 (by omega)) hm
        ·
          refine ja_iload (i := 5) dX7_bestMatch_32 rfl ?_
          refine ja_istore_n (i := 3) dX7_bestMatch_34 rfl rfl (Nat.le_of_ble_eq_true rfl) ?_
          refine ja_iload (i := 6) dX7_bestMatch_35 rfl ?_
          refine ja_istore (i := 4) dX7_bestMatch_37 rfl (Nat.le_of_ble_eq_true rfl) ?_
          refine ja_iincN dX7_bestMatch_39 rfl rfl (Nat.le_of_ble_eq_true rfl) ?_
          refine ja_goto (tgt := 8) dX7_bestMatch_42 (by decide) ?_
          refine ja_forget (i := 6) ?_
          exact ih8 (o + 1) _ (some o) (by omega) (by omega) hc1 ((bM_step hr hm).1 (by omega)) rfl
  exact lp8 11 0 0 none (by omega) (by omega) (by omega) rfl rfl
