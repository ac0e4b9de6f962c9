/-! THE CLASS: layers, 3 -/
def szD (D : jD) (ly : Nat) : Option Nat → jD
  | none => D
  | some b => ja_up D (32 + 10 * ly) b (D (32 + 10 * ly) b - nI 1)
def szI (D : jD) (ly : Nat) : Option Nat → jD
  | none => D
  | some b => ja_up D (32 + 10 * ly) b (D (32 + 10 * ly) b + nI 1)
/-- a square goes from b to t -/
def ptU (D : jD) (ly q : Nat) (b t : Option Nat) : jD := ja_up (szI (szD D ly b) ly t) (31 + 10 * ly) q (oI t)

set_option maxRecDepth 100000 in
set_option maxHeartbeats 4000000 in
theorem c_putNN (l : Launch) {Z : jZ} {D : jD} (hx : zX Z) {ly : Nat} (h1 : ly < 3) {q b a : Nat} (hq : q < 256) (hs : D (31 + 10 * ly) q = (-1)) : ja_M l (mX1_put 0 0) [.ref (30 + 10 * ly), .int (nI (q)), .int ((-1))] Z D (ja_jd none Z (fun D2 => D2 = ptU D ly q none none)) ja_x0 := by
  refine ja_Mof (lv := [some (.ref (30 + 10 * ly)), some (.int (nI (q))), some (.int ((-1))), none]) (by decide +kernel) rfl rfl (Nat.le_of_ble_eq_true rfl) rfl ?_
  refine ja_aload_n (i := 0) dX1_put_0 rfl rfl ?_
  refine ja_getR fl_X1_9 (zL_o hx (l := ly) (by omega)) rfl (zL_p0 hx (l := ly) (by omega)) dX1_put_1 ?_
  refine ja_iload_n (i := 1) dX1_put_4 rfl rfl ?_
  refine ja_iald (zL_a0 hx (l := ly) (by omega)) rfl (by omega) (by decide) dX1_put_5 ?_
  refine ja_top (y := (-1)) hs ?_
  refine ja_istore_n (i := 3) dX1_put_6 rfl rfl (Nat.le_of_ble_eq_true rfl) ?_
  refine ja_iload_n (i := 3) dX1_put_7 rfl rfl ?_
  refine ja_cNr (st := []) (c_isAreaN l) rfl rfl (ce_X7_isArea 0 0) st_X7_isArea nk_X1_47 ⟨(Nat.le_of_ble_eq_true rfl), (Nat.le_of_ble_eq_true rfl)⟩ dX1_put_8 rfl rfl (Nat.le_of_ble_eq_true rfl) (Nat.zero_le _) (Nat.zero_le _) ?_
  refine ja_ifB_eq (tgt := 24) dX1_put_11 (by decide) (fun c11 => ?_) (fun c11 => absurd c11 (by decide))
  refine ja_iload_n (i := 2) dX1_put_24 rfl rfl ?_
  refine ja_cNr (st := []) (c_isAreaN l) rfl rfl (ce_X7_isArea 0 0) st_X7_isArea nk_X1_47 ⟨(Nat.le_of_ble_eq_true rfl), (Nat.le_of_ble_eq_true rfl)⟩ dX1_put_25 rfl rfl (Nat.le_of_ble_eq_true rfl) (Nat.zero_le _) (Nat.zero_le _) ?_
  refine ja_ifB_eq (tgt := 41) dX1_put_28 (by decide) (fun c28 => ?_) (fun c28 => absurd c28 (by decide))
  refine ja_aload_n (i := 0) dX1_put_41 rfl rfl ?_
  refine ja_getR fl_X1_9 (zL_o hx (l := ly) (by omega)) rfl (zL_p0 hx (l := ly) (by omega)) dX1_put_42 ?_
  refine ja_iload_n (i := 1) dX1_put_45 rfl rfl ?_
  refine ja_iload_n (i := 2) dX1_put_46 rfl rfl ?_
  refine ja_iast (zL_a0 hx (l := ly) (by omega)) rfl (by omega) (by decide) dX1_put_47 ?_
  refine ja_vret rfl dX1_put_48 (Nat.zero_le _) (Nat.zero_le _) ?_
  exact ⟨rfl, rfl, rfl⟩

set_option maxRecDepth 100000 in
set_option maxHeartbeats 4000000 in
theorem c_putNS (l : Launch) {Z : jZ} {D : jD} (hx : zX Z) {ly : Nat} (h1 : ly < 3) {q b a : Nat} (hq : q < 256) (ha : a < 10) (hs : D (31 + 10 * ly) q = (-1)) : ja_M l (mX1_put 0 0) [.ref (30 + 10 * ly), .int (nI (q)), .int (nI (a))] Z D (ja_jd none Z (fun D2 => D2 = ptU D ly q none (some a))) ja_x0 := by
  refine ja_Mof (lv := [some (.ref (30 + 10 * ly)), some (.int (nI (q))), some (.int (nI (a))), none]) (by decide +kernel) rfl rfl (Nat.le_of_ble_eq_true rfl) rfl ?_
  refine ja_aload_n (i := 0) dX1_put_0 rfl rfl ?_
  refine ja_getR fl_X1_9 (zL_o hx (l := ly) (by omega)) rfl (zL_p0 hx (l := ly) (by omega)) dX1_put_1 ?_
  refine ja_iload_n (i := 1) dX1_put_4 rfl rfl ?_
  refine ja_iald (zL_a0 hx (l := ly) (by omega)) rfl (by omega) (by decide) dX1_put_5 ?_
  refine ja_top (y := (-1)) hs ?_
  refine ja_istore_n (i := 3) dX1_put_6 rfl rfl (Nat.le_of_ble_eq_true rfl) ?_
  refine ja_iload_n (i := 3) dX1_put_7 rfl rfl ?_
  refine ja_cNr (st := []) (c_isAreaN l) rfl rfl (ce_X7_isArea 0 0) st_X7_isArea nk_X1_47 ⟨(Nat.le_of_ble_eq_true rfl), (Nat.le_of_ble_eq_true rfl)⟩ dX1_put_8 rfl rfl (Nat.le_of_ble_eq_true rfl) (Nat.zero_le _) (Nat.zero_le _) ?_
  refine ja_ifB_eq (tgt := 24) dX1_put_11 (by decide) (fun c11 => ?_) (fun c11 => absurd c11 (by decide))
  refine ja_iload_n (i := 2) dX1_put_24 rfl rfl ?_
  refine ja_cNr (st := []) (c_isAreaT l (by omega)) rfl rfl (ce_X7_isArea 0 0) st_X7_isArea nk_X1_47 ⟨(Nat.le_of_ble_eq_true rfl), (Nat.le_of_ble_eq_true rfl)⟩ dX1_put_25 rfl rfl (Nat.le_of_ble_eq_true rfl) (Nat.zero_le _) (Nat.zero_le _) ?_
  refine ja_ifB_eq (tgt := 41) dX1_put_28 (by decide) (fun c28 => absurd c28 (by decide)) (fun c28 => ?_)
  refine ja_aload_n (i := 0) dX1_put_31 rfl rfl ?_
  refine ja_getR fl_X1_15 (zL_o hx (l := ly) (by omega)) rfl (zL_p1 hx (l := ly) (by omega)) dX1_put_32 ?_
  refine ja_iload_n (i := 2) dX1_put_35 rfl rfl ?_
  refine ja_dup2 dX1_put_36 rfl rfl ?_
  refine ja_iald (zL_a1 hx (l := ly) (by omega)) rfl (by omega) (by decide) dX1_put_37 ?_
  refine ja_iconst (v := nI 1) dX1_put_38 (by decide +kernel) ?_
  refine ja_iadd dX1_put_39 ?_
  refine ja_iast (zL_a1 hx (l := ly) (by omega)) rfl (by omega) (by decide) dX1_put_40 ?_
  refine ja_aload_n (i := 0) dX1_put_41 rfl rfl ?_
  refine ja_getR fl_X1_9 (zL_o hx (l := ly) (by omega)) rfl (zL_p0 hx (l := ly) (by omega)) dX1_put_42 ?_
  refine ja_iload_n (i := 1) dX1_put_45 rfl rfl ?_
  refine ja_iload_n (i := 2) dX1_put_46 rfl rfl ?_
  refine ja_iast (zL_a0 hx (l := ly) (by omega)) rfl (by omega) (by decide) dX1_put_47 ?_
  refine ja_vret rfl dX1_put_48 (Nat.zero_le _) (Nat.zero_le _) ?_
  exact ⟨rfl, rfl, rfl⟩

set_option maxRecDepth 100000 in
set_option maxHeartbeats 4000000 in
theorem c_putSN (l : Launch) {Z : jZ} {D : jD} (hx : zX Z) {ly : Nat} (h1 : ly < 3) {q b a : Nat} (hq : q < 256) (hb : b < 10) (hs : D (31 + 10 * ly) q = nI (b)) : ja_M l (mX1_put 0 0) [.ref (30 + 10 * ly), .int (nI (q)), .int ((-1))] Z D (ja_jd none Z (fun D2 => D2 = ptU D ly q (some b) none)) ja_x0 := by
  refine ja_Mof (lv := [some (.ref (30 + 10 * ly)), some (.int (nI (q))), some (.int ((-1))), none]) (by decide +kernel) rfl rfl (Nat.le_of_ble_eq_true rfl) rfl ?_
  refine ja_aload_n (i := 0) dX1_put_0 rfl rfl ?_
  refine ja_getR fl_X1_9 (zL_o hx (l := ly) (by omega)) rfl (zL_p0 hx (l := ly) (by omega)) dX1_put_1 ?_
  refine ja_iload_n (i := 1) dX1_put_4 rfl rfl ?_
  refine ja_iald (zL_a0 hx (l := ly) (by omega)) rfl (by omega) (by decide) dX1_put_5 ?_
  refine ja_top (y := nI (b)) hs ?_
  refine ja_istore_n (i := 3) dX1_put_6 rfl rfl (Nat.le_of_ble_eq_true rfl) ?_
  refine ja_iload_n (i := 3) dX1_put_7 rfl rfl ?_
  refine ja_cNr (st := []) (c_isAreaT l (by omega)) rfl rfl (ce_X7_isArea 0 0) st_X7_isArea nk_X1_47 ⟨(Nat.le_of_ble_eq_true rfl), (Nat.le_of_ble_eq_true rfl)⟩ dX1_put_8 rfl rfl (Nat.le_of_ble_eq_true rfl) (Nat.zero_le _) (Nat.zero_le _) ?_
  refine ja_ifB_eq (tgt := 24) dX1_put_11 (by decide) (fun c11 => absurd c11 (by decide)) (fun c11 => ?_)
  refine ja_aload_n (i := 0) dX1_put_14 rfl rfl ?_
  refine ja_getR fl_X1_15 (zL_o hx (l := ly) (by omega)) rfl (zL_p1 hx (l := ly) (by omega)) dX1_put_15 ?_
  refine ja_iload_n (i := 3) dX1_put_18 rfl rfl ?_
  refine ja_dup2 dX1_put_19 rfl rfl ?_
  refine ja_iald (zL_a1 hx (l := ly) (by omega)) rfl (by omega) (by decide) dX1_put_20 ?_
  refine ja_iconst (v := nI 1) dX1_put_21 (by decide +kernel) ?_
  refine ja_isub dX1_put_22 ?_
  refine ja_iast (zL_a1 hx (l := ly) (by omega)) rfl (by omega) (by decide) dX1_put_23 ?_
  refine ja_iload_n (i := 2) dX1_put_24 rfl rfl ?_
  refine ja_cNr (st := []) (c_isAreaN l) rfl rfl (ce_X7_isArea 0 0) st_X7_isArea nk_X1_47 ⟨(Nat.le_of_ble_eq_true rfl), (Nat.le_of_ble_eq_true rfl)⟩ dX1_put_25 rfl rfl (Nat.le_of_ble_eq_true rfl) (Nat.zero_le _) (Nat.zero_le _) ?_
  refine ja_ifB_eq (tgt := 41) dX1_put_28 (by decide) (fun c28 => ?_) (fun c28 => absurd c28 (by decide))
  refine ja_aload_n (i := 0) dX1_put_41 rfl rfl ?_
  refine ja_getR fl_X1_9 (zL_o hx (l := ly) (by omega)) rfl (zL_p0 hx (l := ly) (by omega)) dX1_put_42 ?_
  refine ja_iload_n (i := 1) dX1_put_45 rfl rfl ?_
  refine ja_iload_n (i := 2) dX1_put_46 rfl rfl ?_
  refine ja_iast (zL_a0 hx (l := ly) (by omega)) rfl (by omega) (by decide) dX1_put_47 ?_
  refine ja_vret rfl dX1_put_48 (Nat.zero_le _) (Nat.zero_le _) ?_
  exact ⟨rfl, rfl, rfl⟩

set_option maxRecDepth 100000 in
set_option maxHeartbeats 4000000 in
theorem c_putSS (l : Launch) {Z : jZ} {D : jD} (hx : zX Z) {ly : Nat} (h1 : ly < 3) {q b a : Nat} (hq : q < 256) (hb : b < 10) (ha : a < 10) (hs : D (31 + 10 * ly) q = nI (b)) : ja_M l (mX1_put 0 0) [.ref (30 + 10 * ly), .int (nI (q)), .int (nI (a))] Z D (ja_jd none Z (fun D2 => D2 = ptU D ly q (some b) (some a))) ja_x0 := by
  refine ja_Mof (lv := [some (.ref (30 + 10 * ly)), some (.int (nI (q))), some (.int (nI (a))), none]) (by decide +kernel) rfl rfl (Nat.le_of_ble_eq_true rfl) rfl ?_
  refine ja_aload_n (i := 0) dX1_put_0 rfl rfl ?_
  refine ja_getR fl_X1_9 (zL_o hx (l := ly) (by omega)) rfl (zL_p0 hx (l := ly) (by omega)) dX1_put_1 ?_
  refine ja_iload_n (i := 1) dX1_put_4 rfl rfl ?_
  refine ja_iald (zL_a0 hx (l := ly) (by omega)) rfl (by omega) (by decide) dX1_put_5 ?_
  refine ja_top (y := nI (b)) hs ?_
  refine ja_istore_n (i := 3) dX1_put_6 rfl rfl (Nat.le_of_ble_eq_true rfl) ?_
  refine ja_iload_n (i := 3) dX1_put_7 rfl rfl ?_
  refine ja_cNr (st := []) (c_isAreaT l (by omega)) rfl rfl (ce_X7_isArea 0 0) st_X7_isArea nk_X1_47 ⟨(Nat.le_of_ble_eq_true rfl), (Nat.le_of_ble_eq_true rfl)⟩ dX1_put_8 rfl rfl (Nat.le_of_ble_eq_true rfl) (Nat.zero_le _) (Nat.zero_le _) ?_
  refine ja_ifB_eq (tgt := 24) dX1_put_11 (by decide) (fun c11 => absurd c11 (by decide)) (fun c11 => ?_)
  refine ja_aload_n (i := 0) dX1_put_14 rfl rfl ?_
  refine ja_getR fl_X1_15 (zL_o hx (l := ly) (by omega)) rfl (zL_p1 hx (l := ly) (by omega)) dX1_put_15 ?_
  refine ja_iload_n (i := 3) dX1_put_18 rfl rfl ?_
  refine ja_dup2 dX1_put_19 rfl rfl ?_
  refine ja_iald (zL_a1 hx (l := ly) (by omega)) rfl (by omega) (by decide) dX1_put_20 ?_
  refine ja_iconst (v := nI 1) dX1_put_21 (by decide +kernel) ?_
  refine ja_isub dX1_put_22 ?_
  refine ja_iast (zL_a1 hx (l := ly) (by omega)) rfl (by omega) (by decide) dX1_put_23 ?_
  refine ja_iload_n (i := 2) dX1_put_24 rfl rfl ?_
  refine ja_cNr (st := []) (c_isAreaT l (by omega)) rfl rfl (ce_X7_isArea 0 0) st_X7_isArea nk_X1_47 ⟨(Nat.le_of_ble_eq_true rfl), (Nat.le_of_ble_eq_true rfl)⟩ dX1_put_25 rfl rfl (Nat.le_of_ble_eq_true rfl) (Nat.zero_le _) (Nat.zero_le _) ?_
  refine ja_ifB_eq (tgt := 41) dX1_put_28 (by decide) (fun c28 => absurd c28 (by decide)) (fun c28 => ?_)
  refine ja_aload_n (i := 0) dX1_put_31 rfl rfl ?_
  refine ja_getR fl_X1_15 (zL_o hx (l := ly) (by omega)) rfl (zL_p1 hx (l := ly) (by omega)) dX1_put_32 ?_
  refine ja_iload_n (i := 2) dX1_put_35 rfl rfl ?_
  refine ja_dup2 dX1_put_36 rfl rfl ?_
  refine ja_iald (zL_a1 hx (l := ly) (by omega)) rfl (by omega) (by decide) dX1_put_37 ?_
  refine ja_iconst (v := nI 1) dX1_put_38 (by decide +kernel) ?_
  refine ja_iadd dX1_put_39 ?_
  refine ja_iast (zL_a1 hx (l := ly) (by omega)) rfl (by omega) (by decide) dX1_put_40 ?_
  refine ja_aload_n (i := 0) dX1_put_41 rfl rfl ?_
  refine ja_getR fl_X1_9 (zL_o hx (l := ly) (by omega)) rfl (zL_p0 hx (l := ly) (by omega)) dX1_put_42 ?_
  refine ja_iload_n (i := 1) dX1_put_45 rfl rfl ?_
  refine ja_iload_n (i := 2) dX1_put_46 rfl rfl ?_
  refine ja_iast (zL_a0 hx (l := ly) (by omega)) rfl (by omega) (by decide) dX1_put_47 ?_
  refine ja_vret rfl dX1_put_48 (Nat.zero_le _) (Nat.zero_le _) ?_
  exact ⟨rfl, rfl, rfl⟩

theorem c_put (l : Launch) {Z : jZ} {D : jD} (hx : zX Z) {ly q : Nat} {b t : Option Nat} (h1 : ly < 3) (hq : q < 256) (hb : ∀ x, b = some x → x < 10) (ht : ∀ x, t = some x → x < 10) (hs : D (31 + 10 * ly) q = oI b) :
    ja_M l (mX1_put 0 0) [.ref (30 + 10 * ly), .int (nI q), .int (oI t)] Z D (ja_jd none Z (fun D2 => D2 = ptU D ly q b t)) ja_x0 := by
  cases b with
  | none => cases t with
    | none => exact c_putNN l hx h1 (b := 0) (a := 0) hq hs
    | some a => exact c_putNS l hx h1 (b := 0) hq (ht a rfl) hs
  | some b => cases t with
    | none => exact c_putSN l hx h1 (a := 0) hq (hb b rfl) hs
    | some a => exact c_putSS l hx h1 hq (hb b rfl) (ht a rfl) hs

set_option maxRecDepth 100000 in
set_option maxHeartbeats 4000000 in
theorem c_rememberWorths (l : Launch) {Z : jZ} {D : jD} (hx : zX Z) {ly : Nat} (h1 : ly < 3)  : ja_M l (mX1_rememberWorths 0 0) [.ref (30 + 10 * ly)] Z D (ja_jd none Z (fun D2 => D2 = ja_cp D (33 + 10 * ly) 0 (35 + 10 * ly) 0 10)) ja_x0 := by
  refine ja_Mof (lv := [some (.ref (30 + 10 * ly))]) (by decide +kernel) rfl rfl (Nat.le_of_ble_eq_true rfl) rfl ?_
  refine ja_aload_n (i := 0) dX1_rememberWorths_0 rfl rfl ?_
  refine ja_getR fl_X1_18 (zL_o hx (l := ly) (by omega)) rfl (zL_p2 hx (l := ly) (by omega)) dX1_rememberWorths_1 ?_
  refine ja_iconst (v := nI 0) dX1_rememberWorths_4 (by decide +kernel) ?_
  refine ja_aload_n (i := 0) dX1_rememberWorths_5 rfl rfl ?_
  refine ja_getR fl_X1_28 (zL_o hx (l := ly) (by omega)) rfl (zL_p5 hx (l := ly) (by omega)) dX1_rememberWorths_6 ?_
  refine ja_iconst (v := nI 0) dX1_rememberWorths_9 (by decide +kernel) ?_
  refine ja_bipush (v := nI 10) dX1_rememberWorths_10 (by decide +kernel) ?_
  refine ja_copy lk_X1_58 ac_na ac_st ac_in (zL_a2 hx (l := ly) (by omega)) (zL_a5 hx (l := ly) (by omega)) rfl rfl rfl (by omega) (by omega) (by decide) (by decide) (Nat.le_of_ble_eq_true rfl) (Nat.le_of_ble_eq_true rfl) dX1_rememberWorths_12 ?_
  refine ja_vret rfl dX1_rememberWorths_15 (Nat.zero_le _) (Nat.zero_le _) ?_
  exact ⟨rfl, rfl, rfl⟩

set_option maxRecDepth 100000 in
set_option maxHeartbeats 4000000 in
theorem c_store (l : Launch) {Z : jZ} {D : jD} (hx : zX Z) {ly : Nat} (h1 : ly < 3) {t : Nat} (ht : t ≤ 40) : ja_M l (mX1_store 0 0) [.ref (30 + 10 * ly), .int (nI (t))] Z D (ja_jd none Z (fun D2 => D2 = ja_cp D (31 + 10 * ly) 0 (36 + 10 * ly) (t * 256) 256)) ja_x0 := by
  refine ja_Mof (lv := [some (.ref (30 + 10 * ly)), some (.int (nI (t)))]) (by decide +kernel) rfl rfl (Nat.le_of_ble_eq_true rfl) rfl ?_
  refine ja_iload_n (i := 1) dX1_store_0 rfl rfl ?_
  refine ja_ifN_lt dX1_store_1 (tgt := 30) (by decide) (by omega) ?_
  refine ja_iload_n (i := 1) dX1_store_4 rfl rfl ?_
  refine ja_bipush (v := nI 40) dX1_store_5 (by decide +kernel) ?_
  refine ja_icmpN_gt (tgt := 30) dX1_store_7 (by decide) (by omega) (by omega) (fun c7 => (by exfalso; omega)) (fun c7 => ?_)
  refine ja_aload_n (i := 0) dX1_store_10 rfl rfl ?_
  refine ja_getR fl_X1_9 (zL_o hx (l := ly) (by omega)) rfl (zL_p0 hx (l := ly) (by omega)) dX1_store_11 ?_
  refine ja_iconst (v := nI 0) dX1_store_14 (by decide +kernel) ?_
  refine ja_aload_n (i := 0) dX1_store_15 rfl rfl ?_
  refine ja_getR fl_X1_31 (zL_o hx (l := ly) (by omega)) rfl (zL_p6 hx (l := ly) (by omega)) dX1_store_16 ?_
  refine ja_iload_n (i := 1) dX1_store_19 rfl rfl ?_
  refine ja_sipush (v := nI 256) dX1_store_20 (by decide +kernel) ?_
  refine ja_imulN dX1_store_23 ?_
  refine ja_sipush (v := nI 256) dX1_store_24 (by decide +kernel) ?_
  refine ja_copy lk_X1_58 ac_na ac_st ac_in (zL_a0 hx (l := ly) (by omega)) (zL_a6 hx (l := ly) (by omega)) rfl rfl rfl (by omega) (by omega) (by decide) (by decide) (Nat.le_of_ble_eq_true rfl) (Nat.le_of_ble_eq_true rfl) dX1_store_27 ?_
  refine ja_vret rfl dX1_store_30 (Nat.zero_le _) (Nat.zero_le _) ?_
  exact ⟨rfl, rfl, rfl⟩
