/-! THE CLASS: layers, 5 -/
/-- whether a square breaks a rule of kind i or n; along a side, of kind a -/
def xbA (D : jD) (kd : Int32) (l1 l2 q : Nat) : Nat := if ¬ D (31 + 10 * l1) q = -1 ∧ (if kd = nI 105 then D (31 + 10 * l2) q = -1 else ¬ D (31 + 10 * l2) q = -1) then 1 else 0
def xbS (D : jD) (l1 l2 q s : Nat) : Nat := match nbX s q with
  | none => 0
  | some j => if ¬ D (31 + 10 * l1) q = D (31 + 10 * l1) j ∧ D (31 + 10 * l2) q = D (31 + 10 * l2) j then 1 else 0

set_option maxRecDepth 100000 in
set_option maxHeartbeats 4000000 in
theorem c_breaksAlong (l : Launch) {Z : jZ} {D : jD} (hx : zX Z) {n r : Nat} {fl sl : Nat → Nat} (hr : zXr Z n fl sl) (hrn : r < n) {q s : Nat} (hq : q < 256) (hs : s < 4) : ja_M l (mX4_breaksAlong 0 0) [.ref (60 + r), .int (nI (q)), .int (nI (s))] Z D (ja_jr (some (.int (nI (xbS D (fl r) (sl r) q s)))) Z D) ja_x0 := by
  refine ja_Mof (lv := [some (.ref (60 + r)), some (.int (nI (q))), some (.int (nI (s))), none, none]) (by decide +kernel) rfl rfl (Nat.le_of_ble_eq_true rfl) rfl ?_
  refine ja_iload_n (i := 1) dX4_breaksAlong_0 rfl rfl ?_
  refine ja_iload_n (i := 2) dX4_breaksAlong_1 rfl rfl ?_
  refine ja_cNr (st := []) (c_nb l (q := q) (s := s) (by omega) (by omega)) rfl rfl (ce_X7_neighbour 0 0) st_X7_neighbour nk_X4_36 ⟨(Nat.le_of_ble_eq_true rfl), (Nat.le_of_ble_eq_true rfl)⟩ dX4_breaksAlong_2 rfl rfl (Nat.le_of_ble_eq_true rfl) (Nat.zero_le _) (Nat.zero_le _) ?_
  refine ja_istore_n (i := 3) dX4_breaksAlong_5 rfl rfl (Nat.le_of_ble_eq_true rfl) ?_
  rcases hnb : nbX s q with _ | j
  ·
    refine ja_iload_n (i := 3) dX4_breaksAlong_6 rfl rfl ?_
    refine ja_iconst (v := (-1)) dX4_breaksAlong_7 (by decide +kernel) ?_
    refine ja_icmp_eq (tgt := 57) dX4_breaksAlong_8 (by decide) (fun c8 => ?_) (fun c8 => absurd rfl c8)
    refine ja_iconst (v := nI 0) dX4_breaksAlong_57 (by decide +kernel) ?_
    refine ja_istore (i := 4) dX4_breaksAlong_58 rfl (Nat.le_of_ble_eq_true rfl) ?_
    refine ja_iload (i := 4) dX4_breaksAlong_60 rfl ?_
    refine ja_ifN_eq (tgt := 69) dX4_breaksAlong_62 (by decide) (by omega) (fun c62 => ?_) (fun c62 => absurd c62 (by decide))
    refine ja_iconst (v := nI 0) dX4_breaksAlong_69 (by decide +kernel) ?_
    refine ja_iret rfl rfl dX4_breaksAlong_70 (Nat.zero_le _) (Nat.zero_le _) ?_
    exact ⟨by rw [xbS, hnb], rfl, rfl⟩
  ·
    have hj := nbX_lt (by omega) hnb
    refine ja_iload_n (i := 3) dX4_breaksAlong_6 rfl rfl ?_
    refine ja_iconst (v := (-1)) dX4_breaksAlong_7 (by decide +kernel) ?_
    refine ja_icmp_eq (tgt := 57) dX4_breaksAlong_8 (by decide) (fun c8 => absurd c8 (nI_nm1 (by omega))) (fun c8 => ?_)
    refine ja_aload_n (i := 0) dX4_breaksAlong_11 rfl rfl ?_
    refine ja_getR fl_X4_15 (zR_o hr (r := r) (by omega)) rfl (zR_p1 hr (r := r) (by omega)) dX4_breaksAlong_12 ?_
    refine ja_getR fl_X4_30 (zL_o hx (l := fl r) (zR_l1 hr (r := r) (by omega))) rfl (zL_p0 hx (l := fl r) (zR_l1 hr (r := r) (by omega))) dX4_breaksAlong_15 ?_
    refine ja_iload_n (i := 1) dX4_breaksAlong_18 rfl rfl ?_
    refine ja_iald (zL_a0 hx (l := fl r) (zR_l1 hr (r := r) (by omega))) rfl (by omega) (by decide) dX4_breaksAlong_19 ?_
    refine ja_aload_n (i := 0) dX4_breaksAlong_20 rfl rfl ?_
    refine ja_getR fl_X4_15 (zR_o hr (r := r) (by omega)) rfl (zR_p1 hr (r := r) (by omega)) dX4_breaksAlong_21 ?_
    refine ja_getR fl_X4_30 (zL_o hx (l := fl r) (zR_l1 hr (r := r) (by omega))) rfl (zL_p0 hx (l := fl r) (zR_l1 hr (r := r) (by omega))) dX4_breaksAlong_24 ?_
    refine ja_iload_n (i := 3) dX4_breaksAlong_27 rfl rfl ?_
    refine ja_iald (zL_a0 hx (l := fl r) (zR_l1 hr (r := r) (by omega))) rfl (by omega) (by decide) dX4_breaksAlong_28 ?_
    refine ja_icmp_eq (tgt := 57) dX4_breaksAlong_29 (by decide) (fun c29 => ?_) (fun c29 => ?_)
    ·
      refine ja_iconst (v := nI 0) dX4_breaksAlong_57 (by decide +kernel) ?_
      refine ja_istore (i := 4) dX4_breaksAlong_58 rfl (Nat.le_of_ble_eq_true rfl) ?_
      refine ja_iload (i := 4) dX4_breaksAlong_60 rfl ?_
      refine ja_ifN_eq (tgt := 69) dX4_breaksAlong_62 (by decide) (by omega) (fun c62 => ?_) (fun c62 => absurd c62 (by decide))
      refine ja_iconst (v := nI 0) dX4_breaksAlong_69 (by decide +kernel) ?_
      refine ja_iret rfl rfl dX4_breaksAlong_70 (Nat.zero_le _) (Nat.zero_le _) ?_
      exact ⟨by rw [xbS, hnb]; exact congrArg (fun x => some (Value.int (nI x))) (if_neg (fun h => by first | exact h.1 c29 | exact c50 h.2)).symm, rfl, rfl⟩
    ·
      refine ja_aload_n (i := 0) dX4_breaksAlong_32 rfl rfl ?_
      refine ja_getR fl_X4_19 (zR_o hr (r := r) (by omega)) rfl (zR_p2 hr (r := r) (by omega)) dX4_breaksAlong_33 ?_
      refine ja_getR fl_X4_30 (zL_o hx (l := sl r) (zR_l2 hr (r := r) (by omega))) rfl (zL_p0 hx (l := sl r) (zR_l2 hr (r := r) (by omega))) dX4_breaksAlong_36 ?_
      refine ja_iload_n (i := 1) dX4_breaksAlong_39 rfl rfl ?_
      refine ja_iald (zL_a0 hx (l := sl r) (zR_l2 hr (r := r) (by omega))) rfl (by omega) (by decide) dX4_breaksAlong_40 ?_
      refine ja_aload_n (i := 0) dX4_breaksAlong_41 rfl rfl ?_
      refine ja_getR fl_X4_19 (zR_o hr (r := r) (by omega)) rfl (zR_p2 hr (r := r) (by omega)) dX4_breaksAlong_42 ?_
      refine ja_getR fl_X4_30 (zL_o hx (l := sl r) (zR_l2 hr (r := r) (by omega))) rfl (zL_p0 hx (l := sl r) (zR_l2 hr (r := r) (by omega))) dX4_breaksAlong_45 ?_
      refine ja_iload_n (i := 3) dX4_breaksAlong_48 rfl rfl ?_
      refine ja_iald (zL_a0 hx (l := sl r) (zR_l2 hr (r := r) (by omega))) rfl (by omega) (by decide) dX4_breaksAlong_49 ?_
      refine ja_icmp_ne (tgt := 57) dX4_breaksAlong_50 (by decide) (fun c50 => ?_) (fun c50 => ?_)
      ·
        refine ja_iconst (v := nI 0) dX4_breaksAlong_57 (by decide +kernel) ?_
        refine ja_istore (i := 4) dX4_breaksAlong_58 rfl (Nat.le_of_ble_eq_true rfl) ?_
        refine ja_iload (i := 4) dX4_breaksAlong_60 rfl ?_
        refine ja_ifN_eq (tgt := 69) dX4_breaksAlong_62 (by decide) (by omega) (fun c62 => ?_) (fun c62 => absurd c62 (by decide))
        refine ja_iconst (v := nI 0) dX4_breaksAlong_69 (by decide +kernel) ?_
        refine ja_iret rfl rfl dX4_breaksAlong_70 (Nat.zero_le _) (Nat.zero_le _) ?_
        exact ⟨by rw [xbS, hnb]; exact congrArg (fun x => some (Value.int (nI x))) (if_neg (fun h => by first | exact h.1 c29 | exact c50 h.2)).symm, rfl, rfl⟩
      ·
        refine ja_iconst (v := nI 1) dX4_breaksAlong_53 (by decide +kernel) ?_
        refine ja_goto (tgt := 58) dX4_breaksAlong_54 (by decide) ?_
        refine ja_istore (i := 4) dX4_breaksAlong_58 rfl (Nat.le_of_ble_eq_true rfl) ?_
        refine ja_iload (i := 4) dX4_breaksAlong_60 rfl ?_
        refine ja_ifN_eq (tgt := 69) dX4_breaksAlong_62 (by decide) (by omega) (fun c62 => absurd c62 (by decide)) (fun c62 => ?_)
        refine ja_iconst (v := nI 1) dX4_breaksAlong_65 (by decide +kernel) ?_
        refine ja_goto (tgt := 70) dX4_breaksAlong_66 (by decide) ?_
        refine ja_iret rfl rfl dX4_breaksAlong_70 (Nat.zero_le _) (Nat.zero_le _) ?_
        exact ⟨by rw [xbS, hnb]; exact congrArg (fun x => some (Value.int (nI x))) (if_pos ⟨c29, c50⟩).symm, rfl, rfl⟩

set_option maxRecDepth 100000 in
set_option maxHeartbeats 4000000 in
theorem c_breaksAt (l : Launch) {Z : jZ} {D : jD} (hx : zX Z) {n r : Nat} {fl sl : Nat → Nat} (hr : zXr Z n fl sl) (hrn : r < n) {q : Nat} {kd : Int32} (hq : q < 256) (hkd : D (60 + r) 0 = kd) : ja_M l (mX4_breaksAt 0 0) [.ref (60 + r), .int (nI (q))] Z D (ja_jr (some (.int (nI (xbA D kd (fl r) (sl r) q)))) Z D) ja_x0 := by
  refine ja_Mof (lv := [some (.ref (60 + r)), some (.int (nI (q))), none, none, none]) (by decide +kernel) rfl rfl (Nat.le_of_ble_eq_true rfl) rfl ?_
  refine ja_aload_n (i := 0) dX4_breaksAt_0 rfl rfl ?_
  refine ja_getR fl_X4_15 (zR_o hr (r := r) (by omega)) rfl (zR_p1 hr (r := r) (by omega)) dX4_breaksAt_1 ?_
  refine ja_getR fl_X4_30 (zL_o hx (l := fl r) (zR_l1 hr (r := r) (by omega))) rfl (zL_p0 hx (l := fl r) (zR_l1 hr (r := r) (by omega))) dX4_breaksAt_4 ?_
  refine ja_iload_n (i := 1) dX4_breaksAt_7 rfl rfl ?_
  refine ja_iald (zL_a0 hx (l := fl r) (zR_l1 hr (r := r) (by omega))) rfl (by omega) (by decide) dX4_breaksAt_8 ?_
  refine ja_iconst (v := (-1)) dX4_breaksAt_9 (by decide +kernel) ?_
  refine ja_icmp_eq (tgt := 17) dX4_breaksAt_10 (by decide) (fun c10 => ?_) (fun c10 => ?_)
  ·
    refine ja_iconst (v := nI 0) dX4_breaksAt_17 (by decide +kernel) ?_
    refine ja_istore_n (i := 2) dX4_breaksAt_18 rfl rfl (Nat.le_of_ble_eq_true rfl) ?_
    refine ja_aload_n (i := 0) dX4_breaksAt_19 rfl rfl ?_
    refine ja_getR fl_X4_19 (zR_o hr (r := r) (by omega)) rfl (zR_p2 hr (r := r) (by omega)) dX4_breaksAt_20 ?_
    refine ja_getR fl_X4_30 (zL_o hx (l := sl r) (zR_l2 hr (r := r) (by omega))) rfl (zL_p0 hx (l := sl r) (zR_l2 hr (r := r) (by omega))) dX4_breaksAt_23 ?_
    refine ja_iload_n (i := 1) dX4_breaksAt_26 rfl rfl ?_
    refine ja_iald (zL_a0 hx (l := sl r) (zR_l2 hr (r := r) (by omega))) rfl (by omega) (by decide) dX4_breaksAt_27 ?_
    refine ja_iconst (v := (-1)) dX4_breaksAt_28 (by decide +kernel) ?_
    refine ja_icmp_eq (tgt := 36) dX4_breaksAt_29 (by decide) (fun c29 => ?_) (fun c29 => ?_)
    ·
      refine ja_iconst (v := nI 0) dX4_breaksAt_36 (by decide +kernel) ?_
      refine ja_istore_n (i := 3) dX4_breaksAt_37 rfl rfl (Nat.le_of_ble_eq_true rfl) ?_
      refine ja_iload_n (i := 2) dX4_breaksAt_38 rfl rfl ?_
      refine ja_ifN_eq (tgt := 66) dX4_breaksAt_39 (by decide) (by omega) (fun c39 => ?_) (fun c39 => absurd c39 (by decide))
      refine ja_iconst (v := nI 0) dX4_breaksAt_66 (by decide +kernel) ?_
      refine ja_istore (i := 4) dX4_breaksAt_67 rfl (Nat.le_of_ble_eq_true rfl) ?_
      refine ja_iload (i := 4) dX4_breaksAt_69 rfl ?_
      refine ja_ifN_eq (tgt := 78) dX4_breaksAt_71 (by decide) (by omega) (fun c71 => ?_) (fun c71 => absurd c71 (by decide))
      refine ja_iconst (v := nI 0) dX4_breaksAt_78 (by decide +kernel) ?_
      refine ja_iret rfl rfl dX4_breaksAt_79 (Nat.zero_le _) (Nat.zero_le _) ?_
      exact ⟨congrArg (fun x => some (Value.int (nI x))) (if_neg (fun h => by first | exact h.1 c10 | (have h2 := h.2; first | (rw [if_pos c48] at h2; exact c29 h2) | (rw [if_neg c48] at h2; exact h2 c29)))).symm, rfl, rfl⟩
    ·
      refine ja_iconst (v := nI 1) dX4_breaksAt_32 (by decide +kernel) ?_
      refine ja_goto (tgt := 37) dX4_breaksAt_33 (by decide) ?_
      refine ja_istore_n (i := 3) dX4_breaksAt_37 rfl rfl (Nat.le_of_ble_eq_true rfl) ?_
      refine ja_iload_n (i := 2) dX4_breaksAt_38 rfl rfl ?_
      refine ja_ifN_eq (tgt := 66) dX4_breaksAt_39 (by decide) (by omega) (fun c39 => ?_) (fun c39 => absurd c39 (by decide))
      refine ja_iconst (v := nI 0) dX4_breaksAt_66 (by decide +kernel) ?_
      refine ja_istore (i := 4) dX4_breaksAt_67 rfl (Nat.le_of_ble_eq_true rfl) ?_
      refine ja_iload (i := 4) dX4_breaksAt_69 rfl ?_
      refine ja_ifN_eq (tgt := 78) dX4_breaksAt_71 (by decide) (by omega) (fun c71 => ?_) (fun c71 => absurd c71 (by decide))
      refine ja_iconst (v := nI 0) dX4_breaksAt_78 (by decide +kernel) ?_
      refine ja_iret rfl rfl dX4_breaksAt_79 (Nat.zero_le _) (Nat.zero_le _) ?_
      exact ⟨congrArg (fun x => some (Value.int (nI x))) (if_neg (fun h => by first | exact h.1 c10 | (have h2 := h.2; first | (rw [if_pos c48] at h2; exact c29 h2) | (rw [if_neg c48] at h2; exact h2 c29)))).symm, rfl, rfl⟩
  ·
    refine ja_iconst (v := nI 1) dX4_breaksAt_13 (by decide +kernel) ?_
    refine ja_goto (tgt := 18) dX4_breaksAt_14 (by decide) ?_
    refine ja_istore_n (i := 2) dX4_breaksAt_18 rfl rfl (Nat.le_of_ble_eq_true rfl) ?_
    refine ja_aload_n (i := 0) dX4_breaksAt_19 rfl rfl ?_
    refine ja_getR fl_X4_19 (zR_o hr (r := r) (by omega)) rfl (zR_p2 hr (r := r) (by omega)) dX4_breaksAt_20 ?_
    refine ja_getR fl_X4_30 (zL_o hx (l := sl r) (zR_l2 hr (r := r) (by omega))) rfl (zL_p0 hx (l := sl r) (zR_l2 hr (r := r) (by omega))) dX4_breaksAt_23 ?_
    refine ja_iload_n (i := 1) dX4_breaksAt_26 rfl rfl ?_
    refine ja_iald (zL_a0 hx (l := sl r) (zR_l2 hr (r := r) (by omega))) rfl (by omega) (by decide) dX4_breaksAt_27 ?_
    refine ja_iconst (v := (-1)) dX4_breaksAt_28 (by decide +kernel) ?_
    refine ja_icmp_eq (tgt := 36) dX4_breaksAt_29 (by decide) (fun c29 => ?_) (fun c29 => ?_)
    ·
      refine ja_iconst (v := nI 0) dX4_breaksAt_36 (by decide +kernel) ?_
      refine ja_istore_n (i := 3) dX4_breaksAt_37 rfl rfl (Nat.le_of_ble_eq_true rfl) ?_
      refine ja_iload_n (i := 2) dX4_breaksAt_38 rfl rfl ?_
      refine ja_ifN_eq (tgt := 66) dX4_breaksAt_39 (by decide) (by omega) (fun c39 => absurd c39 (by decide)) (fun c39 => ?_)
      refine ja_aload_n (i := 0) dX4_breaksAt_42 rfl rfl ?_
      refine ja_getI fl_X4_9 (zR_o hr (r := r) (by omega)) rfl dX4_breaksAt_43 ?_
      refine ja_top (y := kd) hkd ?_
      refine ja_bipush (v := nI 105) dX4_breaksAt_46 (by decide +kernel) ?_
      refine ja_icmp_ne (tgt := 58) dX4_breaksAt_48 (by decide) (fun c48 => ?_) (fun c48 => ?_)
      ·
        refine ja_iload_n (i := 3) dX4_breaksAt_58 rfl rfl ?_
        refine ja_ifN_eq (tgt := 66) dX4_breaksAt_59 (by decide) (by omega) (fun c59 => ?_) (fun c59 => absurd c59 (by decide))
        refine ja_iconst (v := nI 0) dX4_breaksAt_66 (by decide +kernel) ?_
        refine ja_istore (i := 4) dX4_breaksAt_67 rfl (Nat.le_of_ble_eq_true rfl) ?_
        refine ja_iload (i := 4) dX4_breaksAt_69 rfl ?_
        refine ja_ifN_eq (tgt := 78) dX4_breaksAt_71 (by decide) (by omega) (fun c71 => ?_) (fun c71 => absurd c71 (by decide))
        refine ja_iconst (v := nI 0) dX4_breaksAt_78 (by decide +kernel) ?_
        refine ja_iret rfl rfl dX4_breaksAt_79 (Nat.zero_le _) (Nat.zero_le _) ?_
        exact ⟨congrArg (fun x => some (Value.int (nI x))) (if_neg (fun h => by first | exact h.1 c10 | (have h2 := h.2; first | (rw [if_pos c48] at h2; exact c29 h2) | (rw [if_neg c48] at h2; exact h2 c29)))).symm, rfl, rfl⟩
      ·
        refine ja_iload_n (i := 3) dX4_breaksAt_51 rfl rfl ?_
        refine ja_ifN_ne (tgt := 66) dX4_breaksAt_52 (by decide) (by omega) (fun c52 => absurd c52 (by decide)) (fun c52 => ?_)
        refine ja_goto (tgt := 62) dX4_breaksAt_55 (by decide) ?_
        refine ja_iconst (v := nI 1) dX4_breaksAt_62 (by decide +kernel) ?_
        refine ja_goto (tgt := 67) dX4_breaksAt_63 (by decide) ?_
        refine ja_istore (i := 4) dX4_breaksAt_67 rfl (Nat.le_of_ble_eq_true rfl) ?_
        refine ja_iload (i := 4) dX4_breaksAt_69 rfl ?_
        refine ja_ifN_eq (tgt := 78) dX4_breaksAt_71 (by decide) (by omega) (fun c71 => absurd c71 (by decide)) (fun c71 => ?_)
        refine ja_iconst (v := nI 1) dX4_breaksAt_74 (by decide +kernel) ?_
        refine ja_goto (tgt := 79) dX4_breaksAt_75 (by decide) ?_
        refine ja_iret rfl rfl dX4_breaksAt_79 (Nat.zero_le _) (Nat.zero_le _) ?_
        exact ⟨congrArg (fun x => some (Value.int (nI x))) (if_pos ⟨c10, by first | (rw [if_pos c48]; assumption) | (rw [if_neg c48]; assumption)⟩).symm, rfl, rfl⟩
    ·
      refine ja_iconst (v := nI 1) dX4_breaksAt_32 (by decide +kernel) ?_
      refine ja_goto (tgt := 37) dX4_breaksAt_33 (by decide) ?_
      refine ja_istore_n (i := 3) dX4_breaksAt_37 rfl rfl (Nat.le_of_ble_eq_true rfl) ?_
      refine ja_iload_n (i := 2) dX4_breaksAt_38 rfl rfl ?_
      refine ja_ifN_eq (tgt := 66) dX4_breaksAt_39 (by decide) (by omega) (fun c39 => absurd c39 (by decide)) (fun c39 => ?_)
      refine ja_aload_n (i := 0) dX4_breaksAt_42 rfl rfl ?_
      refine ja_getI fl_X4_9 (zR_o hr (r := r) (by omega)) rfl dX4_breaksAt_43 ?_
      refine ja_top (y := kd) hkd ?_
      refine ja_bipush (v := nI 105) dX4_breaksAt_46 (by decide +kernel) ?_
      refine ja_icmp_ne (tgt := 58) dX4_breaksAt_48 (by decide) (fun c48 => ?_) (fun c48 => ?_)
      ·
        refine ja_iload_n (i := 3) dX4_breaksAt_58 rfl rfl ?_
        refine ja_ifN_eq (tgt := 66) dX4_breaksAt_59 (by decide) (by omega) (fun c59 => absurd c59 (by decide)) (fun c59 => ?_)
        refine ja_iconst (v := nI 1) dX4_breaksAt_62 (by decide +kernel) ?_
        refine ja_goto (tgt := 67) dX4_breaksAt_63 (by decide) ?_
        refine ja_istore (i := 4) dX4_breaksAt_67 rfl (Nat.le_of_ble_eq_true rfl) ?_
        refine ja_iload (i := 4) dX4_breaksAt_69 rfl ?_
        refine ja_ifN_eq (tgt := 78) dX4_breaksAt_71 (by decide) (by omega) (fun c71 => absurd c71 (by decide)) (fun c71 => ?_)
        refine ja_iconst (v := nI 1) dX4_breaksAt_74 (by decide +kernel) ?_
        refine ja_goto (tgt := 79) dX4_breaksAt_75 (by decide) ?_
        refine ja_iret rfl rfl dX4_breaksAt_79 (Nat.zero_le _) (Nat.zero_le _) ?_
        exact ⟨congrArg (fun x => some (Value.int (nI x))) (if_pos ⟨c10, by first | (rw [if_pos c48]; assumption) | (rw [if_neg c48]; assumption)⟩).symm, rfl, rfl⟩
      ·
        refine ja_iload_n (i := 3) dX4_breaksAt_51 rfl rfl ?_
        refine ja_ifN_ne (tgt := 66) dX4_breaksAt_52 (by decide) (by omega) (fun c52 => ?_) (fun c52 => absurd c52 (by decide))
        refine ja_iconst (v := nI 0) dX4_breaksAt_66 (by decide +kernel) ?_
        refine ja_istore (i := 4) dX4_breaksAt_67 rfl (Nat.le_of_ble_eq_true rfl) ?_
        refine ja_iload (i := 4) dX4_breaksAt_69 rfl ?_
        refine ja_ifN_eq (tgt := 78) dX4_breaksAt_71 (by decide) (by omega) (fun c71 => ?_) (fun c71 => absurd c71 (by decide))
        refine ja_iconst (v := nI 0) dX4_breaksAt_78 (by decide +kernel) ?_
        refine ja_iret rfl rfl dX4_breaksAt_79 (Nat.zero_le _) (Nat.zero_le _) ?_
        exact ⟨congrArg (fun x => some (Value.int (nI x))) (if_neg (fun h => by first | exact h.1 c10 | (have h2 := h.2; first | (rw [if_pos c48] at h2; exact c29 h2) | (rw [if_neg c48] at h2; exact h2 c29)))).symm, rfl, rfl⟩
