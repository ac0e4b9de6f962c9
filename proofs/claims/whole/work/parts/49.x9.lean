/-! THE CLASS: a version -/
/-- a version's box, as it stands in the class -/
def vbx (D : jD) (v x y w h : Nat) : Prop := D (70 + 4 * v) 4 = nI x ∧ D (70 + 4 * v) 5 = nI y ∧ D (70 + 4 * v) 6 = nI (x + w) ∧ D (70 + 4 * v) 7 = nI (y + h) ∧ x + w ≤ 16 ∧ y + h ≤ 16 ∧ 1 ≤ w ∧ 1 ≤ h
def xch (D : jD) (v : Nat) (g : Nat → Bool) (q : Nat) : Bool := g q && decide (¬ D (71 + 4 * v) q = D (73 + 4 * v) q)
def xcf (D : jD) (v l : Nat) (g : Nat → Bool) (q : Nat) : Bool := xch D v g q && decide (¬ D (31 + 10 * l) q = D (73 + 4 * v) q) && decide (¬ D (31 + 10 * l) q = D (71 + 4 * v) q)
def xdu (D : jD) (v l : Nat) (g : Nat → Bool) (sv : Bool) (q : Nat) : Bool := xch D v g q && (sv || decide (D (31 + 10 * l) q = D (73 + 4 * v) q))

set_option maxRecDepth 100000 in
set_option maxHeartbeats 4000000 in
theorem c_holds (l : Launch) {Z : jZ} {D : jD} (hx : zX Z) {vn v x y w h : Nat} {vl : Nat → Nat} (hv : zXv Z vn vl) (hvn : v < vn) (hb : vbx D v x y w h) {q : Nat} (hq : q < 256) : ja_M l (mX6_holds 0 0) [.ref (70 + 4 * v), .int (nI (q))] Z D (ja_jr (some (.int (bI (inB x y w h q)))) Z D) ja_x0 := by
  obtain ⟨b1, b2, b3, b4, b5, b6, b7, b8⟩ := hb
  refine ja_Mof (lv := [some (.ref (70 + 4 * v)), some (.int (nI (q))), none, none]) (by decide +kernel) rfl rfl (Nat.le_of_ble_eq_true rfl) rfl ?_
  refine ja_iload_n (i := 1) dX6_holds_0 rfl rfl ?_
  refine ja_bipush (v := nI 16) dX6_holds_1 (by decide +kernel) ?_
  refine ja_iremN dX6_holds_3 (by omega) (by omega) (by omega) ?_
  refine ja_istore_n (i := 2) dX6_holds_4 rfl rfl (Nat.le_of_ble_eq_true rfl) ?_
  refine ja_iload_n (i := 1) dX6_holds_5 rfl rfl ?_
  refine ja_bipush (v := nI 16) dX6_holds_6 (by decide +kernel) ?_
  refine ja_idivN dX6_holds_8 (by omega) (by omega) (by omega) ?_
  refine ja_istore_n (i := 3) dX6_holds_9 rfl rfl (Nat.le_of_ble_eq_true rfl) ?_
  refine ja_iload_n (i := 2) dX6_holds_10 rfl rfl ?_
  refine ja_aload_n (i := 0) dX6_holds_11 rfl rfl ?_
  refine ja_getI fl_X6_25 (zV_o hv (v := v) (by omega)) rfl dX6_holds_12 ?_
  refine ja_top (y := nI (x)) b1 ?_
  refine ja_icmpN_lt (tgt := 46) dX6_holds_15 (by decide) (by omega) (by omega) (fun c15 => ?_) (fun c15 => ?_)
  ·
    refine ja_iconst (v := nI 0) dX6_holds_46 (by decide +kernel) ?_
    refine ja_iret rfl (by decide +kernel) dX6_holds_47 (Nat.zero_le _) (Nat.zero_le _) ?_
    exact ⟨by rw [inB]; first | (rw [decide_eq_false (p := x ≤ q % 16 ∧ q % 16 ≤ x + w - 1) (by omega)]; rfl) | (rw [decide_eq_false (p := y ≤ q / 16 ∧ q / 16 ≤ y + h - 1) (by omega), Bool.and_false]; rfl), rfl, rfl⟩
  ·
    refine ja_iload_n (i := 2) dX6_holds_18 rfl rfl ?_
    refine ja_aload_n (i := 0) dX6_holds_19 rfl rfl ?_
    refine ja_getI fl_X6_32 (zV_o hv (v := v) (by omega)) rfl dX6_holds_20 ?_
    refine ja_top (y := nI (x + w)) b3 ?_
    refine ja_icmpN_ge (tgt := 46) dX6_holds_23 (by decide) (by omega) (by omega) (fun c23 => ?_) (fun c23 => ?_)
    ·
      refine ja_iconst (v := nI 0) dX6_holds_46 (by decide +kernel) ?_
      refine ja_iret rfl (by decide +kernel) dX6_holds_47 (Nat.zero_le _) (Nat.zero_le _) ?_
      exact ⟨by rw [inB]; first | (rw [decide_eq_false (p := x ≤ q % 16 ∧ q % 16 ≤ x + w - 1) (by omega)]; rfl) | (rw [decide_eq_false (p := y ≤ q / 16 ∧ q / 16 ≤ y + h - 1) (by omega), Bool.and_false]; rfl), rfl, rfl⟩
    ·
      refine ja_iload_n (i := 3) dX6_holds_26 rfl rfl ?_
      refine ja_aload_n (i := 0) dX6_holds_27 rfl rfl ?_
      refine ja_getI fl_X6_29 (zV_o hv (v := v) (by omega)) rfl dX6_holds_28 ?_
      refine ja_top (y := nI (y)) b2 ?_
      refine ja_icmpN_lt (tgt := 46) dX6_holds_31 (by decide) (by omega) (by omega) (fun c31 => ?_) (fun c31 => ?_)
      ·
        refine ja_iconst (v := nI 0) dX6_holds_46 (by decide +kernel) ?_
        refine ja_iret rfl (by decide +kernel) dX6_holds_47 (Nat.zero_le _) (Nat.zero_le _) ?_
        exact ⟨by rw [inB]; first | (rw [decide_eq_false (p := x ≤ q % 16 ∧ q % 16 ≤ x + w - 1) (by omega)]; rfl) | (rw [decide_eq_false (p := y ≤ q / 16 ∧ q / 16 ≤ y + h - 1) (by omega), Bool.and_false]; rfl), rfl, rfl⟩
      ·
        refine ja_iload_n (i := 3) dX6_holds_34 rfl rfl ?_
        refine ja_aload_n (i := 0) dX6_holds_35 rfl rfl ?_
        refine ja_getI fl_X6_35 (zV_o hv (v := v) (by omega)) rfl dX6_holds_36 ?_
        refine ja_top (y := nI (y + h)) b4 ?_
        refine ja_icmpN_ge (tgt := 46) dX6_holds_39 (by decide) (by omega) (by omega) (fun c39 => ?_) (fun c39 => ?_)
        ·
          refine ja_iconst (v := nI 0) dX6_holds_46 (by decide +kernel) ?_
          refine ja_iret rfl (by decide +kernel) dX6_holds_47 (Nat.zero_le _) (Nat.zero_le _) ?_
          exact ⟨by rw [inB]; first | (rw [decide_eq_false (p := x ≤ q % 16 ∧ q % 16 ≤ x + w - 1) (by omega)]; rfl) | (rw [decide_eq_false (p := y ≤ q / 16 ∧ q / 16 ≤ y + h - 1) (by omega), Bool.and_false]; rfl), rfl, rfl⟩
        ·
          refine ja_iconst (v := nI 1) dX6_holds_42 (by decide +kernel) ?_
          refine ja_goto (tgt := 47) dX6_holds_43 (by decide) ?_
          refine ja_iret rfl (by decide +kernel) dX6_holds_47 (Nat.zero_le _) (Nat.zero_le _) ?_
          exact ⟨by rw [inB, decide_eq_true (by omega), decide_eq_true (by omega)]; rfl, rfl, rfl⟩

set_option maxRecDepth 100000 in
set_option maxHeartbeats 4000000 in
theorem c_isChanged (l : Launch) {Z : jZ} {D : jD} (hx : zX Z) {vn v x y w h : Nat} {vl : Nat → Nat} (hv : zXv Z vn vl) (hvn : v < vn) (hb : vbx D v x y w h) {q : Nat} (hq : q < 256) : ja_M l (mX6_isChanged 0 0) [.ref (70 + 4 * v), .int (nI (q))] Z D (ja_jr (some (.int (bI (xch D v (inB x y w h) q)))) Z D) ja_x0 := by
  refine ja_Mof (lv := [some (.ref (70 + 4 * v)), some (.int (nI (q)))]) (by decide +kernel) rfl rfl (Nat.le_of_ble_eq_true rfl) rfl ?_
  refine ja_aload_n (i := 0) dX6_isChanged_0 rfl rfl ?_
  refine ja_iload_n (i := 1) dX6_isChanged_1 rfl rfl ?_
  refine ja_cVr (st := []) (c_holds (D := D) l hx hv hvn hb (q := q) (by omega)) rfl rfl (ce_X6_holds 0 0) im_X6_holds se_X6_holds lk_X6_54 k_X6 (zV_o hv (v := v) (by omega)) ⟨(Nat.le_of_ble_eq_true rfl), (Nat.le_of_ble_eq_true rfl)⟩ dX6_isChanged_2 rfl rfl (Nat.le_of_ble_eq_true rfl) (Nat.zero_le _) (Nat.zero_le _) ?_
  refine ja_ifB_eq (tgt := 27) dX6_isChanged_5 (by decide) (fun c5 => ?_) (fun c5 => ?_)
  ·
    refine ja_iconst (v := nI 0) dX6_isChanged_27 (by decide +kernel) ?_
    refine ja_iret rfl (by decide +kernel) dX6_isChanged_28 (Nat.zero_le _) (Nat.zero_le _) ?_
    exact ⟨by rw [show xch D v (inB x y w h) q = false from by rw [xch]; simp_all]; rfl, rfl, rfl⟩
  ·
    refine ja_aload_n (i := 0) dX6_isChanged_8 rfl rfl ?_
    refine ja_getR fl_X6_9 (zV_o hv (v := v) (by omega)) rfl (zV_p1 hv (v := v) (by omega)) dX6_isChanged_9 ?_
    refine ja_iload_n (i := 1) dX6_isChanged_12 rfl rfl ?_
    refine ja_iald (zV_a1 hv (v := v) (by omega)) rfl (by omega) (by decide) dX6_isChanged_13 ?_
    refine ja_aload_n (i := 0) dX6_isChanged_14 rfl rfl ?_
    refine ja_getR fl_X6_18 (zV_o hv (v := v) (by omega)) rfl (zV_p3 hv (v := v) (by omega)) dX6_isChanged_15 ?_
    refine ja_iload_n (i := 1) dX6_isChanged_18 rfl rfl ?_
    refine ja_iald (zV_a3 hv (v := v) (by omega)) rfl (by omega) (by decide) dX6_isChanged_19 ?_
    refine ja_icmp_eq (tgt := 27) dX6_isChanged_20 (by decide) (fun c20 => ?_) (fun c20 => ?_)
    ·
      refine ja_iconst (v := nI 0) dX6_isChanged_27 (by decide +kernel) ?_
      refine ja_iret rfl (by decide +kernel) dX6_isChanged_28 (Nat.zero_le _) (Nat.zero_le _) ?_
      exact ⟨by rw [show xch D v (inB x y w h) q = false from by rw [xch]; simp_all]; rfl, rfl, rfl⟩
    ·
      refine ja_iconst (v := nI 1) dX6_isChanged_23 (by decide +kernel) ?_
      refine ja_goto (tgt := 28) dX6_isChanged_24 (by decide) ?_
      refine ja_iret rfl (by decide +kernel) dX6_isChanged_28 (Nat.zero_le _) (Nat.zero_le _) ?_
      exact ⟨by rw [show xch D v (inB x y w h) q = true from by rw [xch]; simp_all]; rfl, rfl, rfl⟩

set_option maxRecDepth 100000 in
set_option maxHeartbeats 4000000 in
theorem c_isConflict (l : Launch) {Z : jZ} {D : jD} (hx : zX Z) {vn v x y w h : Nat} {vl : Nat → Nat} (hv : zXv Z vn vl) (hvn : v < vn) (hb : vbx D v x y w h) {q : Nat} (hq : q < 256) : ja_M l (mX6_isConflict 0 0) [.ref (70 + 4 * v), .int (nI (q))] Z D (ja_jr (some (.int (bI (xcf D v (vl v) (inB x y w h) q)))) Z D) ja_x0 := by
  refine ja_Mof (lv := [some (.ref (70 + 4 * v)), some (.int (nI (q)))]) (by decide +kernel) rfl rfl (Nat.le_of_ble_eq_true rfl) rfl ?_
  refine ja_aload_n (i := 0) dX6_isConflict_0 rfl rfl ?_
  refine ja_iload_n (i := 1) dX6_isConflict_1 rfl rfl ?_
  refine ja_cVr (st := []) (c_isChanged (D := D) l hx hv hvn hb (q := q) (by omega)) rfl rfl (ce_X6_isChanged 0 0) im_X6_isChanged se_X6_isChanged lk_X6_51 k_X6 (zV_o hv (v := v) (by omega)) ⟨(Nat.le_of_ble_eq_true rfl), (Nat.le_of_ble_eq_true rfl)⟩ dX6_isConflict_2 rfl rfl (Nat.le_of_ble_eq_true rfl) (Nat.zero_le _) (Nat.zero_le _) ?_
  refine ja_ifB_eq (tgt := 48) dX6_isConflict_5 (by decide) (fun c5 => ?_) (fun c5 => ?_)
  ·
    refine ja_iconst (v := nI 0) dX6_isConflict_48 (by decide +kernel) ?_
    refine ja_iret rfl (by decide +kernel) dX6_isConflict_49 (Nat.zero_le _) (Nat.zero_le _) ?_
    exact ⟨by rw [show xcf D v (vl v) (inB x y w h) q = false from by rw [xcf]; simp_all]; rfl, rfl, rfl⟩
  ·
    refine ja_aload_n (i := 0) dX6_isConflict_8 rfl rfl ?_
    refine ja_getR fl_X6_21 (zV_o hv (v := v) (by omega)) rfl (zV_p0 hv (v := v) (by omega)) dX6_isConflict_9 ?_
    refine ja_getR fl_X6_38 (zL_o hx (l := vl v) (zV_l0 hv (v := v) (by omega))) rfl (zL_p0 hx (l := vl v) (zV_l0 hv (v := v) (by omega))) dX6_isConflict_12 ?_
    refine ja_iload_n (i := 1) dX6_isConflict_15 rfl rfl ?_
    refine ja_iald (zL_a0 hx (l := vl v) (zV_l0 hv (v := v) (by omega))) rfl (by omega) (by decide) dX6_isConflict_16 ?_
    refine ja_aload_n (i := 0) dX6_isConflict_17 rfl rfl ?_
    refine ja_getR fl_X6_18 (zV_o hv (v := v) (by omega)) rfl (zV_p3 hv (v := v) (by omega)) dX6_isConflict_18 ?_
    refine ja_iload_n (i := 1) dX6_isConflict_21 rfl rfl ?_
    refine ja_iald (zV_a3 hv (v := v) (by omega)) rfl (by omega) (by decide) dX6_isConflict_22 ?_
    refine ja_icmp_eq (tgt := 48) dX6_isConflict_23 (by decide) (fun c23 => ?_) (fun c23 => ?_)
    ·
      refine ja_iconst (v := nI 0) dX6_isConflict_48 (by decide +kernel) ?_
      refine ja_iret rfl (by decide +kernel) dX6_isConflict_49 (Nat.zero_le _) (Nat.zero_le _) ?_
      exact ⟨by rw [show xcf D v (vl v) (inB x y w h) q = false from by rw [xcf]; simp_all]; rfl, rfl, rfl⟩
    ·
      refine ja_aload_n (i := 0) dX6_isConflict_26 rfl rfl ?_
      refine ja_getR fl_X6_21 (zV_o hv (v := v) (by omega)) rfl (zV_p0 hv (v := v) (by omega)) dX6_isConflict_27 ?_
      refine ja_getR fl_X6_38 (zL_o hx (l := vl v) (zV_l0 hv (v := v) (by omega))) rfl (zL_p0 hx (l := vl v) (zV_l0 hv (v := v) (by omega))) dX6_isConflict_30 ?_
      refine ja_iload_n (i := 1) dX6_isConflict_33 rfl rfl ?_
      refine ja_iald (zL_a0 hx (l := vl v) (zV_l0 hv (v := v) (by omega))) rfl (by omega) (by decide) dX6_isConflict_34 ?_
      refine ja_aload_n (i := 0) dX6_isConflict_35 rfl rfl ?_
      refine ja_getR fl_X6_9 (zV_o hv (v := v) (by omega)) rfl (zV_p1 hv (v := v) (by omega)) dX6_isConflict_36 ?_
      refine ja_iload_n (i := 1) dX6_isConflict_39 rfl rfl ?_
      refine ja_iald (zV_a1 hv (v := v) (by omega)) rfl (by omega) (by decide) dX6_isConflict_40 ?_
      refine ja_icmp_eq (tgt := 48) dX6_isConflict_41 (by decide) (fun c41 => ?_) (fun c41 => ?_)
      ·
        refine ja_iconst (v := nI 0) dX6_isConflict_48 (by decide +kernel) ?_
        refine ja_iret rfl (by decide +kernel) dX6_isConflict_49 (Nat.zero_le _) (Nat.zero_le _) ?_
        exact ⟨by rw [show xcf D v (vl v) (inB x y w h) q = false from by rw [xcf]; simp_all]; rfl, rfl, rfl⟩
      ·
        refine ja_iconst (v := nI 1) dX6_isConflict_44 (by decide +kernel) ?_
        refine ja_goto (tgt := 49) dX6_isConflict_45 (by decide) ?_
        refine ja_iret rfl (by decide +kernel) dX6_isConflict_49 (Nat.zero_le _) (Nat.zero_le _) ?_
        exact ⟨by rw [show xcf D v (vl v) (inB x y w h) q = true from by rw [xcf]; simp_all]; rfl, rfl, rfl⟩

set_option maxRecDepth 100000 in
set_option maxHeartbeats 4000000 in
theorem c_isDue (l : Launch) {Z : jZ} {D : jD} (hx : zX Z) {vn v x y w h : Nat} {vl : Nat → Nat} (hv : zXv Z vn vl) (hvn : v < vn) (hb : vbx D v x y w h) {q : Nat} {sv : Bool} (hq : q < 256) : ja_M l (mX6_isDue 0 0) [.ref (70 + 4 * v), .int (nI (q)), .int (bI (sv))] Z D (ja_jr (some (.int (bI (xdu D v (vl v) (inB x y w h) sv q)))) Z D) ja_x0 := by
  refine ja_Mof (lv := [some (.ref (70 + 4 * v)), some (.int (nI (q))), some (.int (bI (sv)))]) (by decide +kernel) rfl rfl (Nat.le_of_ble_eq_true rfl) rfl ?_
  refine ja_aload_n (i := 0) dX6_isDue_0 rfl rfl ?_
  refine ja_iload_n (i := 1) dX6_isDue_1 rfl rfl ?_
  refine ja_cVr (st := []) (c_isChanged (D := D) l hx hv hvn hb (q := q) (by omega)) rfl rfl (ce_X6_isChanged 0 0) im_X6_isChanged se_X6_isChanged lk_X6_51 k_X6 (zV_o hv (v := v) (by omega)) ⟨(Nat.le_of_ble_eq_true rfl), (Nat.le_of_ble_eq_true rfl)⟩ dX6_isDue_2 rfl rfl (Nat.le_of_ble_eq_true rfl) (Nat.zero_le _) (Nat.zero_le _) ?_
  refine ja_ifB_eq (tgt := 34) dX6_isDue_5 (by decide) (fun c5 => ?_) (fun c5 => ?_)
  ·
    refine ja_iconst (v := nI 0) dX6_isDue_34 (by decide +kernel) ?_
    refine ja_iret rfl (by decide +kernel) dX6_isDue_35 (Nat.zero_le _) (Nat.zero_le _) ?_
    exact ⟨by rw [show xdu D v (vl v) (inB x y w h) sv q = false from by rw [xdu]; simp_all]; rfl, rfl, rfl⟩
  ·
    refine ja_iload_n (i := 2) dX6_isDue_8 rfl rfl ?_
    refine ja_ifB_ne (tgt := 30) dX6_isDue_9 (by decide) (fun c9 => ?_) (fun c9 => ?_)
    ·
      refine ja_iconst (v := nI 1) dX6_isDue_30 (by decide +kernel) ?_
      refine ja_goto (tgt := 35) dX6_isDue_31 (by decide) ?_
      refine ja_iret rfl (by decide +kernel) dX6_isDue_35 (Nat.zero_le _) (Nat.zero_le _) ?_
      exact ⟨by rw [show xdu D v (vl v) (inB x y w h) sv q = true from by rw [xdu]; simp_all]; rfl, rfl, rfl⟩
    ·
      refine ja_aload_n (i := 0) dX6_isDue_12 rfl rfl ?_
      refine ja_getR fl_X6_21 (zV_o hv (v := v) (by omega)) rfl (zV_p0 hv (v := v) (by omega)) dX6_isDue_13 ?_
      refine ja_getR fl_X6_38 (zL_o hx (l := vl v) (zV_l0 hv (v := v) (by omega))) rfl (zL_p0 hx (l := vl v) (zV_l0 hv (v := v) (by omega))) dX6_isDue_16 ?_
      refine ja_iload_n (i := 1) dX6_isDue_19 rfl rfl ?_
      refine ja_iald (zL_a0 hx (l := vl v) (zV_l0 hv (v := v) (by omega))) rfl (by omega) (by decide) dX6_isDue_20 ?_
      refine ja_aload_n (i := 0) dX6_isDue_21 rfl rfl ?_
      refine ja_getR fl_X6_18 (zV_o hv (v := v) (by omega)) rfl (zV_p3 hv (v := v) (by omega)) dX6_isDue_22 ?_
      refine ja_iload_n (i := 1) dX6_isDue_25 rfl rfl ?_
      refine ja_iald (zV_a3 hv (v := v) (by omega)) rfl (by omega) (by decide) dX6_isDue_26 ?_
      refine ja_icmp_ne (tgt := 34) dX6_isDue_27 (by decide) (fun c27 => ?_) (fun c27 => ?_)
      ·
        refine ja_iconst (v := nI 0) dX6_isDue_34 (by decide +kernel) ?_
        refine ja_iret rfl (by decide +kernel) dX6_isDue_35 (Nat.zero_le _) (Nat.zero_le _) ?_
        exact ⟨by rw [show xdu D v (vl v) (inB x y w h) sv q = false from by rw [xdu]; simp_all]; rfl, rfl, rfl⟩
      ·
        refine ja_iconst (v := nI 1) dX6_isDue_30 (by decide +kernel) ?_
        refine ja_goto (tgt := 35) dX6_isDue_31 (by decide) ?_
        refine ja_iret rfl (by decide +kernel) dX6_isDue_35 (Nat.zero_le _) (Nat.zero_le _) ?_
        exact ⟨by rw [show xdu D v (vl v) (inB x y w h) sv q = true from by rw [xdu]; simp_all]; rfl, rfl, rfl⟩
