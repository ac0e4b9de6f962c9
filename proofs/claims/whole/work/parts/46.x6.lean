/-! THE CLASS: layers, 4 -/
def lsI (D : jD) (ly : Nat) : Option Nat → jD
  | none => D
  | some b => ja_up D (37 + 10 * ly) b (D (37 + 10 * ly) b + nI 1)
/-- a square that is not t's is given to t -/
def giv (D : jD) (ly q : Nat) (b t : Option Nat) : jD := ja_up (ptU (lsI D ly b) ly q b t) (30 + 10 * ly) 8 (ptU (lsI D ly b) ly q b t (30 + 10 * ly) 8 + nI 1)

set_option maxRecDepth 100000 in
set_option maxHeartbeats 4000000 in
theorem c_giveNe (l : Launch) {Z : jZ} {D : jD} (hx : zX Z) {ly : Nat} (h1 : ly < 3) {q b : Nat} (hq : q < 256) (hs : D (31 + 10 * ly) q = (-1)) : ja_M l (mX1_give 0 0) [.ref (30 + 10 * ly), .int (nI (q)), .int ((-1))] Z D (ja_jr none Z D) ja_x0 := by
  refine ja_Mof (lv := [some (.ref (30 + 10 * ly)), some (.int (nI (q))), some (.int ((-1))), none]) (by decide +kernel) rfl rfl (Nat.le_of_ble_eq_true rfl) rfl ?_
  refine ja_iload_n (i := 1) dX1_give_0 rfl rfl ?_
  refine ja_ifN_lt dX1_give_1 (tgt := 21) (by decide) (by omega) ?_
  refine ja_iload_n (i := 1) dX1_give_4 rfl rfl ?_
  refine ja_sipush (v := nI 256) dX1_give_5 (by decide +kernel) ?_
  refine ja_icmpN_ge (tgt := 21) dX1_give_8 (by decide) (by omega) (by omega) (fun c8 => (by exfalso; omega)) (fun c8 => ?_)
  refine ja_aload_n (i := 0) dX1_give_11 rfl rfl ?_
  refine ja_getR fl_X1_9 (zL_o hx (l := ly) (by omega)) rfl (zL_p0 hx (l := ly) (by omega)) dX1_give_12 ?_
  refine ja_iload_n (i := 1) dX1_give_15 rfl rfl ?_
  refine ja_iald (zL_a0 hx (l := ly) (by omega)) rfl (by omega) (by decide) dX1_give_16 ?_
  refine ja_top (y := (-1)) hs ?_
  refine ja_iload_n (i := 2) dX1_give_17 rfl rfl ?_
  refine ja_icmp_ne (tgt := 22) dX1_give_18 (by decide) (fun c18 => absurd rfl c18) (fun c18 => ?_)
  refine ja_vret rfl dX1_give_21 (Nat.zero_le _) (Nat.zero_le _) ?_
  exact ⟨rfl, rfl, rfl⟩

set_option maxRecDepth 100000 in
set_option maxHeartbeats 4000000 in
theorem c_giveNS (l : Launch) {Z : jZ} {D : jD} (hx : zX Z) {ly : Nat} (h1 : ly < 3) {q b a : Nat} (hq : q < 256) (ha : a < 10) (hs : D (31 + 10 * ly) q = (-1)) : ja_M l (mX1_give 0 0) [.ref (30 + 10 * ly), .int (nI (q)), .int (nI (a))] Z D (ja_jd none Z (fun D2 => D2 = giv D ly q none (some a))) ja_x0 := by
  refine ja_Mof (lv := [some (.ref (30 + 10 * ly)), some (.int (nI (q))), some (.int (nI (a))), none]) (by decide +kernel) rfl rfl (Nat.le_of_ble_eq_true rfl) rfl ?_
  refine ja_iload_n (i := 1) dX1_give_0 rfl rfl ?_
  refine ja_ifN_lt dX1_give_1 (tgt := 21) (by decide) (by omega) ?_
  refine ja_iload_n (i := 1) dX1_give_4 rfl rfl ?_
  refine ja_sipush (v := nI 256) dX1_give_5 (by decide +kernel) ?_
  refine ja_icmpN_ge (tgt := 21) dX1_give_8 (by decide) (by omega) (by omega) (fun c8 => (by exfalso; omega)) (fun c8 => ?_)
  refine ja_aload_n (i := 0) dX1_give_11 rfl rfl ?_
  refine ja_getR fl_X1_9 (zL_o hx (l := ly) (by omega)) rfl (zL_p0 hx (l := ly) (by omega)) dX1_give_12 ?_
  refine ja_iload_n (i := 1) dX1_give_15 rfl rfl ?_
  refine ja_iald (zL_a0 hx (l := ly) (by omega)) rfl (by omega) (by decide) dX1_give_16 ?_
  refine ja_top (y := (-1)) hs ?_
  refine ja_iload_n (i := 2) dX1_give_17 rfl rfl ?_
  refine ja_icmp_ne (tgt := 22) dX1_give_18 (by decide) (fun c18 => ?_) (fun c18 => absurd c18.symm (nI_nm1 (by omega)))
  refine ja_aload_n (i := 0) dX1_give_22 rfl rfl ?_
  refine ja_getR fl_X1_9 (zL_o hx (l := ly) (by omega)) rfl (zL_p0 hx (l := ly) (by omega)) dX1_give_23 ?_
  refine ja_iload_n (i := 1) dX1_give_26 rfl rfl ?_
  refine ja_iald (zL_a0 hx (l := ly) (by omega)) rfl (by omega) (by decide) dX1_give_27 ?_
  refine ja_top (y := (-1)) hs ?_
  refine ja_istore_n (i := 3) dX1_give_28 rfl rfl (Nat.le_of_ble_eq_true rfl) ?_
  refine ja_iload_n (i := 3) dX1_give_29 rfl rfl ?_
  refine ja_cNr (st := []) (c_isAreaN l) rfl rfl (ce_X7_isArea 0 0) st_X7_isArea nk_X1_47 ⟨(Nat.le_of_ble_eq_true rfl), (Nat.le_of_ble_eq_true rfl)⟩ dX1_give_30 rfl rfl (Nat.le_of_ble_eq_true rfl) (Nat.zero_le _) (Nat.zero_le _) ?_
  refine ja_ifB_eq (tgt := 46) dX1_give_33 (by decide) (fun c33 => ?_) (fun c33 => absurd c33 (by decide))
  refine ja_aload_n (i := 0) dX1_give_46 rfl rfl ?_
  refine ja_iload_n (i := 1) dX1_give_47 rfl rfl ?_
  refine ja_iload_n (i := 2) dX1_give_48 rfl rfl ?_
  refine ja_cVd0 (st := []) (c_putNS (D := D) l hx h1 (b := 0) hq ha hs) rfl rfl (ce_X1_put 0 0) im_X1_put se_X1_put lk_X1_51 k_X1 (zL_o hx (l := ly) (by omega)) ⟨(Nat.le_of_ble_eq_true rfl), (Nat.le_of_ble_eq_true rfl)⟩ dX1_give_49 rfl rfl (Nat.le_of_ble_eq_true rfl) (Nat.zero_le _) (Nat.zero_le _) ?_
  intro D49 hD49
  subst hD49
  refine ja_aload_n (i := 0) dX1_give_52 rfl rfl ?_
  refine ja_dup dX1_give_53 rfl ?_
  refine ja_getI fl_X1_43 (zL_o hx (l := ly) (by omega)) rfl dX1_give_54 ?_
  refine ja_iconst (v := nI 1) dX1_give_57 (by decide +kernel) ?_
  refine ja_iadd dX1_give_58 ?_
  refine ja_putI fl_X1_43 (zL_o hx (l := ly) (by omega)) rfl rfl rfl dX1_give_59 ?_
  refine ja_vret rfl dX1_give_62 (Nat.zero_le _) (Nat.zero_le _) ?_
  exact ⟨rfl, rfl, rfl⟩

set_option maxRecDepth 100000 in
set_option maxHeartbeats 4000000 in
theorem c_giveSN (l : Launch) {Z : jZ} {D : jD} (hx : zX Z) {ly : Nat} (h1 : ly < 3) {q b a : Nat} (hq : q < 256) (hb : b < 10) (hs : D (31 + 10 * ly) q = nI (b)) : ja_M l (mX1_give 0 0) [.ref (30 + 10 * ly), .int (nI (q)), .int ((-1))] Z D (ja_jd none Z (fun D2 => D2 = giv D ly q (some b) none)) ja_x0 := by
  refine ja_Mof (lv := [some (.ref (30 + 10 * ly)), some (.int (nI (q))), some (.int ((-1))), none]) (by decide +kernel) rfl rfl (Nat.le_of_ble_eq_true rfl) rfl ?_
  refine ja_iload_n (i := 1) dX1_give_0 rfl rfl ?_
  refine ja_ifN_lt dX1_give_1 (tgt := 21) (by decide) (by omega) ?_
  refine ja_iload_n (i := 1) dX1_give_4 rfl rfl ?_
  refine ja_sipush (v := nI 256) dX1_give_5 (by decide +kernel) ?_
  refine ja_icmpN_ge (tgt := 21) dX1_give_8 (by decide) (by omega) (by omega) (fun c8 => (by exfalso; omega)) (fun c8 => ?_)
  refine ja_aload_n (i := 0) dX1_give_11 rfl rfl ?_
  refine ja_getR fl_X1_9 (zL_o hx (l := ly) (by omega)) rfl (zL_p0 hx (l := ly) (by omega)) dX1_give_12 ?_
  refine ja_iload_n (i := 1) dX1_give_15 rfl rfl ?_
  refine ja_iald (zL_a0 hx (l := ly) (by omega)) rfl (by omega) (by decide) dX1_give_16 ?_
  refine ja_top (y := nI (b)) hs ?_
  refine ja_iload_n (i := 2) dX1_give_17 rfl rfl ?_
  refine ja_icmp_ne (tgt := 22) dX1_give_18 (by decide) (fun c18 => ?_) (fun c18 => absurd c18 (nI_nm1 (by omega)))
  refine ja_aload_n (i := 0) dX1_give_22 rfl rfl ?_
  refine ja_getR fl_X1_9 (zL_o hx (l := ly) (by omega)) rfl (zL_p0 hx (l := ly) (by omega)) dX1_give_23 ?_
  refine ja_iload_n (i := 1) dX1_give_26 rfl rfl ?_
  refine ja_iald (zL_a0 hx (l := ly) (by omega)) rfl (by omega) (by decide) dX1_give_27 ?_
  refine ja_top (y := nI (b)) hs ?_
  refine ja_istore_n (i := 3) dX1_give_28 rfl rfl (Nat.le_of_ble_eq_true rfl) ?_
  refine ja_iload_n (i := 3) dX1_give_29 rfl rfl ?_
  refine ja_cNr (st := []) (c_isAreaT l (by omega)) rfl rfl (ce_X7_isArea 0 0) st_X7_isArea nk_X1_47 ⟨(Nat.le_of_ble_eq_true rfl), (Nat.le_of_ble_eq_true rfl)⟩ dX1_give_30 rfl rfl (Nat.le_of_ble_eq_true rfl) (Nat.zero_le _) (Nat.zero_le _) ?_
  refine ja_ifB_eq (tgt := 46) dX1_give_33 (by decide) (fun c33 => absurd c33 (by decide)) (fun c33 => ?_)
  refine ja_aload_n (i := 0) dX1_give_36 rfl rfl ?_
  refine ja_getR fl_X1_34 (zL_o hx (l := ly) (by omega)) rfl (zL_p7 hx (l := ly) (by omega)) dX1_give_37 ?_
  refine ja_iload_n (i := 3) dX1_give_40 rfl rfl ?_
  refine ja_dup2 dX1_give_41 rfl rfl ?_
  refine ja_iald (zL_a7 hx (l := ly) (by omega)) rfl (by omega) (by decide) dX1_give_42 ?_
  refine ja_iconst (v := nI 1) dX1_give_43 (by decide +kernel) ?_
  refine ja_iadd dX1_give_44 ?_
  refine ja_iast (zL_a7 hx (l := ly) (by omega)) rfl (by omega) (by decide) dX1_give_45 ?_
  refine ja_aload_n (i := 0) dX1_give_46 rfl rfl ?_
  refine ja_iload_n (i := 1) dX1_give_47 rfl rfl ?_
  refine ja_iload_n (i := 2) dX1_give_48 rfl rfl ?_
  refine ja_cVd0 (st := []) (c_putSN (D := (ja_up D (37 + 10 * ly) b ((D (37 + 10 * ly) b + nI (1))))) l hx h1 (a := 0) hq hb (by rw [up_o (by omega)]; exact hs)) rfl rfl (ce_X1_put 0 0) im_X1_put se_X1_put lk_X1_51 k_X1 (zL_o hx (l := ly) (by omega)) ⟨(Nat.le_of_ble_eq_true rfl), (Nat.le_of_ble_eq_true rfl)⟩ dX1_give_49 rfl rfl (Nat.le_of_ble_eq_true rfl) (Nat.zero_le _) (Nat.zero_le _) ?_
  intro D49 hD49
  subst hD49
  refine ja_aload_n (i := 0) dX1_give_52 rfl rfl ?_
  refine ja_dup dX1_give_53 rfl ?_
  refine ja_getI fl_X1_43 (zL_o hx (l := ly) (by omega)) rfl dX1_give_54 ?_
  refine ja_iconst (v := nI 1) dX1_give_57 (by decide +kernel) ?_
  refine ja_iadd dX1_give_58 ?_
  refine ja_putI fl_X1_43 (zL_o hx (l := ly) (by omega)) rfl rfl rfl dX1_give_59 ?_
  refine ja_vret rfl dX1_give_62 (Nat.zero_le _) (Nat.zero_le _) ?_
  exact ⟨rfl, rfl, rfl⟩

set_option maxRecDepth 100000 in
set_option maxHeartbeats 4000000 in
theorem c_giveSS (l : Launch) {Z : jZ} {D : jD} (hx : zX Z) {ly : Nat} (h1 : ly < 3) {q b a : Nat} (hq : q < 256) (hb : b < 10) (ha : a < 10) (hne : ¬ b = a) (hs : D (31 + 10 * ly) q = nI (b)) : ja_M l (mX1_give 0 0) [.ref (30 + 10 * ly), .int (nI (q)), .int (nI (a))] Z D (ja_jd none Z (fun D2 => D2 = giv D ly q (some b) (some a))) ja_x0 := by
  refine ja_Mof (lv := [some (.ref (30 + 10 * ly)), some (.int (nI (q))), some (.int (nI (a))), none]) (by decide +kernel) rfl rfl (Nat.le_of_ble_eq_true rfl) rfl ?_
  refine ja_iload_n (i := 1) dX1_give_0 rfl rfl ?_
  refine ja_ifN_lt dX1_give_1 (tgt := 21) (by decide) (by omega) ?_
  refine ja_iload_n (i := 1) dX1_give_4 rfl rfl ?_
  refine ja_sipush (v := nI 256) dX1_give_5 (by decide +kernel) ?_
  refine ja_icmpN_ge (tgt := 21) dX1_give_8 (by decide) (by omega) (by omega) (fun c8 => (by exfalso; omega)) (fun c8 => ?_)
  refine ja_aload_n (i := 0) dX1_give_11 rfl rfl ?_
  refine ja_getR fl_X1_9 (zL_o hx (l := ly) (by omega)) rfl (zL_p0 hx (l := ly) (by omega)) dX1_give_12 ?_
  refine ja_iload_n (i := 1) dX1_give_15 rfl rfl ?_
  refine ja_iald (zL_a0 hx (l := ly) (by omega)) rfl (by omega) (by decide) dX1_give_16 ?_
  refine ja_top (y := nI (b)) hs ?_
  refine ja_iload_n (i := 2) dX1_give_17 rfl rfl ?_
  refine ja_icmpN_ne (tgt := 22) dX1_give_18 (by decide) (by omega) (by omega) (fun c18 => ?_) (fun c18 => (by exfalso; omega))
  refine ja_aload_n (i := 0) dX1_give_22 rfl rfl ?_
  refine ja_getR fl_X1_9 (zL_o hx (l := ly) (by omega)) rfl (zL_p0 hx (l := ly) (by omega)) dX1_give_23 ?_
  refine ja_iload_n (i := 1) dX1_give_26 rfl rfl ?_
  refine ja_iald (zL_a0 hx (l := ly) (by omega)) rfl (by omega) (by decide) dX1_give_27 ?_
  refine ja_top (y := nI (b)) hs ?_
  refine ja_istore_n (i := 3) dX1_give_28 rfl rfl (Nat.le_of_ble_eq_true rfl) ?_
  refine ja_iload_n (i := 3) dX1_give_29 rfl rfl ?_
  refine ja_cNr (st := []) (c_isAreaT l (by omega)) rfl rfl (ce_X7_isArea 0 0) st_X7_isArea nk_X1_47 ⟨(Nat.le_of_ble_eq_true rfl), (Nat.le_of_ble_eq_true rfl)⟩ dX1_give_30 rfl rfl (Nat.le_of_ble_eq_true rfl) (Nat.zero_le _) (Nat.zero_le _) ?_
  refine ja_ifB_eq (tgt := 46) dX1_give_33 (by decide) (fun c33 => absurd c33 (by decide)) (fun c33 => ?_)
  refine ja_aload_n (i := 0) dX1_give_36 rfl rfl ?_
  refine ja_getR fl_X1_34 (zL_o hx (l := ly) (by omega)) rfl (zL_p7 hx (l := ly) (by omega)) dX1_give_37 ?_
  refine ja_iload_n (i := 3) dX1_give_40 rfl rfl ?_
  refine ja_dup2 dX1_give_41 rfl rfl ?_
  refine ja_iald (zL_a7 hx (l := ly) (by omega)) rfl (by omega) (by decide) dX1_give_42 ?_
  refine ja_iconst (v := nI 1) dX1_give_43 (by decide +kernel) ?_
  refine ja_iadd dX1_give_44 ?_
  refine ja_iast (zL_a7 hx (l := ly) (by omega)) rfl (by omega) (by decide) dX1_give_45 ?_
  refine ja_aload_n (i := 0) dX1_give_46 rfl rfl ?_
  refine ja_iload_n (i := 1) dX1_give_47 rfl rfl ?_
  refine ja_iload_n (i := 2) dX1_give_48 rfl rfl ?_
  refine ja_cVd0 (st := []) (c_putSS (D := (ja_up D (37 + 10 * ly) b ((D (37 + 10 * ly) b + nI (1))))) l hx h1 hq hb ha (by rw [up_o (by omega)]; exact hs)) rfl rfl (ce_X1_put 0 0) im_X1_put se_X1_put lk_X1_51 k_X1 (zL_o hx (l := ly) (by omega)) ⟨(Nat.le_of_ble_eq_true rfl), (Nat.le_of_ble_eq_true rfl)⟩ dX1_give_49 rfl rfl (Nat.le_of_ble_eq_true rfl) (Nat.zero_le _) (Nat.zero_le _) ?_
  intro D49 hD49
  subst hD49
  refine ja_aload_n (i := 0) dX1_give_52 rfl rfl ?_
  refine ja_dup dX1_give_53 rfl ?_
  refine ja_getI fl_X1_43 (zL_o hx (l := ly) (by omega)) rfl dX1_give_54 ?_
  refine ja_iconst (v := nI 1) dX1_give_57 (by decide +kernel) ?_
  refine ja_iadd dX1_give_58 ?_
  refine ja_putI fl_X1_43 (zL_o hx (l := ly) (by omega)) rfl rfl rfl dX1_give_59 ?_
  refine ja_vret rfl dX1_give_62 (Nat.zero_le _) (Nat.zero_le _) ?_
  exact ⟨rfl, rfl, rfl⟩

set_option maxRecDepth 100000 in
set_option maxHeartbeats 4000000 in
theorem c_giveSe (l : Launch) {Z : jZ} {D : jD} (hx : zX Z) {ly : Nat} (h1 : ly < 3) {q b : Nat} (hq : q < 256) (hb : b < 10) (hs : D (31 + 10 * ly) q = nI (b)) : ja_M l (mX1_give 0 0) [.ref (30 + 10 * ly), .int (nI (q)), .int (nI (b))] Z D (ja_jr none Z D) ja_x0 := by
  refine ja_Mof (lv := [some (.ref (30 + 10 * ly)), some (.int (nI (q))), some (.int (nI (b))), none]) (by decide +kernel) rfl rfl (Nat.le_of_ble_eq_true rfl) rfl ?_
  refine ja_iload_n (i := 1) dX1_give_0 rfl rfl ?_
  refine ja_ifN_lt dX1_give_1 (tgt := 21) (by decide) (by omega) ?_
  refine ja_iload_n (i := 1) dX1_give_4 rfl rfl ?_
  refine ja_sipush (v := nI 256) dX1_give_5 (by decide +kernel) ?_
  refine ja_icmpN_ge (tgt := 21) dX1_give_8 (by decide) (by omega) (by omega) (fun c8 => (by exfalso; omega)) (fun c8 => ?_)
  refine ja_aload_n (i := 0) dX1_give_11 rfl rfl ?_
  refine ja_getR fl_X1_9 (zL_o hx (l := ly) (by omega)) rfl (zL_p0 hx (l := ly) (by omega)) dX1_give_12 ?_
  refine ja_iload_n (i := 1) dX1_give_15 rfl rfl ?_
  refine ja_iald (zL_a0 hx (l := ly) (by omega)) rfl (by omega) (by decide) dX1_give_16 ?_
  refine ja_top (y := nI (b)) hs ?_
  refine ja_iload_n (i := 2) dX1_give_17 rfl rfl ?_
  refine ja_icmpN_ne (tgt := 22) dX1_give_18 (by decide) (by omega) (by omega) (fun c18 => (by exfalso; omega)) (fun c18 => ?_)
  refine ja_vret rfl dX1_give_21 (Nat.zero_le _) (Nat.zero_le _) ?_
  exact ⟨rfl, rfl, rfl⟩
