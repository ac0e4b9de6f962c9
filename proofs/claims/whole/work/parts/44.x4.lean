/-! THE CLASS: layers, 2 -/
set_option maxRecDepth 100000 in
set_option maxHeartbeats 4000000 in
theorem c_areaBy (l : Launch) {Z : jZ} {D : jD} (hx : zX Z) {ly : Nat} (h1 : ly < 3) {t q : Nat} (ht : t ≤ 40) (hq : q < 256) : ja_M l (mX1_areaBy 0 0) [.ref (30 + 10 * ly), .int (nI (t)), .int (nI (q))] Z D (ja_jr (some (.int (D (36 + 10 * ly) (t * 256 + q)))) Z D) ja_x0 := by
  refine ja_Mof (lv := [some (.ref (30 + 10 * ly)), some (.int (nI (t))), some (.int (nI (q))), none]) (by decide +kernel) rfl rfl (Nat.le_of_ble_eq_true rfl) rfl ?_
  refine ja_iload_n (i := 1) dX1_areaBy_0 rfl rfl ?_
  refine ja_sipush (v := nI 256) dX1_areaBy_1 (by decide +kernel) ?_
  refine ja_imulN dX1_areaBy_4 ?_
  refine ja_iload_n (i := 2) dX1_areaBy_5 rfl rfl ?_
  refine ja_iaddN dX1_areaBy_6 ?_
  refine ja_istore_n (i := 3) dX1_areaBy_7 rfl rfl (Nat.le_of_ble_eq_true rfl) ?_
  refine ja_iload_n (i := 3) dX1_areaBy_8 rfl rfl ?_
  refine ja_ifN_lt dX1_areaBy_9 (tgt := 30) (by decide) (by omega) ?_
  refine ja_iload_n (i := 3) dX1_areaBy_12 rfl rfl ?_
  refine ja_aload_n (i := 0) dX1_areaBy_13 rfl rfl ?_
  refine ja_getR fl_X1_31 (zL_o hx (l := ly) (by omega)) rfl (zL_p6 hx (l := ly) (by omega)) dX1_areaBy_14 ?_
  refine ja_alen (v := nI 10496) (t0 := 0) (zL_a6 hx (l := ly) (by omega)) (by decide) (fun tc => ⟨_, rfl⟩) rfl dX1_areaBy_17 ?_
  refine ja_icmpN_ge (tgt := 30) dX1_areaBy_18 (by decide) (by omega) (by omega) (fun c18 => (by exfalso; omega)) (fun c18 => ?_)
  refine ja_aload_n (i := 0) dX1_areaBy_21 rfl rfl ?_
  refine ja_getR fl_X1_31 (zL_o hx (l := ly) (by omega)) rfl (zL_p6 hx (l := ly) (by omega)) dX1_areaBy_22 ?_
  refine ja_iload_n (i := 3) dX1_areaBy_25 rfl rfl ?_
  refine ja_iald (zL_a6 hx (l := ly) (by omega)) rfl (by omega) (by decide) dX1_areaBy_26 ?_
  refine ja_goto (tgt := 31) dX1_areaBy_27 (by decide) ?_
  refine ja_iret rfl rfl dX1_areaBy_31 (Nat.zero_le _) (Nat.zero_le _) ?_
  exact ⟨rfl, rfl, rfl⟩

def rmX (c : Nat → Int32) (q s : Nat) : Nat := match nbX s q with
  | none => 1
  | some j => if c j = c q then 0 else 1

set_option maxRecDepth 100000 in
set_option maxHeartbeats 4000000 in
theorem c_openSides (l : Launch) {Z : jZ} {D : jD} (hx : zX Z) {ly : Nat} (h1 : ly < 3) {q : Nat} (hq : q < 256) : ja_M l (mX1_openSides 0 0) [.ref (30 + 10 * ly), .int (nI (q))] Z D (ja_jr (some (.int (nI (fb_sm (rmX (D (31 + 10 * ly)) q) 4)))) Z D) ja_x0 := by
  refine ja_Mof (lv := [some (.ref (30 + 10 * ly)), some (.int (nI (q))), none, none, none]) (by decide +kernel) rfl rfl (Nat.le_of_ble_eq_true rfl) rfl ?_
  refine ja_iconst (v := nI 0) dX1_openSides_0 (by decide +kernel) ?_
  refine ja_istore_n (i := 2) dX1_openSides_1 rfl rfl (Nat.le_of_ble_eq_true rfl) ?_
  refine ja_iconst (v := nI 0) dX1_openSides_2 (by decide +kernel) ?_
  refine ja_istore_n (i := 3) dX1_openSides_3 rfl rfl (Nat.le_of_ble_eq_true rfl) ?_
  have lp4 : ∀ (f4 : Nat) (s n : Nat), (4 < s + f4) → (s ≤ 4) → (n = fb_sm (rmX (D (31 + 10 * ly)) q) s) → ja_A l (mX1_openSides 0 0) ja_sn (ja_Qf (mX1_openSides 0 0) (ja_jr (some (.int (nI (fb_sm (rmX (D (31 + 10 * ly)) q) 4)))) Z D) ja_x0) 4 [some (.ref (30 + 10 * ly)), some (.int (nI (q))), some (.int (nI (n))), some (.int (nI (s))), none] [] Z D 0 0 := by
    intro f4
    induction f4 with
    | zero => intro s n hf hs hn; exfalso; omega
    | succ f4 ih4 =>
      intro s n hf hs hn
      refine ja_iload_n (i := 3) dX1_openSides_4 rfl rfl ?_
      refine ja_iconst (v := nI 4) dX1_openSides_5 (by decide +kernel) ?_
      refine ja_icmpN_ge (tgt := 47) dX1_openSides_6 (by decide) (by omega) (by omega) (fun c6 => ?_) (fun c6 => ?_)
      ·
        refine ja_iload_n (i := 2) dX1_openSides_47 rfl rfl ?_
        refine ja_iret rfl rfl dX1_openSides_48 (Nat.zero_le _) (Nat.zero_le _) ?_
        exact ⟨by rw [hn, show s = 4 by omega], rfl, rfl⟩
      ·
        refine ja_iload_n (i := 1) dX1_openSides_9 rfl rfl ?_
        refine ja_iload_n (i := 3) dX1_openSides_10 rfl rfl ?_
        refine ja_cNr (st := []) (c_nb l (q := q) (s := s) (by omega) (by omega)) rfl rfl (ce_X7_neighbour 0 0) st_X7_neighbour nk_X1_68 ⟨(Nat.le_of_ble_eq_true rfl), (Nat.le_of_ble_eq_true rfl)⟩ dX1_openSides_11 rfl rfl (Nat.le_of_ble_eq_true rfl) (Nat.zero_le _) (Nat.zero_le _) ?_
        refine ja_istore (i := 4) dX1_openSides_14 rfl (Nat.le_of_ble_eq_true rfl) ?_
        rcases hnb : nbX s q with _ | j
        ·
          refine ja_iload (i := 4) dX1_openSides_16 rfl ?_
          refine ja_iconst (v := (-1)) dX1_openSides_18 (by decide +kernel) ?_
          refine ja_icmp_eq (tgt := 38) dX1_openSides_19 (by decide) (fun c19 => ?_) (fun c19 => absurd rfl c19)
          refine ja_iincN dX1_openSides_38 rfl rfl (Nat.le_of_ble_eq_true rfl) ?_
          refine ja_iincN dX1_openSides_41 rfl rfl (Nat.le_of_ble_eq_true rfl) ?_
          refine ja_goto (tgt := 4) dX1_openSides_44 (by decide) ?_
          refine ja_forget (i := 4) ?_
          exact ih4 (s + 1) _ (by omega) (by omega) (by rw [hn, fb_sm_succ]; simp only [rmX, hnb] <;> first | rfl | (simp only [c35, if_true, if_false]; done) | simp [c35])
        ·
          have hj := nbX_lt (by omega) hnb
          refine ja_iload (i := 4) dX1_openSides_16 rfl ?_
          refine ja_iconst (v := (-1)) dX1_openSides_18 (by decide +kernel) ?_
          refine ja_icmp_eq (tgt := 38) dX1_openSides_19 (by decide) (fun c19 => absurd c19 (nI_nm1 (by omega))) (fun c19 => ?_)
          refine ja_aload_n (i := 0) dX1_openSides_22 rfl rfl ?_
          refine ja_getR fl_X1_9 (zL_o hx (l := ly) (by omega)) rfl (zL_p0 hx (l := ly) (by omega)) dX1_openSides_23 ?_
          refine ja_iload (i := 4) dX1_openSides_26 rfl ?_
          refine ja_iald (zL_a0 hx (l := ly) (by omega)) rfl (by omega) (by decide) dX1_openSides_28 ?_
          refine ja_aload_n (i := 0) dX1_openSides_29 rfl rfl ?_
          refine ja_getR fl_X1_9 (zL_o hx (l := ly) (by omega)) rfl (zL_p0 hx (l := ly) (by omega)) dX1_openSides_30 ?_
          refine ja_iload_n (i := 1) dX1_openSides_33 rfl rfl ?_
          refine ja_iald (zL_a0 hx (l := ly) (by omega)) rfl (by omega) (by decide) dX1_openSides_34 ?_
          refine ja_icmp_eq (tgt := 41) dX1_openSides_35 (by decide) (fun c35 => ?_) (fun c35 => ?_)
          ·
            refine ja_iincN dX1_openSides_41 rfl rfl (Nat.le_of_ble_eq_true rfl) ?_
            refine ja_goto (tgt := 4) dX1_openSides_44 (by decide) ?_
            refine ja_forget (i := 4) ?_
            exact ih4 (s + 1) _ (by omega) (by omega) (by rw [hn, fb_sm_succ]; simp only [rmX, hnb] <;> first | rfl | (simp only [c35, if_true, if_false]; done) | simp [c35])
          ·
            refine ja_iincN dX1_openSides_38 rfl rfl (Nat.le_of_ble_eq_true rfl) ?_
            refine ja_iincN dX1_openSides_41 rfl rfl (Nat.le_of_ble_eq_true rfl) ?_
            refine ja_goto (tgt := 4) dX1_openSides_44 (by decide) ?_
            refine ja_forget (i := 4) ?_
            exact ih4 (s + 1) _ (by omega) (by omega) (by rw [hn, fb_sm_succ]; simp only [rmX, hnb] <;> first | rfl | (simp only [c35, if_true, if_false]; done) | simp [c35])
  exact lp4 5 0 0 (by omega) (by omega) rfl
