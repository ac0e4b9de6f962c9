/-! THE REFERENCE: calls that write, 2 -/
def bsp (D : jD) (k : Nat) : Prop := ∃ b, D 110 k = bI b

set_option maxRecDepth 100000 in
set_option maxHeartbeats 4000000 in
theorem r_keep_f1 (l : Launch) {Z : jZ} {D : jD} (hz : zM Z) (hau : D 100 2 = -1)  : ja_M l (mX8_keep 0 0) [.ref (100)] Z D (ja_jd (some (.int (nI 0))) Z (fun D2 => D2 = ja_up D 100 0 (nI 1))) ja_x0 := by
  refine ja_Mof (lv := [some (.ref (100)), none]) (by decide +kernel) rfl rfl (Nat.le_of_ble_eq_true rfl) rfl ?_
  refine ja_aload_n (i := 0) dX8_keep_0 rfl rfl ?_
  refine ja_iconst (v := nI 0) dX8_keep_1 (by decide +kernel) ?_
  refine ja_putI fl_X8_85 (zM_s hz) rfl rfl rfl dX8_keep_2 ?_
  refine ja_aload_n (i := 0) dX8_keep_5 rfl rfl ?_
  refine ja_getI fl_X8_9 (zM_s hz) rfl dX8_keep_6 ?_
  refine ja_top (y := (-1)) hau ?_
  refine ja_iconst (v := (-1)) dX8_keep_9 (by decide +kernel) ?_
  refine ja_icmp_ne (tgt := 19) dX8_keep_10 (by decide) (fun c10 => absurd rfl c10) (fun c10 => ?_)
  refine ja_aload_n (i := 0) dX8_keep_13 rfl rfl ?_
  refine ja_iconst (v := nI 1) dX8_keep_14 (by decide +kernel) ?_
  refine ja_cVd (st := []) (s_fails l hz (nI (1))) rfl rfl (ce_X8_fails 0 0) im_X8_fails se_X8_fails lk_X8_96 k_X8 (zM_s hz) ⟨(Nat.le_of_ble_eq_true rfl), (Nat.le_of_ble_eq_true rfl)⟩ dX8_keep_15 rfl rfl (Nat.le_of_ble_eq_true rfl) (Nat.zero_le _) (Nat.zero_le _) ?_
  intro D15 hD15
  subst hD15
  refine ja_num (D2 := ja_up D 100 0 (nI (1))) up_2 ?_
  refine ja_iret rfl rfl dX8_keep_18 (Nat.zero_le _) (Nat.zero_le _) ?_
  exact ⟨rfl, rfl, rfl⟩

set_option maxRecDepth 100000 in
set_option maxHeartbeats 4000000 in
theorem r_keep_f2 (l : Launch) {Z : jZ} {D : jD} (hz : zM Z) {n : Nat} (hrn : D 100 12 = nI n) (hn6 : n ≤ 6) (hw : wfR D n) {w0 : Nat} (hau : D 100 2 = nI w0) (hw5 : w0 ≤ 5) {sg : Nat → Bool} (hsg : ∀ k, k < 6 → D 110 k = bI (sg k)) (hbad : ∃ j, j < n ∧ sg j = false ∧ 0 < brkR D j) : ja_M l (mX8_keep 0 0) [.ref (100)] Z D (ja_jd (some (.int (nI 0))) Z (fun D2 => D2 = ja_up D 100 0 (nI 2))) ja_x0 := by
  refine ja_Mof (lv := [some (.ref (100)), none]) (by decide +kernel) rfl rfl (Nat.le_of_ble_eq_true rfl) rfl ?_
  refine ja_aload_n (i := 0) dX8_keep_0 rfl rfl ?_
  refine ja_iconst (v := nI 0) dX8_keep_1 (by decide +kernel) ?_
  refine ja_putI fl_X8_85 (zM_s hz) rfl rfl rfl dX8_keep_2 ?_
  refine ja_aload_n (i := 0) dX8_keep_5 rfl rfl ?_
  refine ja_getI fl_X8_9 (zM_s hz) rfl dX8_keep_6 ?_
  refine ja_top (y := nI (w0)) hau ?_
  refine ja_iconst (v := (-1)) dX8_keep_9 (by decide +kernel) ?_
  refine ja_icmp_ne (tgt := 19) dX8_keep_10 (by decide) (fun c10 => ?_) (fun c10 => absurd c10 (nI_nm1 (by omega)))
  refine ja_iconst (v := nI 0) dX8_keep_19 (by decide +kernel) ?_
  refine ja_istore_n (i := 1) dX8_keep_20 rfl rfl (Nat.le_of_ble_eq_true rfl) ?_
  have lp21 : ∀ (k21 : Nat) (r : Nat), (n < r + k21) → (r ≤ n) → (∀ j, j < r → sg j = true ∨ brkR (ja_up D 100 0 (nI 0)) j = 0) → ja_A l (mX8_keep 0 0) ja_sn (ja_Qf (mX8_keep 0 0) (ja_jd (some (.int (nI 0))) Z (fun D2 => D2 = ja_up D 100 0 (nI 2))) ja_x0) 21 [some (.ref (100)), some (.int (nI (r)))] [] Z (ja_up D 100 0 (nI (0))) 0 0 := by
    intro k21
    induction k21 with
    | zero => intro r hk hr hb; exfalso; omega
    | succ k21 ih21 =>
      intro r hk hr hb
      refine ja_iload_n (i := 1) dX8_keep_21 rfl rfl ?_
      refine ja_aload_n (i := 0) dX8_keep_22 rfl rfl ?_
      refine ja_getI fl_X8_120 (zM_s hz) rfl dX8_keep_23 ?_
      refine ja_top (y := nI (n)) hrn ?_
      refine ja_icmpN_ge (tgt := 58) dX8_keep_26 (by decide) (by omega) (by omega) (fun c26 => ?_) (fun c26 => ?_)
      ·
        exfalso
        obtain ⟨j, j1, j2, j3⟩ := hbad
        have e : brkR D j = 0 := ((hb j (by omega)).resolve_left (by rw [j2]; decide))
        omega
      ·
        refine ja_aload_n (i := 0) dX8_keep_29 rfl rfl ?_
        refine ja_getR fl_X8_33 (zM_s hz) rfl (zM_p9 hz) dX8_keep_30 ?_
        refine ja_iload_n (i := 1) dX8_keep_33 rfl rfl ?_
        refine ja_zald (zM_a9 hz) rfl (by omega) (by decide) dX8_keep_34 ?_
        refine ja_top (y := bI (sg r)) (hsg r (by omega)) ?_
        refine ja_ifB_ne (tgt := 52) dX8_keep_35 (by decide) (fun c35 => ?_) (fun c35 => ?_)
        ·
          refine ja_iincN dX8_keep_52 rfl rfl (Nat.le_of_ble_eq_true rfl) ?_
          refine ja_goto (tgt := 21) dX8_keep_55 (by decide) ?_
          exact ih21 (r + 1) (by omega) (by omega) (fun j hj => if e : j = r then (by subst e; first | exact Or.inl (by assumption) | exact Or.inr (by omega)) else hb j (by omega))
        ·
          refine ja_aload_n (i := 0) dX8_keep_38 rfl rfl ?_
          refine ja_iload_n (i := 1) dX8_keep_39 rfl rfl ?_
          have z1 := brkR_le (ja_up D 100 0 (nI 0)) r
          refine ja_cVr (st := []) (s_brokenW (D := (ja_up D 100 0 (nI (0)))) l hz (n := n) hw hn6 (r := r) (by omega)) rfl rfl (ce_X8_brokenAt 0 0) im_X8_brokenAt se_X8_brokenAt lk_X8_126 k_X8 (zM_s hz) ⟨(Nat.le_of_ble_eq_true rfl), (Nat.le_of_ble_eq_true rfl)⟩ dX8_keep_40 rfl rfl (Nat.le_of_ble_eq_true rfl) (Nat.zero_le _) (Nat.zero_le _) ?_
          refine ja_ifN_le (tgt := 52) dX8_keep_43 (by decide) (by omega) (fun c43 => ?_) (fun c43 => ?_)
          ·
            refine ja_iincN dX8_keep_52 rfl rfl (Nat.le_of_ble_eq_true rfl) ?_
            refine ja_goto (tgt := 21) dX8_keep_55 (by decide) ?_
            exact ih21 (r + 1) (by omega) (by omega) (fun j hj => if e : j = r then (by subst e; first | exact Or.inl (by assumption) | exact Or.inr (by omega)) else hb j (by omega))
          ·
            refine ja_aload_n (i := 0) dX8_keep_46 rfl rfl ?_
            refine ja_iconst (v := nI 2) dX8_keep_47 (by decide +kernel) ?_
            refine ja_cVd (st := []) (s_fails l hz (nI (2))) rfl rfl (ce_X8_fails 0 0) im_X8_fails se_X8_fails lk_X8_96 k_X8 (zM_s hz) ⟨(Nat.le_of_ble_eq_true rfl), (Nat.le_of_ble_eq_true rfl)⟩ dX8_keep_48 rfl rfl (Nat.le_of_ble_eq_true rfl) (Nat.zero_le _) (Nat.zero_le _) ?_
            intro D48 hD48
            subst hD48
            refine ja_num (D2 := ja_up D 100 0 (nI (2))) up_2 ?_
            refine ja_iret rfl rfl dX8_keep_51 (Nat.zero_le _) (Nat.zero_le _) ?_
            exact ⟨rfl, rfl, rfl⟩
  exact lp21 (n + 1) 0 (by omega) (by omega) (fun j hj => absurd hj (Nat.not_lt_zero j))

set_option maxRecDepth 100000 in
set_option maxHeartbeats 4000000 in
theorem r_keep_ok (l : Launch) {Z : jZ} {D : jD} (hz : zM Z) {n : Nat} (hrn : D 100 12 = nI n) (hn6 : n ≤ 6) (hw : wfR D n) {w0 : Nat} (hau : D 100 2 = nI w0) (hw5 : w0 ≤ 5) {tn : Nat} (ht : D 100 1 = nI tn) (htn : tn < 40) {sg : Nat → Bool} (hsg : ∀ k, k < 6 → D 110 k = bI (sg k)) (hgd : ∀ j, j < n → sg j = true ∨ brkR D j = 0) : ja_M l (mX8_keep 0 0) [.ref (100)] Z D (ja_jd (some (.int (nI (tn + 1)))) Z (fun D2 => D2 = ja_up (cpO (ja_up (ja_up (ja_up D 100 0 (nI 0)) 100 1 (nI (tn + 1))) 112 (tn + 1) (nI w0)) 111 (768 * (tn + 1)) 105 768) 100 2 (-1))) ja_x0 := by
  refine ja_Mof (lv := [some (.ref (100)), none]) (by decide +kernel) rfl rfl (Nat.le_of_ble_eq_true rfl) rfl ?_
  refine ja_aload_n (i := 0) dX8_keep_0 rfl rfl ?_
  refine ja_iconst (v := nI 0) dX8_keep_1 (by decide +kernel) ?_
  refine ja_putI fl_X8_85 (zM_s hz) rfl rfl rfl dX8_keep_2 ?_
  refine ja_aload_n (i := 0) dX8_keep_5 rfl rfl ?_
  refine ja_getI fl_X8_9 (zM_s hz) rfl dX8_keep_6 ?_
  refine ja_top (y := nI (w0)) hau ?_
  refine ja_iconst (v := (-1)) dX8_keep_9 (by decide +kernel) ?_
  refine ja_icmp_ne (tgt := 19) dX8_keep_10 (by decide) (fun c10 => ?_) (fun c10 => absurd c10 (nI_nm1 (by omega)))
  refine ja_iconst (v := nI 0) dX8_keep_19 (by decide +kernel) ?_
  refine ja_istore_n (i := 1) dX8_keep_20 rfl rfl (Nat.le_of_ble_eq_true rfl) ?_
  have lp21 : ∀ (k21 : Nat) (r : Nat), (n < r + k21) → (r ≤ n) → (∀ j, j < r → sg j = true ∨ brkR (ja_up D 100 0 (nI 0)) j = 0) → ja_A l (mX8_keep 0 0) ja_sn (ja_Qf (mX8_keep 0 0) (ja_jd (some (.int (nI (tn + 1)))) Z (fun D2 => D2 = ja_up (cpO (ja_up (ja_up (ja_up D 100 0 (nI 0)) 100 1 (nI (tn + 1))) 112 (tn + 1) (nI w0)) 111 (768 * (tn + 1)) 105 768) 100 2 (-1))) ja_x0) 21 [some (.ref (100)), some (.int (nI (r)))] [] Z (ja_up D 100 0 (nI (0))) 0 0 := by
    intro k21
    induction k21 with
    | zero => intro r hk hr hb; exfalso; omega
    | succ k21 ih21 =>
      intro r hk hr hb
      refine ja_iload_n (i := 1) dX8_keep_21 rfl rfl ?_
      refine ja_aload_n (i := 0) dX8_keep_22 rfl rfl ?_
      refine ja_getI fl_X8_120 (zM_s hz) rfl dX8_keep_23 ?_
      refine ja_top (y := nI (n)) hrn ?_
      refine ja_icmpN_ge (tgt := 58) dX8_keep_26 (by decide) (by omega) (by omega) (fun c26 => ?_) (fun c26 => ?_)
      ·
        refine ja_aload_n (i := 0) dX8_keep_58 rfl rfl ?_
        refine ja_dup dX8_keep_59 rfl ?_
        refine ja_getI fl_X8_100 (zM_s hz) rfl dX8_keep_60 ?_
        refine ja_top (y := nI (tn)) ht ?_
        refine ja_iconst (v := nI 1) dX8_keep_63 (by decide +kernel) ?_
        refine ja_iaddN dX8_keep_64 ?_
        refine ja_putI fl_X8_100 (zM_s hz) rfl rfl rfl dX8_keep_65 ?_
        refine ja_aload_n (i := 0) dX8_keep_68 rfl rfl ?_
        refine ja_getR fl_X8_39 (zM_s hz) rfl (zM_p11 hz) dX8_keep_69 ?_
        refine ja_aload_n (i := 0) dX8_keep_72 rfl rfl ?_
        refine ja_getI fl_X8_100 (zM_s hz) rfl dX8_keep_73 ?_
        refine ja_top (y := nI (tn + 1)) up_s ?_
        refine ja_aload_n (i := 0) dX8_keep_76 rfl rfl ?_
        refine ja_getI fl_X8_9 (zM_s hz) rfl dX8_keep_77 ?_
        refine ja_top (y := nI (w0)) hau ?_
        refine ja_iast (zM_a11 hz) rfl (by omega) (by decide) dX8_keep_80 ?_
        refine ja_iconst (v := nI 0) dX8_keep_81 (by decide +kernel) ?_
        refine ja_istore_n (i := 1) dX8_keep_82 rfl rfl (Nat.le_of_ble_eq_true rfl) ?_
        have lp83 : ∀ (f83 : Nat) (k : Nat) (E : jD), (768 < k + f83) → (k ≤ 768) → (E = cpO (ja_up (ja_up (ja_up D 100 0 (nI 0)) 100 1 (nI (tn + 1))) 112 (tn + 1) (nI w0)) 111 (768 * (tn + 1)) 105 k) → ja_A l (mX8_keep 0 0) ja_sn (ja_Qf (mX8_keep 0 0) (ja_jd (some (.int (nI (tn + 1)))) Z (fun D2 => D2 = ja_up (cpO (ja_up (ja_up (ja_up D 100 0 (nI 0)) 100 1 (nI (tn + 1))) 112 (tn + 1) (nI w0)) 111 (768 * (tn + 1)) 105 768) 100 2 (-1))) ja_x0) 83 [some (.ref (100)), some (.int (nI (k)))] [] Z E 0 0 := by
          intro f83
          induction f83 with
          | zero => intro k E hk hq hE; exfalso; omega
          | succ f83 ih83 =>
            intro k E hk hq hE
            refine ja_iload_n (i := 1) dX8_keep_83 rfl rfl ?_
            refine ja_sipush (v := nI 768) dX8_keep_84 (by decide +kernel) ?_
            refine ja_icmpN_ge (tgt := 117) dX8_keep_87 (by decide) (by omega) (by omega) (fun c87 => ?_) (fun c87 => ?_)
            ·
              refine ja_num (D2 := (cpO (ja_up (ja_up (ja_up D 100 0 (nI 0)) 100 1 (nI (tn + 1))) 112 (tn + 1) (nI w0)) 111 (768 * (tn + 1)) 105 768)) (by rw [hE, show k = 768 by omega]) ?_
              refine ja_aload_n (i := 0) dX8_keep_117 rfl rfl ?_
              refine ja_iconst (v := (-1)) dX8_keep_118 (by decide +kernel) ?_
              refine ja_putI fl_X8_9 (zM_s hz) rfl rfl rfl dX8_keep_119 ?_
              refine ja_aload_n (i := 0) dX8_keep_122 rfl rfl ?_
              refine ja_getI fl_X8_100 (zM_s hz) rfl dX8_keep_123 ?_
              refine ja_top (y := nI (tn + 1)) rfl ?_
              refine ja_iret rfl rfl dX8_keep_126 (Nat.zero_le _) (Nat.zero_le _) ?_
              exact ⟨rfl, rfl, rfl⟩
            ·
              refine ja_aload_n (i := 0) dX8_keep_90 rfl rfl ?_
              refine ja_getR fl_X8_36 (zM_s hz) rfl (zM_p10 hz) dX8_keep_91 ?_
              refine ja_sipush (v := nI 768) dX8_keep_94 (by decide +kernel) ?_
              refine ja_aload_n (i := 0) dX8_keep_97 rfl rfl ?_
              refine ja_getI fl_X8_100 (zM_s hz) rfl dX8_keep_98 ?_
              refine ja_top (y := nI (tn + 1)) (by rw [hE]; rfl) ?_
              refine ja_imulN dX8_keep_101 ?_
              refine ja_iload_n (i := 1) dX8_keep_102 rfl rfl ?_
              refine ja_iaddN dX8_keep_103 ?_
              refine ja_aload_n (i := 0) dX8_keep_104 rfl rfl ?_
              refine ja_getR fl_X8_17 (zM_s hz) rfl (zM_p4 hz) dX8_keep_105 ?_
              refine ja_iload_n (i := 1) dX8_keep_108 rfl rfl ?_
              refine ja_iald (zM_a4 hz) rfl (by omega) (by decide) dX8_keep_109 ?_
              refine ja_iast (zM_a10 hz) rfl (by omega) (by decide) dX8_keep_110 ?_
              refine ja_iincN dX8_keep_111 rfl rfl (Nat.le_of_ble_eq_true rfl) ?_
              refine ja_goto (tgt := 83) dX8_keep_114 (by decide) ?_
              exact ih83 (k + 1) _ (by omega) (by omega) (by rw [hE]; exact cpO_s (cpO_src (by decide)))
        exact lp83 769 0 (ja_up (ja_up (ja_up D 100 0 (nI (0))) 100 1 (nI (tn + 1))) 112 (tn + 1) (nI (w0))) (by omega) (by omega) cpO_0
      ·
        refine ja_aload_n (i := 0) dX8_keep_29 rfl rfl ?_
        refine ja_getR fl_X8_33 (zM_s hz) rfl (zM_p9 hz) dX8_keep_30 ?_
        refine ja_iload_n (i := 1) dX8_keep_33 rfl rfl ?_
        refine ja_zald (zM_a9 hz) rfl (by omega) (by decide) dX8_keep_34 ?_
        refine ja_top (y := bI (sg r)) (hsg r (by omega)) ?_
        refine ja_ifB_ne (tgt := 52) dX8_keep_35 (by decide) (fun c35 => ?_) (fun c35 => ?_)
        ·
          refine ja_iincN dX8_keep_52 rfl rfl (Nat.le_of_ble_eq_true rfl) ?_
          refine ja_goto (tgt := 21) dX8_keep_55 (by decide) ?_
          exact ih21 (r + 1) (by omega) (by omega) (fun j hj => if e : j = r then (by subst e; first | exact Or.inl (by assumption) | exact Or.inr (by omega)) else hb j (by omega))
        ·
          refine ja_aload_n (i := 0) dX8_keep_38 rfl rfl ?_
          refine ja_iload_n (i := 1) dX8_keep_39 rfl rfl ?_
          have z1 := brkR_le (ja_up D 100 0 (nI 0)) r
          refine ja_cVr (st := []) (s_brokenW (D := (ja_up D 100 0 (nI (0)))) l hz (n := n) hw hn6 (r := r) (by omega)) rfl rfl (ce_X8_brokenAt 0 0) im_X8_brokenAt se_X8_brokenAt lk_X8_126 k_X8 (zM_s hz) ⟨(Nat.le_of_ble_eq_true rfl), (Nat.le_of_ble_eq_true rfl)⟩ dX8_keep_40 rfl rfl (Nat.le_of_ble_eq_true rfl) (Nat.zero_le _) (Nat.zero_le _) ?_
          refine ja_ifN_le (tgt := 52) dX8_keep_43 (by decide) (by omega) (fun c43 => ?_) (fun c43 => ?_)
          ·
            refine ja_iincN dX8_keep_52 rfl rfl (Nat.le_of_ble_eq_true rfl) ?_
            refine ja_goto (tgt := 21) dX8_keep_55 (by decide) ?_
            exact ih21 (r + 1) (by omega) (by omega) (fun j hj => if e : j = r then (by subst e; first | exact Or.inl (by assumption) | exact Or.inr (by omega)) else hb j (by omega))
          ·
            exact (hgd r (by omega)).elim (fun e => absurd (c35.symm.trans e) (by decide)) (fun e => absurd e c43)
  exact lp21 (n + 1) 0 (by omega) (by omega) (fun j hj => absurd hj (Nat.not_lt_zero j))

set_option maxRecDepth 100000 in
set_option maxHeartbeats 4000000 in
theorem r_drop_f1 (l : Launch) {Z : jZ} {D : jD} (hz : zM Z) (hau : D 100 2 = -1)  : ja_M l (mX8_drop 0 0) [.ref (100)] Z D (ja_jd (some (.int (nI 0))) Z (fun D2 => D2 = ja_up D 100 0 (nI 1))) ja_x0 := by
  refine ja_Mof (lv := [some (.ref (100)), none, none]) (by decide +kernel) rfl rfl (Nat.le_of_ble_eq_true rfl) rfl ?_
  refine ja_aload_n (i := 0) dX8_drop_0 rfl rfl ?_
  refine ja_iconst (v := nI 0) dX8_drop_1 (by decide +kernel) ?_
  refine ja_putI fl_X8_85 (zM_s hz) rfl rfl rfl dX8_drop_2 ?_
  refine ja_aload_n (i := 0) dX8_drop_5 rfl rfl ?_
  refine ja_getI fl_X8_9 (zM_s hz) rfl dX8_drop_6 ?_
  refine ja_top (y := (-1)) hau ?_
  refine ja_iconst (v := (-1)) dX8_drop_9 (by decide +kernel) ?_
  refine ja_icmp_ne (tgt := 19) dX8_drop_10 (by decide) (fun c10 => absurd rfl c10) (fun c10 => ?_)
  refine ja_aload_n (i := 0) dX8_drop_13 rfl rfl ?_
  refine ja_iconst (v := nI 1) dX8_drop_14 (by decide +kernel) ?_
  refine ja_cVd (st := []) (s_fails l hz (nI (1))) rfl rfl (ce_X8_fails 0 0) im_X8_fails se_X8_fails lk_X8_96 k_X8 (zM_s hz) ⟨(Nat.le_of_ble_eq_true rfl), (Nat.le_of_ble_eq_true rfl)⟩ dX8_drop_15 rfl rfl (Nat.le_of_ble_eq_true rfl) (Nat.zero_le _) (Nat.zero_le _) ?_
  intro D15 hD15
  subst hD15
  refine ja_num (D2 := ja_up D 100 0 (nI (1))) up_2 ?_
  refine ja_iret rfl rfl dX8_drop_18 (Nat.zero_le _) (Nat.zero_le _) ?_
  exact ⟨rfl, rfl, rfl⟩

set_option maxRecDepth 100000 in
set_option maxHeartbeats 4000000 in
theorem r_drop_ok (l : Launch) {Z : jZ} {D : jD} (hz : zM Z) {w0 : Nat} (hau : D 100 2 = nI w0) (hw5 : w0 ≤ 5)  : ja_M l (mX8_drop 0 0) [.ref (100)] Z D (ja_jd (some (.int (nI (fb_ct (fun k => decide (¬ D 105 k = D 108 k)) 768)))) Z (fun D2 => D2 = ja_up (cpU (cpU (ja_up D 100 0 (nI 0)) 105 108 768) 106 109 30) 100 2 (-1))) ja_x0 := by
  refine ja_Mof (lv := [some (.ref (100)), none, none]) (by decide +kernel) rfl rfl (Nat.le_of_ble_eq_true rfl) rfl ?_
  refine ja_aload_n (i := 0) dX8_drop_0 rfl rfl ?_
  refine ja_iconst (v := nI 0) dX8_drop_1 (by decide +kernel) ?_
  refine ja_putI fl_X8_85 (zM_s hz) rfl rfl rfl dX8_drop_2 ?_
  refine ja_aload_n (i := 0) dX8_drop_5 rfl rfl ?_
  refine ja_getI fl_X8_9 (zM_s hz) rfl dX8_drop_6 ?_
  refine ja_top (y := nI (w0)) hau ?_
  refine ja_iconst (v := (-1)) dX8_drop_9 (by decide +kernel) ?_
  refine ja_icmp_ne (tgt := 19) dX8_drop_10 (by decide) (fun c10 => ?_) (fun c10 => absurd c10 (nI_nm1 (by omega)))
  refine ja_iconst (v := nI 0) dX8_drop_19 (by decide +kernel) ?_
  refine ja_istore_n (i := 1) dX8_drop_20 rfl rfl (Nat.le_of_ble_eq_true rfl) ?_
  refine ja_iconst (v := nI 0) dX8_drop_21 (by decide +kernel) ?_
  refine ja_istore_n (i := 2) dX8_drop_22 rfl rfl (Nat.le_of_ble_eq_true rfl) ?_
  have lp23 : ∀ (f23 : Nat) (k n : Nat) (E : jD), (768 < k + f23) → (k ≤ 768) → (n = fb_ct (fun k => decide (¬ D 105 k = D 108 k)) k) → (E = cpU (ja_up D 100 0 (nI 0)) 105 108 k) → ja_A l (mX8_drop 0 0) ja_sn (ja_Qf (mX8_drop 0 0) (ja_jd (some (.int (nI (fb_ct (fun k => decide (¬ D 105 k = D 108 k)) 768)))) Z (fun D2 => D2 = ja_up (cpU (cpU (ja_up D 100 0 (nI 0)) 105 108 768) 106 109 30) 100 2 (-1))) ja_x0) 23 [some (.ref (100)), some (.int (nI (n))), some (.int (nI (k)))] [] Z E 0 0 := by
    intro f23
    induction f23 with
    | zero => intro k n E hk hq hn hE; exfalso; omega
    | succ f23 ih23 =>
      intro k n E hk hq hn hE
      refine ja_iload_n (i := 2) dX8_drop_23 rfl rfl ?_
      refine ja_sipush (v := nI 768) dX8_drop_24 (by decide +kernel) ?_
      refine ja_icmpN_ge (tgt := 71) dX8_drop_27 (by decide) (by omega) (by omega) (fun c27 => ?_) (fun c27 => ?_)
      ·
        refine ja_num (D2 := (cpU (ja_up D 100 0 (nI 0)) 105 108 768)) (by rw [hE, show k = 768 by omega]) ?_
        refine ja_iconst (v := nI 0) dX8_drop_71 (by decide +kernel) ?_
        refine ja_istore_n (i := 2) dX8_drop_72 rfl rfl (Nat.le_of_ble_eq_true rfl) ?_
        have lp73 : ∀ (f73 : Nat) (k2 : Nat) (E : jD), (30 < k2 + f73) → (k2 ≤ 30) → (E = cpU (cpU (ja_up D 100 0 (nI 0)) 105 108 768) 106 109 k2) → ja_A l (mX8_drop 0 0) ja_sn (ja_Qf (mX8_drop 0 0) (ja_jd (some (.int (nI (fb_ct (fun k => decide (¬ D 105 k = D 108 k)) 768)))) Z (fun D2 => D2 = ja_up (cpU (cpU (ja_up D 100 0 (nI 0)) 105 108 768) 106 109 30) 100 2 (-1))) ja_x0) 73 [some (.ref (100)), some (.int (nI (n))), some (.int (nI (k2)))] [] Z E 0 0 := by
          intro f73
          induction f73 with
          | zero => intro k2 E hk2 hq2 hE; exfalso; omega
          | succ f73 ih73 =>
            intro k2 E hk2 hq2 hE
            refine ja_iload_n (i := 2) dX8_drop_73 rfl rfl ?_
            refine ja_bipush (v := nI 30) dX8_drop_74 (by decide +kernel) ?_
            refine ja_icmpN_ge (tgt := 97) dX8_drop_76 (by decide) (by omega) (by omega) (fun c76 => ?_) (fun c76 => ?_)
            ·
              refine ja_num (D2 := (cpU (cpU (ja_up D 100 0 (nI 0)) 105 108 768) 106 109 30)) (by rw [hE, show k2 = 30 by omega]) ?_
              refine ja_aload_n (i := 0) dX8_drop_97 rfl rfl ?_
              refine ja_iconst (v := (-1)) dX8_drop_98 (by decide +kernel) ?_
              refine ja_putI fl_X8_9 (zM_s hz) rfl rfl rfl dX8_drop_99 ?_
              refine ja_iload_n (i := 1) dX8_drop_102 rfl rfl ?_
              refine ja_iret rfl rfl dX8_drop_103 (Nat.zero_le _) (Nat.zero_le _) ?_
              refine ⟨?_, rfl, rfl⟩
              rw [hn, show k = 768 by omega]
            ·
              refine ja_aload_n (i := 0) dX8_drop_79 rfl rfl ?_
              refine ja_getR fl_X8_21 (zM_s hz) rfl (zM_p5 hz) dX8_drop_80 ?_
              refine ja_iload_n (i := 2) dX8_drop_83 rfl rfl ?_
              refine ja_aload_n (i := 0) dX8_drop_84 rfl rfl ?_
              refine ja_getR fl_X8_30 (zM_s hz) rfl (zM_p8 hz) dX8_drop_85 ?_
              refine ja_iload_n (i := 2) dX8_drop_88 rfl rfl ?_
              refine ja_iald (zM_a8 hz) rfl (by omega) (by decide) dX8_drop_89 ?_
              refine ja_iast (zM_a5 hz) rfl (by omega) (by decide) dX8_drop_90 ?_
              refine ja_iincN dX8_drop_91 rfl rfl (Nat.le_of_ble_eq_true rfl) ?_
              refine ja_goto (tgt := 73) dX8_drop_94 (by decide) ?_
              exact ih73 (k2 + 1) _ (by omega) (by omega) (by rw [hE]; exact cpU_s (cpU_src (by decide)))
        exact lp73 31 0 (cpU (ja_up D 100 0 (nI 0)) 105 108 768) (by omega) (by omega) cpU_0
      ·
        refine ja_iload_n (i := 1) dX8_drop_30 rfl rfl ?_
        refine ja_aload_n (i := 0) dX8_drop_31 rfl rfl ?_
        refine ja_getR fl_X8_17 (zM_s hz) rfl (zM_p4 hz) dX8_drop_32 ?_
        refine ja_iload_n (i := 2) dX8_drop_35 rfl rfl ?_
        refine ja_iald (zM_a4 hz) rfl (by omega) (by decide) dX8_drop_36 ?_
        refine ja_top (y := D 105 k) (by rw [hE, cpU, if_neg (by omega)]; rfl) ?_
        refine ja_aload_n (i := 0) dX8_drop_37 rfl rfl ?_
        refine ja_getR fl_X8_27 (zM_s hz) rfl (zM_p7 hz) dX8_drop_38 ?_
        refine ja_iload_n (i := 2) dX8_drop_41 rfl rfl ?_
        refine ja_iald (zM_a7 hz) rfl (by omega) (by decide) dX8_drop_42 ?_
        refine ja_top (y := D 108 k) (by rw [hE, cpU_src (by decide)]; rfl) ?_
        refine ja_icmp_ne (tgt := 50) dX8_drop_43 (by decide) (fun c43 => ?_) (fun c43 => ?_)
        ·
          refine ja_iconst (v := nI 1) dX8_drop_50 (by decide +kernel) ?_
          refine ja_iaddN dX8_drop_51 ?_
          refine ja_istore_n (i := 1) dX8_drop_52 rfl rfl (Nat.le_of_ble_eq_true rfl) ?_
          refine ja_aload_n (i := 0) dX8_drop_53 rfl rfl ?_
          refine ja_getR fl_X8_17 (zM_s hz) rfl (zM_p4 hz) dX8_drop_54 ?_
          refine ja_iload_n (i := 2) dX8_drop_57 rfl rfl ?_
          refine ja_aload_n (i := 0) dX8_drop_58 rfl rfl ?_
          refine ja_getR fl_X8_27 (zM_s hz) rfl (zM_p7 hz) dX8_drop_59 ?_
          refine ja_iload_n (i := 2) dX8_drop_62 rfl rfl ?_
          refine ja_iald (zM_a7 hz) rfl (by omega) (by decide) dX8_drop_63 ?_
          refine ja_iast (zM_a4 hz) rfl (by omega) (by decide) dX8_drop_64 ?_
          refine ja_iincN dX8_drop_65 rfl rfl (Nat.le_of_ble_eq_true rfl) ?_
          refine ja_goto (tgt := 23) dX8_drop_68 (by decide) ?_
          exact ih23 (k + 1) _ _ (by omega) (by omega) (by rw [hn, fb_ct_succ]; simp_all) (by rw [hE]; exact cpU_s (cpU_src (by decide)))
        ·
          refine ja_iconst (v := nI 0) dX8_drop_46 (by decide +kernel) ?_
          refine ja_goto (tgt := 51) dX8_drop_47 (by decide) ?_
          refine ja_iaddN dX8_drop_51 ?_
          refine ja_istore_n (i := 1) dX8_drop_52 rfl rfl (Nat.le_of_ble_eq_true rfl) ?_
          refine ja_aload_n (i := 0) dX8_drop_53 rfl rfl ?_
          refine ja_getR fl_X8_17 (zM_s hz) rfl (zM_p4 hz) dX8_drop_54 ?_
          refine ja_iload_n (i := 2) dX8_drop_57 rfl rfl ?_
          refine ja_aload_n (i := 0) dX8_drop_58 rfl rfl ?_
          refine ja_getR fl_X8_27 (zM_s hz) rfl (zM_p7 hz) dX8_drop_59 ?_
          refine ja_iload_n (i := 2) dX8_drop_62 rfl rfl ?_
          refine ja_iald (zM_a7 hz) rfl (by omega) (by decide) dX8_drop_63 ?_
          refine ja_iast (zM_a4 hz) rfl (by omega) (by decide) dX8_drop_64 ?_
          refine ja_iincN dX8_drop_65 rfl rfl (Nat.le_of_ble_eq_true rfl) ?_
          refine ja_goto (tgt := 23) dX8_drop_68 (by decide) ?_
          exact ih23 (k + 1) _ _ (by omega) (by omega) (by rw [hn, fb_ct_succ]; simp_all) (by rw [hE]; exact cpU_s (cpU_src (by decide)))
  exact lp23 769 0 0 (ja_up D 100 0 (nI (0))) (by omega) (by omega) rfl cpU_0
