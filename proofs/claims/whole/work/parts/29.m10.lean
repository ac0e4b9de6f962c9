/-! THE REFERENCE: addRule, checkOut, change -/
set_option maxRecDepth 100000 in
set_option maxHeartbeats 4000000 in
theorem r_addRule_f1 (l : Launch) {Z : jZ} {D : jD} (hz : zM Z) {kd : Int32} (a b : Int32) (hkd : ¬ (kd = nI 105 ∨ kd = nI 110 ∨ kd = nI 97)) : ja_M l (mX8_addRule 0 0) [.ref (100), .int (kd), .int (a), .int (b)] Z D (ja_jd (some (.int (nI 0))) Z (fun D2 => D2 = ja_up D 100 0 (nI 1))) ja_x0 := by
  refine ja_Mof (lv := [some (.ref (100)), some (.int (kd)), some (.int (a)), some (.int (b))]) (by decide +kernel) rfl rfl (Nat.le_of_ble_eq_true rfl) rfl ?_
  refine ja_aload_n (i := 0) dX8_addRule_0 rfl rfl ?_
  refine ja_iconst (v := nI 0) dX8_addRule_1 (by decide +kernel) ?_
  refine ja_putI fl_X8_85 (zM_s hz) rfl rfl rfl dX8_addRule_2 ?_
  refine ja_iload_n (i := 1) dX8_addRule_5 rfl rfl ?_
  refine ja_bipush (v := nI 105) dX8_addRule_6 (by decide +kernel) ?_
  refine ja_icmp_eq (tgt := 29) dX8_addRule_8 (by decide) (fun c8 => ?_) (fun c8 => ?_)
  ·
    exact absurd (Or.inl c8) hkd
  ·
    refine ja_iload_n (i := 1) dX8_addRule_11 rfl rfl ?_
    refine ja_bipush (v := nI 110) dX8_addRule_12 (by decide +kernel) ?_
    refine ja_icmp_eq (tgt := 29) dX8_addRule_14 (by decide) (fun c14 => ?_) (fun c14 => ?_)
    ·
      exact absurd (Or.inr (Or.inl c14)) hkd
    ·
      refine ja_iload_n (i := 1) dX8_addRule_17 rfl rfl ?_
      refine ja_bipush (v := nI 97) dX8_addRule_18 (by decide +kernel) ?_
      refine ja_icmp_eq (tgt := 29) dX8_addRule_20 (by decide) (fun c20 => ?_) (fun c20 => ?_)
      ·
        exact absurd (Or.inr (Or.inr c20)) hkd
      ·
        refine ja_aload_n (i := 0) dX8_addRule_23 rfl rfl ?_
        refine ja_iconst (v := nI 1) dX8_addRule_24 (by decide +kernel) ?_
        refine ja_cVd (st := []) (s_fails l hz (nI (1))) rfl rfl (ce_X8_fails 0 0) im_X8_fails se_X8_fails lk_X8_96 k_X8 (zM_s hz) ⟨(Nat.le_of_ble_eq_true rfl), (Nat.le_of_ble_eq_true rfl)⟩ dX8_addRule_25 rfl rfl (Nat.le_of_ble_eq_true rfl) (Nat.zero_le _) (Nat.zero_le _) ?_
        intro D25 hD25
        subst hD25
        refine ja_num (D2 := ja_up D 100 0 (nI (1))) up_2 ?_
        refine ja_iret rfl rfl dX8_addRule_28 (Nat.zero_le _) (Nat.zero_le _) ?_
        exact ⟨rfl, rfl, rfl⟩

set_option maxRecDepth 100000 in
set_option maxHeartbeats 4000000 in
theorem r_addRule_f2 (l : Launch) {Z : jZ} {D : jD} (hz : zM Z) {kd x y : Int32} (hkd : kd = nI 105 ∨ kd = nI 110 ∨ kd = nI 97) (hal : ¬ areL x y)  : ja_M l (mX8_addRule 0 0) [.ref (100), .int (kd), .int (x), .int (y)] Z D (ja_jd (some (.int (nI 0))) Z (fun D2 => D2 = ja_up D 100 0 (nI 2))) ja_x0 := by
  refine ja_Mof (lv := [some (.ref (100)), some (.int (kd)), some (.int (x)), some (.int (y))]) (by decide +kernel) rfl rfl (Nat.le_of_ble_eq_true rfl) rfl ?_
  refine ja_aload_n (i := 0) dX8_addRule_0 rfl rfl ?_
  refine ja_iconst (v := nI 0) dX8_addRule_1 (by decide +kernel) ?_
  refine ja_putI fl_X8_85 (zM_s hz) rfl rfl rfl dX8_addRule_2 ?_
  have jn29 : ∀ (_u : Nat), ja_A l (mX8_addRule 0 0) ja_sn (ja_Qf (mX8_addRule 0 0) (ja_jd (some (.int (nI 0))) Z (fun D2 => D2 = ja_up D 100 0 (nI 2))) ja_x0) 29 [some (.ref (100)), some (.int (kd)), some (.int (x)), some (.int (y))] [] Z (ja_up D 100 0 (nI 0)) 0 0 := by
    intro _u 
    refine ja_iload_n (i := 2) dX8_addRule_29 rfl rfl ?_
    refine ja_cSr (st := []) (s_isLayerD l (x)) rfl rfl (ce_X8_isLayer 0 0) st_X8_isLayer lk_X8_106 ⟨(Nat.le_of_ble_eq_true rfl), (Nat.le_of_ble_eq_true rfl)⟩ dX8_addRule_30 rfl rfl (Nat.le_of_ble_eq_true rfl) (Nat.zero_le _) (Nat.zero_le _) ?_
    refine ja_ifB_eq (tgt := 48) dX8_addRule_33 (by decide) (fun c33 => ?_) (fun c33 => ?_)
    ·
      refine ja_aload_n (i := 0) dX8_addRule_48 rfl rfl ?_
      refine ja_iconst (v := nI 2) dX8_addRule_49 (by decide +kernel) ?_
      refine ja_cVd (st := []) (s_fails l hz (nI (2))) rfl rfl (ce_X8_fails 0 0) im_X8_fails se_X8_fails lk_X8_96 k_X8 (zM_s hz) ⟨(Nat.le_of_ble_eq_true rfl), (Nat.le_of_ble_eq_true rfl)⟩ dX8_addRule_50 rfl rfl (Nat.le_of_ble_eq_true rfl) (Nat.zero_le _) (Nat.zero_le _) ?_
      intro D50 hD50
      subst hD50
      refine ja_num (D2 := ja_up D 100 0 (nI (2))) up_2 ?_
      refine ja_iret rfl rfl dX8_addRule_53 (Nat.zero_le _) (Nat.zero_le _) ?_
      exact ⟨rfl, rfl, rfl⟩
    ·
      refine ja_iload_n (i := 3) dX8_addRule_36 rfl rfl ?_
      refine ja_cSr (st := []) (s_isLayerD l (y)) rfl rfl (ce_X8_isLayer 0 0) st_X8_isLayer lk_X8_106 ⟨(Nat.le_of_ble_eq_true rfl), (Nat.le_of_ble_eq_true rfl)⟩ dX8_addRule_37 rfl rfl (Nat.le_of_ble_eq_true rfl) (Nat.zero_le _) (Nat.zero_le _) ?_
      refine ja_ifB_eq (tgt := 48) dX8_addRule_40 (by decide) (fun c40 => ?_) (fun c40 => ?_)
      ·
        refine ja_aload_n (i := 0) dX8_addRule_48 rfl rfl ?_
        refine ja_iconst (v := nI 2) dX8_addRule_49 (by decide +kernel) ?_
        refine ja_cVd (st := []) (s_fails l hz (nI (2))) rfl rfl (ce_X8_fails 0 0) im_X8_fails se_X8_fails lk_X8_96 k_X8 (zM_s hz) ⟨(Nat.le_of_ble_eq_true rfl), (Nat.le_of_ble_eq_true rfl)⟩ dX8_addRule_50 rfl rfl (Nat.le_of_ble_eq_true rfl) (Nat.zero_le _) (Nat.zero_le _) ?_
        intro D50 hD50
        subst hD50
        refine ja_num (D2 := ja_up D 100 0 (nI (2))) up_2 ?_
        refine ja_iret rfl rfl dX8_addRule_53 (Nat.zero_le _) (Nat.zero_le _) ?_
        exact ⟨rfl, rfl, rfl⟩
      ·
        refine ja_iload_n (i := 2) dX8_addRule_43 rfl rfl ?_
        refine ja_iload_n (i := 3) dX8_addRule_44 rfl rfl ?_
        refine ja_icmp_ne (tgt := 54) dX8_addRule_45 (by decide) (fun c45 => ?_) (fun c45 => ?_)
        ·
          exact absurd ⟨of_decide_eq_true (by simpa using c33), of_decide_eq_true (by simpa using c40), c45⟩ hal
        ·
          refine ja_aload_n (i := 0) dX8_addRule_48 rfl rfl ?_
          refine ja_iconst (v := nI 2) dX8_addRule_49 (by decide +kernel) ?_
          refine ja_cVd (st := []) (s_fails l hz (nI (2))) rfl rfl (ce_X8_fails 0 0) im_X8_fails se_X8_fails lk_X8_96 k_X8 (zM_s hz) ⟨(Nat.le_of_ble_eq_true rfl), (Nat.le_of_ble_eq_true rfl)⟩ dX8_addRule_50 rfl rfl (Nat.le_of_ble_eq_true rfl) (Nat.zero_le _) (Nat.zero_le _) ?_
          intro D50 hD50
          subst hD50
          refine ja_num (D2 := ja_up D 100 0 (nI (2))) up_2 ?_
          refine ja_iret rfl rfl dX8_addRule_53 (Nat.zero_le _) (Nat.zero_le _) ?_
          exact ⟨rfl, rfl, rfl⟩
  refine ja_iload_n (i := 1) dX8_addRule_5 rfl rfl ?_
  refine ja_bipush (v := nI 105) dX8_addRule_6 (by decide +kernel) ?_
  refine ja_icmp_eq (tgt := 29) dX8_addRule_8 (by decide) (fun c8 => ?_) (fun c8 => ?_)
  ·
    exact jn29 0
  ·
    refine ja_iload_n (i := 1) dX8_addRule_11 rfl rfl ?_
    refine ja_bipush (v := nI 110) dX8_addRule_12 (by decide +kernel) ?_
    refine ja_icmp_eq (tgt := 29) dX8_addRule_14 (by decide) (fun c14 => ?_) (fun c14 => ?_)
    ·
      exact jn29 0
    ·
      refine ja_iload_n (i := 1) dX8_addRule_17 rfl rfl ?_
      refine ja_bipush (v := nI 97) dX8_addRule_18 (by decide +kernel) ?_
      refine ja_icmp_eq (tgt := 29) dX8_addRule_20 (by decide) (fun c20 => ?_) (fun c20 => ?_)
      ·
        exact jn29 0
      ·
        exact absurd hkd (by rintro (e | e | e); exact c8 e; exact c14 e; exact c20 e)

set_option maxRecDepth 100000 in
set_option maxHeartbeats 4000000 in
theorem r_addRule_f3 (l : Launch) {Z : jZ} {D : jD} (hz : zM Z) {kd : Int32} (hkd : kd = nI 105 ∨ kd = nI 110 ∨ kd = nI 97) {l1 l2 : Nat} (h1 : l1 < 3) (h2 : l2 < 3) (h3 : l1 ≠ l2) (hrn : D 100 12 = nI 6) : ja_M l (mX8_addRule 0 0) [.ref (100), .int (kd), .int (nI (l1)), .int (nI (l2))] Z D (ja_jd (some (.int (nI 0))) Z (fun D2 => D2 = ja_up D 100 0 (nI 3))) ja_x0 := by
  refine ja_Mof (lv := [some (.ref (100)), some (.int (kd)), some (.int (nI (l1))), some (.int (nI (l2)))]) (by decide +kernel) rfl rfl (Nat.le_of_ble_eq_true rfl) rfl ?_
  refine ja_aload_n (i := 0) dX8_addRule_0 rfl rfl ?_
  refine ja_iconst (v := nI 0) dX8_addRule_1 (by decide +kernel) ?_
  refine ja_putI fl_X8_85 (zM_s hz) rfl rfl rfl dX8_addRule_2 ?_
  have jn29 : ∀ (_u : Nat), ja_A l (mX8_addRule 0 0) ja_sn (ja_Qf (mX8_addRule 0 0) (ja_jd (some (.int (nI 0))) Z (fun D2 => D2 = ja_up D 100 0 (nI 3))) ja_x0) 29 [some (.ref (100)), some (.int (kd)), some (.int (nI (l1))), some (.int (nI (l2)))] [] Z (ja_up D 100 0 (nI 0)) 0 0 := by
    intro _u 
    refine ja_iload_n (i := 2) dX8_addRule_29 rfl rfl ?_
    refine ja_cSr (st := []) (s_isLayerT l (by omega)) rfl rfl (ce_X8_isLayer 0 0) st_X8_isLayer lk_X8_106 ⟨(Nat.le_of_ble_eq_true rfl), (Nat.le_of_ble_eq_true rfl)⟩ dX8_addRule_30 rfl rfl (Nat.le_of_ble_eq_true rfl) (Nat.zero_le _) (Nat.zero_le _) ?_
    refine ja_ifB_eq (tgt := 48) dX8_addRule_33 (by decide) (fun c33 => absurd c33 (by decide)) (fun c33 => ?_)
    refine ja_iload_n (i := 3) dX8_addRule_36 rfl rfl ?_
    refine ja_cSr (st := []) (s_isLayerT l (by omega)) rfl rfl (ce_X8_isLayer 0 0) st_X8_isLayer lk_X8_106 ⟨(Nat.le_of_ble_eq_true rfl), (Nat.le_of_ble_eq_true rfl)⟩ dX8_addRule_37 rfl rfl (Nat.le_of_ble_eq_true rfl) (Nat.zero_le _) (Nat.zero_le _) ?_
    refine ja_ifB_eq (tgt := 48) dX8_addRule_40 (by decide) (fun c40 => absurd c40 (by decide)) (fun c40 => ?_)
    refine ja_iload_n (i := 2) dX8_addRule_43 rfl rfl ?_
    refine ja_iload_n (i := 3) dX8_addRule_44 rfl rfl ?_
    refine ja_icmpN_ne (tgt := 54) dX8_addRule_45 (by decide) (by omega) (by omega) (fun c45 => ?_) (fun c45 => (by exfalso; omega))
    refine ja_aload_n (i := 0) dX8_addRule_54 rfl rfl ?_
    refine ja_getI fl_X8_120 (zM_s hz) rfl dX8_addRule_55 ?_
    refine ja_top (y := nI (6)) hrn ?_
    refine ja_bipush (v := nI 6) dX8_addRule_58 (by decide +kernel) ?_
    refine ja_icmpN_eq (tgt := 71) dX8_addRule_60 (by decide) (by omega) (by omega) (fun c60 => ?_) (fun c60 => absurd c60 (by decide))
    refine ja_aload_n (i := 0) dX8_addRule_71 rfl rfl ?_
    refine ja_iconst (v := nI 3) dX8_addRule_72 (by decide +kernel) ?_
    refine ja_cVd (st := []) (s_fails l hz (nI (3))) rfl rfl (ce_X8_fails 0 0) im_X8_fails se_X8_fails lk_X8_96 k_X8 (zM_s hz) ⟨(Nat.le_of_ble_eq_true rfl), (Nat.le_of_ble_eq_true rfl)⟩ dX8_addRule_73 rfl rfl (Nat.le_of_ble_eq_true rfl) (Nat.zero_le _) (Nat.zero_le _) ?_
    intro D73 hD73
    subst hD73
    refine ja_num (D2 := ja_up D 100 0 (nI (3))) up_2 ?_
    refine ja_iret rfl rfl dX8_addRule_76 (Nat.zero_le _) (Nat.zero_le _) ?_
    exact ⟨rfl, rfl, rfl⟩
  refine ja_iload_n (i := 1) dX8_addRule_5 rfl rfl ?_
  refine ja_bipush (v := nI 105) dX8_addRule_6 (by decide +kernel) ?_
  refine ja_icmp_eq (tgt := 29) dX8_addRule_8 (by decide) (fun c8 => ?_) (fun c8 => ?_)
  ·
    exact jn29 0
  ·
    refine ja_iload_n (i := 1) dX8_addRule_11 rfl rfl ?_
    refine ja_bipush (v := nI 110) dX8_addRule_12 (by decide +kernel) ?_
    refine ja_icmp_eq (tgt := 29) dX8_addRule_14 (by decide) (fun c14 => ?_) (fun c14 => ?_)
    ·
      exact jn29 0
    ·
      refine ja_iload_n (i := 1) dX8_addRule_17 rfl rfl ?_
      refine ja_bipush (v := nI 97) dX8_addRule_18 (by decide +kernel) ?_
      refine ja_icmp_eq (tgt := 29) dX8_addRule_20 (by decide) (fun c20 => ?_) (fun c20 => ?_)
      ·
        exact jn29 0
      ·
        exact absurd hkd (by rintro (e | e | e); exact c8 e; exact c14 e; exact c20 e)

set_option maxRecDepth 100000 in
set_option maxHeartbeats 4000000 in
theorem r_addRule_f3b (l : Launch) {Z : jZ} {D : jD} (hz : zM Z) {kd : Int32} (hkd : kd = nI 105 ∨ kd = nI 110 ∨ kd = nI 97) {l1 l2 : Nat} (h1 : l1 < 3) (h2 : l2 < 3) (h3 : l1 ≠ l2) {n : Nat} (hrn : D 100 12 = nI n) (hn6 : n < 6) {w0 : Nat} (hau : D 100 2 = nI w0) (hw5 : w0 ≤ 5)  : ja_M l (mX8_addRule 0 0) [.ref (100), .int (kd), .int (nI (l1)), .int (nI (l2))] Z D (ja_jd (some (.int (nI 0))) Z (fun D2 => D2 = ja_up D 100 0 (nI 3))) ja_x0 := by
  refine ja_Mof (lv := [some (.ref (100)), some (.int (kd)), some (.int (nI (l1))), some (.int (nI (l2)))]) (by decide +kernel) rfl rfl (Nat.le_of_ble_eq_true rfl) rfl ?_
  refine ja_aload_n (i := 0) dX8_addRule_0 rfl rfl ?_
  refine ja_iconst (v := nI 0) dX8_addRule_1 (by decide +kernel) ?_
  refine ja_putI fl_X8_85 (zM_s hz) rfl rfl rfl dX8_addRule_2 ?_
  have jn29 : ∀ (_u : Nat), ja_A l (mX8_addRule 0 0) ja_sn (ja_Qf (mX8_addRule 0 0) (ja_jd (some (.int (nI 0))) Z (fun D2 => D2 = ja_up D 100 0 (nI 3))) ja_x0) 29 [some (.ref (100)), some (.int (kd)), some (.int (nI (l1))), some (.int (nI (l2)))] [] Z (ja_up D 100 0 (nI 0)) 0 0 := by
    intro _u 
    refine ja_iload_n (i := 2) dX8_addRule_29 rfl rfl ?_
    refine ja_cSr (st := []) (s_isLayerT l (by omega)) rfl rfl (ce_X8_isLayer 0 0) st_X8_isLayer lk_X8_106 ⟨(Nat.le_of_ble_eq_true rfl), (Nat.le_of_ble_eq_true rfl)⟩ dX8_addRule_30 rfl rfl (Nat.le_of_ble_eq_true rfl) (Nat.zero_le _) (Nat.zero_le _) ?_
    refine ja_ifB_eq (tgt := 48) dX8_addRule_33 (by decide) (fun c33 => absurd c33 (by decide)) (fun c33 => ?_)
    refine ja_iload_n (i := 3) dX8_addRule_36 rfl rfl ?_
    refine ja_cSr (st := []) (s_isLayerT l (by omega)) rfl rfl (ce_X8_isLayer 0 0) st_X8_isLayer lk_X8_106 ⟨(Nat.le_of_ble_eq_true rfl), (Nat.le_of_ble_eq_true rfl)⟩ dX8_addRule_37 rfl rfl (Nat.le_of_ble_eq_true rfl) (Nat.zero_le _) (Nat.zero_le _) ?_
    refine ja_ifB_eq (tgt := 48) dX8_addRule_40 (by decide) (fun c40 => absurd c40 (by decide)) (fun c40 => ?_)
    refine ja_iload_n (i := 2) dX8_addRule_43 rfl rfl ?_
    refine ja_iload_n (i := 3) dX8_addRule_44 rfl rfl ?_
    refine ja_icmpN_ne (tgt := 54) dX8_addRule_45 (by decide) (by omega) (by omega) (fun c45 => ?_) (fun c45 => (by exfalso; omega))
    refine ja_aload_n (i := 0) dX8_addRule_54 rfl rfl ?_
    refine ja_getI fl_X8_120 (zM_s hz) rfl dX8_addRule_55 ?_
    refine ja_top (y := nI (n)) hrn ?_
    refine ja_bipush (v := nI 6) dX8_addRule_58 (by decide +kernel) ?_
    refine ja_icmpN_eq (tgt := 71) dX8_addRule_60 (by decide) (by omega) (by omega) (fun c60 => (by exfalso; omega)) (fun c60 => ?_)
    refine ja_aload_n (i := 0) dX8_addRule_63 rfl rfl ?_
    refine ja_getI fl_X8_9 (zM_s hz) rfl dX8_addRule_64 ?_
    refine ja_top (y := nI (w0)) hau ?_
    refine ja_iconst (v := (-1)) dX8_addRule_67 (by decide +kernel) ?_
    refine ja_icmp_eq (tgt := 77) dX8_addRule_68 (by decide) (fun c68 => absurd c68 (nI_nm1 (by omega))) (fun c68 => ?_)
    refine ja_aload_n (i := 0) dX8_addRule_71 rfl rfl ?_
    refine ja_iconst (v := nI 3) dX8_addRule_72 (by decide +kernel) ?_
    refine ja_cVd (st := []) (s_fails l hz (nI (3))) rfl rfl (ce_X8_fails 0 0) im_X8_fails se_X8_fails lk_X8_96 k_X8 (zM_s hz) ⟨(Nat.le_of_ble_eq_true rfl), (Nat.le_of_ble_eq_true rfl)⟩ dX8_addRule_73 rfl rfl (Nat.le_of_ble_eq_true rfl) (Nat.zero_le _) (Nat.zero_le _) ?_
    intro D73 hD73
    subst hD73
    refine ja_num (D2 := ja_up D 100 0 (nI (3))) up_2 ?_
    refine ja_iret rfl rfl dX8_addRule_76 (Nat.zero_le _) (Nat.zero_le _) ?_
    exact ⟨rfl, rfl, rfl⟩
  refine ja_iload_n (i := 1) dX8_addRule_5 rfl rfl ?_
  refine ja_bipush (v := nI 105) dX8_addRule_6 (by decide +kernel) ?_
  refine ja_icmp_eq (tgt := 29) dX8_addRule_8 (by decide) (fun c8 => ?_) (fun c8 => ?_)
  ·
    exact jn29 0
  ·
    refine ja_iload_n (i := 1) dX8_addRule_11 rfl rfl ?_
    refine ja_bipush (v := nI 110) dX8_addRule_12 (by decide +kernel) ?_
    refine ja_icmp_eq (tgt := 29) dX8_addRule_14 (by decide) (fun c14 => ?_) (fun c14 => ?_)
    ·
      exact jn29 0
    ·
      refine ja_iload_n (i := 1) dX8_addRule_17 rfl rfl ?_
      refine ja_bipush (v := nI 97) dX8_addRule_18 (by decide +kernel) ?_
      refine ja_icmp_eq (tgt := 29) dX8_addRule_20 (by decide) (fun c20 => ?_) (fun c20 => ?_)
      ·
        exact jn29 0
      ·
        exact absurd hkd (by rintro (e | e | e); exact c8 e; exact c14 e; exact c20 e)

set_option maxRecDepth 100000 in
set_option maxHeartbeats 4000000 in
theorem r_addRule_ok (l : Launch) {Z : jZ} {D : jD} (hz : zM Z) {kd : Int32} (hkd : kd = nI 105 ∨ kd = nI 110 ∨ kd = nI 97) {l1 l2 : Nat} (h1 : l1 < 3) (h2 : l2 < 3) (h3 : l1 ≠ l2) {n : Nat} (hrn : D 100 12 = nI n) (hn6 : n < 6) (hau : D 100 2 = -1)  : ja_M l (mX8_addRule 0 0) [.ref (100), .int (kd), .int (nI (l1)), .int (nI (l2))] Z D (ja_jd (some (.int (nI n))) Z (fun D2 => D2 = (ja_up (ja_up (ja_up (ja_up (ja_up D 100 0 (nI 0)) 114 n kd) 115 n (nI l1)) 116 n (nI l2)) 100 12 (nI (n + 1))))) ja_x0 := by
  refine ja_Mof (lv := [some (.ref (100)), some (.int (kd)), some (.int (nI (l1))), some (.int (nI (l2)))]) (by decide +kernel) rfl rfl (Nat.le_of_ble_eq_true rfl) rfl ?_
  refine ja_aload_n (i := 0) dX8_addRule_0 rfl rfl ?_
  refine ja_iconst (v := nI 0) dX8_addRule_1 (by decide +kernel) ?_
  refine ja_putI fl_X8_85 (zM_s hz) rfl rfl rfl dX8_addRule_2 ?_
  have jn29 : ∀ (_u : Nat), ja_A l (mX8_addRule 0 0) ja_sn (ja_Qf (mX8_addRule 0 0) (ja_jd (some (.int (nI n))) Z (fun D2 => D2 = (ja_up (ja_up (ja_up (ja_up (ja_up D 100 0 (nI 0)) 114 n kd) 115 n (nI l1)) 116 n (nI l2)) 100 12 (nI (n + 1))))) ja_x0) 29 [some (.ref (100)), some (.int (kd)), some (.int (nI (l1))), some (.int (nI (l2)))] [] Z (ja_up D 100 0 (nI 0)) 0 0 := by
    intro _u 
    refine ja_iload_n (i := 2) dX8_addRule_29 rfl rfl ?_
    refine ja_cSr (st := []) (s_isLayerT l (by omega)) rfl rfl (ce_X8_isLayer 0 0) st_X8_isLayer lk_X8_106 ⟨(Nat.le_of_ble_eq_true rfl), (Nat.le_of_ble_eq_true rfl)⟩ dX8_addRule_30 rfl rfl (Nat.le_of_ble_eq_true rfl) (Nat.zero_le _) (Nat.zero_le _) ?_
    refine ja_ifB_eq (tgt := 48) dX8_addRule_33 (by decide) (fun c33 => absurd c33 (by decide)) (fun c33 => ?_)
    refine ja_iload_n (i := 3) dX8_addRule_36 rfl rfl ?_
    refine ja_cSr (st := []) (s_isLayerT l (by omega)) rfl rfl (ce_X8_isLayer 0 0) st_X8_isLayer lk_X8_106 ⟨(Nat.le_of_ble_eq_true rfl), (Nat.le_of_ble_eq_true rfl)⟩ dX8_addRule_37 rfl rfl (Nat.le_of_ble_eq_true rfl) (Nat.zero_le _) (Nat.zero_le _) ?_
    refine ja_ifB_eq (tgt := 48) dX8_addRule_40 (by decide) (fun c40 => absurd c40 (by decide)) (fun c40 => ?_)
    refine ja_iload_n (i := 2) dX8_addRule_43 rfl rfl ?_
    refine ja_iload_n (i := 3) dX8_addRule_44 rfl rfl ?_
    refine ja_icmpN_ne (tgt := 54) dX8_addRule_45 (by decide) (by omega) (by omega) (fun c45 => ?_) (fun c45 => (by exfalso; omega))
    refine ja_aload_n (i := 0) dX8_addRule_54 rfl rfl ?_
    refine ja_getI fl_X8_120 (zM_s hz) rfl dX8_addRule_55 ?_
    refine ja_top (y := nI (n)) hrn ?_
    refine ja_bipush (v := nI 6) dX8_addRule_58 (by decide +kernel) ?_
    refine ja_icmpN_eq (tgt := 71) dX8_addRule_60 (by decide) (by omega) (by omega) (fun c60 => (by exfalso; omega)) (fun c60 => ?_)
    refine ja_aload_n (i := 0) dX8_addRule_63 rfl rfl ?_
    refine ja_getI fl_X8_9 (zM_s hz) rfl dX8_addRule_64 ?_
    refine ja_top (y := (-1)) hau ?_
    refine ja_iconst (v := (-1)) dX8_addRule_67 (by decide +kernel) ?_
    refine ja_icmp_eq (tgt := 77) dX8_addRule_68 (by decide) (fun c68 => ?_) (fun c68 => absurd rfl c68)
    refine ja_aload_n (i := 0) dX8_addRule_77 rfl rfl ?_
    refine ja_getR fl_X8_42 (zM_s hz) rfl (zM_p13 hz) dX8_addRule_78 ?_
    refine ja_aload_n (i := 0) dX8_addRule_81 rfl rfl ?_
    refine ja_getI fl_X8_120 (zM_s hz) rfl dX8_addRule_82 ?_
    refine ja_top (y := nI (n)) hrn ?_
    refine ja_iload_n (i := 1) dX8_addRule_85 rfl rfl ?_
    refine ja_cast (zM_a13 hz) rfl (by omega) (by decide) (by rcases hkd with e | e | e <;> (rw [e]; decide +kernel)) dX8_addRule_86 ?_
    refine ja_aload_n (i := 0) dX8_addRule_87 rfl rfl ?_
    refine ja_getR fl_X8_46 (zM_s hz) rfl (zM_p14 hz) dX8_addRule_88 ?_
    refine ja_aload_n (i := 0) dX8_addRule_91 rfl rfl ?_
    refine ja_getI fl_X8_120 (zM_s hz) rfl dX8_addRule_92 ?_
    refine ja_top (y := nI (n)) hrn ?_
    refine ja_iload_n (i := 2) dX8_addRule_95 rfl rfl ?_
    refine ja_iast (zM_a14 hz) rfl (by omega) (by decide) dX8_addRule_96 ?_
    refine ja_aload_n (i := 0) dX8_addRule_97 rfl rfl ?_
    refine ja_getR fl_X8_49 (zM_s hz) rfl (zM_p15 hz) dX8_addRule_98 ?_
    refine ja_aload_n (i := 0) dX8_addRule_101 rfl rfl ?_
    refine ja_getI fl_X8_120 (zM_s hz) rfl dX8_addRule_102 ?_
    refine ja_top (y := nI (n)) hrn ?_
    refine ja_iload_n (i := 3) dX8_addRule_105 rfl rfl ?_
    refine ja_iast (zM_a15 hz) rfl (by omega) (by decide) dX8_addRule_106 ?_
    refine ja_aload_n (i := 0) dX8_addRule_107 rfl rfl ?_
    refine ja_dup dX8_addRule_108 rfl ?_
    refine ja_getI fl_X8_120 (zM_s hz) rfl dX8_addRule_109 ?_
    refine ja_top (y := nI (n)) hrn ?_
    refine ja_iconst (v := nI 1) dX8_addRule_112 (by decide +kernel) ?_
    refine ja_iaddN dX8_addRule_113 ?_
    refine ja_putI fl_X8_120 (zM_s hz) rfl rfl rfl dX8_addRule_114 ?_
    refine ja_aload_n (i := 0) dX8_addRule_117 rfl rfl ?_
    refine ja_getI fl_X8_120 (zM_s hz) rfl dX8_addRule_118 ?_
    refine ja_top (y := nI (n + 1)) up_s ?_
    refine ja_iconst (v := nI 1) dX8_addRule_121 (by decide +kernel) ?_
    refine ja_isubN dX8_addRule_122 (by omega) ?_
    refine ja_iret rfl rfl dX8_addRule_123 (Nat.zero_le _) (Nat.zero_le _) ?_
    exact ⟨by rw [show n + 1 - 1 = n by omega], rfl, rfl⟩
  refine ja_iload_n (i := 1) dX8_addRule_5 rfl rfl ?_
  refine ja_bipush (v := nI 105) dX8_addRule_6 (by decide +kernel) ?_
  refine ja_icmp_eq (tgt := 29) dX8_addRule_8 (by decide) (fun c8 => ?_) (fun c8 => ?_)
  ·
    exact jn29 0
  ·
    refine ja_iload_n (i := 1) dX8_addRule_11 rfl rfl ?_
    refine ja_bipush (v := nI 110) dX8_addRule_12 (by decide +kernel) ?_
    refine ja_icmp_eq (tgt := 29) dX8_addRule_14 (by decide) (fun c14 => ?_) (fun c14 => ?_)
    ·
      exact jn29 0
    ·
      refine ja_iload_n (i := 1) dX8_addRule_17 rfl rfl ?_
      refine ja_bipush (v := nI 97) dX8_addRule_18 (by decide +kernel) ?_
      refine ja_icmp_eq (tgt := 29) dX8_addRule_20 (by decide) (fun c20 => ?_) (fun c20 => ?_)
      ·
        exact jn29 0
      ·
        exact absurd hkd (by rintro (e | e | e); exact c8 e; exact c14 e; exact c20 e)

set_option maxRecDepth 100000 in
set_option maxHeartbeats 4000000 in
theorem r_change_f1 (l : Launch) {Z : jZ} {D : jD} (hz : zM Z) {vn : Nat} (hvn : D 100 16 = nI vn) (hv3 : vn ≤ 3) {k : Int32} (q a : Int32) (hk : ¬ (0 ≤ k.toInt ∧ k.toInt < vn)) : ja_M l (mX8_change 0 0) [.ref (100), .int (k), .int (q), .int (a)] Z D (ja_jd (some (.int (nI 0))) Z (fun D2 => D2 = ja_up D 100 0 (nI 1))) ja_x0 := by
  refine ja_Mof (lv := [some (.ref (100)), some (.int (k)), some (.int (q)), some (.int (a)), none]) (by decide +kernel) rfl rfl (Nat.le_of_ble_eq_true rfl) rfl ?_
  refine ja_aload_n (i := 0) dX8_change_0 rfl rfl ?_
  refine ja_iconst (v := nI 0) dX8_change_1 (by decide +kernel) ?_
  refine ja_putI fl_X8_85 (zM_s hz) rfl rfl rfl dX8_change_2 ?_
  refine ja_aload_n (i := 0) dX8_change_5 rfl rfl ?_
  refine ja_iload_n (i := 1) dX8_change_6 rfl rfl ?_
  refine ja_cVr (st := []) (s_isVersionF (D := (ja_up D 100 0 (nI (0)))) l hz (hvn) (by omega) hk) rfl rfl (ce_X8_isVersion 0 0) im_X8_isVersion se_X8_isVersion lk_X8_154 k_X8 (zM_s hz) ⟨(Nat.le_of_ble_eq_true rfl), (Nat.le_of_ble_eq_true rfl)⟩ dX8_change_7 rfl rfl (Nat.le_of_ble_eq_true rfl) (Nat.zero_le _) (Nat.zero_le _) ?_
  refine ja_ifB_ne (tgt := 19) dX8_change_10 (by decide) (fun c10 => absurd c10 (by decide)) (fun c10 => ?_)
  refine ja_aload_n (i := 0) dX8_change_13 rfl rfl ?_
  refine ja_iconst (v := nI 1) dX8_change_14 (by decide +kernel) ?_
  refine ja_cVd (st := []) (s_fails l hz (nI (1))) rfl rfl (ce_X8_fails 0 0) im_X8_fails se_X8_fails lk_X8_96 k_X8 (zM_s hz) ⟨(Nat.le_of_ble_eq_true rfl), (Nat.le_of_ble_eq_true rfl)⟩ dX8_change_15 rfl rfl (Nat.le_of_ble_eq_true rfl) (Nat.zero_le _) (Nat.zero_le _) ?_
  intro D15 hD15
  subst hD15
  refine ja_num (D2 := ja_up D 100 0 (nI (1))) up_2 ?_
  refine ja_iret rfl rfl dX8_change_18 (Nat.zero_le _) (Nat.zero_le _) ?_
  exact ⟨rfl, rfl, rfl⟩

set_option maxRecDepth 100000 in
set_option maxHeartbeats 4000000 in
theorem r_change_f2 (l : Launch) {Z : jZ} {D : jD} (hz : zM Z) {vn : Nat} (hvn : D 100 16 = nI vn) (hv3 : vn ≤ 3) {v : Nat} (hv : v < vn) {q : Int32} (a : Int32) (hq : ¬ (nI 0 ≤ q ∧ q ≤ nI 255)) : ja_M l (mX8_change 0 0) [.ref (100), .int (nI (v)), .int (q), .int (a)] Z D (ja_jd (some (.int (nI 0))) Z (fun D2 => D2 = ja_up D 100 0 (nI 2))) ja_x0 := by
  refine ja_Mof (lv := [some (.ref (100)), some (.int (nI (v))), some (.int (q)), some (.int (a)), none]) (by decide +kernel) rfl rfl (Nat.le_of_ble_eq_true rfl) rfl ?_
  refine ja_aload_n (i := 0) dX8_change_0 rfl rfl ?_
  refine ja_iconst (v := nI 0) dX8_change_1 (by decide +kernel) ?_
  refine ja_putI fl_X8_85 (zM_s hz) rfl rfl rfl dX8_change_2 ?_
  refine ja_aload_n (i := 0) dX8_change_5 rfl rfl ?_
  refine ja_iload_n (i := 1) dX8_change_6 rfl rfl ?_
  refine ja_cVr (st := []) (s_isVersionT (D := (ja_up D 100 0 (nI (0)))) l hz (hvn) (by omega) (by omega)) rfl rfl (ce_X8_isVersion 0 0) im_X8_isVersion se_X8_isVersion lk_X8_154 k_X8 (zM_s hz) ⟨(Nat.le_of_ble_eq_true rfl), (Nat.le_of_ble_eq_true rfl)⟩ dX8_change_7 rfl rfl (Nat.le_of_ble_eq_true rfl) (Nat.zero_le _) (Nat.zero_le _) ?_
  refine ja_ifB_ne (tgt := 19) dX8_change_10 (by decide) (fun c10 => ?_) (fun c10 => absurd c10 (by decide))
  refine ja_iload_n (i := 2) dX8_change_19 rfl rfl ?_
  refine ja_iconst (v := nI 0) dX8_change_20 (by decide +kernel) ?_
  refine ja_sipush (v := nI 255) dX8_change_21 (by decide +kernel) ?_
  refine ja_cSr (st := []) (s_inF l (q) (nI (0)) (nI (255)) hq) rfl rfl (ce_X8_in 0 0) st_X8_in lk_X8_88 ⟨(Nat.le_of_ble_eq_true rfl), (Nat.le_of_ble_eq_true rfl)⟩ dX8_change_24 rfl rfl (Nat.le_of_ble_eq_true rfl) (Nat.zero_le _) (Nat.zero_le _) ?_
  refine ja_ifB_eq (tgt := 45) dX8_change_27 (by decide) (fun c27 => ?_) (fun c27 => absurd c27 (by decide))
  refine ja_aload_n (i := 0) dX8_change_45 rfl rfl ?_
  refine ja_iconst (v := nI 2) dX8_change_46 (by decide +kernel) ?_
  refine ja_cVd (st := []) (s_fails l hz (nI (2))) rfl rfl (ce_X8_fails 0 0) im_X8_fails se_X8_fails lk_X8_96 k_X8 (zM_s hz) ⟨(Nat.le_of_ble_eq_true rfl), (Nat.le_of_ble_eq_true rfl)⟩ dX8_change_47 rfl rfl (Nat.le_of_ble_eq_true rfl) (Nat.zero_le _) (Nat.zero_le _) ?_
  intro D47 hD47
  subst hD47
  refine ja_num (D2 := ja_up D 100 0 (nI (2))) up_2 ?_
  refine ja_iret rfl rfl dX8_change_50 (Nat.zero_le _) (Nat.zero_le _) ?_
  exact ⟨rfl, rfl, rfl⟩

set_option maxRecDepth 100000 in
set_option maxHeartbeats 4000000 in
theorem r_change_f2b (l : Launch) {Z : jZ} {D : jD} (hz : zM Z) {vn : Nat} (hvn : D 100 16 = nI vn) (hv3 : vn ≤ 3) {v : Nat} (hv : v < vn) {q : Nat} (hq : q < 256) (a : Int32) (hb : D 119 (256 * v + q) = bI false) : ja_M l (mX8_change 0 0) [.ref (100), .int (nI (v)), .int (nI (q)), .int (a)] Z D (ja_jd (some (.int (nI 0))) Z (fun D2 => D2 = ja_up D 100 0 (nI 2))) ja_x0 := by
  refine ja_Mof (lv := [some (.ref (100)), some (.int (nI (v))), some (.int (nI (q))), some (.int (a)), none]) (by decide +kernel) rfl rfl (Nat.le_of_ble_eq_true rfl) rfl ?_
  refine ja_aload_n (i := 0) dX8_change_0 rfl rfl ?_
  refine ja_iconst (v := nI 0) dX8_change_1 (by decide +kernel) ?_
  refine ja_putI fl_X8_85 (zM_s hz) rfl rfl rfl dX8_change_2 ?_
  refine ja_aload_n (i := 0) dX8_change_5 rfl rfl ?_
  refine ja_iload_n (i := 1) dX8_change_6 rfl rfl ?_
  refine ja_cVr (st := []) (s_isVersionT (D := (ja_up D 100 0 (nI (0)))) l hz (hvn) (by omega) (by omega)) rfl rfl (ce_X8_isVersion 0 0) im_X8_isVersion se_X8_isVersion lk_X8_154 k_X8 (zM_s hz) ⟨(Nat.le_of_ble_eq_true rfl), (Nat.le_of_ble_eq_true rfl)⟩ dX8_change_7 rfl rfl (Nat.le_of_ble_eq_true rfl) (Nat.zero_le _) (Nat.zero_le _) ?_
  refine ja_ifB_ne (tgt := 19) dX8_change_10 (by decide) (fun c10 => ?_) (fun c10 => absurd c10 (by decide))
  refine ja_iload_n (i := 2) dX8_change_19 rfl rfl ?_
  refine ja_iconst (v := nI 0) dX8_change_20 (by decide +kernel) ?_
  refine ja_sipush (v := nI 255) dX8_change_21 (by decide +kernel) ?_
  refine ja_cSr (st := []) (s_inT l (q) 0 255 (by omega) (by omega) (by omega)) rfl rfl (ce_X8_in 0 0) st_X8_in lk_X8_88 ⟨(Nat.le_of_ble_eq_true rfl), (Nat.le_of_ble_eq_true rfl)⟩ dX8_change_24 rfl rfl (Nat.le_of_ble_eq_true rfl) (Nat.zero_le _) (Nat.zero_le _) ?_
  refine ja_ifB_eq (tgt := 45) dX8_change_27 (by decide) (fun c27 => absurd c27 (by decide)) (fun c27 => ?_)
  refine ja_aload_n (i := 0) dX8_change_30 rfl rfl ?_
  refine ja_getR fl_X8_55 (zM_s hz) rfl (zM_p18 hz) dX8_change_31 ?_
  refine ja_sipush (v := nI 256) dX8_change_34 (by decide +kernel) ?_
  refine ja_iload_n (i := 1) dX8_change_37 rfl rfl ?_
  refine ja_imulN dX8_change_38 ?_
  refine ja_iload_n (i := 2) dX8_change_39 rfl rfl ?_
  refine ja_iaddN dX8_change_40 ?_
  refine ja_zald (zM_a18 hz) rfl (by omega) (by decide) dX8_change_41 ?_
  refine ja_top (y := bI (false)) hb ?_
  refine ja_ifB_ne (tgt := 51) dX8_change_42 (by decide) (fun c42 => absurd c42 (by decide)) (fun c42 => ?_)
  refine ja_aload_n (i := 0) dX8_change_45 rfl rfl ?_
  refine ja_iconst (v := nI 2) dX8_change_46 (by decide +kernel) ?_
  refine ja_cVd (st := []) (s_fails l hz (nI (2))) rfl rfl (ce_X8_fails 0 0) im_X8_fails se_X8_fails lk_X8_96 k_X8 (zM_s hz) ⟨(Nat.le_of_ble_eq_true rfl), (Nat.le_of_ble_eq_true rfl)⟩ dX8_change_47 rfl rfl (Nat.le_of_ble_eq_true rfl) (Nat.zero_le _) (Nat.zero_le _) ?_
  intro D47 hD47
  subst hD47
  refine ja_num (D2 := ja_up D 100 0 (nI (2))) up_2 ?_
  refine ja_iret rfl rfl dX8_change_50 (Nat.zero_le _) (Nat.zero_le _) ?_
  exact ⟨rfl, rfl, rfl⟩

set_option maxRecDepth 100000 in
set_option maxHeartbeats 4000000 in
theorem r_change_f3 (l : Launch) {Z : jZ} {D : jD} (hz : zM Z) {vn : Nat} (hvn : D 100 16 = nI vn) (hv3 : vn ≤ 3) {v : Nat} (hv : v < vn) {q : Nat} (hq : q < 256) (hb : D 119 (256 * v + q) = bI true) {a : Int32} (hn : ¬ a = -1) (ha : ¬ (nI 0 ≤ a ∧ a ≤ nI 9)) : ja_M l (mX8_change 0 0) [.ref (100), .int (nI (v)), .int (nI (q)), .int (a)] Z D (ja_jd (some (.int (nI 0))) Z (fun D2 => D2 = ja_up D 100 0 (nI 3))) ja_x0 := by
  refine ja_Mof (lv := [some (.ref (100)), some (.int (nI (v))), some (.int (nI (q))), some (.int (a)), none]) (by decide +kernel) rfl rfl (Nat.le_of_ble_eq_true rfl) rfl ?_
  refine ja_aload_n (i := 0) dX8_change_0 rfl rfl ?_
  refine ja_iconst (v := nI 0) dX8_change_1 (by decide +kernel) ?_
  refine ja_putI fl_X8_85 (zM_s hz) rfl rfl rfl dX8_change_2 ?_
  refine ja_aload_n (i := 0) dX8_change_5 rfl rfl ?_
  refine ja_iload_n (i := 1) dX8_change_6 rfl rfl ?_
  refine ja_cVr (st := []) (s_isVersionT (D := (ja_up D 100 0 (nI (0)))) l hz (hvn) (by omega) (by omega)) rfl rfl (ce_X8_isVersion 0 0) im_X8_isVersion se_X8_isVersion lk_X8_154 k_X8 (zM_s hz) ⟨(Nat.le_of_ble_eq_true rfl), (Nat.le_of_ble_eq_true rfl)⟩ dX8_change_7 rfl rfl (Nat.le_of_ble_eq_true rfl) (Nat.zero_le _) (Nat.zero_le _) ?_
  refine ja_ifB_ne (tgt := 19) dX8_change_10 (by decide) (fun c10 => ?_) (fun c10 => absurd c10 (by decide))
  refine ja_iload_n (i := 2) dX8_change_19 rfl rfl ?_
  refine ja_iconst (v := nI 0) dX8_change_20 (by decide +kernel) ?_
  refine ja_sipush (v := nI 255) dX8_change_21 (by decide +kernel) ?_
  refine ja_cSr (st := []) (s_inT l (q) 0 255 (by omega) (by omega) (by omega)) rfl rfl (ce_X8_in 0 0) st_X8_in lk_X8_88 ⟨(Nat.le_of_ble_eq_true rfl), (Nat.le_of_ble_eq_true rfl)⟩ dX8_change_24 rfl rfl (Nat.le_of_ble_eq_true rfl) (Nat.zero_le _) (Nat.zero_le _) ?_
  refine ja_ifB_eq (tgt := 45) dX8_change_27 (by decide) (fun c27 => absurd c27 (by decide)) (fun c27 => ?_)
  refine ja_aload_n (i := 0) dX8_change_30 rfl rfl ?_
  refine ja_getR fl_X8_55 (zM_s hz) rfl (zM_p18 hz) dX8_change_31 ?_
  refine ja_sipush (v := nI 256) dX8_change_34 (by decide +kernel) ?_
  refine ja_iload_n (i := 1) dX8_change_37 rfl rfl ?_
  refine ja_imulN dX8_change_38 ?_
  refine ja_iload_n (i := 2) dX8_change_39 rfl rfl ?_
  refine ja_iaddN dX8_change_40 ?_
  refine ja_zald (zM_a18 hz) rfl (by omega) (by decide) dX8_change_41 ?_
  refine ja_top (y := bI (true)) hb ?_
  refine ja_ifB_ne (tgt := 51) dX8_change_42 (by decide) (fun c42 => ?_) (fun c42 => absurd c42 (by decide))
  refine ja_iload_n (i := 3) dX8_change_51 rfl rfl ?_
  refine ja_iconst (v := (-1)) dX8_change_52 (by decide +kernel) ?_
  refine ja_icmp_eq (tgt := 69) dX8_change_53 (by decide) (fun c53 => absurd c53 hn) (fun c53 => ?_)
  refine ja_iload_n (i := 3) dX8_change_56 rfl rfl ?_
  refine ja_cSr (st := []) (s_isAreaF l ha) rfl rfl (ce_X8_isArea 0 0) st_X8_isArea lk_X8_110 ⟨(Nat.le_of_ble_eq_true rfl), (Nat.le_of_ble_eq_true rfl)⟩ dX8_change_57 rfl rfl (Nat.le_of_ble_eq_true rfl) (Nat.zero_le _) (Nat.zero_le _) ?_
  refine ja_ifB_ne (tgt := 69) dX8_change_60 (by decide) (fun c60 => absurd c60 (by decide)) (fun c60 => ?_)
  refine ja_aload_n (i := 0) dX8_change_63 rfl rfl ?_
  refine ja_iconst (v := nI 3) dX8_change_64 (by decide +kernel) ?_
  refine ja_cVd (st := []) (s_fails l hz (nI (3))) rfl rfl (ce_X8_fails 0 0) im_X8_fails se_X8_fails lk_X8_96 k_X8 (zM_s hz) ⟨(Nat.le_of_ble_eq_true rfl), (Nat.le_of_ble_eq_true rfl)⟩ dX8_change_65 rfl rfl (Nat.le_of_ble_eq_true rfl) (Nat.zero_le _) (Nat.zero_le _) ?_
  intro D65 hD65
  subst hD65
  refine ja_num (D2 := ja_up D 100 0 (nI (3))) up_2 ?_
  refine ja_iret rfl rfl dX8_change_68 (Nat.zero_le _) (Nat.zero_le _) ?_
  exact ⟨rfl, rfl, rfl⟩

set_option maxRecDepth 100000 in
set_option maxHeartbeats 4000000 in
theorem r_change_okN (l : Launch) {Z : jZ} {D : jD} (hz : zM Z) {vn : Nat} (hvn : D 100 16 = nI vn) (hv3 : vn ≤ 3) {v : Nat} (hv : v < vn) {q : Nat} (hq : q < 256) (hb : D 119 (256 * v + q) = bI true)  : ja_M l (mX8_change 0 0) [.ref (100), .int (nI (v)), .int (nI (q)), .int ((-1))] Z D (ja_jd (some (.int (D 121 (256 * v + q)))) Z (fun D2 => D2 = ja_up (ja_up D 100 0 (nI 0)) 121 (256 * v + q) (-1))) ja_x0 := by
  refine ja_Mof (lv := [some (.ref (100)), some (.int (nI (v))), some (.int (nI (q))), some (.int ((-1))), none]) (by decide +kernel) rfl rfl (Nat.le_of_ble_eq_true rfl) rfl ?_
  refine ja_aload_n (i := 0) dX8_change_0 rfl rfl ?_
  refine ja_iconst (v := nI 0) dX8_change_1 (by decide +kernel) ?_
  refine ja_putI fl_X8_85 (zM_s hz) rfl rfl rfl dX8_change_2 ?_
  refine ja_aload_n (i := 0) dX8_change_5 rfl rfl ?_
  refine ja_iload_n (i := 1) dX8_change_6 rfl rfl ?_
  refine ja_cVr (st := []) (s_isVersionT (D := (ja_up D 100 0 (nI (0)))) l hz (hvn) (by omega) (by omega)) rfl rfl (ce_X8_isVersion 0 0) im_X8_isVersion se_X8_isVersion lk_X8_154 k_X8 (zM_s hz) ⟨(Nat.le_of_ble_eq_true rfl), (Nat.le_of_ble_eq_true rfl)⟩ dX8_change_7 rfl rfl (Nat.le_of_ble_eq_true rfl) (Nat.zero_le _) (Nat.zero_le _) ?_
  refine ja_ifB_ne (tgt := 19) dX8_change_10 (by decide) (fun c10 => ?_) (fun c10 => absurd c10 (by decide))
  refine ja_iload_n (i := 2) dX8_change_19 rfl rfl ?_
  refine ja_iconst (v := nI 0) dX8_change_20 (by decide +kernel) ?_
  refine ja_sipush (v := nI 255) dX8_change_21 (by decide +kernel) ?_
  refine ja_cSr (st := []) (s_inT l (q) 0 255 (by omega) (by omega) (by omega)) rfl rfl (ce_X8_in 0 0) st_X8_in lk_X8_88 ⟨(Nat.le_of_ble_eq_true rfl), (Nat.le_of_ble_eq_true rfl)⟩ dX8_change_24 rfl rfl (Nat.le_of_ble_eq_true rfl) (Nat.zero_le _) (Nat.zero_le _) ?_
  refine ja_ifB_eq (tgt := 45) dX8_change_27 (by decide) (fun c27 => absurd c27 (by decide)) (fun c27 => ?_)
  refine ja_aload_n (i := 0) dX8_change_30 rfl rfl ?_
  refine ja_getR fl_X8_55 (zM_s hz) rfl (zM_p18 hz) dX8_change_31 ?_
  refine ja_sipush (v := nI 256) dX8_change_34 (by decide +kernel) ?_
  refine ja_iload_n (i := 1) dX8_change_37 rfl rfl ?_
  refine ja_imulN dX8_change_38 ?_
  refine ja_iload_n (i := 2) dX8_change_39 rfl rfl ?_
  refine ja_iaddN dX8_change_40 ?_
  refine ja_zald (zM_a18 hz) rfl (by omega) (by decide) dX8_change_41 ?_
  refine ja_top (y := bI (true)) hb ?_
  refine ja_ifB_ne (tgt := 51) dX8_change_42 (by decide) (fun c42 => ?_) (fun c42 => absurd c42 (by decide))
  refine ja_iload_n (i := 3) dX8_change_51 rfl rfl ?_
  refine ja_iconst (v := (-1)) dX8_change_52 (by decide +kernel) ?_
  refine ja_icmp_eq (tgt := 69) dX8_change_53 (by decide) (fun c53 => ?_) (fun c53 => absurd rfl c53)
  refine ja_aload_n (i := 0) dX8_change_69 rfl rfl ?_
  refine ja_getR fl_X8_61 (zM_s hz) rfl (zM_p20 hz) dX8_change_70 ?_
  refine ja_sipush (v := nI 256) dX8_change_73 (by decide +kernel) ?_
  refine ja_iload_n (i := 1) dX8_change_76 rfl rfl ?_
  refine ja_imulN dX8_change_77 ?_
  refine ja_iload_n (i := 2) dX8_change_78 rfl rfl ?_
  refine ja_iaddN dX8_change_79 ?_
  refine ja_iald (zM_a20 hz) rfl (by omega) (by decide) dX8_change_80 ?_
  refine ja_istore (i := 4) dX8_change_81 rfl (Nat.le_of_ble_eq_true rfl) ?_
  refine ja_aload_n (i := 0) dX8_change_83 rfl rfl ?_
  refine ja_getR fl_X8_61 (zM_s hz) rfl (zM_p20 hz) dX8_change_84 ?_
  refine ja_sipush (v := nI 256) dX8_change_87 (by decide +kernel) ?_
  refine ja_iload_n (i := 1) dX8_change_90 rfl rfl ?_
  refine ja_imulN dX8_change_91 ?_
  refine ja_iload_n (i := 2) dX8_change_92 rfl rfl ?_
  refine ja_iaddN dX8_change_93 ?_
  refine ja_iload_n (i := 3) dX8_change_94 rfl rfl ?_
  refine ja_iast (zM_a20 hz) rfl (by omega) (by decide) dX8_change_95 ?_
  refine ja_iload (i := 4) dX8_change_96 rfl ?_
  refine ja_iret rfl rfl dX8_change_98 (Nat.zero_le _) (Nat.zero_le _) ?_
  exact ⟨rfl, rfl, rfl⟩

set_option maxRecDepth 100000 in
set_option maxHeartbeats 4000000 in
theorem r_change_ok (l : Launch) {Z : jZ} {D : jD} (hz : zM Z) {vn : Nat} (hvn : D 100 16 = nI vn) (hv3 : vn ≤ 3) {v : Nat} (hv : v < vn) {q : Nat} (hq : q < 256) (hb : D 119 (256 * v + q) = bI true) {a : Nat} (ha : a < 10)  : ja_M l (mX8_change 0 0) [.ref (100), .int (nI (v)), .int (nI (q)), .int (nI (a))] Z D (ja_jd (some (.int (D 121 (256 * v + q)))) Z (fun D2 => D2 = ja_up (ja_up D 100 0 (nI 0)) 121 (256 * v + q) (nI a))) ja_x0 := by
  refine ja_Mof (lv := [some (.ref (100)), some (.int (nI (v))), some (.int (nI (q))), some (.int (nI (a))), none]) (by decide +kernel) rfl rfl (Nat.le_of_ble_eq_true rfl) rfl ?_
  refine ja_aload_n (i := 0) dX8_change_0 rfl rfl ?_
  refine ja_iconst (v := nI 0) dX8_change_1 (by decide +kernel) ?_
  refine ja_putI fl_X8_85 (zM_s hz) rfl rfl rfl dX8_change_2 ?_
  refine ja_aload_n (i := 0) dX8_change_5 rfl rfl ?_
  refine ja_iload_n (i := 1) dX8_change_6 rfl rfl ?_
  refine ja_cVr (st := []) (s_isVersionT (D := (ja_up D 100 0 (nI (0)))) l hz (hvn) (by omega) (by omega)) rfl rfl (ce_X8_isVersion 0 0) im_X8_isVersion se_X8_isVersion lk_X8_154 k_X8 (zM_s hz) ⟨(Nat.le_of_ble_eq_true rfl), (Nat.le_of_ble_eq_true rfl)⟩ dX8_change_7 rfl rfl (Nat.le_of_ble_eq_true rfl) (Nat.zero_le _) (Nat.zero_le _) ?_
  refine ja_ifB_ne (tgt := 19) dX8_change_10 (by decide) (fun c10 => ?_) (fun c10 => absurd c10 (by decide))
  refine ja_iload_n (i := 2) dX8_change_19 rfl rfl ?_
  refine ja_iconst (v := nI 0) dX8_change_20 (by decide +kernel) ?_
  refine ja_sipush (v := nI 255) dX8_change_21 (by decide +kernel) ?_
  refine ja_cSr (st := []) (s_inT l (q) 0 255 (by omega) (by omega) (by omega)) rfl rfl (ce_X8_in 0 0) st_X8_in lk_X8_88 ⟨(Nat.le_of_ble_eq_true rfl), (Nat.le_of_ble_eq_true rfl)⟩ dX8_change_24 rfl rfl (Nat.le_of_ble_eq_true rfl) (Nat.zero_le _) (Nat.zero_le _) ?_
  refine ja_ifB_eq (tgt := 45) dX8_change_27 (by decide) (fun c27 => absurd c27 (by decide)) (fun c27 => ?_)
  refine ja_aload_n (i := 0) dX8_change_30 rfl rfl ?_
  refine ja_getR fl_X8_55 (zM_s hz) rfl (zM_p18 hz) dX8_change_31 ?_
  refine ja_sipush (v := nI 256) dX8_change_34 (by decide +kernel) ?_
  refine ja_iload_n (i := 1) dX8_change_37 rfl rfl ?_
  refine ja_imulN dX8_change_38 ?_
  refine ja_iload_n (i := 2) dX8_change_39 rfl rfl ?_
  refine ja_iaddN dX8_change_40 ?_
  refine ja_zald (zM_a18 hz) rfl (by omega) (by decide) dX8_change_41 ?_
  refine ja_top (y := bI (true)) hb ?_
  refine ja_ifB_ne (tgt := 51) dX8_change_42 (by decide) (fun c42 => ?_) (fun c42 => absurd c42 (by decide))
  refine ja_iload_n (i := 3) dX8_change_51 rfl rfl ?_
  refine ja_iconst (v := (-1)) dX8_change_52 (by decide +kernel) ?_
  refine ja_icmp_eq (tgt := 69) dX8_change_53 (by decide) (fun c53 => absurd c53 (nI_nm1 (by omega))) (fun c53 => ?_)
  refine ja_iload_n (i := 3) dX8_change_56 rfl rfl ?_
  refine ja_cSr (st := []) (s_isAreaT l (by omega)) rfl rfl (ce_X8_isArea 0 0) st_X8_isArea lk_X8_110 ⟨(Nat.le_of_ble_eq_true rfl), (Nat.le_of_ble_eq_true rfl)⟩ dX8_change_57 rfl rfl (Nat.le_of_ble_eq_true rfl) (Nat.zero_le _) (Nat.zero_le _) ?_
  refine ja_ifB_ne (tgt := 69) dX8_change_60 (by decide) (fun c60 => ?_) (fun c60 => absurd c60 (by decide))
  refine ja_aload_n (i := 0) dX8_change_69 rfl rfl ?_
  refine ja_getR fl_X8_61 (zM_s hz) rfl (zM_p20 hz) dX8_change_70 ?_
  refine ja_sipush (v := nI 256) dX8_change_73 (by decide +kernel) ?_
  refine ja_iload_n (i := 1) dX8_change_76 rfl rfl ?_
  refine ja_imulN dX8_change_77 ?_
  refine ja_iload_n (i := 2) dX8_change_78 rfl rfl ?_
  refine ja_iaddN dX8_change_79 ?_
  refine ja_iald (zM_a20 hz) rfl (by omega) (by decide) dX8_change_80 ?_
  refine ja_istore (i := 4) dX8_change_81 rfl (Nat.le_of_ble_eq_true rfl) ?_
  refine ja_aload_n (i := 0) dX8_change_83 rfl rfl ?_
  refine ja_getR fl_X8_61 (zM_s hz) rfl (zM_p20 hz) dX8_change_84 ?_
  refine ja_sipush (v := nI 256) dX8_change_87 (by decide +kernel) ?_
  refine ja_iload_n (i := 1) dX8_change_90 rfl rfl ?_
  refine ja_imulN dX8_change_91 ?_
  refine ja_iload_n (i := 2) dX8_change_92 rfl rfl ?_
  refine ja_iaddN dX8_change_93 ?_
  refine ja_iload_n (i := 3) dX8_change_94 rfl rfl ?_
  refine ja_iast (zM_a20 hz) rfl (by omega) (by decide) dX8_change_95 ?_
  refine ja_iload (i := 4) dX8_change_96 rfl ?_
  refine ja_iret rfl rfl dX8_change_98 (Nat.zero_le _) (Nat.zero_le _) ?_
  exact ⟨rfl, rfl, rfl⟩

set_option maxRecDepth 100000 in
set_option maxHeartbeats 4000000 in
theorem r_checkOut_f1 (l : Launch) {Z : jZ} {D : jD} (hz : zM Z) {ly : Int32} (x y w h : Int32) (hl : ¬ (nI 0 ≤ ly ∧ ly ≤ nI 2)) : ja_M l (mX8_checkOut 0 0) [.ref (100), .int (ly), .int (x), .int (y), .int (w), .int (h)] Z D (ja_jd (some (.int (nI 0))) Z (fun D2 => D2 = ja_up D 100 0 (nI 1))) ja_x0 := by
  refine ja_Mof (lv := [some (.ref (100)), some (.int (ly)), some (.int (x)), some (.int (y)), some (.int (w)), some (.int (h)), none, none]) (by decide +kernel) rfl rfl (Nat.le_of_ble_eq_true rfl) rfl ?_
  refine ja_aload_n (i := 0) dX8_checkOut_0 rfl rfl ?_
  refine ja_iconst (v := nI 0) dX8_checkOut_1 (by decide +kernel) ?_
  refine ja_putI fl_X8_85 (zM_s hz) rfl rfl rfl dX8_checkOut_2 ?_
  refine ja_iload_n (i := 1) dX8_checkOut_5 rfl rfl ?_
  refine ja_cSr (st := []) (s_isLayerF l hl) rfl rfl (ce_X8_isLayer 0 0) st_X8_isLayer lk_X8_106 ⟨(Nat.le_of_ble_eq_true rfl), (Nat.le_of_ble_eq_true rfl)⟩ dX8_checkOut_6 rfl rfl (Nat.le_of_ble_eq_true rfl) (Nat.zero_le _) (Nat.zero_le _) ?_
  refine ja_ifB_ne (tgt := 18) dX8_checkOut_9 (by decide) (fun c9 => absurd c9 (by decide)) (fun c9 => ?_)
  refine ja_aload_n (i := 0) dX8_checkOut_12 rfl rfl ?_
  refine ja_iconst (v := nI 1) dX8_checkOut_13 (by decide +kernel) ?_
  refine ja_cVd (st := []) (s_fails l hz (nI (1))) rfl rfl (ce_X8_fails 0 0) im_X8_fails se_X8_fails lk_X8_96 k_X8 (zM_s hz) ⟨(Nat.le_of_ble_eq_true rfl), (Nat.le_of_ble_eq_true rfl)⟩ dX8_checkOut_14 rfl rfl (Nat.le_of_ble_eq_true rfl) (Nat.zero_le _) (Nat.zero_le _) ?_
  intro D14 hD14
  subst hD14
  refine ja_num (D2 := ja_up D 100 0 (nI (1))) up_2 ?_
  refine ja_iret rfl rfl dX8_checkOut_17 (Nat.zero_le _) (Nat.zero_le _) ?_
  exact ⟨rfl, rfl, rfl⟩

set_option maxRecDepth 100000 in
set_option maxHeartbeats 4000000 in
theorem r_checkOut_f2 (l : Launch) {Z : jZ} {D : jD} (hz : zM Z) {ly : Nat} (h1 : ly < 3) {x y w h : Int32} (hb : ¬ bxOK x y w h) : ja_M l (mX8_checkOut 0 0) [.ref (100), .int (nI (ly)), .int (x), .int (y), .int (w), .int (h)] Z D (ja_jd (some (.int (nI 0))) Z (fun D2 => D2 = ja_up D 100 0 (nI 2))) ja_x0 := by
  refine ja_Mof (lv := [some (.ref (100)), some (.int (nI (ly))), some (.int (x)), some (.int (y)), some (.int (w)), some (.int (h)), none, none]) (by decide +kernel) rfl rfl (Nat.le_of_ble_eq_true rfl) rfl ?_
  refine ja_aload_n (i := 0) dX8_checkOut_0 rfl rfl ?_
  refine ja_iconst (v := nI 0) dX8_checkOut_1 (by decide +kernel) ?_
  refine ja_putI fl_X8_85 (zM_s hz) rfl rfl rfl dX8_checkOut_2 ?_
  refine ja_iload_n (i := 1) dX8_checkOut_5 rfl rfl ?_
  refine ja_cSr (st := []) (s_isLayerT l (by omega)) rfl rfl (ce_X8_isLayer 0 0) st_X8_isLayer lk_X8_106 ⟨(Nat.le_of_ble_eq_true rfl), (Nat.le_of_ble_eq_true rfl)⟩ dX8_checkOut_6 rfl rfl (Nat.le_of_ble_eq_true rfl) (Nat.zero_le _) (Nat.zero_le _) ?_
  refine ja_ifB_ne (tgt := 18) dX8_checkOut_9 (by decide) (fun c9 => ?_) (fun c9 => absurd c9 (by decide))
  refine ja_iload_n (i := 2) dX8_checkOut_18 rfl rfl ?_
  refine ja_iload_n (i := 3) dX8_checkOut_19 rfl rfl ?_
  refine ja_iload (i := 4) dX8_checkOut_20 rfl ?_
  refine ja_iload (i := 5) dX8_checkOut_22 rfl ?_
  refine ja_cSr (st := []) (s_isBoxF l hb) rfl rfl (ce_X8_isBox 0 0) st_X8_isBox lk_X8_113 ⟨(Nat.le_of_ble_eq_true rfl), (Nat.le_of_ble_eq_true rfl)⟩ dX8_checkOut_24 rfl rfl (Nat.le_of_ble_eq_true rfl) (Nat.zero_le _) (Nat.zero_le _) ?_
  refine ja_ifB_ne (tgt := 36) dX8_checkOut_27 (by decide) (fun c27 => absurd c27 (by decide)) (fun c27 => ?_)
  refine ja_aload_n (i := 0) dX8_checkOut_30 rfl rfl ?_
  refine ja_iconst (v := nI 2) dX8_checkOut_31 (by decide +kernel) ?_
  refine ja_cVd (st := []) (s_fails l hz (nI (2))) rfl rfl (ce_X8_fails 0 0) im_X8_fails se_X8_fails lk_X8_96 k_X8 (zM_s hz) ⟨(Nat.le_of_ble_eq_true rfl), (Nat.le_of_ble_eq_true rfl)⟩ dX8_checkOut_32 rfl rfl (Nat.le_of_ble_eq_true rfl) (Nat.zero_le _) (Nat.zero_le _) ?_
  intro D32 hD32
  subst hD32
  refine ja_num (D2 := ja_up D 100 0 (nI (2))) up_2 ?_
  refine ja_iret rfl rfl dX8_checkOut_35 (Nat.zero_le _) (Nat.zero_le _) ?_
  exact ⟨rfl, rfl, rfl⟩

set_option maxRecDepth 100000 in
set_option maxHeartbeats 4000000 in
theorem r_checkOut_f3 (l : Launch) {Z : jZ} {D : jD} (hz : zM Z) {ly x y w h : Nat} (h1 : ly < 3) (hx : x < 16) (hy : y < 16) (hw1 : 1 ≤ w) (hw : x + w ≤ 16) (hh1 : 1 ≤ h) (hh : y + h ≤ 16) {w0 : Nat} (hau : D 100 2 = nI w0) (hw5 : w0 ≤ 5)  : ja_M l (mX8_checkOut 0 0) [.ref (100), .int (nI (ly)), .int (nI (x)), .int (nI (y)), .int (nI (w)), .int (nI (h))] Z D (ja_jd (some (.int (nI 0))) Z (fun D2 => D2 = ja_up D 100 0 (nI 3))) ja_x0 := by
  refine ja_Mof (lv := [some (.ref (100)), some (.int (nI (ly))), some (.int (nI (x))), some (.int (nI (y))), some (.int (nI (w))), some (.int (nI (h))), none, none]) (by decide +kernel) rfl rfl (Nat.le_of_ble_eq_true rfl) rfl ?_
  refine ja_aload_n (i := 0) dX8_checkOut_0 rfl rfl ?_
  refine ja_iconst (v := nI 0) dX8_checkOut_1 (by decide +kernel) ?_
  refine ja_putI fl_X8_85 (zM_s hz) rfl rfl rfl dX8_checkOut_2 ?_
  refine ja_iload_n (i := 1) dX8_checkOut_5 rfl rfl ?_
  refine ja_cSr (st := []) (s_isLayerT l (by omega)) rfl rfl (ce_X8_isLayer 0 0) st_X8_isLayer lk_X8_106 ⟨(Nat.le_of_ble_eq_true rfl), (Nat.le_of_ble_eq_true rfl)⟩ dX8_checkOut_6 rfl rfl (Nat.le_of_ble_eq_true rfl) (Nat.zero_le _) (Nat.zero_le _) ?_
  refine ja_ifB_ne (tgt := 18) dX8_checkOut_9 (by decide) (fun c9 => ?_) (fun c9 => absurd c9 (by decide))
  refine ja_iload_n (i := 2) dX8_checkOut_18 rfl rfl ?_
  refine ja_iload_n (i := 3) dX8_checkOut_19 rfl rfl ?_
  refine ja_iload (i := 4) dX8_checkOut_20 rfl ?_
  refine ja_iload (i := 5) dX8_checkOut_22 rfl ?_
  refine ja_cSr (st := []) (s_isBoxT l (by omega) (by omega) (by omega) (by omega) (by omega) (by omega)) rfl rfl (ce_X8_isBox 0 0) st_X8_isBox lk_X8_113 ⟨(Nat.le_of_ble_eq_true rfl), (Nat.le_of_ble_eq_true rfl)⟩ dX8_checkOut_24 rfl rfl (Nat.le_of_ble_eq_true rfl) (Nat.zero_le _) (Nat.zero_le _) ?_
  refine ja_ifB_ne (tgt := 36) dX8_checkOut_27 (by decide) (fun c27 => ?_) (fun c27 => absurd c27 (by decide))
  refine ja_aload_n (i := 0) dX8_checkOut_36 rfl rfl ?_
  refine ja_getI fl_X8_9 (zM_s hz) rfl dX8_checkOut_37 ?_
  refine ja_top (y := nI (w0)) hau ?_
  refine ja_iconst (v := (-1)) dX8_checkOut_40 (by decide +kernel) ?_
  refine ja_icmp_ne (tgt := 52) dX8_checkOut_41 (by decide) (fun c41 => ?_) (fun c41 => absurd c41 (nI_nm1 (by omega)))
  refine ja_aload_n (i := 0) dX8_checkOut_52 rfl rfl ?_
  refine ja_iconst (v := nI 3) dX8_checkOut_53 (by decide +kernel) ?_
  refine ja_cVd (st := []) (s_fails l hz (nI (3))) rfl rfl (ce_X8_fails 0 0) im_X8_fails se_X8_fails lk_X8_96 k_X8 (zM_s hz) ⟨(Nat.le_of_ble_eq_true rfl), (Nat.le_of_ble_eq_true rfl)⟩ dX8_checkOut_54 rfl rfl (Nat.le_of_ble_eq_true rfl) (Nat.zero_le _) (Nat.zero_le _) ?_
  intro D54 hD54
  subst hD54
  refine ja_num (D2 := ja_up D 100 0 (nI (3))) up_2 ?_
  refine ja_iret rfl rfl dX8_checkOut_57 (Nat.zero_le _) (Nat.zero_le _) ?_
  exact ⟨rfl, rfl, rfl⟩

set_option maxRecDepth 100000 in
set_option maxHeartbeats 4000000 in
theorem r_checkOut_f3b (l : Launch) {Z : jZ} {D : jD} (hz : zM Z) {ly x y w h : Nat} (h1 : ly < 3) (hx : x < 16) (hy : y < 16) (hw1 : 1 ≤ w) (hw : x + w ≤ 16) (hh1 : 1 ≤ h) (hh : y + h ≤ 16) (hau : D 100 2 = -1) (hvn : D 100 16 = nI 3)  : ja_M l (mX8_checkOut 0 0) [.ref (100), .int (nI (ly)), .int (nI (x)), .int (nI (y)), .int (nI (w)), .int (nI (h))] Z D (ja_jd (some (.int (nI 0))) Z (fun D2 => D2 = ja_up D 100 0 (nI 3))) ja_x0 := by
  refine ja_Mof (lv := [some (.ref (100)), some (.int (nI (ly))), some (.int (nI (x))), some (.int (nI (y))), some (.int (nI (w))), some (.int (nI (h))), none, none]) (by decide +kernel) rfl rfl (Nat.le_of_ble_eq_true rfl) rfl ?_
  refine ja_aload_n (i := 0) dX8_checkOut_0 rfl rfl ?_
  refine ja_iconst (v := nI 0) dX8_checkOut_1 (by decide +kernel) ?_
  refine ja_putI fl_X8_85 (zM_s hz) rfl rfl rfl dX8_checkOut_2 ?_
  refine ja_iload_n (i := 1) dX8_checkOut_5 rfl rfl ?_
  refine ja_cSr (st := []) (s_isLayerT l (by omega)) rfl rfl (ce_X8_isLayer 0 0) st_X8_isLayer lk_X8_106 ⟨(Nat.le_of_ble_eq_true rfl), (Nat.le_of_ble_eq_true rfl)⟩ dX8_checkOut_6 rfl rfl (Nat.le_of_ble_eq_true rfl) (Nat.zero_le _) (Nat.zero_le _) ?_
  refine ja_ifB_ne (tgt := 18) dX8_checkOut_9 (by decide) (fun c9 => ?_) (fun c9 => absurd c9 (by decide))
  refine ja_iload_n (i := 2) dX8_checkOut_18 rfl rfl ?_
  refine ja_iload_n (i := 3) dX8_checkOut_19 rfl rfl ?_
  refine ja_iload (i := 4) dX8_checkOut_20 rfl ?_
  refine ja_iload (i := 5) dX8_checkOut_22 rfl ?_
  refine ja_cSr (st := []) (s_isBoxT l (by omega) (by omega) (by omega) (by omega) (by omega) (by omega)) rfl rfl (ce_X8_isBox 0 0) st_X8_isBox lk_X8_113 ⟨(Nat.le_of_ble_eq_true rfl), (Nat.le_of_ble_eq_true rfl)⟩ dX8_checkOut_24 rfl rfl (Nat.le_of_ble_eq_true rfl) (Nat.zero_le _) (Nat.zero_le _) ?_
  refine ja_ifB_ne (tgt := 36) dX8_checkOut_27 (by decide) (fun c27 => ?_) (fun c27 => absurd c27 (by decide))
  refine ja_aload_n (i := 0) dX8_checkOut_36 rfl rfl ?_
  refine ja_getI fl_X8_9 (zM_s hz) rfl dX8_checkOut_37 ?_
  refine ja_top (y := (-1)) hau ?_
  refine ja_iconst (v := (-1)) dX8_checkOut_40 (by decide +kernel) ?_
  refine ja_icmp_ne (tgt := 52) dX8_checkOut_41 (by decide) (fun c41 => absurd rfl c41) (fun c41 => ?_)
  refine ja_aload_n (i := 0) dX8_checkOut_44 rfl rfl ?_
  refine ja_getI fl_X8_151 (zM_s hz) rfl dX8_checkOut_45 ?_
  refine ja_top (y := nI (3)) hvn ?_
  refine ja_iconst (v := nI 3) dX8_checkOut_48 (by decide +kernel) ?_
  refine ja_icmpN_ne (tgt := 58) dX8_checkOut_49 (by decide) (by omega) (by omega) (fun c49 => absurd c49 (by decide)) (fun c49 => ?_)
  refine ja_aload_n (i := 0) dX8_checkOut_52 rfl rfl ?_
  refine ja_iconst (v := nI 3) dX8_checkOut_53 (by decide +kernel) ?_
  refine ja_cVd (st := []) (s_fails l hz (nI (3))) rfl rfl (ce_X8_fails 0 0) im_X8_fails se_X8_fails lk_X8_96 k_X8 (zM_s hz) ⟨(Nat.le_of_ble_eq_true rfl), (Nat.le_of_ble_eq_true rfl)⟩ dX8_checkOut_54 rfl rfl (Nat.le_of_ble_eq_true rfl) (Nat.zero_le _) (Nat.zero_le _) ?_
  intro D54 hD54
  subst hD54
  refine ja_num (D2 := ja_up D 100 0 (nI (3))) up_2 ?_
  refine ja_iret rfl rfl dX8_checkOut_57 (Nat.zero_le _) (Nat.zero_le _) ?_
  exact ⟨rfl, rfl, rfl⟩

/-- whether a square lies in a box -/
def inB (x y w h q : Nat) : Bool := decide (x ≤ q % 16 ∧ q % 16 ≤ x + w - 1) && decide (y ≤ q / 16 ∧ q / 16 ≤ y + h - 1)
/-- a version's squares below n, taken out -/
def coU (D : jD) (v ly x y w h n : Nat) : jD := fun a b => if 256 * v ≤ b ∧ b < 256 * v + n ∧ (a = 119 ∨ a = 120 ∨ a = 121) then (if a = 119 then bI (inB x y w h (b - 256 * v)) else D 105 (256 * ly + (b - 256 * v))) else D a b
theorem coU_0 {D : jD} {v ly x y w h : Nat} : D = coU D v ly x y w h 0 := by
  funext a b
  rw [coU, if_neg (by omega)]
theorem coU_s {D : jD} {v ly x y w h q : Nat} {b1 : Int32} {z1 z2 : Int32} (hb : b1 = bI (inB x y w h q)) (h1 : z1 = D 105 (256 * ly + q)) (h2 : z2 = D 105 (256 * ly + q)) :
    ja_up (ja_up (ja_up (coU D v ly x y w h q) 119 (256 * v + q) b1) 120 (256 * v + q) z1) 121 (256 * v + q) z2 = coU D v ly x y w h (q + 1) := by
  subst hb h1 h2
  funext a b
  simp only [ja_up]
  by_cases e : b = 256 * v + q
  · subst e
    by_cases e1 : a = 121
    · subst e1
      rw [if_pos ⟨rfl, rfl⟩, coU, if_pos ⟨by omega, by omega, by omega⟩, if_neg (by decide), Nat.add_sub_cancel_left]
    · rw [if_neg (by omega)]
      by_cases e2 : a = 120
      · subst e2
        rw [if_pos ⟨rfl, rfl⟩, coU, if_pos ⟨by omega, by omega, by omega⟩, if_neg (by decide), Nat.add_sub_cancel_left]
      · rw [if_neg (by omega)]
        by_cases e3 : a = 119
        · subst e3
          rw [if_pos ⟨rfl, rfl⟩, coU, if_pos ⟨by omega, by omega, by omega⟩, if_pos rfl, Nat.add_sub_cancel_left]
        · rw [if_neg (by omega), coU, coU, if_neg (by omega), if_neg (by omega)]
  · rw [if_neg (by omega), if_neg (by omega), if_neg (by omega), coU, coU]
    by_cases e1 : 256 * v ≤ b ∧ b < 256 * v + q ∧ (a = 119 ∨ a = 120 ∨ a = 121)
    · rw [if_pos (show 256 * v ≤ b ∧ b < 256 * v + (q + 1) ∧ (a = 119 ∨ a = 120 ∨ a = 121) from ⟨e1.1, by omega, e1.2.2⟩), if_pos e1]
    · rw [if_neg e1, if_neg (by omega)]
theorem coU_o {D : jD} {v ly x y w h n a b : Nat} (h1 : ¬ (a = 119 ∨ a = 120 ∨ a = 121)) : coU D v ly x y w h n a b = D a b := by
  rw [coU, if_neg (fun e => h1 e.2.2)]

set_option maxRecDepth 100000 in
set_option maxHeartbeats 4000000 in
theorem r_checkOut_ok (l : Launch) {Z : jZ} {D : jD} (hz : zM Z) {ly x y w h : Nat} (h1 : ly < 3) (hx : x < 16) (hy : y < 16) (hw1 : 1 ≤ w) (hw : x + w ≤ 16) (hh1 : 1 ≤ h) (hh : y + h ≤ 16) (hau : D 100 2 = -1) {vn : Nat} (hvn : D 100 16 = nI vn) (hv3 : vn < 3) : ja_M l (mX8_checkOut 0 0) [.ref (100), .int (nI (ly)), .int (nI (x)), .int (nI (y)), .int (nI (w)), .int (nI (h))] Z D (ja_jd (some (.int (nI vn))) Z (fun D2 => D2 = ja_up (coU (ja_up (ja_up D 100 0 (nI 0)) 118 vn (nI ly)) vn ly x y w h 256) 100 16 (nI (vn + 1)))) ja_x0 := by
  refine ja_Mof (lv := [some (.ref (100)), some (.int (nI (ly))), some (.int (nI (x))), some (.int (nI (y))), some (.int (nI (w))), some (.int (nI (h))), none, none]) (by decide +kernel) rfl rfl (Nat.le_of_ble_eq_true rfl) rfl ?_
  refine ja_aload_n (i := 0) dX8_checkOut_0 rfl rfl ?_
  refine ja_iconst (v := nI 0) dX8_checkOut_1 (by decide +kernel) ?_
  refine ja_putI fl_X8_85 (zM_s hz) rfl rfl rfl dX8_checkOut_2 ?_
  refine ja_iload_n (i := 1) dX8_checkOut_5 rfl rfl ?_
  refine ja_cSr (st := []) (s_isLayerT l (by omega)) rfl rfl (ce_X8_isLayer 0 0) st_X8_isLayer lk_X8_106 ⟨(Nat.le_of_ble_eq_true rfl), (Nat.le_of_ble_eq_true rfl)⟩ dX8_checkOut_6 rfl rfl (Nat.le_of_ble_eq_true rfl) (Nat.zero_le _) (Nat.zero_le _) ?_
  refine ja_ifB_ne (tgt := 18) dX8_checkOut_9 (by decide) (fun c9 => ?_) (fun c9 => absurd c9 (by decide))
  refine ja_iload_n (i := 2) dX8_checkOut_18 rfl rfl ?_
  refine ja_iload_n (i := 3) dX8_checkOut_19 rfl rfl ?_
  refine ja_iload (i := 4) dX8_checkOut_20 rfl ?_
  refine ja_iload (i := 5) dX8_checkOut_22 rfl ?_
  refine ja_cSr (st := []) (s_isBoxT l (by omega) (by omega) (by omega) (by omega) (by omega) (by omega)) rfl rfl (ce_X8_isBox 0 0) st_X8_isBox lk_X8_113 ⟨(Nat.le_of_ble_eq_true rfl), (Nat.le_of_ble_eq_true rfl)⟩ dX8_checkOut_24 rfl rfl (Nat.le_of_ble_eq_true rfl) (Nat.zero_le _) (Nat.zero_le _) ?_
  refine ja_ifB_ne (tgt := 36) dX8_checkOut_27 (by decide) (fun c27 => ?_) (fun c27 => absurd c27 (by decide))
  refine ja_aload_n (i := 0) dX8_checkOut_36 rfl rfl ?_
  refine ja_getI fl_X8_9 (zM_s hz) rfl dX8_checkOut_37 ?_
  refine ja_top (y := (-1)) hau ?_
  refine ja_iconst (v := (-1)) dX8_checkOut_40 (by decide +kernel) ?_
  refine ja_icmp_ne (tgt := 52) dX8_checkOut_41 (by decide) (fun c41 => absurd rfl c41) (fun c41 => ?_)
  refine ja_aload_n (i := 0) dX8_checkOut_44 rfl rfl ?_
  refine ja_getI fl_X8_151 (zM_s hz) rfl dX8_checkOut_45 ?_
  refine ja_top (y := nI (vn)) hvn ?_
  refine ja_iconst (v := nI 3) dX8_checkOut_48 (by decide +kernel) ?_
  refine ja_icmpN_ne (tgt := 58) dX8_checkOut_49 (by decide) (by omega) (by omega) (fun c49 => ?_) (fun c49 => (by exfalso; omega))
  refine ja_aload_n (i := 0) dX8_checkOut_58 rfl rfl ?_
  refine ja_getR fl_X8_52 (zM_s hz) rfl (zM_p17 hz) dX8_checkOut_59 ?_
  refine ja_aload_n (i := 0) dX8_checkOut_62 rfl rfl ?_
  refine ja_getI fl_X8_151 (zM_s hz) rfl dX8_checkOut_63 ?_
  refine ja_top (y := nI (vn)) hvn ?_
  refine ja_iload_n (i := 1) dX8_checkOut_66 rfl rfl ?_
  refine ja_iast (zM_a17 hz) rfl (by omega) (by decide) dX8_checkOut_67 ?_
  refine ja_iconst (v := nI 0) dX8_checkOut_68 (by decide +kernel) ?_
  refine ja_istore (i := 6) dX8_checkOut_69 rfl (Nat.le_of_ble_eq_true rfl) ?_
  have lp71 : ∀ (f71 : Nat) (q : Nat) (E : jD), (256 < q + f71) → (q ≤ 256) → (E = coU (ja_up (ja_up D 100 0 (nI 0)) 118 vn (nI ly)) vn ly x y w h q) → ja_A l (mX8_checkOut 0 0) ja_sn (ja_Qf (mX8_checkOut 0 0) (ja_jd (some (.int (nI vn))) Z (fun D2 => D2 = ja_up (coU (ja_up (ja_up D 100 0 (nI 0)) 118 vn (nI ly)) vn ly x y w h 256) 100 16 (nI (vn + 1)))) ja_x0) 71 [some (.ref (100)), some (.int (nI (ly))), some (.int (nI (x))), some (.int (nI (y))), some (.int (nI (w))), some (.int (nI (h))), some (.int (nI (q))), none] [] Z E 0 0 := by
    intro f71
    induction f71 with
    | zero => intro q E hk hq hE; exfalso; omega
    | succ f71 ih71 =>
      intro q E hk hq hE
      refine ja_iload (i := 6) dX8_checkOut_71 rfl ?_
      refine ja_sipush (v := nI 256) dX8_checkOut_73 (by decide +kernel) ?_
      refine ja_icmpN_ge (tgt := 174) dX8_checkOut_76 (by decide) (by omega) (by omega) (fun c76 => ?_) (fun c76 => ?_)
      ·
        refine ja_num (D2 := (coU (ja_up (ja_up D 100 0 (nI 0)) 118 vn (nI ly)) vn ly x y w h 256)) (by rw [hE, show q = 256 by omega]) ?_
        refine ja_aload_n (i := 0) dX8_checkOut_174 rfl rfl ?_
        refine ja_dup dX8_checkOut_175 rfl ?_
        refine ja_getI fl_X8_151 (zM_s hz) rfl dX8_checkOut_176 ?_
        refine ja_top (y := nI (vn)) (by rw [coU_o (by decide)]; exact hvn) ?_
        refine ja_iconst (v := nI 1) dX8_checkOut_179 (by decide +kernel) ?_
        refine ja_iaddN dX8_checkOut_180 ?_
        refine ja_putI fl_X8_151 (zM_s hz) rfl rfl rfl dX8_checkOut_181 ?_
        refine ja_aload_n (i := 0) dX8_checkOut_184 rfl rfl ?_
        refine ja_getI fl_X8_151 (zM_s hz) rfl dX8_checkOut_185 ?_
        refine ja_top (y := nI (vn + 1)) up_s ?_
        refine ja_iconst (v := nI 1) dX8_checkOut_188 (by decide +kernel) ?_
        refine ja_isubN dX8_checkOut_189 (by omega) ?_
        refine ja_iret rfl rfl dX8_checkOut_190 (Nat.zero_le _) (Nat.zero_le _) ?_
        exact ⟨by rw [show vn + 1 - 1 = vn by omega], rfl, rfl⟩
      ·
        refine ja_sipush (v := nI 256) dX8_checkOut_79 (by decide +kernel) ?_
        refine ja_aload_n (i := 0) dX8_checkOut_82 rfl rfl ?_
        refine ja_getI fl_X8_151 (zM_s hz) rfl dX8_checkOut_83 ?_
        refine ja_top (y := nI (vn)) (by rw [hE, coU_o (by decide)]; exact hvn) ?_
        refine ja_imulN dX8_checkOut_86 ?_
        refine ja_iload (i := 6) dX8_checkOut_87 rfl ?_
        refine ja_iaddN dX8_checkOut_89 ?_
        refine ja_istore (i := 7) dX8_checkOut_90 rfl (Nat.le_of_ble_eq_true rfl) ?_
        refine ja_aload_n (i := 0) dX8_checkOut_92 rfl rfl ?_
        refine ja_getR fl_X8_55 (zM_s hz) rfl (zM_p18 hz) dX8_checkOut_93 ?_
        refine ja_iload (i := 7) dX8_checkOut_96 rfl ?_
        refine ja_iload (i := 6) dX8_checkOut_98 rfl ?_
        refine ja_bipush (v := nI 16) dX8_checkOut_100 (by decide +kernel) ?_
        refine ja_iremN dX8_checkOut_102 (by omega) (by omega) (by omega) ?_
        refine ja_iload_n (i := 2) dX8_checkOut_103 rfl rfl ?_
        refine ja_iload_n (i := 2) dX8_checkOut_104 rfl rfl ?_
        refine ja_iload (i := 4) dX8_checkOut_105 rfl ?_
        refine ja_iaddN dX8_checkOut_107 ?_
        refine ja_iconst (v := nI 1) dX8_checkOut_108 (by decide +kernel) ?_
        refine ja_isubN dX8_checkOut_109 (by omega) ?_
        refine ja_cSr (st := [.int (nI ((256 * vn) + (q))), .ref (119)]) (s_inN l (q % 16) x ((x + w) - (1)) (by omega) (by omega) (by omega)) rfl rfl (ce_X8_in 0 0) st_X8_in lk_X8_88 ⟨(Nat.le_of_ble_eq_true rfl), (Nat.le_of_ble_eq_true rfl)⟩ dX8_checkOut_110 rfl rfl (Nat.le_of_ble_eq_true rfl) (Nat.zero_le _) (Nat.zero_le _) ?_
        refine ja_ifB_eq (tgt := 138) dX8_checkOut_113 (by decide) (fun c113 => ?_) (fun c113 => ?_)
        ·
          refine ja_iconst (v := nI 0) dX8_checkOut_138 (by decide +kernel) ?_
          refine ja_zast (zM_a18 hz) rfl (by omega) (by decide) (by decide +kernel) dX8_checkOut_139 ?_
          refine ja_aload_n (i := 0) dX8_checkOut_140 rfl rfl ?_
          refine ja_getR fl_X8_58 (zM_s hz) rfl (zM_p19 hz) dX8_checkOut_141 ?_
          refine ja_iload (i := 7) dX8_checkOut_144 rfl ?_
          refine ja_aload_n (i := 0) dX8_checkOut_146 rfl rfl ?_
          refine ja_iload_n (i := 1) dX8_checkOut_147 rfl rfl ?_
          refine ja_iload (i := 6) dX8_checkOut_148 rfl ?_
          refine ja_cVr (st := [.int (nI ((256 * vn) + (q))), .ref (120)]) (s_at (D := (ja_up E 119 ((256 * vn) + (q)) (nI (0)))) l hz (ly := ly) (q := q) (by omega) (by omega)) rfl rfl (ce_X8_at 0 0) im_X8_at se_X8_at lk_X8_92 k_X8 (zM_s hz) ⟨(Nat.le_of_ble_eq_true rfl), (Nat.le_of_ble_eq_true rfl)⟩ dX8_checkOut_150 rfl rfl (Nat.le_of_ble_eq_true rfl) (Nat.zero_le _) (Nat.zero_le _) ?_
          refine ja_iast (zM_a19 hz) rfl (by omega) (by decide) dX8_checkOut_153 ?_
          refine ja_aload_n (i := 0) dX8_checkOut_154 rfl rfl ?_
          refine ja_getR fl_X8_61 (zM_s hz) rfl (zM_p20 hz) dX8_checkOut_155 ?_
          refine ja_iload (i := 7) dX8_checkOut_158 rfl ?_
          refine ja_aload_n (i := 0) dX8_checkOut_160 rfl rfl ?_
          refine ja_iload_n (i := 1) dX8_checkOut_161 rfl rfl ?_
          refine ja_iload (i := 6) dX8_checkOut_162 rfl ?_
          refine ja_cVr (st := [.int (nI ((256 * vn) + (q))), .ref (121)]) (s_at (D := (ja_up (ja_up E 119 ((256 * vn) + (q)) (nI (0))) 120 ((256 * vn) + (q)) ((ja_up E 119 ((256 * vn) + (q)) (nI (0))) 105 (256 * ly + q)))) l hz (ly := ly) (q := q) (by omega) (by omega)) rfl rfl (ce_X8_at 0 0) im_X8_at se_X8_at lk_X8_92 k_X8 (zM_s hz) ⟨(Nat.le_of_ble_eq_true rfl), (Nat.le_of_ble_eq_true rfl)⟩ dX8_checkOut_164 rfl rfl (Nat.le_of_ble_eq_true rfl) (Nat.zero_le _) (Nat.zero_le _) ?_
          refine ja_iast (zM_a20 hz) rfl (by omega) (by decide) dX8_checkOut_167 ?_
          refine ja_iincN dX8_checkOut_168 rfl rfl (Nat.le_of_ble_eq_true rfl) ?_
          refine ja_goto (tgt := 71) dX8_checkOut_171 (by decide) ?_
          refine ja_forget (i := 7) ?_
          exact ih71 (q + 1) _ (by omega) (by omega) (by rw [hE]; exact coU_s (by rw [inB]; first | (rw [c113, c131]; rfl) | (rw [c113]; rfl)) (by rw [up_o (by decide), coU_o (by decide)]) (by rw [up_o (by decide), up_o (by decide), coU_o (by decide)]))
        ·
          refine ja_iload (i := 6) dX8_checkOut_116 rfl ?_
          refine ja_bipush (v := nI 16) dX8_checkOut_118 (by decide +kernel) ?_
          refine ja_idivN dX8_checkOut_120 (by omega) (by omega) (by omega) ?_
          refine ja_iload_n (i := 3) dX8_checkOut_121 rfl rfl ?_
          refine ja_iload_n (i := 3) dX8_checkOut_122 rfl rfl ?_
          refine ja_iload (i := 5) dX8_checkOut_123 rfl ?_
          refine ja_iaddN dX8_checkOut_125 ?_
          refine ja_iconst (v := nI 1) dX8_checkOut_126 (by decide +kernel) ?_
          refine ja_isubN dX8_checkOut_127 (by omega) ?_
          refine ja_cSr (st := [.int (nI ((256 * vn) + (q))), .ref (119)]) (s_inN l (q / 16) y ((y + h) - (1)) (by omega) (by omega) (by omega)) rfl rfl (ce_X8_in 0 0) st_X8_in lk_X8_88 ⟨(Nat.le_of_ble_eq_true rfl), (Nat.le_of_ble_eq_true rfl)⟩ dX8_checkOut_128 rfl rfl (Nat.le_of_ble_eq_true rfl) (Nat.zero_le _) (Nat.zero_le _) ?_
          refine ja_ifB_eq (tgt := 138) dX8_checkOut_131 (by decide) (fun c131 => ?_) (fun c131 => ?_)
          ·
            refine ja_iconst (v := nI 0) dX8_checkOut_138 (by decide +kernel) ?_
            refine ja_zast (zM_a18 hz) rfl (by omega) (by decide) (by decide +kernel) dX8_checkOut_139 ?_
            refine ja_aload_n (i := 0) dX8_checkOut_140 rfl rfl ?_
            refine ja_getR fl_X8_58 (zM_s hz) rfl (zM_p19 hz) dX8_checkOut_141 ?_
            refine ja_iload (i := 7) dX8_checkOut_144 rfl ?_
            refine ja_aload_n (i := 0) dX8_checkOut_146 rfl rfl ?_
            refine ja_iload_n (i := 1) dX8_checkOut_147 rfl rfl ?_
            refine ja_iload (i := 6) dX8_checkOut_148 rfl ?_
            refine ja_cVr (st := [.int (nI ((256 * vn) + (q))), .ref (120)]) (s_at (D := (ja_up E 119 ((256 * vn) + (q)) (nI (0)))) l hz (ly := ly) (q := q) (by omega) (by omega)) rfl rfl (ce_X8_at 0 0) im_X8_at se_X8_at lk_X8_92 k_X8 (zM_s hz) ⟨(Nat.le_of_ble_eq_true rfl), (Nat.le_of_ble_eq_true rfl)⟩ dX8_checkOut_150 rfl rfl (Nat.le_of_ble_eq_true rfl) (Nat.zero_le _) (Nat.zero_le _) ?_
            refine ja_iast (zM_a19 hz) rfl (by omega) (by decide) dX8_checkOut_153 ?_
            refine ja_aload_n (i := 0) dX8_checkOut_154 rfl rfl ?_
            refine ja_getR fl_X8_61 (zM_s hz) rfl (zM_p20 hz) dX8_checkOut_155 ?_
            refine ja_iload (i := 7) dX8_checkOut_158 rfl ?_
            refine ja_aload_n (i := 0) dX8_checkOut_160 rfl rfl ?_
            refine ja_iload_n (i := 1) dX8_checkOut_161 rfl rfl ?_
            refine ja_iload (i := 6) dX8_checkOut_162 rfl ?_
            refine ja_cVr (st := [.int (nI ((256 * vn) + (q))), .ref (121)]) (s_at (D := (ja_up (ja_up E 119 ((256 * vn) + (q)) (nI (0))) 120 ((256 * vn) + (q)) ((ja_up E 119 ((256 * vn) + (q)) (nI (0))) 105 (256 * ly + q)))) l hz (ly := ly) (q := q) (by omega) (by omega)) rfl rfl (ce_X8_at 0 0) im_X8_at se_X8_at lk_X8_92 k_X8 (zM_s hz) ⟨(Nat.le_of_ble_eq_true rfl), (Nat.le_of_ble_eq_true rfl)⟩ dX8_checkOut_164 rfl rfl (Nat.le_of_ble_eq_true rfl) (Nat.zero_le _) (Nat.zero_le _) ?_
            refine ja_iast (zM_a20 hz) rfl (by omega) (by decide) dX8_checkOut_167 ?_
            refine ja_iincN dX8_checkOut_168 rfl rfl (Nat.le_of_ble_eq_true rfl) ?_
            refine ja_goto (tgt := 71) dX8_checkOut_171 (by decide) ?_
            refine ja_forget (i := 7) ?_
            exact ih71 (q + 1) _ (by omega) (by omega) (by rw [hE]; exact coU_s (by rw [inB]; first | (rw [c113, c131]; rfl) | (rw [c113]; rfl)) (by rw [up_o (by decide), coU_o (by decide)]) (by rw [up_o (by decide), up_o (by decide), coU_o (by decide)]))
          ·
            refine ja_iconst (v := nI 1) dX8_checkOut_134 (by decide +kernel) ?_
            refine ja_goto (tgt := 139) dX8_checkOut_135 (by decide) ?_
            refine ja_zast (zM_a18 hz) rfl (by omega) (by decide) (by decide +kernel) dX8_checkOut_139 ?_
            refine ja_aload_n (i := 0) dX8_checkOut_140 rfl rfl ?_
            refine ja_getR fl_X8_58 (zM_s hz) rfl (zM_p19 hz) dX8_checkOut_141 ?_
            refine ja_iload (i := 7) dX8_checkOut_144 rfl ?_
            refine ja_aload_n (i := 0) dX8_checkOut_146 rfl rfl ?_
            refine ja_iload_n (i := 1) dX8_checkOut_147 rfl rfl ?_
            refine ja_iload (i := 6) dX8_checkOut_148 rfl ?_
            refine ja_cVr (st := [.int (nI ((256 * vn) + (q))), .ref (120)]) (s_at (D := (ja_up E 119 ((256 * vn) + (q)) (nI (1)))) l hz (ly := ly) (q := q) (by omega) (by omega)) rfl rfl (ce_X8_at 0 0) im_X8_at se_X8_at lk_X8_92 k_X8 (zM_s hz) ⟨(Nat.le_of_ble_eq_true rfl), (Nat.le_of_ble_eq_true rfl)⟩ dX8_checkOut_150 rfl rfl (Nat.le_of_ble_eq_true rfl) (Nat.zero_le _) (Nat.zero_le _) ?_
            refine ja_iast (zM_a19 hz) rfl (by omega) (by decide) dX8_checkOut_153 ?_
            refine ja_aload_n (i := 0) dX8_checkOut_154 rfl rfl ?_
            refine ja_getR fl_X8_61 (zM_s hz) rfl (zM_p20 hz) dX8_checkOut_155 ?_
            refine ja_iload (i := 7) dX8_checkOut_158 rfl ?_
            refine ja_aload_n (i := 0) dX8_checkOut_160 rfl rfl ?_
            refine ja_iload_n (i := 1) dX8_checkOut_161 rfl rfl ?_
            refine ja_iload (i := 6) dX8_checkOut_162 rfl ?_
            refine ja_cVr (st := [.int (nI ((256 * vn) + (q))), .ref (121)]) (s_at (D := (ja_up (ja_up E 119 ((256 * vn) + (q)) (nI (1))) 120 ((256 * vn) + (q)) ((ja_up E 119 ((256 * vn) + (q)) (nI (1))) 105 (256 * ly + q)))) l hz (ly := ly) (q := q) (by omega) (by omega)) rfl rfl (ce_X8_at 0 0) im_X8_at se_X8_at lk_X8_92 k_X8 (zM_s hz) ⟨(Nat.le_of_ble_eq_true rfl), (Nat.le_of_ble_eq_true rfl)⟩ dX8_checkOut_164 rfl rfl (Nat.le_of_ble_eq_true rfl) (Nat.zero_le _) (Nat.zero_le _) ?_
            refine ja_iast (zM_a20 hz) rfl (by omega) (by decide) dX8_checkOut_167 ?_
            refine ja_iincN dX8_checkOut_168 rfl rfl (Nat.le_of_ble_eq_true rfl) ?_
            refine ja_goto (tgt := 71) dX8_checkOut_171 (by decide) ?_
            refine ja_forget (i := 7) ?_
            exact ih71 (q + 1) _ (by omega) (by omega) (by rw [hE]; exact coU_s (by rw [inB]; first | (rw [c113, c131]; rfl) | (rw [c113]; rfl)) (by rw [up_o (by decide), coU_o (by decide)]) (by rw [up_o (by decide), up_o (by decide), coU_o (by decide)]))
  exact lp71 257 0 (ja_up (ja_up D 100 0 (nI (0))) 118 vn (nI (ly))) (by omega) (by omega) coU_0
