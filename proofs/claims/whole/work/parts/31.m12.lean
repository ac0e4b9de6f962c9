/-! THE REFERENCE: paint, split, merge -/
/-- squares marked -/
def giU (D : jD) (g : Nat → Bool) (n : Nat) : jD := fun a b => if a = 125 ∧ b < n then bI (g b) else D a b
theorem giU_0 {D : jD} {g : Nat → Bool} : D = giU D g 0 := by
  funext a b
  rw [giU, if_neg (by omega)]
theorem giU_o {D : jD} {g : Nat → Bool} {n a b : Nat} (h : ¬ a = 125) : giU D g n a b = D a b := by
  rw [giU, if_neg (fun e => h e.1)]
theorem giU_5 {D : jD} {g : Nat → Bool} {n : Nat} : giU D g n 105 = D 105 := funext fun _ => giU_o (by decide)
theorem giU_s {D : jD} {g : Nat → Bool} {q : Nat} {x : Int32} (h : x = bI (g q)) : ja_up (giU D g q) 125 q x = giU D g (q + 1) := by
  subst h
  funext a b
  simp only [ja_up, giU]
  by_cases e : a = 125 ∧ b = q
  · obtain ⟨rfl, rfl⟩ := e
    rw [if_pos ⟨rfl, rfl⟩, if_pos ⟨rfl, by omega⟩]
  · rw [if_neg e]
    by_cases e2 : a = 125 ∧ b < q
    · rw [if_pos e2, if_pos (show a = 125 ∧ b < q + 1 from ⟨e2.1, by omega⟩)]
    · rw [if_neg e2, if_neg (by omega)]

set_option maxRecDepth 100000 in
set_option maxHeartbeats 4000000 in
theorem r_merge_f1 (l : Launch) {Z : jZ} {D : jD} (hz : zM Z) {ly : Int32} (a o : Int32) (hl : ¬ (nI 0 ≤ ly ∧ ly ≤ nI 2)) : ja_M l (mX8_merge 0 0) [.ref (100), .int (ly), .int (a), .int (o)] Z D (ja_jd (some (.int (nI 0))) Z (fun D2 => D2 = ja_up D 100 0 (nI 1))) ja_x0 := by
  refine ja_Mof (lv := [some (.ref (100)), some (.int (ly)), some (.int (a)), some (.int (o)), none]) (by decide +kernel) rfl rfl (Nat.le_of_ble_eq_true rfl) rfl ?_
  refine ja_aload_n (i := 0) dX8_merge_0 rfl rfl ?_
  refine ja_iconst (v := nI 0) dX8_merge_1 (by decide +kernel) ?_
  refine ja_putI fl_X8_85 (zM_s hz) rfl rfl rfl dX8_merge_2 ?_
  refine ja_iload_n (i := 1) dX8_merge_5 rfl rfl ?_
  refine ja_cSr (st := []) (s_isLayerF l hl) rfl rfl (ce_X8_isLayer 0 0) st_X8_isLayer lk_X8_106 ⟨(Nat.le_of_ble_eq_true rfl), (Nat.le_of_ble_eq_true rfl)⟩ dX8_merge_6 rfl rfl (Nat.le_of_ble_eq_true rfl) (Nat.zero_le _) (Nat.zero_le _) ?_
  refine ja_ifB_ne (tgt := 18) dX8_merge_9 (by decide) (fun c9 => absurd c9 (by decide)) (fun c9 => ?_)
  refine ja_aload_n (i := 0) dX8_merge_12 rfl rfl ?_
  refine ja_iconst (v := nI 1) dX8_merge_13 (by decide +kernel) ?_
  refine ja_cVd (st := []) (s_fails l hz (nI (1))) rfl rfl (ce_X8_fails 0 0) im_X8_fails se_X8_fails lk_X8_96 k_X8 (zM_s hz) ⟨(Nat.le_of_ble_eq_true rfl), (Nat.le_of_ble_eq_true rfl)⟩ dX8_merge_14 rfl rfl (Nat.le_of_ble_eq_true rfl) (Nat.zero_le _) (Nat.zero_le _) ?_
  intro D14 hD14
  subst hD14
  refine ja_num (D2 := ja_up D 100 0 (nI (1))) up_2 ?_
  refine ja_iret rfl rfl dX8_merge_17 (Nat.zero_le _) (Nat.zero_le _) ?_
  exact ⟨rfl, rfl, rfl⟩

set_option maxRecDepth 100000 in
set_option maxHeartbeats 4000000 in
theorem r_merge_f2 (l : Launch) {Z : jZ} {D : jD} (hz : zM Z) {ly : Nat} (h1 : ly < 3) {a : Int32} (o : Int32) (ha : ¬ (nI 0 ≤ a ∧ a ≤ nI 9)) : ja_M l (mX8_merge 0 0) [.ref (100), .int (nI (ly)), .int (a), .int (o)] Z D (ja_jd (some (.int (nI 0))) Z (fun D2 => D2 = ja_up D 100 0 (nI 2))) ja_x0 := by
  refine ja_Mof (lv := [some (.ref (100)), some (.int (nI (ly))), some (.int (a)), some (.int (o)), none]) (by decide +kernel) rfl rfl (Nat.le_of_ble_eq_true rfl) rfl ?_
  refine ja_aload_n (i := 0) dX8_merge_0 rfl rfl ?_
  refine ja_iconst (v := nI 0) dX8_merge_1 (by decide +kernel) ?_
  refine ja_putI fl_X8_85 (zM_s hz) rfl rfl rfl dX8_merge_2 ?_
  refine ja_iload_n (i := 1) dX8_merge_5 rfl rfl ?_
  refine ja_cSr (st := []) (s_isLayerT l (by omega)) rfl rfl (ce_X8_isLayer 0 0) st_X8_isLayer lk_X8_106 ⟨(Nat.le_of_ble_eq_true rfl), (Nat.le_of_ble_eq_true rfl)⟩ dX8_merge_6 rfl rfl (Nat.le_of_ble_eq_true rfl) (Nat.zero_le _) (Nat.zero_le _) ?_
  refine ja_ifB_ne (tgt := 18) dX8_merge_9 (by decide) (fun c9 => ?_) (fun c9 => absurd c9 (by decide))
  refine ja_iload_n (i := 2) dX8_merge_18 rfl rfl ?_
  refine ja_cSr (st := []) (s_isAreaF l ha) rfl rfl (ce_X8_isArea 0 0) st_X8_isArea lk_X8_110 ⟨(Nat.le_of_ble_eq_true rfl), (Nat.le_of_ble_eq_true rfl)⟩ dX8_merge_19 rfl rfl (Nat.le_of_ble_eq_true rfl) (Nat.zero_le _) (Nat.zero_le _) ?_
  refine ja_ifB_eq (tgt := 37) dX8_merge_22 (by decide) (fun c22 => ?_) (fun c22 => absurd c22 (by decide))
  refine ja_aload_n (i := 0) dX8_merge_37 rfl rfl ?_
  refine ja_iconst (v := nI 2) dX8_merge_38 (by decide +kernel) ?_
  refine ja_cVd (st := []) (s_fails l hz (nI (2))) rfl rfl (ce_X8_fails 0 0) im_X8_fails se_X8_fails lk_X8_96 k_X8 (zM_s hz) ⟨(Nat.le_of_ble_eq_true rfl), (Nat.le_of_ble_eq_true rfl)⟩ dX8_merge_39 rfl rfl (Nat.le_of_ble_eq_true rfl) (Nat.zero_le _) (Nat.zero_le _) ?_
  intro D39 hD39
  subst hD39
  refine ja_num (D2 := ja_up D 100 0 (nI (2))) up_2 ?_
  refine ja_iret rfl rfl dX8_merge_42 (Nat.zero_le _) (Nat.zero_le _) ?_
  exact ⟨rfl, rfl, rfl⟩

set_option maxRecDepth 100000 in
set_option maxHeartbeats 4000000 in
theorem r_merge_f2b (l : Launch) {Z : jZ} {D : jD} (hz : zM Z) {ly a : Nat} (h1 : ly < 3) (h2 : a < 10) {o : Int32} (ho : ¬ (nI 0 ≤ o ∧ o ≤ nI 9)) : ja_M l (mX8_merge 0 0) [.ref (100), .int (nI (ly)), .int (nI (a)), .int (o)] Z D (ja_jd (some (.int (nI 0))) Z (fun D2 => D2 = ja_up D 100 0 (nI 2))) ja_x0 := by
  refine ja_Mof (lv := [some (.ref (100)), some (.int (nI (ly))), some (.int (nI (a))), some (.int (o)), none]) (by decide +kernel) rfl rfl (Nat.le_of_ble_eq_true rfl) rfl ?_
  refine ja_aload_n (i := 0) dX8_merge_0 rfl rfl ?_
  refine ja_iconst (v := nI 0) dX8_merge_1 (by decide +kernel) ?_
  refine ja_putI fl_X8_85 (zM_s hz) rfl rfl rfl dX8_merge_2 ?_
  refine ja_iload_n (i := 1) dX8_merge_5 rfl rfl ?_
  refine ja_cSr (st := []) (s_isLayerT l (by omega)) rfl rfl (ce_X8_isLayer 0 0) st_X8_isLayer lk_X8_106 ⟨(Nat.le_of_ble_eq_true rfl), (Nat.le_of_ble_eq_true rfl)⟩ dX8_merge_6 rfl rfl (Nat.le_of_ble_eq_true rfl) (Nat.zero_le _) (Nat.zero_le _) ?_
  refine ja_ifB_ne (tgt := 18) dX8_merge_9 (by decide) (fun c9 => ?_) (fun c9 => absurd c9 (by decide))
  refine ja_iload_n (i := 2) dX8_merge_18 rfl rfl ?_
  refine ja_cSr (st := []) (s_isAreaT l (by omega)) rfl rfl (ce_X8_isArea 0 0) st_X8_isArea lk_X8_110 ⟨(Nat.le_of_ble_eq_true rfl), (Nat.le_of_ble_eq_true rfl)⟩ dX8_merge_19 rfl rfl (Nat.le_of_ble_eq_true rfl) (Nat.zero_le _) (Nat.zero_le _) ?_
  refine ja_ifB_eq (tgt := 37) dX8_merge_22 (by decide) (fun c22 => absurd c22 (by decide)) (fun c22 => ?_)
  refine ja_iload_n (i := 3) dX8_merge_25 rfl rfl ?_
  refine ja_cSr (st := []) (s_isAreaF l ho) rfl rfl (ce_X8_isArea 0 0) st_X8_isArea lk_X8_110 ⟨(Nat.le_of_ble_eq_true rfl), (Nat.le_of_ble_eq_true rfl)⟩ dX8_merge_26 rfl rfl (Nat.le_of_ble_eq_true rfl) (Nat.zero_le _) (Nat.zero_le _) ?_
  refine ja_ifB_eq (tgt := 37) dX8_merge_29 (by decide) (fun c29 => ?_) (fun c29 => absurd c29 (by decide))
  refine ja_aload_n (i := 0) dX8_merge_37 rfl rfl ?_
  refine ja_iconst (v := nI 2) dX8_merge_38 (by decide +kernel) ?_
  refine ja_cVd (st := []) (s_fails l hz (nI (2))) rfl rfl (ce_X8_fails 0 0) im_X8_fails se_X8_fails lk_X8_96 k_X8 (zM_s hz) ⟨(Nat.le_of_ble_eq_true rfl), (Nat.le_of_ble_eq_true rfl)⟩ dX8_merge_39 rfl rfl (Nat.le_of_ble_eq_true rfl) (Nat.zero_le _) (Nat.zero_le _) ?_
  intro D39 hD39
  subst hD39
  refine ja_num (D2 := ja_up D 100 0 (nI (2))) up_2 ?_
  refine ja_iret rfl rfl dX8_merge_42 (Nat.zero_le _) (Nat.zero_le _) ?_
  exact ⟨rfl, rfl, rfl⟩

set_option maxRecDepth 100000 in
set_option maxHeartbeats 4000000 in
theorem r_merge_f2c (l : Launch) {Z : jZ} {D : jD} (hz : zM Z) {ly a : Nat} (h1 : ly < 3) (h2 : a < 10) : ja_M l (mX8_merge 0 0) [.ref (100), .int (nI (ly)), .int (nI (a)), .int (nI (a))] Z D (ja_jd (some (.int (nI 0))) Z (fun D2 => D2 = ja_up D 100 0 (nI 2))) ja_x0 := by
  refine ja_Mof (lv := [some (.ref (100)), some (.int (nI (ly))), some (.int (nI (a))), some (.int (nI (a))), none]) (by decide +kernel) rfl rfl (Nat.le_of_ble_eq_true rfl) rfl ?_
  refine ja_aload_n (i := 0) dX8_merge_0 rfl rfl ?_
  refine ja_iconst (v := nI 0) dX8_merge_1 (by decide +kernel) ?_
  refine ja_putI fl_X8_85 (zM_s hz) rfl rfl rfl dX8_merge_2 ?_
  refine ja_iload_n (i := 1) dX8_merge_5 rfl rfl ?_
  refine ja_cSr (st := []) (s_isLayerT l (by omega)) rfl rfl (ce_X8_isLayer 0 0) st_X8_isLayer lk_X8_106 ⟨(Nat.le_of_ble_eq_true rfl), (Nat.le_of_ble_eq_true rfl)⟩ dX8_merge_6 rfl rfl (Nat.le_of_ble_eq_true rfl) (Nat.zero_le _) (Nat.zero_le _) ?_
  refine ja_ifB_ne (tgt := 18) dX8_merge_9 (by decide) (fun c9 => ?_) (fun c9 => absurd c9 (by decide))
  refine ja_iload_n (i := 2) dX8_merge_18 rfl rfl ?_
  refine ja_cSr (st := []) (s_isAreaT l (by omega)) rfl rfl (ce_X8_isArea 0 0) st_X8_isArea lk_X8_110 ⟨(Nat.le_of_ble_eq_true rfl), (Nat.le_of_ble_eq_true rfl)⟩ dX8_merge_19 rfl rfl (Nat.le_of_ble_eq_true rfl) (Nat.zero_le _) (Nat.zero_le _) ?_
  refine ja_ifB_eq (tgt := 37) dX8_merge_22 (by decide) (fun c22 => absurd c22 (by decide)) (fun c22 => ?_)
  refine ja_iload_n (i := 3) dX8_merge_25 rfl rfl ?_
  refine ja_cSr (st := []) (s_isAreaT l (by omega)) rfl rfl (ce_X8_isArea 0 0) st_X8_isArea lk_X8_110 ⟨(Nat.le_of_ble_eq_true rfl), (Nat.le_of_ble_eq_true rfl)⟩ dX8_merge_26 rfl rfl (Nat.le_of_ble_eq_true rfl) (Nat.zero_le _) (Nat.zero_le _) ?_
  refine ja_ifB_eq (tgt := 37) dX8_merge_29 (by decide) (fun c29 => absurd c29 (by decide)) (fun c29 => ?_)
  refine ja_iload_n (i := 2) dX8_merge_32 rfl rfl ?_
  refine ja_iload_n (i := 3) dX8_merge_33 rfl rfl ?_
  refine ja_icmpN_ne (tgt := 43) dX8_merge_34 (by decide) (by omega) (by omega) (fun c34 => (by exfalso; omega)) (fun c34 => ?_)
  refine ja_aload_n (i := 0) dX8_merge_37 rfl rfl ?_
  refine ja_iconst (v := nI 2) dX8_merge_38 (by decide +kernel) ?_
  refine ja_cVd (st := []) (s_fails l hz (nI (2))) rfl rfl (ce_X8_fails 0 0) im_X8_fails se_X8_fails lk_X8_96 k_X8 (zM_s hz) ⟨(Nat.le_of_ble_eq_true rfl), (Nat.le_of_ble_eq_true rfl)⟩ dX8_merge_39 rfl rfl (Nat.le_of_ble_eq_true rfl) (Nat.zero_le _) (Nat.zero_le _) ?_
  intro D39 hD39
  subst hD39
  refine ja_num (D2 := ja_up D 100 0 (nI (2))) up_2 ?_
  refine ja_iret rfl rfl dX8_merge_42 (Nat.zero_le _) (Nat.zero_le _) ?_
  exact ⟨rfl, rfl, rfl⟩

set_option maxRecDepth 100000 in
set_option maxHeartbeats 4000000 in
theorem r_merge_f3 (l : Launch) {Z : jZ} {D : jD} (hz : zM Z) {ly a o : Nat} (h1 : ly < 3) (h2 : a < 10) (h3 : o < 10) (h4 : a ≠ o) (hau : D 100 2 = -1)  : ja_M l (mX8_merge 0 0) [.ref (100), .int (nI (ly)), .int (nI (a)), .int (nI (o))] Z D (ja_jd (some (.int (nI 0))) Z (fun D2 => D2 = ja_up D 100 0 (nI 3))) ja_x0 := by
  refine ja_Mof (lv := [some (.ref (100)), some (.int (nI (ly))), some (.int (nI (a))), some (.int (nI (o))), none]) (by decide +kernel) rfl rfl (Nat.le_of_ble_eq_true rfl) rfl ?_
  refine ja_aload_n (i := 0) dX8_merge_0 rfl rfl ?_
  refine ja_iconst (v := nI 0) dX8_merge_1 (by decide +kernel) ?_
  refine ja_putI fl_X8_85 (zM_s hz) rfl rfl rfl dX8_merge_2 ?_
  refine ja_iload_n (i := 1) dX8_merge_5 rfl rfl ?_
  refine ja_cSr (st := []) (s_isLayerT l (by omega)) rfl rfl (ce_X8_isLayer 0 0) st_X8_isLayer lk_X8_106 ⟨(Nat.le_of_ble_eq_true rfl), (Nat.le_of_ble_eq_true rfl)⟩ dX8_merge_6 rfl rfl (Nat.le_of_ble_eq_true rfl) (Nat.zero_le _) (Nat.zero_le _) ?_
  refine ja_ifB_ne (tgt := 18) dX8_merge_9 (by decide) (fun c9 => ?_) (fun c9 => absurd c9 (by decide))
  refine ja_iload_n (i := 2) dX8_merge_18 rfl rfl ?_
  refine ja_cSr (st := []) (s_isAreaT l (by omega)) rfl rfl (ce_X8_isArea 0 0) st_X8_isArea lk_X8_110 ⟨(Nat.le_of_ble_eq_true rfl), (Nat.le_of_ble_eq_true rfl)⟩ dX8_merge_19 rfl rfl (Nat.le_of_ble_eq_true rfl) (Nat.zero_le _) (Nat.zero_le _) ?_
  refine ja_ifB_eq (tgt := 37) dX8_merge_22 (by decide) (fun c22 => absurd c22 (by decide)) (fun c22 => ?_)
  refine ja_iload_n (i := 3) dX8_merge_25 rfl rfl ?_
  refine ja_cSr (st := []) (s_isAreaT l (by omega)) rfl rfl (ce_X8_isArea 0 0) st_X8_isArea lk_X8_110 ⟨(Nat.le_of_ble_eq_true rfl), (Nat.le_of_ble_eq_true rfl)⟩ dX8_merge_26 rfl rfl (Nat.le_of_ble_eq_true rfl) (Nat.zero_le _) (Nat.zero_le _) ?_
  refine ja_ifB_eq (tgt := 37) dX8_merge_29 (by decide) (fun c29 => absurd c29 (by decide)) (fun c29 => ?_)
  refine ja_iload_n (i := 2) dX8_merge_32 rfl rfl ?_
  refine ja_iload_n (i := 3) dX8_merge_33 rfl rfl ?_
  refine ja_icmpN_ne (tgt := 43) dX8_merge_34 (by decide) (by omega) (by omega) (fun c34 => ?_) (fun c34 => (by exfalso; omega))
  refine ja_aload_n (i := 0) dX8_merge_43 rfl rfl ?_
  refine ja_getI fl_X8_9 (zM_s hz) rfl dX8_merge_44 ?_
  refine ja_top (y := (-1)) hau ?_
  refine ja_iconst (v := (-1)) dX8_merge_47 (by decide +kernel) ?_
  refine ja_icmp_ne (tgt := 57) dX8_merge_48 (by decide) (fun c48 => absurd rfl c48) (fun c48 => ?_)
  refine ja_aload_n (i := 0) dX8_merge_51 rfl rfl ?_
  refine ja_iconst (v := nI 3) dX8_merge_52 (by decide +kernel) ?_
  refine ja_cVd (st := []) (s_fails l hz (nI (3))) rfl rfl (ce_X8_fails 0 0) im_X8_fails se_X8_fails lk_X8_96 k_X8 (zM_s hz) ⟨(Nat.le_of_ble_eq_true rfl), (Nat.le_of_ble_eq_true rfl)⟩ dX8_merge_53 rfl rfl (Nat.le_of_ble_eq_true rfl) (Nat.zero_le _) (Nat.zero_le _) ?_
  intro D53 hD53
  subst hD53
  refine ja_num (D2 := ja_up D 100 0 (nI (3))) up_2 ?_
  refine ja_iret rfl rfl dX8_merge_56 (Nat.zero_le _) (Nat.zero_le _) ?_
  exact ⟨rfl, rfl, rfl⟩

set_option maxRecDepth 100000 in
set_option maxHeartbeats 4000000 in
theorem r_merge_ok (l : Launch) {Z : jZ} {D : jD} (hz : zM Z) {ly a o : Nat} (h1 : ly < 3) (h2 : a < 10) (h3 : o < 10) (h4 : a ≠ o) (hw : wfA (D 105)) {cp : Bool} (hc : D 104 ly = bI cp) {w0 : Nat} (hau : D 100 2 = nI w0) (hw5 : w0 ≤ 5)  : ja_M l (mX8_merge 0 0) [.ref (100), .int (nI (ly)), .int (nI (a)), .int (nI (o))] Z D (ja_jd (some (.int (nI (fb_ct (gvM (giU (ja_up D 100 0 (nI 0)) (fun q => decide (D 105 (256 * ly + q) = nI a)) 256) ly (nI o)) 256)))) Z (fun D2 => D2 = gvR (giU (ja_up D 100 0 (nI 0)) (fun q => decide (D 105 (256 * ly + q) = nI a)) 256) ly (some o) cp)) ja_x0 := by
  refine ja_Mof (lv := [some (.ref (100)), some (.int (nI (ly))), some (.int (nI (a))), some (.int (nI (o))), none]) (by decide +kernel) rfl rfl (Nat.le_of_ble_eq_true rfl) rfl ?_
  refine ja_aload_n (i := 0) dX8_merge_0 rfl rfl ?_
  refine ja_iconst (v := nI 0) dX8_merge_1 (by decide +kernel) ?_
  refine ja_putI fl_X8_85 (zM_s hz) rfl rfl rfl dX8_merge_2 ?_
  refine ja_iload_n (i := 1) dX8_merge_5 rfl rfl ?_
  refine ja_cSr (st := []) (s_isLayerT l (by omega)) rfl rfl (ce_X8_isLayer 0 0) st_X8_isLayer lk_X8_106 ⟨(Nat.le_of_ble_eq_true rfl), (Nat.le_of_ble_eq_true rfl)⟩ dX8_merge_6 rfl rfl (Nat.le_of_ble_eq_true rfl) (Nat.zero_le _) (Nat.zero_le _) ?_
  refine ja_ifB_ne (tgt := 18) dX8_merge_9 (by decide) (fun c9 => ?_) (fun c9 => absurd c9 (by decide))
  refine ja_iload_n (i := 2) dX8_merge_18 rfl rfl ?_
  refine ja_cSr (st := []) (s_isAreaT l (by omega)) rfl rfl (ce_X8_isArea 0 0) st_X8_isArea lk_X8_110 ⟨(Nat.le_of_ble_eq_true rfl), (Nat.le_of_ble_eq_true rfl)⟩ dX8_merge_19 rfl rfl (Nat.le_of_ble_eq_true rfl) (Nat.zero_le _) (Nat.zero_le _) ?_
  refine ja_ifB_eq (tgt := 37) dX8_merge_22 (by decide) (fun c22 => absurd c22 (by decide)) (fun c22 => ?_)
  refine ja_iload_n (i := 3) dX8_merge_25 rfl rfl ?_
  refine ja_cSr (st := []) (s_isAreaT l (by omega)) rfl rfl (ce_X8_isArea 0 0) st_X8_isArea lk_X8_110 ⟨(Nat.le_of_ble_eq_true rfl), (Nat.le_of_ble_eq_true rfl)⟩ dX8_merge_26 rfl rfl (Nat.le_of_ble_eq_true rfl) (Nat.zero_le _) (Nat.zero_le _) ?_
  refine ja_ifB_eq (tgt := 37) dX8_merge_29 (by decide) (fun c29 => absurd c29 (by decide)) (fun c29 => ?_)
  refine ja_iload_n (i := 2) dX8_merge_32 rfl rfl ?_
  refine ja_iload_n (i := 3) dX8_merge_33 rfl rfl ?_
  refine ja_icmpN_ne (tgt := 43) dX8_merge_34 (by decide) (by omega) (by omega) (fun c34 => ?_) (fun c34 => (by exfalso; omega))
  refine ja_aload_n (i := 0) dX8_merge_43 rfl rfl ?_
  refine ja_getI fl_X8_9 (zM_s hz) rfl dX8_merge_44 ?_
  refine ja_top (y := nI (w0)) hau ?_
  refine ja_iconst (v := (-1)) dX8_merge_47 (by decide +kernel) ?_
  refine ja_icmp_ne (tgt := 57) dX8_merge_48 (by decide) (fun c48 => ?_) (fun c48 => absurd c48 (nI_nm1 (by omega)))
  refine ja_iconst (v := nI 0) dX8_merge_57 (by decide +kernel) ?_
  refine ja_istore (i := 4) dX8_merge_58 rfl (Nat.le_of_ble_eq_true rfl) ?_
  have lp60 : ∀ (f60 : Nat) (q : Nat) (E : jD), (256 < q + f60) → (q ≤ 256) → (E = giU (ja_up D 100 0 (nI 0)) (fun q => decide (D 105 (256 * ly + q) = nI a)) q) → ja_A l (mX8_merge 0 0) ja_sn (ja_Qf (mX8_merge 0 0) (ja_jd (some (.int (nI (fb_ct (gvM (giU (ja_up D 100 0 (nI 0)) (fun q => decide (D 105 (256 * ly + q) = nI a)) 256) ly (nI o)) 256)))) Z (fun D2 => D2 = gvR (giU (ja_up D 100 0 (nI 0)) (fun q => decide (D 105 (256 * ly + q) = nI a)) 256) ly (some o) cp)) ja_x0) 60 [some (.ref (100)), some (.int (nI (ly))), some (.int (nI (a))), some (.int (nI (o))), some (.int (nI (q)))] [] Z E 0 0 := by
    intro f60
    induction f60 with
    | zero => intro q E hk hq hE; exfalso; omega
    | succ f60 ih60 =>
      intro q E hk hq hE
      refine ja_iload (i := 4) dX8_merge_60 rfl ?_
      refine ja_sipush (v := nI 256) dX8_merge_62 (by decide +kernel) ?_
      refine ja_icmpN_ge (tgt := 97) dX8_merge_65 (by decide) (by omega) (by omega) (fun c65 => ?_) (fun c65 => ?_)
      ·
        refine ja_num (D2 := (giU (ja_up D 100 0 (nI 0)) (fun q => decide (D 105 (256 * ly + q) = nI a)) 256)) (by rw [hE, show q = 256 by omega]) ?_
        refine ja_aload_n (i := 0) dX8_merge_97 rfl rfl ?_
        refine ja_iload_n (i := 1) dX8_merge_98 rfl rfl ?_
        refine ja_iload_n (i := 3) dX8_merge_99 rfl rfl ?_
        refine ja_cVd (st := []) (s_gives_some l (D := (giU (ja_up D 100 0 (nI 0)) (fun q => decide (D 105 (256 * ly + q) = nI a)) 256)) hz (by rw [giU_5]; exact hw) (ly := ly) h1 (by omega) (cp := cp) ((giU_o (by decide)).trans hc)) rfl rfl (ce_X8_gives 0 0) im_X8_gives se_X8_gives lk_X8_117 k_X8 (zM_s hz) ⟨(Nat.le_of_ble_eq_true rfl), (Nat.le_of_ble_eq_true rfl)⟩ dX8_merge_100 rfl rfl (Nat.le_of_ble_eq_true rfl) (Nat.zero_le _) (Nat.zero_le _) ?_
        intro D100 hD100
        subst hD100
        refine ja_iret rfl rfl dX8_merge_103 (Nat.zero_le _) (Nat.zero_le _) ?_
        exact ⟨rfl, rfl, rfl⟩
      ·
        refine ja_aload_n (i := 0) dX8_merge_68 rfl rfl ?_
        refine ja_getR fl_X8_73 (zM_s hz) rfl (zM_p24 hz) dX8_merge_69 ?_
        refine ja_iload (i := 4) dX8_merge_72 rfl ?_
        refine ja_aload_n (i := 0) dX8_merge_74 rfl rfl ?_
        refine ja_iload_n (i := 1) dX8_merge_75 rfl rfl ?_
        refine ja_iload (i := 4) dX8_merge_76 rfl ?_
        refine ja_cVr (st := [.int (nI (q)), .ref (125)]) (s_at (D := E) l hz (ly := ly) (q := q) (by omega) (by omega)) rfl rfl (ce_X8_at 0 0) im_X8_at se_X8_at lk_X8_92 k_X8 (zM_s hz) ⟨(Nat.le_of_ble_eq_true rfl), (Nat.le_of_ble_eq_true rfl)⟩ dX8_merge_78 rfl rfl (Nat.le_of_ble_eq_true rfl) (Nat.zero_le _) (Nat.zero_le _) ?_
        refine ja_top (y := D 105 (256 * ly + q)) (by rw [hE, giU_5]; rfl) ?_
        refine ja_iload_n (i := 2) dX8_merge_81 rfl rfl ?_
        refine ja_icmp_ne (tgt := 89) dX8_merge_82 (by decide) (fun c82 => ?_) (fun c82 => ?_)
        ·
          refine ja_iconst (v := nI 0) dX8_merge_89 (by decide +kernel) ?_
          refine ja_zast (zM_a24 hz) rfl (by omega) (by decide) (by decide +kernel) dX8_merge_90 ?_
          refine ja_iincN dX8_merge_91 rfl rfl (Nat.le_of_ble_eq_true rfl) ?_
          refine ja_goto (tgt := 60) dX8_merge_94 (by decide) ?_
          exact ih60 (q + 1) _ (by omega) (by omega) (by rw [hE]; exact giU_s (by simp [c82]; rfl))
        ·
          refine ja_iconst (v := nI 1) dX8_merge_85 (by decide +kernel) ?_
          refine ja_goto (tgt := 90) dX8_merge_86 (by decide) ?_
          refine ja_zast (zM_a24 hz) rfl (by omega) (by decide) (by decide +kernel) dX8_merge_90 ?_
          refine ja_iincN dX8_merge_91 rfl rfl (Nat.le_of_ble_eq_true rfl) ?_
          refine ja_goto (tgt := 60) dX8_merge_94 (by decide) ?_
          exact ih60 (q + 1) _ (by omega) (by omega) (by rw [hE]; exact giU_s (by simp [c82]; rfl))
  exact lp60 257 0 (ja_up D 100 0 (nI (0))) (by omega) (by omega) giU_0

set_option maxRecDepth 100000 in
set_option maxHeartbeats 4000000 in
theorem r_paint_f1 (l : Launch) {Z : jZ} {D : jD} (hz : zM Z) {ly : Int32} (a : Int32) (x y w h : Int32) (hl : ¬ (nI 0 ≤ ly ∧ ly ≤ nI 2)) : ja_M l (mX8_paint 0 0) [.ref (100), .int (ly), .int (a), .int (x), .int (y), .int (w), .int (h)] Z D (ja_jd (some (.int (nI 0))) Z (fun D2 => D2 = ja_up D 100 0 (nI 1))) ja_x0 := by
  refine ja_Mof (lv := [some (.ref (100)), some (.int (ly)), some (.int (a)), some (.int (x)), some (.int (y)), some (.int (w)), some (.int (h)), none]) (by decide +kernel) rfl rfl (Nat.le_of_ble_eq_true rfl) rfl ?_
  refine ja_aload_n (i := 0) dX8_paint_0 rfl rfl ?_
  refine ja_iconst (v := nI 0) dX8_paint_1 (by decide +kernel) ?_
  refine ja_putI fl_X8_85 (zM_s hz) rfl rfl rfl dX8_paint_2 ?_
  refine ja_iload_n (i := 1) dX8_paint_5 rfl rfl ?_
  refine ja_cSr (st := []) (s_isLayerF l hl) rfl rfl (ce_X8_isLayer 0 0) st_X8_isLayer lk_X8_106 ⟨(Nat.le_of_ble_eq_true rfl), (Nat.le_of_ble_eq_true rfl)⟩ dX8_paint_6 rfl rfl (Nat.le_of_ble_eq_true rfl) (Nat.zero_le _) (Nat.zero_le _) ?_
  refine ja_ifB_ne (tgt := 18) dX8_paint_9 (by decide) (fun c9 => absurd c9 (by decide)) (fun c9 => ?_)
  refine ja_aload_n (i := 0) dX8_paint_12 rfl rfl ?_
  refine ja_iconst (v := nI 1) dX8_paint_13 (by decide +kernel) ?_
  refine ja_cVd (st := []) (s_fails l hz (nI (1))) rfl rfl (ce_X8_fails 0 0) im_X8_fails se_X8_fails lk_X8_96 k_X8 (zM_s hz) ⟨(Nat.le_of_ble_eq_true rfl), (Nat.le_of_ble_eq_true rfl)⟩ dX8_paint_14 rfl rfl (Nat.le_of_ble_eq_true rfl) (Nat.zero_le _) (Nat.zero_le _) ?_
  intro D14 hD14
  subst hD14
  refine ja_num (D2 := ja_up D 100 0 (nI (1))) up_2 ?_
  refine ja_iret rfl rfl dX8_paint_17 (Nat.zero_le _) (Nat.zero_le _) ?_
  exact ⟨rfl, rfl, rfl⟩

set_option maxRecDepth 100000 in
set_option maxHeartbeats 4000000 in
theorem r_paint_f2 (l : Launch) {Z : jZ} {D : jD} (hz : zM Z) {ly : Nat} (h1 : ly < 3) {a : Int32} (x y w h : Int32) (hn : ¬ a = -1) (ha : ¬ (nI 0 ≤ a ∧ a ≤ nI 9)) : ja_M l (mX8_paint 0 0) [.ref (100), .int (nI (ly)), .int (a), .int (x), .int (y), .int (w), .int (h)] Z D (ja_jd (some (.int (nI 0))) Z (fun D2 => D2 = ja_up D 100 0 (nI 2))) ja_x0 := by
  refine ja_Mof (lv := [some (.ref (100)), some (.int (nI (ly))), some (.int (a)), some (.int (x)), some (.int (y)), some (.int (w)), some (.int (h)), none]) (by decide +kernel) rfl rfl (Nat.le_of_ble_eq_true rfl) rfl ?_
  refine ja_aload_n (i := 0) dX8_paint_0 rfl rfl ?_
  refine ja_iconst (v := nI 0) dX8_paint_1 (by decide +kernel) ?_
  refine ja_putI fl_X8_85 (zM_s hz) rfl rfl rfl dX8_paint_2 ?_
  refine ja_iload_n (i := 1) dX8_paint_5 rfl rfl ?_
  refine ja_cSr (st := []) (s_isLayerT l (by omega)) rfl rfl (ce_X8_isLayer 0 0) st_X8_isLayer lk_X8_106 ⟨(Nat.le_of_ble_eq_true rfl), (Nat.le_of_ble_eq_true rfl)⟩ dX8_paint_6 rfl rfl (Nat.le_of_ble_eq_true rfl) (Nat.zero_le _) (Nat.zero_le _) ?_
  refine ja_ifB_ne (tgt := 18) dX8_paint_9 (by decide) (fun c9 => ?_) (fun c9 => absurd c9 (by decide))
  refine ja_iload_n (i := 2) dX8_paint_18 rfl rfl ?_
  refine ja_iconst (v := (-1)) dX8_paint_19 (by decide +kernel) ?_
  refine ja_icmp_eq (tgt := 30) dX8_paint_20 (by decide) (fun c20 => absurd c20 hn) (fun c20 => ?_)
  refine ja_iload_n (i := 2) dX8_paint_23 rfl rfl ?_
  refine ja_cSr (st := []) (s_isAreaF l ha) rfl rfl (ce_X8_isArea 0 0) st_X8_isArea lk_X8_110 ⟨(Nat.le_of_ble_eq_true rfl), (Nat.le_of_ble_eq_true rfl)⟩ dX8_paint_24 rfl rfl (Nat.le_of_ble_eq_true rfl) (Nat.zero_le _) (Nat.zero_le _) ?_
  refine ja_ifB_eq (tgt := 43) dX8_paint_27 (by decide) (fun c27 => ?_) (fun c27 => absurd c27 (by decide))
  refine ja_aload_n (i := 0) dX8_paint_43 rfl rfl ?_
  refine ja_iconst (v := nI 2) dX8_paint_44 (by decide +kernel) ?_
  refine ja_cVd (st := []) (s_fails l hz (nI (2))) rfl rfl (ce_X8_fails 0 0) im_X8_fails se_X8_fails lk_X8_96 k_X8 (zM_s hz) ⟨(Nat.le_of_ble_eq_true rfl), (Nat.le_of_ble_eq_true rfl)⟩ dX8_paint_45 rfl rfl (Nat.le_of_ble_eq_true rfl) (Nat.zero_le _) (Nat.zero_le _) ?_
  intro D45 hD45
  subst hD45
  refine ja_num (D2 := ja_up D 100 0 (nI (2))) up_2 ?_
  refine ja_iret rfl rfl dX8_paint_48 (Nat.zero_le _) (Nat.zero_le _) ?_
  exact ⟨rfl, rfl, rfl⟩

set_option maxRecDepth 100000 in
set_option maxHeartbeats 4000000 in
theorem r_paint_f2b (l : Launch) {Z : jZ} {D : jD} (hz : zM Z) {ly : Nat} (h1 : ly < 3) {x y w h : Int32} (hb : ¬ bxOK x y w h) : ja_M l (mX8_paint 0 0) [.ref (100), .int (nI (ly)), .int ((-1)), .int (x), .int (y), .int (w), .int (h)] Z D (ja_jd (some (.int (nI 0))) Z (fun D2 => D2 = ja_up D 100 0 (nI 2))) ja_x0 := by
  refine ja_Mof (lv := [some (.ref (100)), some (.int (nI (ly))), some (.int ((-1))), some (.int (x)), some (.int (y)), some (.int (w)), some (.int (h)), none]) (by decide +kernel) rfl rfl (Nat.le_of_ble_eq_true rfl) rfl ?_
  refine ja_aload_n (i := 0) dX8_paint_0 rfl rfl ?_
  refine ja_iconst (v := nI 0) dX8_paint_1 (by decide +kernel) ?_
  refine ja_putI fl_X8_85 (zM_s hz) rfl rfl rfl dX8_paint_2 ?_
  refine ja_iload_n (i := 1) dX8_paint_5 rfl rfl ?_
  refine ja_cSr (st := []) (s_isLayerT l (by omega)) rfl rfl (ce_X8_isLayer 0 0) st_X8_isLayer lk_X8_106 ⟨(Nat.le_of_ble_eq_true rfl), (Nat.le_of_ble_eq_true rfl)⟩ dX8_paint_6 rfl rfl (Nat.le_of_ble_eq_true rfl) (Nat.zero_le _) (Nat.zero_le _) ?_
  refine ja_ifB_ne (tgt := 18) dX8_paint_9 (by decide) (fun c9 => ?_) (fun c9 => absurd c9 (by decide))
  refine ja_iload_n (i := 2) dX8_paint_18 rfl rfl ?_
  refine ja_iconst (v := (-1)) dX8_paint_19 (by decide +kernel) ?_
  refine ja_icmp_eq (tgt := 30) dX8_paint_20 (by decide) (fun c20 => ?_) (fun c20 => absurd rfl c20)
  refine ja_iload_n (i := 3) dX8_paint_30 rfl rfl ?_
  refine ja_iload (i := 4) dX8_paint_31 rfl ?_
  refine ja_iload (i := 5) dX8_paint_33 rfl ?_
  refine ja_iload (i := 6) dX8_paint_35 rfl ?_
  refine ja_cSr (st := []) (s_isBoxF l hb) rfl rfl (ce_X8_isBox 0 0) st_X8_isBox lk_X8_113 ⟨(Nat.le_of_ble_eq_true rfl), (Nat.le_of_ble_eq_true rfl)⟩ dX8_paint_37 rfl rfl (Nat.le_of_ble_eq_true rfl) (Nat.zero_le _) (Nat.zero_le _) ?_
  refine ja_ifB_ne (tgt := 49) dX8_paint_40 (by decide) (fun c40 => absurd c40 (by decide)) (fun c40 => ?_)
  refine ja_aload_n (i := 0) dX8_paint_43 rfl rfl ?_
  refine ja_iconst (v := nI 2) dX8_paint_44 (by decide +kernel) ?_
  refine ja_cVd (st := []) (s_fails l hz (nI (2))) rfl rfl (ce_X8_fails 0 0) im_X8_fails se_X8_fails lk_X8_96 k_X8 (zM_s hz) ⟨(Nat.le_of_ble_eq_true rfl), (Nat.le_of_ble_eq_true rfl)⟩ dX8_paint_45 rfl rfl (Nat.le_of_ble_eq_true rfl) (Nat.zero_le _) (Nat.zero_le _) ?_
  intro D45 hD45
  subst hD45
  refine ja_num (D2 := ja_up D 100 0 (nI (2))) up_2 ?_
  refine ja_iret rfl rfl dX8_paint_48 (Nat.zero_le _) (Nat.zero_le _) ?_
  exact ⟨rfl, rfl, rfl⟩

set_option maxRecDepth 100000 in
set_option maxHeartbeats 4000000 in
theorem r_paint_f2c (l : Launch) {Z : jZ} {D : jD} (hz : zM Z) {ly a : Nat} (h1 : ly < 3) (ha : a < 10) {x y w h : Int32} (hb : ¬ bxOK x y w h) : ja_M l (mX8_paint 0 0) [.ref (100), .int (nI (ly)), .int (nI (a)), .int (x), .int (y), .int (w), .int (h)] Z D (ja_jd (some (.int (nI 0))) Z (fun D2 => D2 = ja_up D 100 0 (nI 2))) ja_x0 := by
  refine ja_Mof (lv := [some (.ref (100)), some (.int (nI (ly))), some (.int (nI (a))), some (.int (x)), some (.int (y)), some (.int (w)), some (.int (h)), none]) (by decide +kernel) rfl rfl (Nat.le_of_ble_eq_true rfl) rfl ?_
  refine ja_aload_n (i := 0) dX8_paint_0 rfl rfl ?_
  refine ja_iconst (v := nI 0) dX8_paint_1 (by decide +kernel) ?_
  refine ja_putI fl_X8_85 (zM_s hz) rfl rfl rfl dX8_paint_2 ?_
  refine ja_iload_n (i := 1) dX8_paint_5 rfl rfl ?_
  refine ja_cSr (st := []) (s_isLayerT l (by omega)) rfl rfl (ce_X8_isLayer 0 0) st_X8_isLayer lk_X8_106 ⟨(Nat.le_of_ble_eq_true rfl), (Nat.le_of_ble_eq_true rfl)⟩ dX8_paint_6 rfl rfl (Nat.le_of_ble_eq_true rfl) (Nat.zero_le _) (Nat.zero_le _) ?_
  refine ja_ifB_ne (tgt := 18) dX8_paint_9 (by decide) (fun c9 => ?_) (fun c9 => absurd c9 (by decide))
  refine ja_iload_n (i := 2) dX8_paint_18 rfl rfl ?_
  refine ja_iconst (v := (-1)) dX8_paint_19 (by decide +kernel) ?_
  refine ja_icmp_eq (tgt := 30) dX8_paint_20 (by decide) (fun c20 => absurd c20 (nI_nm1 (by omega))) (fun c20 => ?_)
  refine ja_iload_n (i := 2) dX8_paint_23 rfl rfl ?_
  refine ja_cSr (st := []) (s_isAreaT l (by omega)) rfl rfl (ce_X8_isArea 0 0) st_X8_isArea lk_X8_110 ⟨(Nat.le_of_ble_eq_true rfl), (Nat.le_of_ble_eq_true rfl)⟩ dX8_paint_24 rfl rfl (Nat.le_of_ble_eq_true rfl) (Nat.zero_le _) (Nat.zero_le _) ?_
  refine ja_ifB_eq (tgt := 43) dX8_paint_27 (by decide) (fun c27 => absurd c27 (by decide)) (fun c27 => ?_)
  refine ja_iload_n (i := 3) dX8_paint_30 rfl rfl ?_
  refine ja_iload (i := 4) dX8_paint_31 rfl ?_
  refine ja_iload (i := 5) dX8_paint_33 rfl ?_
  refine ja_iload (i := 6) dX8_paint_35 rfl ?_
  refine ja_cSr (st := []) (s_isBoxF l hb) rfl rfl (ce_X8_isBox 0 0) st_X8_isBox lk_X8_113 ⟨(Nat.le_of_ble_eq_true rfl), (Nat.le_of_ble_eq_true rfl)⟩ dX8_paint_37 rfl rfl (Nat.le_of_ble_eq_true rfl) (Nat.zero_le _) (Nat.zero_le _) ?_
  refine ja_ifB_ne (tgt := 49) dX8_paint_40 (by decide) (fun c40 => absurd c40 (by decide)) (fun c40 => ?_)
  refine ja_aload_n (i := 0) dX8_paint_43 rfl rfl ?_
  refine ja_iconst (v := nI 2) dX8_paint_44 (by decide +kernel) ?_
  refine ja_cVd (st := []) (s_fails l hz (nI (2))) rfl rfl (ce_X8_fails 0 0) im_X8_fails se_X8_fails lk_X8_96 k_X8 (zM_s hz) ⟨(Nat.le_of_ble_eq_true rfl), (Nat.le_of_ble_eq_true rfl)⟩ dX8_paint_45 rfl rfl (Nat.le_of_ble_eq_true rfl) (Nat.zero_le _) (Nat.zero_le _) ?_
  intro D45 hD45
  subst hD45
  refine ja_num (D2 := ja_up D 100 0 (nI (2))) up_2 ?_
  refine ja_iret rfl rfl dX8_paint_48 (Nat.zero_le _) (Nat.zero_le _) ?_
  exact ⟨rfl, rfl, rfl⟩

set_option maxRecDepth 100000 in
set_option maxHeartbeats 4000000 in
theorem r_paint_f3 (l : Launch) {Z : jZ} {D : jD} (hz : zM Z) {ly x y w h : Nat} (h1 : ly < 3) (hx : x < 16) (hy : y < 16) (hw1 : 1 ≤ w) (hw : x + w ≤ 16) (hh1 : 1 ≤ h) (hh : y + h ≤ 16) (hau : D 100 2 = -1)  : ja_M l (mX8_paint 0 0) [.ref (100), .int (nI (ly)), .int ((-1)), .int (nI (x)), .int (nI (y)), .int (nI (w)), .int (nI (h))] Z D (ja_jd (some (.int (nI 0))) Z (fun D2 => D2 = ja_up D 100 0 (nI 3))) ja_x0 := by
  refine ja_Mof (lv := [some (.ref (100)), some (.int (nI (ly))), some (.int ((-1))), some (.int (nI (x))), some (.int (nI (y))), some (.int (nI (w))), some (.int (nI (h))), none]) (by decide +kernel) rfl rfl (Nat.le_of_ble_eq_true rfl) rfl ?_
  refine ja_aload_n (i := 0) dX8_paint_0 rfl rfl ?_
  refine ja_iconst (v := nI 0) dX8_paint_1 (by decide +kernel) ?_
  refine ja_putI fl_X8_85 (zM_s hz) rfl rfl rfl dX8_paint_2 ?_
  refine ja_iload_n (i := 1) dX8_paint_5 rfl rfl ?_
  refine ja_cSr (st := []) (s_isLayerT l (by omega)) rfl rfl (ce_X8_isLayer 0 0) st_X8_isLayer lk_X8_106 ⟨(Nat.le_of_ble_eq_true rfl), (Nat.le_of_ble_eq_true rfl)⟩ dX8_paint_6 rfl rfl (Nat.le_of_ble_eq_true rfl) (Nat.zero_le _) (Nat.zero_le _) ?_
  refine ja_ifB_ne (tgt := 18) dX8_paint_9 (by decide) (fun c9 => ?_) (fun c9 => absurd c9 (by decide))
  refine ja_iload_n (i := 2) dX8_paint_18 rfl rfl ?_
  refine ja_iconst (v := (-1)) dX8_paint_19 (by decide +kernel) ?_
  refine ja_icmp_eq (tgt := 30) dX8_paint_20 (by decide) (fun c20 => ?_) (fun c20 => absurd rfl c20)
  refine ja_iload_n (i := 3) dX8_paint_30 rfl rfl ?_
  refine ja_iload (i := 4) dX8_paint_31 rfl ?_
  refine ja_iload (i := 5) dX8_paint_33 rfl ?_
  refine ja_iload (i := 6) dX8_paint_35 rfl ?_
  refine ja_cSr (st := []) (s_isBoxT l (by omega) (by omega) (by omega) (by omega) (by omega) (by omega)) rfl rfl (ce_X8_isBox 0 0) st_X8_isBox lk_X8_113 ⟨(Nat.le_of_ble_eq_true rfl), (Nat.le_of_ble_eq_true rfl)⟩ dX8_paint_37 rfl rfl (Nat.le_of_ble_eq_true rfl) (Nat.zero_le _) (Nat.zero_le _) ?_
  refine ja_ifB_ne (tgt := 49) dX8_paint_40 (by decide) (fun c40 => ?_) (fun c40 => absurd c40 (by decide))
  refine ja_aload_n (i := 0) dX8_paint_49 rfl rfl ?_
  refine ja_getI fl_X8_9 (zM_s hz) rfl dX8_paint_50 ?_
  refine ja_top (y := (-1)) hau ?_
  refine ja_iconst (v := (-1)) dX8_paint_53 (by decide +kernel) ?_
  refine ja_icmp_ne (tgt := 63) dX8_paint_54 (by decide) (fun c54 => absurd rfl c54) (fun c54 => ?_)
  refine ja_aload_n (i := 0) dX8_paint_57 rfl rfl ?_
  refine ja_iconst (v := nI 3) dX8_paint_58 (by decide +kernel) ?_
  refine ja_cVd (st := []) (s_fails l hz (nI (3))) rfl rfl (ce_X8_fails 0 0) im_X8_fails se_X8_fails lk_X8_96 k_X8 (zM_s hz) ⟨(Nat.le_of_ble_eq_true rfl), (Nat.le_of_ble_eq_true rfl)⟩ dX8_paint_59 rfl rfl (Nat.le_of_ble_eq_true rfl) (Nat.zero_le _) (Nat.zero_le _) ?_
  intro D59 hD59
  subst hD59
  refine ja_num (D2 := ja_up D 100 0 (nI (3))) up_2 ?_
  refine ja_iret rfl rfl dX8_paint_62 (Nat.zero_le _) (Nat.zero_le _) ?_
  exact ⟨rfl, rfl, rfl⟩

set_option maxRecDepth 100000 in
set_option maxHeartbeats 4000000 in
theorem r_paint_f3b (l : Launch) {Z : jZ} {D : jD} (hz : zM Z) {ly x y w h : Nat} (h1 : ly < 3) (hx : x < 16) (hy : y < 16) (hw1 : 1 ≤ w) (hw : x + w ≤ 16) (hh1 : 1 ≤ h) (hh : y + h ≤ 16) {a : Nat} (ha : a < 10) (hau : D 100 2 = -1)  : ja_M l (mX8_paint 0 0) [.ref (100), .int (nI (ly)), .int (nI (a)), .int (nI (x)), .int (nI (y)), .int (nI (w)), .int (nI (h))] Z D (ja_jd (some (.int (nI 0))) Z (fun D2 => D2 = ja_up D 100 0 (nI 3))) ja_x0 := by
  refine ja_Mof (lv := [some (.ref (100)), some (.int (nI (ly))), some (.int (nI (a))), some (.int (nI (x))), some (.int (nI (y))), some (.int (nI (w))), some (.int (nI (h))), none]) (by decide +kernel) rfl rfl (Nat.le_of_ble_eq_true rfl) rfl ?_
  refine ja_aload_n (i := 0) dX8_paint_0 rfl rfl ?_
  refine ja_iconst (v := nI 0) dX8_paint_1 (by decide +kernel) ?_
  refine ja_putI fl_X8_85 (zM_s hz) rfl rfl rfl dX8_paint_2 ?_
  refine ja_iload_n (i := 1) dX8_paint_5 rfl rfl ?_
  refine ja_cSr (st := []) (s_isLayerT l (by omega)) rfl rfl (ce_X8_isLayer 0 0) st_X8_isLayer lk_X8_106 ⟨(Nat.le_of_ble_eq_true rfl), (Nat.le_of_ble_eq_true rfl)⟩ dX8_paint_6 rfl rfl (Nat.le_of_ble_eq_true rfl) (Nat.zero_le _) (Nat.zero_le _) ?_
  refine ja_ifB_ne (tgt := 18) dX8_paint_9 (by decide) (fun c9 => ?_) (fun c9 => absurd c9 (by decide))
  refine ja_iload_n (i := 2) dX8_paint_18 rfl rfl ?_
  refine ja_iconst (v := (-1)) dX8_paint_19 (by decide +kernel) ?_
  refine ja_icmp_eq (tgt := 30) dX8_paint_20 (by decide) (fun c20 => absurd c20 (nI_nm1 (by omega))) (fun c20 => ?_)
  refine ja_iload_n (i := 2) dX8_paint_23 rfl rfl ?_
  refine ja_cSr (st := []) (s_isAreaT l (by omega)) rfl rfl (ce_X8_isArea 0 0) st_X8_isArea lk_X8_110 ⟨(Nat.le_of_ble_eq_true rfl), (Nat.le_of_ble_eq_true rfl)⟩ dX8_paint_24 rfl rfl (Nat.le_of_ble_eq_true rfl) (Nat.zero_le _) (Nat.zero_le _) ?_
  refine ja_ifB_eq (tgt := 43) dX8_paint_27 (by decide) (fun c27 => absurd c27 (by decide)) (fun c27 => ?_)
  refine ja_iload_n (i := 3) dX8_paint_30 rfl rfl ?_
  refine ja_iload (i := 4) dX8_paint_31 rfl ?_
  refine ja_iload (i := 5) dX8_paint_33 rfl ?_
  refine ja_iload (i := 6) dX8_paint_35 rfl ?_
  refine ja_cSr (st := []) (s_isBoxT l (by omega) (by omega) (by omega) (by omega) (by omega) (by omega)) rfl rfl (ce_X8_isBox 0 0) st_X8_isBox lk_X8_113 ⟨(Nat.le_of_ble_eq_true rfl), (Nat.le_of_ble_eq_true rfl)⟩ dX8_paint_37 rfl rfl (Nat.le_of_ble_eq_true rfl) (Nat.zero_le _) (Nat.zero_le _) ?_
  refine ja_ifB_ne (tgt := 49) dX8_paint_40 (by decide) (fun c40 => ?_) (fun c40 => absurd c40 (by decide))
  refine ja_aload_n (i := 0) dX8_paint_49 rfl rfl ?_
  refine ja_getI fl_X8_9 (zM_s hz) rfl dX8_paint_50 ?_
  refine ja_top (y := (-1)) hau ?_
  refine ja_iconst (v := (-1)) dX8_paint_53 (by decide +kernel) ?_
  refine ja_icmp_ne (tgt := 63) dX8_paint_54 (by decide) (fun c54 => absurd rfl c54) (fun c54 => ?_)
  refine ja_aload_n (i := 0) dX8_paint_57 rfl rfl ?_
  refine ja_iconst (v := nI 3) dX8_paint_58 (by decide +kernel) ?_
  refine ja_cVd (st := []) (s_fails l hz (nI (3))) rfl rfl (ce_X8_fails 0 0) im_X8_fails se_X8_fails lk_X8_96 k_X8 (zM_s hz) ⟨(Nat.le_of_ble_eq_true rfl), (Nat.le_of_ble_eq_true rfl)⟩ dX8_paint_59 rfl rfl (Nat.le_of_ble_eq_true rfl) (Nat.zero_le _) (Nat.zero_le _) ?_
  intro D59 hD59
  subst hD59
  refine ja_num (D2 := ja_up D 100 0 (nI (3))) up_2 ?_
  refine ja_iret rfl rfl dX8_paint_62 (Nat.zero_le _) (Nat.zero_le _) ?_
  exact ⟨rfl, rfl, rfl⟩

set_option maxRecDepth 100000 in
set_option maxHeartbeats 4000000 in
theorem r_paint_okN (l : Launch) {Z : jZ} {D : jD} (hz : zM Z) {ly x y w h : Nat} (h1 : ly < 3) (hx : x < 16) (hy : y < 16) (hw1 : 1 ≤ w) (hw : x + w ≤ 16) (hh1 : 1 ≤ h) (hh : y + h ≤ 16) (hw : wfA (D 105)) {cp : Bool} (hc : D 104 ly = bI cp) {w0 : Nat} (hau : D 100 2 = nI w0) (hw5 : w0 ≤ 5)  : ja_M l (mX8_paint 0 0) [.ref (100), .int (nI (ly)), .int ((-1)), .int (nI (x)), .int (nI (y)), .int (nI (w)), .int (nI (h))] Z D (ja_jd (some (.int (nI (fb_ct (gvM (giU (ja_up D 100 0 (nI 0)) (inB x y w h) 256) ly (-1)) 256)))) Z (fun D2 => D2 = gvR (giU (ja_up D 100 0 (nI 0)) (inB x y w h) 256) ly none cp)) ja_x0 := by
  refine ja_Mof (lv := [some (.ref (100)), some (.int (nI (ly))), some (.int ((-1))), some (.int (nI (x))), some (.int (nI (y))), some (.int (nI (w))), some (.int (nI (h))), none]) (by decide +kernel) rfl rfl (Nat.le_of_ble_eq_true rfl) rfl ?_
  refine ja_aload_n (i := 0) dX8_paint_0 rfl rfl ?_
  refine ja_iconst (v := nI 0) dX8_paint_1 (by decide +kernel) ?_
  refine ja_putI fl_X8_85 (zM_s hz) rfl rfl rfl dX8_paint_2 ?_
  refine ja_iload_n (i := 1) dX8_paint_5 rfl rfl ?_
  refine ja_cSr (st := []) (s_isLayerT l (by omega)) rfl rfl (ce_X8_isLayer 0 0) st_X8_isLayer lk_X8_106 ⟨(Nat.le_of_ble_eq_true rfl), (Nat.le_of_ble_eq_true rfl)⟩ dX8_paint_6 rfl rfl (Nat.le_of_ble_eq_true rfl) (Nat.zero_le _) (Nat.zero_le _) ?_
  refine ja_ifB_ne (tgt := 18) dX8_paint_9 (by decide) (fun c9 => ?_) (fun c9 => absurd c9 (by decide))
  refine ja_iload_n (i := 2) dX8_paint_18 rfl rfl ?_
  refine ja_iconst (v := (-1)) dX8_paint_19 (by decide +kernel) ?_
  refine ja_icmp_eq (tgt := 30) dX8_paint_20 (by decide) (fun c20 => ?_) (fun c20 => absurd rfl c20)
  refine ja_iload_n (i := 3) dX8_paint_30 rfl rfl ?_
  refine ja_iload (i := 4) dX8_paint_31 rfl ?_
  refine ja_iload (i := 5) dX8_paint_33 rfl ?_
  refine ja_iload (i := 6) dX8_paint_35 rfl ?_
  refine ja_cSr (st := []) (s_isBoxT l (by omega) (by omega) (by omega) (by omega) (by omega) (by omega)) rfl rfl (ce_X8_isBox 0 0) st_X8_isBox lk_X8_113 ⟨(Nat.le_of_ble_eq_true rfl), (Nat.le_of_ble_eq_true rfl)⟩ dX8_paint_37 rfl rfl (Nat.le_of_ble_eq_true rfl) (Nat.zero_le _) (Nat.zero_le _) ?_
  refine ja_ifB_ne (tgt := 49) dX8_paint_40 (by decide) (fun c40 => ?_) (fun c40 => absurd c40 (by decide))
  refine ja_aload_n (i := 0) dX8_paint_49 rfl rfl ?_
  refine ja_getI fl_X8_9 (zM_s hz) rfl dX8_paint_50 ?_
  refine ja_top (y := nI (w0)) hau ?_
  refine ja_iconst (v := (-1)) dX8_paint_53 (by decide +kernel) ?_
  refine ja_icmp_ne (tgt := 63) dX8_paint_54 (by decide) (fun c54 => ?_) (fun c54 => absurd c54 (nI_nm1 (by omega)))
  refine ja_iconst (v := nI 0) dX8_paint_63 (by decide +kernel) ?_
  refine ja_istore (i := 7) dX8_paint_64 rfl (Nat.le_of_ble_eq_true rfl) ?_
  have lp66 : ∀ (f66 : Nat) (q : Nat) (E : jD), (256 < q + f66) → (q ≤ 256) → (E = giU (ja_up D 100 0 (nI 0)) (inB x y w h) q) → ja_A l (mX8_paint 0 0) ja_sn (ja_Qf (mX8_paint 0 0) (ja_jd (some (.int (nI (fb_ct (gvM (giU (ja_up D 100 0 (nI 0)) (inB x y w h) 256) ly (-1)) 256)))) Z (fun D2 => D2 = gvR (giU (ja_up D 100 0 (nI 0)) (inB x y w h) 256) ly none cp)) ja_x0) 66 [some (.ref (100)), some (.int (nI (ly))), some (.int ((-1))), some (.int (nI (x))), some (.int (nI (y))), some (.int (nI (w))), some (.int (nI (h))), some (.int (nI (q)))] [] Z E 0 0 := by
    intro f66
    induction f66 with
    | zero => intro q E hk hq hE; exfalso; omega
    | succ f66 ih66 =>
      intro q E hk hq hE
      refine ja_iload (i := 7) dX8_paint_66 rfl ?_
      refine ja_sipush (v := nI 256) dX8_paint_68 (by decide +kernel) ?_
      refine ja_icmpN_ge (tgt := 130) dX8_paint_71 (by decide) (by omega) (by omega) (fun c71 => ?_) (fun c71 => ?_)
      ·
        refine ja_num (D2 := (giU (ja_up D 100 0 (nI 0)) (inB x y w h) 256)) (by rw [hE, show q = 256 by omega]) ?_
        refine ja_aload_n (i := 0) dX8_paint_130 rfl rfl ?_
        refine ja_iload_n (i := 1) dX8_paint_131 rfl rfl ?_
        refine ja_iload_n (i := 2) dX8_paint_132 rfl rfl ?_
        refine ja_cVd (st := []) (s_gives_none l (D := (giU (ja_up D 100 0 (nI 0)) (inB x y w h) 256)) hz (by rw [giU_5]; exact hw) (ly := ly) h1 (cp := cp) ((giU_o (by decide)).trans hc)) rfl rfl (ce_X8_gives 0 0) im_X8_gives se_X8_gives lk_X8_117 k_X8 (zM_s hz) ⟨(Nat.le_of_ble_eq_true rfl), (Nat.le_of_ble_eq_true rfl)⟩ dX8_paint_133 rfl rfl (Nat.le_of_ble_eq_true rfl) (Nat.zero_le _) (Nat.zero_le _) ?_
        intro D133 hD133
        subst hD133
        refine ja_iret rfl rfl dX8_paint_136 (Nat.zero_le _) (Nat.zero_le _) ?_
        exact ⟨rfl, rfl, rfl⟩
      ·
        refine ja_aload_n (i := 0) dX8_paint_74 rfl rfl ?_
        refine ja_getR fl_X8_73 (zM_s hz) rfl (zM_p24 hz) dX8_paint_75 ?_
        refine ja_iload (i := 7) dX8_paint_78 rfl ?_
        refine ja_iload (i := 7) dX8_paint_80 rfl ?_
        refine ja_bipush (v := nI 16) dX8_paint_82 (by decide +kernel) ?_
        refine ja_iremN dX8_paint_84 (by omega) (by omega) (by omega) ?_
        refine ja_iload_n (i := 3) dX8_paint_85 rfl rfl ?_
        refine ja_iload_n (i := 3) dX8_paint_86 rfl rfl ?_
        refine ja_iload (i := 5) dX8_paint_87 rfl ?_
        refine ja_iaddN dX8_paint_89 ?_
        refine ja_iconst (v := nI 1) dX8_paint_90 (by decide +kernel) ?_
        refine ja_isubN dX8_paint_91 (by omega) ?_
        refine ja_cSr (st := [.int (nI (q)), .ref (125)]) (s_inN l (q % 16) x ((x + w) - (1)) (by omega) (by omega) (by omega)) rfl rfl (ce_X8_in 0 0) st_X8_in lk_X8_88 ⟨(Nat.le_of_ble_eq_true rfl), (Nat.le_of_ble_eq_true rfl)⟩ dX8_paint_92 rfl rfl (Nat.le_of_ble_eq_true rfl) (Nat.zero_le _) (Nat.zero_le _) ?_
        refine ja_ifB_eq (tgt := 122) dX8_paint_95 (by decide) (fun c95 => ?_) (fun c95 => ?_)
        ·
          refine ja_iconst (v := nI 0) dX8_paint_122 (by decide +kernel) ?_
          refine ja_zast (zM_a24 hz) rfl (by omega) (by decide) (by decide +kernel) dX8_paint_123 ?_
          refine ja_iincN dX8_paint_124 rfl rfl (Nat.le_of_ble_eq_true rfl) ?_
          refine ja_goto (tgt := 66) dX8_paint_127 (by decide) ?_
          exact ih66 (q + 1) _ (by omega) (by omega) (by rw [hE]; exact giU_s (by rw [inB]; first | (rw [c95, c115]; rfl) | (rw [c95]; rfl)))
        ·
          refine ja_iload (i := 7) dX8_paint_98 rfl ?_
          refine ja_bipush (v := nI 16) dX8_paint_100 (by decide +kernel) ?_
          refine ja_idivN dX8_paint_102 (by omega) (by omega) (by omega) ?_
          refine ja_iload (i := 4) dX8_paint_103 rfl ?_
          refine ja_iload (i := 4) dX8_paint_105 rfl ?_
          refine ja_iload (i := 6) dX8_paint_107 rfl ?_
          refine ja_iaddN dX8_paint_109 ?_
          refine ja_iconst (v := nI 1) dX8_paint_110 (by decide +kernel) ?_
          refine ja_isubN dX8_paint_111 (by omega) ?_
          refine ja_cSr (st := [.int (nI (q)), .ref (125)]) (s_inN l (q / 16) y ((y + h) - (1)) (by omega) (by omega) (by omega)) rfl rfl (ce_X8_in 0 0) st_X8_in lk_X8_88 ⟨(Nat.le_of_ble_eq_true rfl), (Nat.le_of_ble_eq_true rfl)⟩ dX8_paint_112 rfl rfl (Nat.le_of_ble_eq_true rfl) (Nat.zero_le _) (Nat.zero_le _) ?_
          refine ja_ifB_eq (tgt := 122) dX8_paint_115 (by decide) (fun c115 => ?_) (fun c115 => ?_)
          ·
            refine ja_iconst (v := nI 0) dX8_paint_122 (by decide +kernel) ?_
            refine ja_zast (zM_a24 hz) rfl (by omega) (by decide) (by decide +kernel) dX8_paint_123 ?_
            refine ja_iincN dX8_paint_124 rfl rfl (Nat.le_of_ble_eq_true rfl) ?_
            refine ja_goto (tgt := 66) dX8_paint_127 (by decide) ?_
            exact ih66 (q + 1) _ (by omega) (by omega) (by rw [hE]; exact giU_s (by rw [inB]; first | (rw [c95, c115]; rfl) | (rw [c95]; rfl)))
          ·
            refine ja_iconst (v := nI 1) dX8_paint_118 (by decide +kernel) ?_
            refine ja_goto (tgt := 123) dX8_paint_119 (by decide) ?_
            refine ja_zast (zM_a24 hz) rfl (by omega) (by decide) (by decide +kernel) dX8_paint_123 ?_
            refine ja_iincN dX8_paint_124 rfl rfl (Nat.le_of_ble_eq_true rfl) ?_
            refine ja_goto (tgt := 66) dX8_paint_127 (by decide) ?_
            exact ih66 (q + 1) _ (by omega) (by omega) (by rw [hE]; exact giU_s (by rw [inB]; first | (rw [c95, c115]; rfl) | (rw [c95]; rfl)))
  exact lp66 257 0 (ja_up D 100 0 (nI (0))) (by omega) (by omega) giU_0

set_option maxRecDepth 100000 in
set_option maxHeartbeats 4000000 in
theorem r_paint_ok (l : Launch) {Z : jZ} {D : jD} (hz : zM Z) {ly x y w h : Nat} (h1 : ly < 3) (hx : x < 16) (hy : y < 16) (hw1 : 1 ≤ w) (hw : x + w ≤ 16) (hh1 : 1 ≤ h) (hh : y + h ≤ 16) {a : Nat} (ha : a < 10) (hw : wfA (D 105)) {cp : Bool} (hc : D 104 ly = bI cp) {w0 : Nat} (hau : D 100 2 = nI w0) (hw5 : w0 ≤ 5)  : ja_M l (mX8_paint 0 0) [.ref (100), .int (nI (ly)), .int (nI (a)), .int (nI (x)), .int (nI (y)), .int (nI (w)), .int (nI (h))] Z D (ja_jd (some (.int (nI (fb_ct (gvM (giU (ja_up D 100 0 (nI 0)) (inB x y w h) 256) ly (nI a)) 256)))) Z (fun D2 => D2 = gvR (giU (ja_up D 100 0 (nI 0)) (inB x y w h) 256) ly (some a) cp)) ja_x0 := by
  refine ja_Mof (lv := [some (.ref (100)), some (.int (nI (ly))), some (.int (nI (a))), some (.int (nI (x))), some (.int (nI (y))), some (.int (nI (w))), some (.int (nI (h))), none]) (by decide +kernel) rfl rfl (Nat.le_of_ble_eq_true rfl) rfl ?_
  refine ja_aload_n (i := 0) dX8_paint_0 rfl rfl ?_
  refine ja_iconst (v := nI 0) dX8_paint_1 (by decide +kernel) ?_
  refine ja_putI fl_X8_85 (zM_s hz) rfl rfl rfl dX8_paint_2 ?_
  refine ja_iload_n (i := 1) dX8_paint_5 rfl rfl ?_
  refine ja_cSr (st := []) (s_isLayerT l (by omega)) rfl rfl (ce_X8_isLayer 0 0) st_X8_isLayer lk_X8_106 ⟨(Nat.le_of_ble_eq_true rfl), (Nat.le_of_ble_eq_true rfl)⟩ dX8_paint_6 rfl rfl (Nat.le_of_ble_eq_true rfl) (Nat.zero_le _) (Nat.zero_le _) ?_
  refine ja_ifB_ne (tgt := 18) dX8_paint_9 (by decide) (fun c9 => ?_) (fun c9 => absurd c9 (by decide))
  refine ja_iload_n (i := 2) dX8_paint_18 rfl rfl ?_
  refine ja_iconst (v := (-1)) dX8_paint_19 (by decide +kernel) ?_
  refine ja_icmp_eq (tgt := 30) dX8_paint_20 (by decide) (fun c20 => absurd c20 (nI_nm1 (by omega))) (fun c20 => ?_)
  refine ja_iload_n (i := 2) dX8_paint_23 rfl rfl ?_
  refine ja_cSr (st := []) (s_isAreaT l (by omega)) rfl rfl (ce_X8_isArea 0 0) st_X8_isArea lk_X8_110 ⟨(Nat.le_of_ble_eq_true rfl), (Nat.le_of_ble_eq_true rfl)⟩ dX8_paint_24 rfl rfl (Nat.le_of_ble_eq_true rfl) (Nat.zero_le _) (Nat.zero_le _) ?_
  refine ja_ifB_eq (tgt := 43) dX8_paint_27 (by decide) (fun c27 => absurd c27 (by decide)) (fun c27 => ?_)
  refine ja_iload_n (i := 3) dX8_paint_30 rfl rfl ?_
  refine ja_iload (i := 4) dX8_paint_31 rfl ?_
  refine ja_iload (i := 5) dX8_paint_33 rfl ?_
  refine ja_iload (i := 6) dX8_paint_35 rfl ?_
  refine ja_cSr (st := []) (s_isBoxT l (by omega) (by omega) (by omega) (by omega) (by omega) (by omega)) rfl rfl (ce_X8_isBox 0 0) st_X8_isBox lk_X8_113 ⟨(Nat.le_of_ble_eq_true rfl), (Nat.le_of_ble_eq_true rfl)⟩ dX8_paint_37 rfl rfl (Nat.le_of_ble_eq_true rfl) (Nat.zero_le _) (Nat.zero_le _) ?_
  refine ja_ifB_ne (tgt := 49) dX8_paint_40 (by decide) (fun c40 => ?_) (fun c40 => absurd c40 (by decide))
  refine ja_aload_n (i := 0) dX8_paint_49 rfl rfl ?_
  refine ja_getI fl_X8_9 (zM_s hz) rfl dX8_paint_50 ?_
  refine ja_top (y := nI (w0)) hau ?_
  refine ja_iconst (v := (-1)) dX8_paint_53 (by decide +kernel) ?_
  refine ja_icmp_ne (tgt := 63) dX8_paint_54 (by decide) (fun c54 => ?_) (fun c54 => absurd c54 (nI_nm1 (by omega)))
  refine ja_iconst (v := nI 0) dX8_paint_63 (by decide +kernel) ?_
  refine ja_istore (i := 7) dX8_paint_64 rfl (Nat.le_of_ble_eq_true rfl) ?_
  have lp66 : ∀ (f66 : Nat) (q : Nat) (E : jD), (256 < q + f66) → (q ≤ 256) → (E = giU (ja_up D 100 0 (nI 0)) (inB x y w h) q) → ja_A l (mX8_paint 0 0) ja_sn (ja_Qf (mX8_paint 0 0) (ja_jd (some (.int (nI (fb_ct (gvM (giU (ja_up D 100 0 (nI 0)) (inB x y w h) 256) ly (nI a)) 256)))) Z (fun D2 => D2 = gvR (giU (ja_up D 100 0 (nI 0)) (inB x y w h) 256) ly (some a) cp)) ja_x0) 66 [some (.ref (100)), some (.int (nI (ly))), some (.int (nI (a))), some (.int (nI (x))), some (.int (nI (y))), some (.int (nI (w))), some (.int (nI (h))), some (.int (nI (q)))] [] Z E 0 0 := by
    intro f66
    induction f66 with
    | zero => intro q E hk hq hE; exfalso; omega
    | succ f66 ih66 =>
      intro q E hk hq hE
      refine ja_iload (i := 7) dX8_paint_66 rfl ?_
      refine ja_sipush (v := nI 256) dX8_paint_68 (by decide +kernel) ?_
      refine ja_icmpN_ge (tgt := 130) dX8_paint_71 (by decide) (by omega) (by omega) (fun c71 => ?_) (fun c71 => ?_)
      ·
        refine ja_num (D2 := (giU (ja_up D 100 0 (nI 0)) (inB x y w h) 256)) (by rw [hE, show q = 256 by omega]) ?_
        refine ja_aload_n (i := 0) dX8_paint_130 rfl rfl ?_
        refine ja_iload_n (i := 1) dX8_paint_131 rfl rfl ?_
        refine ja_iload_n (i := 2) dX8_paint_132 rfl rfl ?_
        refine ja_cVd (st := []) (s_gives_some l (D := (giU (ja_up D 100 0 (nI 0)) (inB x y w h) 256)) hz (by rw [giU_5]; exact hw) (ly := ly) h1 (by omega) (cp := cp) ((giU_o (by decide)).trans hc)) rfl rfl (ce_X8_gives 0 0) im_X8_gives se_X8_gives lk_X8_117 k_X8 (zM_s hz) ⟨(Nat.le_of_ble_eq_true rfl), (Nat.le_of_ble_eq_true rfl)⟩ dX8_paint_133 rfl rfl (Nat.le_of_ble_eq_true rfl) (Nat.zero_le _) (Nat.zero_le _) ?_
        intro D133 hD133
        subst hD133
        refine ja_iret rfl rfl dX8_paint_136 (Nat.zero_le _) (Nat.zero_le _) ?_
        exact ⟨rfl, rfl, rfl⟩
      ·
        refine ja_aload_n (i := 0) dX8_paint_74 rfl rfl ?_
        refine ja_getR fl_X8_73 (zM_s hz) rfl (zM_p24 hz) dX8_paint_75 ?_
        refine ja_iload (i := 7) dX8_paint_78 rfl ?_
        refine ja_iload (i := 7) dX8_paint_80 rfl ?_
        refine ja_bipush (v := nI 16) dX8_paint_82 (by decide +kernel) ?_
        refine ja_iremN dX8_paint_84 (by omega) (by omega) (by omega) ?_
        refine ja_iload_n (i := 3) dX8_paint_85 rfl rfl ?_
        refine ja_iload_n (i := 3) dX8_paint_86 rfl rfl ?_
        refine ja_iload (i := 5) dX8_paint_87 rfl ?_
        refine ja_iaddN dX8_paint_89 ?_
        refine ja_iconst (v := nI 1) dX8_paint_90 (by decide +kernel) ?_
        refine ja_isubN dX8_paint_91 (by omega) ?_
        refine ja_cSr (st := [.int (nI (q)), .ref (125)]) (s_inN l (q % 16) x ((x + w) - (1)) (by omega) (by omega) (by omega)) rfl rfl (ce_X8_in 0 0) st_X8_in lk_X8_88 ⟨(Nat.le_of_ble_eq_true rfl), (Nat.le_of_ble_eq_true rfl)⟩ dX8_paint_92 rfl rfl (Nat.le_of_ble_eq_true rfl) (Nat.zero_le _) (Nat.zero_le _) ?_
        refine ja_ifB_eq (tgt := 122) dX8_paint_95 (by decide) (fun c95 => ?_) (fun c95 => ?_)
        ·
          refine ja_iconst (v := nI 0) dX8_paint_122 (by decide +kernel) ?_
          refine ja_zast (zM_a24 hz) rfl (by omega) (by decide) (by decide +kernel) dX8_paint_123 ?_
          refine ja_iincN dX8_paint_124 rfl rfl (Nat.le_of_ble_eq_true rfl) ?_
          refine ja_goto (tgt := 66) dX8_paint_127 (by decide) ?_
          exact ih66 (q + 1) _ (by omega) (by omega) (by rw [hE]; exact giU_s (by rw [inB]; first | (rw [c95, c115]; rfl) | (rw [c95]; rfl)))
        ·
          refine ja_iload (i := 7) dX8_paint_98 rfl ?_
          refine ja_bipush (v := nI 16) dX8_paint_100 (by decide +kernel) ?_
          refine ja_idivN dX8_paint_102 (by omega) (by omega) (by omega) ?_
          refine ja_iload (i := 4) dX8_paint_103 rfl ?_
          refine ja_iload (i := 4) dX8_paint_105 rfl ?_
          refine ja_iload (i := 6) dX8_paint_107 rfl ?_
          refine ja_iaddN dX8_paint_109 ?_
          refine ja_iconst (v := nI 1) dX8_paint_110 (by decide +kernel) ?_
          refine ja_isubN dX8_paint_111 (by omega) ?_
          refine ja_cSr (st := [.int (nI (q)), .ref (125)]) (s_inN l (q / 16) y ((y + h) - (1)) (by omega) (by omega) (by omega)) rfl rfl (ce_X8_in 0 0) st_X8_in lk_X8_88 ⟨(Nat.le_of_ble_eq_true rfl), (Nat.le_of_ble_eq_true rfl)⟩ dX8_paint_112 rfl rfl (Nat.le_of_ble_eq_true rfl) (Nat.zero_le _) (Nat.zero_le _) ?_
          refine ja_ifB_eq (tgt := 122) dX8_paint_115 (by decide) (fun c115 => ?_) (fun c115 => ?_)
          ·
            refine ja_iconst (v := nI 0) dX8_paint_122 (by decide +kernel) ?_
            refine ja_zast (zM_a24 hz) rfl (by omega) (by decide) (by decide +kernel) dX8_paint_123 ?_
            refine ja_iincN dX8_paint_124 rfl rfl (Nat.le_of_ble_eq_true rfl) ?_
            refine ja_goto (tgt := 66) dX8_paint_127 (by decide) ?_
            exact ih66 (q + 1) _ (by omega) (by omega) (by rw [hE]; exact giU_s (by rw [inB]; first | (rw [c95, c115]; rfl) | (rw [c95]; rfl)))
          ·
            refine ja_iconst (v := nI 1) dX8_paint_118 (by decide +kernel) ?_
            refine ja_goto (tgt := 123) dX8_paint_119 (by decide) ?_
            refine ja_zast (zM_a24 hz) rfl (by omega) (by decide) (by decide +kernel) dX8_paint_123 ?_
            refine ja_iincN dX8_paint_124 rfl rfl (Nat.le_of_ble_eq_true rfl) ?_
            refine ja_goto (tgt := 66) dX8_paint_127 (by decide) ?_
            exact ih66 (q + 1) _ (by omega) (by omega) (by rw [hE]; exact giU_s (by rw [inB]; first | (rw [c95, c115]; rfl) | (rw [c95]; rfl)))
  exact lp66 257 0 (ja_up D 100 0 (nI (0))) (by omega) (by omega) giU_0

set_option maxRecDepth 100000 in
set_option maxHeartbeats 4000000 in
theorem r_split_f1 (l : Launch) {Z : jZ} {D : jD} (hz : zM Z) {ly : Int32} (a o ax li : Int32) (hl : ¬ (nI 0 ≤ ly ∧ ly ≤ nI 2)) : ja_M l (mX8_split 0 0) [.ref (100), .int (ly), .int (a), .int (o), .int (ax), .int (li)] Z D (ja_jd (some (.int (nI 0))) Z (fun D2 => D2 = ja_up D 100 0 (nI 1))) ja_x0 := by
  refine ja_Mof (lv := [some (.ref (100)), some (.int (ly)), some (.int (a)), some (.int (o)), some (.int (ax)), some (.int (li)), none]) (by decide +kernel) rfl rfl (Nat.le_of_ble_eq_true rfl) rfl ?_
  refine ja_aload_n (i := 0) dX8_split_0 rfl rfl ?_
  refine ja_iconst (v := nI 0) dX8_split_1 (by decide +kernel) ?_
  refine ja_putI fl_X8_85 (zM_s hz) rfl rfl rfl dX8_split_2 ?_
  refine ja_iload_n (i := 1) dX8_split_5 rfl rfl ?_
  refine ja_cSr (st := []) (s_isLayerF l hl) rfl rfl (ce_X8_isLayer 0 0) st_X8_isLayer lk_X8_106 ⟨(Nat.le_of_ble_eq_true rfl), (Nat.le_of_ble_eq_true rfl)⟩ dX8_split_6 rfl rfl (Nat.le_of_ble_eq_true rfl) (Nat.zero_le _) (Nat.zero_le _) ?_
  refine ja_ifB_ne (tgt := 18) dX8_split_9 (by decide) (fun c9 => absurd c9 (by decide)) (fun c9 => ?_)
  refine ja_aload_n (i := 0) dX8_split_12 rfl rfl ?_
  refine ja_iconst (v := nI 1) dX8_split_13 (by decide +kernel) ?_
  refine ja_cVd (st := []) (s_fails l hz (nI (1))) rfl rfl (ce_X8_fails 0 0) im_X8_fails se_X8_fails lk_X8_96 k_X8 (zM_s hz) ⟨(Nat.le_of_ble_eq_true rfl), (Nat.le_of_ble_eq_true rfl)⟩ dX8_split_14 rfl rfl (Nat.le_of_ble_eq_true rfl) (Nat.zero_le _) (Nat.zero_le _) ?_
  intro D14 hD14
  subst hD14
  refine ja_num (D2 := ja_up D 100 0 (nI (1))) up_2 ?_
  refine ja_iret rfl rfl dX8_split_17 (Nat.zero_le _) (Nat.zero_le _) ?_
  exact ⟨rfl, rfl, rfl⟩

set_option maxRecDepth 100000 in
set_option maxHeartbeats 4000000 in
theorem r_split_f2 (l : Launch) {Z : jZ} {D : jD} (hz : zM Z) {ly : Nat} (h1 : ly < 3) {a : Int32} (o ax li : Int32) (ha : ¬ (nI 0 ≤ a ∧ a ≤ nI 9)) : ja_M l (mX8_split 0 0) [.ref (100), .int (nI (ly)), .int (a), .int (o), .int (ax), .int (li)] Z D (ja_jd (some (.int (nI 0))) Z (fun D2 => D2 = ja_up D 100 0 (nI 2))) ja_x0 := by
  refine ja_Mof (lv := [some (.ref (100)), some (.int (nI (ly))), some (.int (a)), some (.int (o)), some (.int (ax)), some (.int (li)), none]) (by decide +kernel) rfl rfl (Nat.le_of_ble_eq_true rfl) rfl ?_
  refine ja_aload_n (i := 0) dX8_split_0 rfl rfl ?_
  refine ja_iconst (v := nI 0) dX8_split_1 (by decide +kernel) ?_
  refine ja_putI fl_X8_85 (zM_s hz) rfl rfl rfl dX8_split_2 ?_
  refine ja_iload_n (i := 1) dX8_split_5 rfl rfl ?_
  refine ja_cSr (st := []) (s_isLayerT l (by omega)) rfl rfl (ce_X8_isLayer 0 0) st_X8_isLayer lk_X8_106 ⟨(Nat.le_of_ble_eq_true rfl), (Nat.le_of_ble_eq_true rfl)⟩ dX8_split_6 rfl rfl (Nat.le_of_ble_eq_true rfl) (Nat.zero_le _) (Nat.zero_le _) ?_
  refine ja_ifB_ne (tgt := 18) dX8_split_9 (by decide) (fun c9 => ?_) (fun c9 => absurd c9 (by decide))
  refine ja_iload_n (i := 2) dX8_split_18 rfl rfl ?_
  refine ja_cSr (st := []) (s_isAreaF l ha) rfl rfl (ce_X8_isArea 0 0) st_X8_isArea lk_X8_110 ⟨(Nat.le_of_ble_eq_true rfl), (Nat.le_of_ble_eq_true rfl)⟩ dX8_split_19 rfl rfl (Nat.le_of_ble_eq_true rfl) (Nat.zero_le _) (Nat.zero_le _) ?_
  refine ja_ifB_eq (tgt := 62) dX8_split_22 (by decide) (fun c22 => ?_) (fun c22 => absurd c22 (by decide))
  refine ja_aload_n (i := 0) dX8_split_62 rfl rfl ?_
  refine ja_iconst (v := nI 2) dX8_split_63 (by decide +kernel) ?_
  refine ja_cVd (st := []) (s_fails l hz (nI (2))) rfl rfl (ce_X8_fails 0 0) im_X8_fails se_X8_fails lk_X8_96 k_X8 (zM_s hz) ⟨(Nat.le_of_ble_eq_true rfl), (Nat.le_of_ble_eq_true rfl)⟩ dX8_split_64 rfl rfl (Nat.le_of_ble_eq_true rfl) (Nat.zero_le _) (Nat.zero_le _) ?_
  intro D64 hD64
  subst hD64
  refine ja_num (D2 := ja_up D 100 0 (nI (2))) up_2 ?_
  refine ja_iret rfl rfl dX8_split_67 (Nat.zero_le _) (Nat.zero_le _) ?_
  exact ⟨rfl, rfl, rfl⟩

set_option maxRecDepth 100000 in
set_option maxHeartbeats 4000000 in
theorem r_split_f2b (l : Launch) {Z : jZ} {D : jD} (hz : zM Z) {ly a : Nat} (h1 : ly < 3) (h2 : a < 10) {o : Int32} (ax li : Int32) (ho : ¬ (nI 0 ≤ o ∧ o ≤ nI 9)) : ja_M l (mX8_split 0 0) [.ref (100), .int (nI (ly)), .int (nI (a)), .int (o), .int (ax), .int (li)] Z D (ja_jd (some (.int (nI 0))) Z (fun D2 => D2 = ja_up D 100 0 (nI 2))) ja_x0 := by
  refine ja_Mof (lv := [some (.ref (100)), some (.int (nI (ly))), some (.int (nI (a))), some (.int (o)), some (.int (ax)), some (.int (li)), none]) (by decide +kernel) rfl rfl (Nat.le_of_ble_eq_true rfl) rfl ?_
  refine ja_aload_n (i := 0) dX8_split_0 rfl rfl ?_
  refine ja_iconst (v := nI 0) dX8_split_1 (by decide +kernel) ?_
  refine ja_putI fl_X8_85 (zM_s hz) rfl rfl rfl dX8_split_2 ?_
  refine ja_iload_n (i := 1) dX8_split_5 rfl rfl ?_
  refine ja_cSr (st := []) (s_isLayerT l (by omega)) rfl rfl (ce_X8_isLayer 0 0) st_X8_isLayer lk_X8_106 ⟨(Nat.le_of_ble_eq_true rfl), (Nat.le_of_ble_eq_true rfl)⟩ dX8_split_6 rfl rfl (Nat.le_of_ble_eq_true rfl) (Nat.zero_le _) (Nat.zero_le _) ?_
  refine ja_ifB_ne (tgt := 18) dX8_split_9 (by decide) (fun c9 => ?_) (fun c9 => absurd c9 (by decide))
  refine ja_iload_n (i := 2) dX8_split_18 rfl rfl ?_
  refine ja_cSr (st := []) (s_isAreaT l (by omega)) rfl rfl (ce_X8_isArea 0 0) st_X8_isArea lk_X8_110 ⟨(Nat.le_of_ble_eq_true rfl), (Nat.le_of_ble_eq_true rfl)⟩ dX8_split_19 rfl rfl (Nat.le_of_ble_eq_true rfl) (Nat.zero_le _) (Nat.zero_le _) ?_
  refine ja_ifB_eq (tgt := 62) dX8_split_22 (by decide) (fun c22 => absurd c22 (by decide)) (fun c22 => ?_)
  refine ja_iload_n (i := 3) dX8_split_25 rfl rfl ?_
  refine ja_cSr (st := []) (s_isAreaF l ho) rfl rfl (ce_X8_isArea 0 0) st_X8_isArea lk_X8_110 ⟨(Nat.le_of_ble_eq_true rfl), (Nat.le_of_ble_eq_true rfl)⟩ dX8_split_26 rfl rfl (Nat.le_of_ble_eq_true rfl) (Nat.zero_le _) (Nat.zero_le _) ?_
  refine ja_ifB_eq (tgt := 62) dX8_split_29 (by decide) (fun c29 => ?_) (fun c29 => absurd c29 (by decide))
  refine ja_aload_n (i := 0) dX8_split_62 rfl rfl ?_
  refine ja_iconst (v := nI 2) dX8_split_63 (by decide +kernel) ?_
  refine ja_cVd (st := []) (s_fails l hz (nI (2))) rfl rfl (ce_X8_fails 0 0) im_X8_fails se_X8_fails lk_X8_96 k_X8 (zM_s hz) ⟨(Nat.le_of_ble_eq_true rfl), (Nat.le_of_ble_eq_true rfl)⟩ dX8_split_64 rfl rfl (Nat.le_of_ble_eq_true rfl) (Nat.zero_le _) (Nat.zero_le _) ?_
  intro D64 hD64
  subst hD64
  refine ja_num (D2 := ja_up D 100 0 (nI (2))) up_2 ?_
  refine ja_iret rfl rfl dX8_split_67 (Nat.zero_le _) (Nat.zero_le _) ?_
  exact ⟨rfl, rfl, rfl⟩

set_option maxRecDepth 100000 in
set_option maxHeartbeats 4000000 in
theorem r_split_f2c (l : Launch) {Z : jZ} {D : jD} (hz : zM Z) {ly a : Nat} (h1 : ly < 3) (h2 : a < 10) (ax li : Int32) : ja_M l (mX8_split 0 0) [.ref (100), .int (nI (ly)), .int (nI (a)), .int (nI (a)), .int (ax), .int (li)] Z D (ja_jd (some (.int (nI 0))) Z (fun D2 => D2 = ja_up D 100 0 (nI 2))) ja_x0 := by
  refine ja_Mof (lv := [some (.ref (100)), some (.int (nI (ly))), some (.int (nI (a))), some (.int (nI (a))), some (.int (ax)), some (.int (li)), none]) (by decide +kernel) rfl rfl (Nat.le_of_ble_eq_true rfl) rfl ?_
  refine ja_aload_n (i := 0) dX8_split_0 rfl rfl ?_
  refine ja_iconst (v := nI 0) dX8_split_1 (by decide +kernel) ?_
  refine ja_putI fl_X8_85 (zM_s hz) rfl rfl rfl dX8_split_2 ?_
  refine ja_iload_n (i := 1) dX8_split_5 rfl rfl ?_
  refine ja_cSr (st := []) (s_isLayerT l (by omega)) rfl rfl (ce_X8_isLayer 0 0) st_X8_isLayer lk_X8_106 ⟨(Nat.le_of_ble_eq_true rfl), (Nat.le_of_ble_eq_true rfl)⟩ dX8_split_6 rfl rfl (Nat.le_of_ble_eq_true rfl) (Nat.zero_le _) (Nat.zero_le _) ?_
  refine ja_ifB_ne (tgt := 18) dX8_split_9 (by decide) (fun c9 => ?_) (fun c9 => absurd c9 (by decide))
  refine ja_iload_n (i := 2) dX8_split_18 rfl rfl ?_
  refine ja_cSr (st := []) (s_isAreaT l (by omega)) rfl rfl (ce_X8_isArea 0 0) st_X8_isArea lk_X8_110 ⟨(Nat.le_of_ble_eq_true rfl), (Nat.le_of_ble_eq_true rfl)⟩ dX8_split_19 rfl rfl (Nat.le_of_ble_eq_true rfl) (Nat.zero_le _) (Nat.zero_le _) ?_
  refine ja_ifB_eq (tgt := 62) dX8_split_22 (by decide) (fun c22 => absurd c22 (by decide)) (fun c22 => ?_)
  refine ja_iload_n (i := 3) dX8_split_25 rfl rfl ?_
  refine ja_cSr (st := []) (s_isAreaT l (by omega)) rfl rfl (ce_X8_isArea 0 0) st_X8_isArea lk_X8_110 ⟨(Nat.le_of_ble_eq_true rfl), (Nat.le_of_ble_eq_true rfl)⟩ dX8_split_26 rfl rfl (Nat.le_of_ble_eq_true rfl) (Nat.zero_le _) (Nat.zero_le _) ?_
  refine ja_ifB_eq (tgt := 62) dX8_split_29 (by decide) (fun c29 => absurd c29 (by decide)) (fun c29 => ?_)
  refine ja_iload_n (i := 2) dX8_split_32 rfl rfl ?_
  refine ja_iload_n (i := 3) dX8_split_33 rfl rfl ?_
  refine ja_icmpN_eq (tgt := 62) dX8_split_34 (by decide) (by omega) (by omega) (fun c34 => ?_) (fun c34 => (by exfalso; omega))
  refine ja_aload_n (i := 0) dX8_split_62 rfl rfl ?_
  refine ja_iconst (v := nI 2) dX8_split_63 (by decide +kernel) ?_
  refine ja_cVd (st := []) (s_fails l hz (nI (2))) rfl rfl (ce_X8_fails 0 0) im_X8_fails se_X8_fails lk_X8_96 k_X8 (zM_s hz) ⟨(Nat.le_of_ble_eq_true rfl), (Nat.le_of_ble_eq_true rfl)⟩ dX8_split_64 rfl rfl (Nat.le_of_ble_eq_true rfl) (Nat.zero_le _) (Nat.zero_le _) ?_
  intro D64 hD64
  subst hD64
  refine ja_num (D2 := ja_up D 100 0 (nI (2))) up_2 ?_
  refine ja_iret rfl rfl dX8_split_67 (Nat.zero_le _) (Nat.zero_le _) ?_
  exact ⟨rfl, rfl, rfl⟩

set_option maxRecDepth 100000 in
set_option maxHeartbeats 4000000 in
theorem r_split_f2d (l : Launch) {Z : jZ} {D : jD} (hz : zM Z) {ly a o : Nat} (h1 : ly < 3) (h2 : a < 10) (h3 : o < 10) (h4 : a ≠ o) {ax : Int32} (li : Int32) (hx : ¬ (ax = nI 120 ∨ ax = nI 121)) : ja_M l (mX8_split 0 0) [.ref (100), .int (nI (ly)), .int (nI (a)), .int (nI (o)), .int (ax), .int (li)] Z D (ja_jd (some (.int (nI 0))) Z (fun D2 => D2 = ja_up D 100 0 (nI 2))) ja_x0 := by
  refine ja_Mof (lv := [some (.ref (100)), some (.int (nI (ly))), some (.int (nI (a))), some (.int (nI (o))), some (.int (ax)), some (.int (li)), none]) (by decide +kernel) rfl rfl (Nat.le_of_ble_eq_true rfl) rfl ?_
  refine ja_aload_n (i := 0) dX8_split_0 rfl rfl ?_
  refine ja_iconst (v := nI 0) dX8_split_1 (by decide +kernel) ?_
  refine ja_putI fl_X8_85 (zM_s hz) rfl rfl rfl dX8_split_2 ?_
  refine ja_iload_n (i := 1) dX8_split_5 rfl rfl ?_
  refine ja_cSr (st := []) (s_isLayerT l (by omega)) rfl rfl (ce_X8_isLayer 0 0) st_X8_isLayer lk_X8_106 ⟨(Nat.le_of_ble_eq_true rfl), (Nat.le_of_ble_eq_true rfl)⟩ dX8_split_6 rfl rfl (Nat.le_of_ble_eq_true rfl) (Nat.zero_le _) (Nat.zero_le _) ?_
  refine ja_ifB_ne (tgt := 18) dX8_split_9 (by decide) (fun c9 => ?_) (fun c9 => absurd c9 (by decide))
  refine ja_iload_n (i := 2) dX8_split_18 rfl rfl ?_
  refine ja_cSr (st := []) (s_isAreaT l (by omega)) rfl rfl (ce_X8_isArea 0 0) st_X8_isArea lk_X8_110 ⟨(Nat.le_of_ble_eq_true rfl), (Nat.le_of_ble_eq_true rfl)⟩ dX8_split_19 rfl rfl (Nat.le_of_ble_eq_true rfl) (Nat.zero_le _) (Nat.zero_le _) ?_
  refine ja_ifB_eq (tgt := 62) dX8_split_22 (by decide) (fun c22 => absurd c22 (by decide)) (fun c22 => ?_)
  refine ja_iload_n (i := 3) dX8_split_25 rfl rfl ?_
  refine ja_cSr (st := []) (s_isAreaT l (by omega)) rfl rfl (ce_X8_isArea 0 0) st_X8_isArea lk_X8_110 ⟨(Nat.le_of_ble_eq_true rfl), (Nat.le_of_ble_eq_true rfl)⟩ dX8_split_26 rfl rfl (Nat.le_of_ble_eq_true rfl) (Nat.zero_le _) (Nat.zero_le _) ?_
  refine ja_ifB_eq (tgt := 62) dX8_split_29 (by decide) (fun c29 => absurd c29 (by decide)) (fun c29 => ?_)
  refine ja_iload_n (i := 2) dX8_split_32 rfl rfl ?_
  refine ja_iload_n (i := 3) dX8_split_33 rfl rfl ?_
  refine ja_icmpN_eq (tgt := 62) dX8_split_34 (by decide) (by omega) (by omega) (fun c34 => (by exfalso; omega)) (fun c34 => ?_)
  refine ja_iload (i := 4) dX8_split_37 rfl ?_
  refine ja_bipush (v := nI 120) dX8_split_39 (by decide +kernel) ?_
  refine ja_icmp_eq (tgt := 51) dX8_split_41 (by decide) (fun c41 => absurd (Or.inl c41) hx) (fun c41 => ?_)
  refine ja_iload (i := 4) dX8_split_44 rfl ?_
  refine ja_bipush (v := nI 121) dX8_split_46 (by decide +kernel) ?_
  refine ja_icmp_ne (tgt := 62) dX8_split_48 (by decide) (fun c48 => ?_) (fun c48 => absurd (Or.inr c48) hx)
  refine ja_aload_n (i := 0) dX8_split_62 rfl rfl ?_
  refine ja_iconst (v := nI 2) dX8_split_63 (by decide +kernel) ?_
  refine ja_cVd (st := []) (s_fails l hz (nI (2))) rfl rfl (ce_X8_fails 0 0) im_X8_fails se_X8_fails lk_X8_96 k_X8 (zM_s hz) ⟨(Nat.le_of_ble_eq_true rfl), (Nat.le_of_ble_eq_true rfl)⟩ dX8_split_64 rfl rfl (Nat.le_of_ble_eq_true rfl) (Nat.zero_le _) (Nat.zero_le _) ?_
  intro D64 hD64
  subst hD64
  refine ja_num (D2 := ja_up D 100 0 (nI (2))) up_2 ?_
  refine ja_iret rfl rfl dX8_split_67 (Nat.zero_le _) (Nat.zero_le _) ?_
  exact ⟨rfl, rfl, rfl⟩

set_option maxRecDepth 100000 in
set_option maxHeartbeats 4000000 in
theorem r_split_f2e (l : Launch) {Z : jZ} {D : jD} (hz : zM Z) {ly a o : Nat} (h1 : ly < 3) (h2 : a < 10) (h3 : o < 10) (h4 : a ≠ o) {ax : Int32} (hx : ax = nI 120 ∨ ax = nI 121) {li : Int32} (hli : ¬ (nI 0 ≤ li ∧ li ≤ nI 15)) : ja_M l (mX8_split 0 0) [.ref (100), .int (nI (ly)), .int (nI (a)), .int (nI (o)), .int (ax), .int (li)] Z D (ja_jd (some (.int (nI 0))) Z (fun D2 => D2 = ja_up D 100 0 (nI 2))) ja_x0 := by
  refine ja_Mof (lv := [some (.ref (100)), some (.int (nI (ly))), some (.int (nI (a))), some (.int (nI (o))), some (.int (ax)), some (.int (li)), none]) (by decide +kernel) rfl rfl (Nat.le_of_ble_eq_true rfl) rfl ?_
  refine ja_aload_n (i := 0) dX8_split_0 rfl rfl ?_
  refine ja_iconst (v := nI 0) dX8_split_1 (by decide +kernel) ?_
  refine ja_putI fl_X8_85 (zM_s hz) rfl rfl rfl dX8_split_2 ?_
  refine ja_iload_n (i := 1) dX8_split_5 rfl rfl ?_
  refine ja_cSr (st := []) (s_isLayerT l (by omega)) rfl rfl (ce_X8_isLayer 0 0) st_X8_isLayer lk_X8_106 ⟨(Nat.le_of_ble_eq_true rfl), (Nat.le_of_ble_eq_true rfl)⟩ dX8_split_6 rfl rfl (Nat.le_of_ble_eq_true rfl) (Nat.zero_le _) (Nat.zero_le _) ?_
  refine ja_ifB_ne (tgt := 18) dX8_split_9 (by decide) (fun c9 => ?_) (fun c9 => absurd c9 (by decide))
  refine ja_iload_n (i := 2) dX8_split_18 rfl rfl ?_
  refine ja_cSr (st := []) (s_isAreaT l (by omega)) rfl rfl (ce_X8_isArea 0 0) st_X8_isArea lk_X8_110 ⟨(Nat.le_of_ble_eq_true rfl), (Nat.le_of_ble_eq_true rfl)⟩ dX8_split_19 rfl rfl (Nat.le_of_ble_eq_true rfl) (Nat.zero_le _) (Nat.zero_le _) ?_
  refine ja_ifB_eq (tgt := 62) dX8_split_22 (by decide) (fun c22 => absurd c22 (by decide)) (fun c22 => ?_)
  refine ja_iload_n (i := 3) dX8_split_25 rfl rfl ?_
  refine ja_cSr (st := []) (s_isAreaT l (by omega)) rfl rfl (ce_X8_isArea 0 0) st_X8_isArea lk_X8_110 ⟨(Nat.le_of_ble_eq_true rfl), (Nat.le_of_ble_eq_true rfl)⟩ dX8_split_26 rfl rfl (Nat.le_of_ble_eq_true rfl) (Nat.zero_le _) (Nat.zero_le _) ?_
  refine ja_ifB_eq (tgt := 62) dX8_split_29 (by decide) (fun c29 => absurd c29 (by decide)) (fun c29 => ?_)
  refine ja_iload_n (i := 2) dX8_split_32 rfl rfl ?_
  refine ja_iload_n (i := 3) dX8_split_33 rfl rfl ?_
  refine ja_icmpN_eq (tgt := 62) dX8_split_34 (by decide) (by omega) (by omega) (fun c34 => (by exfalso; omega)) (fun c34 => ?_)
  have jn51 : ∀ (_u : Nat), ja_A l (mX8_split 0 0) ja_sn (ja_Qf (mX8_split 0 0) (ja_jd (some (.int (nI 0))) Z (fun D2 => D2 = ja_up D 100 0 (nI 2))) ja_x0) 51 [some (.ref (100)), some (.int (nI (ly))), some (.int (nI (a))), some (.int (nI (o))), some (.int (ax)), some (.int (li)), none] [] Z (ja_up D 100 0 (nI 0)) 0 0 := by
    intro _u 
    refine ja_iload (i := 5) dX8_split_51 rfl ?_
    refine ja_iconst (v := nI 0) dX8_split_53 (by decide +kernel) ?_
    refine ja_bipush (v := nI 15) dX8_split_54 (by decide +kernel) ?_
    refine ja_cSr (st := []) (s_inF l (li) (nI (0)) (nI (15)) hli) rfl rfl (ce_X8_in 0 0) st_X8_in lk_X8_88 ⟨(Nat.le_of_ble_eq_true rfl), (Nat.le_of_ble_eq_true rfl)⟩ dX8_split_56 rfl rfl (Nat.le_of_ble_eq_true rfl) (Nat.zero_le _) (Nat.zero_le _) ?_
    refine ja_ifB_ne (tgt := 68) dX8_split_59 (by decide) (fun c59 => absurd c59 (by decide)) (fun c59 => ?_)
    refine ja_aload_n (i := 0) dX8_split_62 rfl rfl ?_
    refine ja_iconst (v := nI 2) dX8_split_63 (by decide +kernel) ?_
    refine ja_cVd (st := []) (s_fails l hz (nI (2))) rfl rfl (ce_X8_fails 0 0) im_X8_fails se_X8_fails lk_X8_96 k_X8 (zM_s hz) ⟨(Nat.le_of_ble_eq_true rfl), (Nat.le_of_ble_eq_true rfl)⟩ dX8_split_64 rfl rfl (Nat.le_of_ble_eq_true rfl) (Nat.zero_le _) (Nat.zero_le _) ?_
    intro D64 hD64
    subst hD64
    refine ja_num (D2 := ja_up D 100 0 (nI (2))) up_2 ?_
    refine ja_iret rfl rfl dX8_split_67 (Nat.zero_le _) (Nat.zero_le _) ?_
    exact ⟨rfl, rfl, rfl⟩
  refine ja_iload (i := 4) dX8_split_37 rfl ?_
  refine ja_bipush (v := nI 120) dX8_split_39 (by decide +kernel) ?_
  refine ja_icmp_eq (tgt := 51) dX8_split_41 (by decide) (fun c41 => ?_) (fun c41 => ?_)
  ·
    exact jn51 0
  ·
    refine ja_iload (i := 4) dX8_split_44 rfl ?_
    refine ja_bipush (v := nI 121) dX8_split_46 (by decide +kernel) ?_
    refine ja_icmp_ne (tgt := 62) dX8_split_48 (by decide) (fun c48 => absurd hx (by rintro (e | e); exact c41 e; exact c48 e)) (fun c48 => ?_)
    exact jn51 0

set_option maxRecDepth 100000 in
set_option maxHeartbeats 4000000 in
theorem r_split_f3 (l : Launch) {Z : jZ} {D : jD} (hz : zM Z) {ly a o : Nat} (h1 : ly < 3) (h2 : a < 10) (h3 : o < 10) (h4 : a ≠ o) {ax : Int32} (hx : ax = nI 120 ∨ ax = nI 121) {li : Nat} (hli : li ≤ 15) (hau : D 100 2 = -1)  : ja_M l (mX8_split 0 0) [.ref (100), .int (nI (ly)), .int (nI (a)), .int (nI (o)), .int (ax), .int (nI (li))] Z D (ja_jd (some (.int (nI 0))) Z (fun D2 => D2 = ja_up D 100 0 (nI 3))) ja_x0 := by
  refine ja_Mof (lv := [some (.ref (100)), some (.int (nI (ly))), some (.int (nI (a))), some (.int (nI (o))), some (.int (ax)), some (.int (nI (li))), none]) (by decide +kernel) rfl rfl (Nat.le_of_ble_eq_true rfl) rfl ?_
  refine ja_aload_n (i := 0) dX8_split_0 rfl rfl ?_
  refine ja_iconst (v := nI 0) dX8_split_1 (by decide +kernel) ?_
  refine ja_putI fl_X8_85 (zM_s hz) rfl rfl rfl dX8_split_2 ?_
  refine ja_iload_n (i := 1) dX8_split_5 rfl rfl ?_
  refine ja_cSr (st := []) (s_isLayerT l (by omega)) rfl rfl (ce_X8_isLayer 0 0) st_X8_isLayer lk_X8_106 ⟨(Nat.le_of_ble_eq_true rfl), (Nat.le_of_ble_eq_true rfl)⟩ dX8_split_6 rfl rfl (Nat.le_of_ble_eq_true rfl) (Nat.zero_le _) (Nat.zero_le _) ?_
  refine ja_ifB_ne (tgt := 18) dX8_split_9 (by decide) (fun c9 => ?_) (fun c9 => absurd c9 (by decide))
  refine ja_iload_n (i := 2) dX8_split_18 rfl rfl ?_
  refine ja_cSr (st := []) (s_isAreaT l (by omega)) rfl rfl (ce_X8_isArea 0 0) st_X8_isArea lk_X8_110 ⟨(Nat.le_of_ble_eq_true rfl), (Nat.le_of_ble_eq_true rfl)⟩ dX8_split_19 rfl rfl (Nat.le_of_ble_eq_true rfl) (Nat.zero_le _) (Nat.zero_le _) ?_
  refine ja_ifB_eq (tgt := 62) dX8_split_22 (by decide) (fun c22 => absurd c22 (by decide)) (fun c22 => ?_)
  refine ja_iload_n (i := 3) dX8_split_25 rfl rfl ?_
  refine ja_cSr (st := []) (s_isAreaT l (by omega)) rfl rfl (ce_X8_isArea 0 0) st_X8_isArea lk_X8_110 ⟨(Nat.le_of_ble_eq_true rfl), (Nat.le_of_ble_eq_true rfl)⟩ dX8_split_26 rfl rfl (Nat.le_of_ble_eq_true rfl) (Nat.zero_le _) (Nat.zero_le _) ?_
  refine ja_ifB_eq (tgt := 62) dX8_split_29 (by decide) (fun c29 => absurd c29 (by decide)) (fun c29 => ?_)
  refine ja_iload_n (i := 2) dX8_split_32 rfl rfl ?_
  refine ja_iload_n (i := 3) dX8_split_33 rfl rfl ?_
  refine ja_icmpN_eq (tgt := 62) dX8_split_34 (by decide) (by omega) (by omega) (fun c34 => (by exfalso; omega)) (fun c34 => ?_)
  have jn51 : ∀ (_u : Nat), ja_A l (mX8_split 0 0) ja_sn (ja_Qf (mX8_split 0 0) (ja_jd (some (.int (nI 0))) Z (fun D2 => D2 = ja_up D 100 0 (nI 3))) ja_x0) 51 [some (.ref (100)), some (.int (nI (ly))), some (.int (nI (a))), some (.int (nI (o))), some (.int (ax)), some (.int (nI (li))), none] [] Z (ja_up D 100 0 (nI 0)) 0 0 := by
    intro _u 
    refine ja_iload (i := 5) dX8_split_51 rfl ?_
    refine ja_iconst (v := nI 0) dX8_split_53 (by decide +kernel) ?_
    refine ja_bipush (v := nI 15) dX8_split_54 (by decide +kernel) ?_
    refine ja_cSr (st := []) (s_inT l (li) 0 15 (by omega) (by omega) (by omega)) rfl rfl (ce_X8_in 0 0) st_X8_in lk_X8_88 ⟨(Nat.le_of_ble_eq_true rfl), (Nat.le_of_ble_eq_true rfl)⟩ dX8_split_56 rfl rfl (Nat.le_of_ble_eq_true rfl) (Nat.zero_le _) (Nat.zero_le _) ?_
    refine ja_ifB_ne (tgt := 68) dX8_split_59 (by decide) (fun c59 => ?_) (fun c59 => absurd c59 (by decide))
    refine ja_aload_n (i := 0) dX8_split_68 rfl rfl ?_
    refine ja_getI fl_X8_9 (zM_s hz) rfl dX8_split_69 ?_
    refine ja_top (y := (-1)) hau ?_
    refine ja_iconst (v := (-1)) dX8_split_72 (by decide +kernel) ?_
    refine ja_icmp_ne (tgt := 82) dX8_split_73 (by decide) (fun c73 => absurd rfl c73) (fun c73 => ?_)
    refine ja_aload_n (i := 0) dX8_split_76 rfl rfl ?_
    refine ja_iconst (v := nI 3) dX8_split_77 (by decide +kernel) ?_
    refine ja_cVd (st := []) (s_fails l hz (nI (3))) rfl rfl (ce_X8_fails 0 0) im_X8_fails se_X8_fails lk_X8_96 k_X8 (zM_s hz) ⟨(Nat.le_of_ble_eq_true rfl), (Nat.le_of_ble_eq_true rfl)⟩ dX8_split_78 rfl rfl (Nat.le_of_ble_eq_true rfl) (Nat.zero_le _) (Nat.zero_le _) ?_
    intro D78 hD78
    subst hD78
    refine ja_num (D2 := ja_up D 100 0 (nI (3))) up_2 ?_
    refine ja_iret rfl rfl dX8_split_81 (Nat.zero_le _) (Nat.zero_le _) ?_
    exact ⟨rfl, rfl, rfl⟩
  refine ja_iload (i := 4) dX8_split_37 rfl ?_
  refine ja_bipush (v := nI 120) dX8_split_39 (by decide +kernel) ?_
  refine ja_icmp_eq (tgt := 51) dX8_split_41 (by decide) (fun c41 => ?_) (fun c41 => ?_)
  ·
    exact jn51 0
  ·
    refine ja_iload (i := 4) dX8_split_44 rfl ?_
    refine ja_bipush (v := nI 121) dX8_split_46 (by decide +kernel) ?_
    refine ja_icmp_ne (tgt := 62) dX8_split_48 (by decide) (fun c48 => absurd hx (by rintro (e | e); exact c41 e; exact c48 e)) (fun c48 => ?_)
    exact jn51 0

set_option maxRecDepth 100000 in
set_option maxHeartbeats 4000000 in
theorem r_split_f4 (l : Launch) {Z : jZ} {D : jD} (hz : zM Z) {ly a o : Nat} (h1 : ly < 3) (h2 : a < 10) (h3 : o < 10) (h4 : a ≠ o) {ax : Int32} (hx : ax = nI 120 ∨ ax = nI 121) {li : Nat} (hli : li ≤ 15) {w0 : Nat} (hau : D 100 2 = nI w0) (hw5 : w0 ≤ 5) (hs : ¬ cSz (D 105) ly (nI o) 256 = 0) : ja_M l (mX8_split 0 0) [.ref (100), .int (nI (ly)), .int (nI (a)), .int (nI (o)), .int (ax), .int (nI (li))] Z D (ja_jd (some (.int (nI 0))) Z (fun D2 => D2 = ja_up D 100 0 (nI 4))) ja_x0 := by
  refine ja_Mof (lv := [some (.ref (100)), some (.int (nI (ly))), some (.int (nI (a))), some (.int (nI (o))), some (.int (ax)), some (.int (nI (li))), none]) (by decide +kernel) rfl rfl (Nat.le_of_ble_eq_true rfl) rfl ?_
  refine ja_aload_n (i := 0) dX8_split_0 rfl rfl ?_
  refine ja_iconst (v := nI 0) dX8_split_1 (by decide +kernel) ?_
  refine ja_putI fl_X8_85 (zM_s hz) rfl rfl rfl dX8_split_2 ?_
  refine ja_iload_n (i := 1) dX8_split_5 rfl rfl ?_
  refine ja_cSr (st := []) (s_isLayerT l (by omega)) rfl rfl (ce_X8_isLayer 0 0) st_X8_isLayer lk_X8_106 ⟨(Nat.le_of_ble_eq_true rfl), (Nat.le_of_ble_eq_true rfl)⟩ dX8_split_6 rfl rfl (Nat.le_of_ble_eq_true rfl) (Nat.zero_le _) (Nat.zero_le _) ?_
  refine ja_ifB_ne (tgt := 18) dX8_split_9 (by decide) (fun c9 => ?_) (fun c9 => absurd c9 (by decide))
  refine ja_iload_n (i := 2) dX8_split_18 rfl rfl ?_
  refine ja_cSr (st := []) (s_isAreaT l (by omega)) rfl rfl (ce_X8_isArea 0 0) st_X8_isArea lk_X8_110 ⟨(Nat.le_of_ble_eq_true rfl), (Nat.le_of_ble_eq_true rfl)⟩ dX8_split_19 rfl rfl (Nat.le_of_ble_eq_true rfl) (Nat.zero_le _) (Nat.zero_le _) ?_
  refine ja_ifB_eq (tgt := 62) dX8_split_22 (by decide) (fun c22 => absurd c22 (by decide)) (fun c22 => ?_)
  refine ja_iload_n (i := 3) dX8_split_25 rfl rfl ?_
  refine ja_cSr (st := []) (s_isAreaT l (by omega)) rfl rfl (ce_X8_isArea 0 0) st_X8_isArea lk_X8_110 ⟨(Nat.le_of_ble_eq_true rfl), (Nat.le_of_ble_eq_true rfl)⟩ dX8_split_26 rfl rfl (Nat.le_of_ble_eq_true rfl) (Nat.zero_le _) (Nat.zero_le _) ?_
  refine ja_ifB_eq (tgt := 62) dX8_split_29 (by decide) (fun c29 => absurd c29 (by decide)) (fun c29 => ?_)
  refine ja_iload_n (i := 2) dX8_split_32 rfl rfl ?_
  refine ja_iload_n (i := 3) dX8_split_33 rfl rfl ?_
  refine ja_icmpN_eq (tgt := 62) dX8_split_34 (by decide) (by omega) (by omega) (fun c34 => (by exfalso; omega)) (fun c34 => ?_)
  have jn51 : ∀ (_u : Nat), ja_A l (mX8_split 0 0) ja_sn (ja_Qf (mX8_split 0 0) (ja_jd (some (.int (nI 0))) Z (fun D2 => D2 = ja_up D 100 0 (nI 4))) ja_x0) 51 [some (.ref (100)), some (.int (nI (ly))), some (.int (nI (a))), some (.int (nI (o))), some (.int (ax)), some (.int (nI (li))), none] [] Z (ja_up D 100 0 (nI 0)) 0 0 := by
    intro _u 
    refine ja_iload (i := 5) dX8_split_51 rfl ?_
    refine ja_iconst (v := nI 0) dX8_split_53 (by decide +kernel) ?_
    refine ja_bipush (v := nI 15) dX8_split_54 (by decide +kernel) ?_
    refine ja_cSr (st := []) (s_inT l (li) 0 15 (by omega) (by omega) (by omega)) rfl rfl (ce_X8_in 0 0) st_X8_in lk_X8_88 ⟨(Nat.le_of_ble_eq_true rfl), (Nat.le_of_ble_eq_true rfl)⟩ dX8_split_56 rfl rfl (Nat.le_of_ble_eq_true rfl) (Nat.zero_le _) (Nat.zero_le _) ?_
    refine ja_ifB_ne (tgt := 68) dX8_split_59 (by decide) (fun c59 => ?_) (fun c59 => absurd c59 (by decide))
    refine ja_aload_n (i := 0) dX8_split_68 rfl rfl ?_
    refine ja_getI fl_X8_9 (zM_s hz) rfl dX8_split_69 ?_
    refine ja_top (y := nI (w0)) hau ?_
    refine ja_iconst (v := (-1)) dX8_split_72 (by decide +kernel) ?_
    refine ja_icmp_ne (tgt := 82) dX8_split_73 (by decide) (fun c73 => ?_) (fun c73 => absurd c73 (nI_nm1 (by omega)))
    refine ja_aload_n (i := 0) dX8_split_82 rfl rfl ?_
    refine ja_iload_n (i := 1) dX8_split_83 rfl rfl ?_
    refine ja_iload_n (i := 3) dX8_split_84 rfl rfl ?_
    refine ja_cVr (st := []) (s_sizeOf (D := (ja_up D 100 0 (nI 0))) l hz (ly := ly) (by omega) (nI (o))) rfl rfl (ce_X8_sizeOf 0 0) im_X8_sizeOf se_X8_sizeOf lk_X8_103 k_X8 (zM_s hz) ⟨(Nat.le_of_ble_eq_true rfl), (Nat.le_of_ble_eq_true rfl)⟩ dX8_split_85 rfl rfl (Nat.le_of_ble_eq_true rfl) (Nat.zero_le _) (Nat.zero_le _) ?_
    have z1 := cSz_le ((ja_up D 100 0 (nI 0)) 105) ly (nI o) 256
    refine ja_ifN_le (tgt := 97) dX8_split_88 (by decide) (by omega) (fun c88 => absurd c88 hs) (fun c88 => ?_)
    refine ja_aload_n (i := 0) dX8_split_91 rfl rfl ?_
    refine ja_iconst (v := nI 4) dX8_split_92 (by decide +kernel) ?_
    refine ja_cVd (st := []) (s_fails l hz (nI (4))) rfl rfl (ce_X8_fails 0 0) im_X8_fails se_X8_fails lk_X8_96 k_X8 (zM_s hz) ⟨(Nat.le_of_ble_eq_true rfl), (Nat.le_of_ble_eq_true rfl)⟩ dX8_split_93 rfl rfl (Nat.le_of_ble_eq_true rfl) (Nat.zero_le _) (Nat.zero_le _) ?_
    intro D93 hD93
    subst hD93
    refine ja_num (D2 := ja_up D 100 0 (nI (4))) up_2 ?_
    refine ja_iret rfl rfl dX8_split_96 (Nat.zero_le _) (Nat.zero_le _) ?_
    exact ⟨rfl, rfl, rfl⟩
  refine ja_iload (i := 4) dX8_split_37 rfl ?_
  refine ja_bipush (v := nI 120) dX8_split_39 (by decide +kernel) ?_
  refine ja_icmp_eq (tgt := 51) dX8_split_41 (by decide) (fun c41 => ?_) (fun c41 => ?_)
  ·
    exact jn51 0
  ·
    refine ja_iload (i := 4) dX8_split_44 rfl ?_
    refine ja_bipush (v := nI 121) dX8_split_46 (by decide +kernel) ?_
    refine ja_icmp_ne (tgt := 62) dX8_split_48 (by decide) (fun c48 => absurd hx (by rintro (e | e); exact c41 e; exact c48 e)) (fun c48 => ?_)
    exact jn51 0

set_option maxRecDepth 100000 in
set_option maxHeartbeats 4000000 in
theorem r_split_ok (l : Launch) {Z : jZ} {D : jD} (hz : zM Z) {ly a o : Nat} (h1 : ly < 3) (h2 : a < 10) (h3 : o < 10) (h4 : a ≠ o) {ax : Int32} (hx : ax = nI 120 ∨ ax = nI 121) {li : Nat} (hli : li ≤ 15) (hw : wfA (D 105)) {cp : Bool} (hc : D 104 ly = bI cp) {w0 : Nat} (hau : D 100 2 = nI w0) (hw5 : w0 ≤ 5) (hs : cSz (D 105) ly (nI o) 256 = 0) : ja_M l (mX8_split 0 0) [.ref (100), .int (nI (ly)), .int (nI (a)), .int (nI (o)), .int (ax), .int (nI (li))] Z D (ja_jd (some (.int (nI (fb_ct (gvM (giU (ja_up D 100 0 (nI 0)) (fun q => decide (D 105 (256 * ly + q) = nI a) && decide (li ≤ if ax = nI 120 then q % 16 else q / 16)) 256) ly (nI o)) 256)))) Z (fun D2 => D2 = gvR (giU (ja_up D 100 0 (nI 0)) (fun q => decide (D 105 (256 * ly + q) = nI a) && decide (li ≤ if ax = nI 120 then q % 16 else q / 16)) 256) ly (some o) cp)) ja_x0 := by
  refine ja_Mof (lv := [some (.ref (100)), some (.int (nI (ly))), some (.int (nI (a))), some (.int (nI (o))), some (.int (ax)), some (.int (nI (li))), none]) (by decide +kernel) rfl rfl (Nat.le_of_ble_eq_true rfl) rfl ?_
  refine ja_aload_n (i := 0) dX8_split_0 rfl rfl ?_
  refine ja_iconst (v := nI 0) dX8_split_1 (by decide +kernel) ?_
  refine ja_putI fl_X8_85 (zM_s hz) rfl rfl rfl dX8_split_2 ?_
  refine ja_iload_n (i := 1) dX8_split_5 rfl rfl ?_
  refine ja_cSr (st := []) (s_isLayerT l (by omega)) rfl rfl (ce_X8_isLayer 0 0) st_X8_isLayer lk_X8_106 ⟨(Nat.le_of_ble_eq_true rfl), (Nat.le_of_ble_eq_true rfl)⟩ dX8_split_6 rfl rfl (Nat.le_of_ble_eq_true rfl) (Nat.zero_le _) (Nat.zero_le _) ?_
  refine ja_ifB_ne (tgt := 18) dX8_split_9 (by decide) (fun c9 => ?_) (fun c9 => absurd c9 (by decide))
  refine ja_iload_n (i := 2) dX8_split_18 rfl rfl ?_
  refine ja_cSr (st := []) (s_isAreaT l (by omega)) rfl rfl (ce_X8_isArea 0 0) st_X8_isArea lk_X8_110 ⟨(Nat.le_of_ble_eq_true rfl), (Nat.le_of_ble_eq_true rfl)⟩ dX8_split_19 rfl rfl (Nat.le_of_ble_eq_true rfl) (Nat.zero_le _) (Nat.zero_le _) ?_
  refine ja_ifB_eq (tgt := 62) dX8_split_22 (by decide) (fun c22 => absurd c22 (by decide)) (fun c22 => ?_)
  refine ja_iload_n (i := 3) dX8_split_25 rfl rfl ?_
  refine ja_cSr (st := []) (s_isAreaT l (by omega)) rfl rfl (ce_X8_isArea 0 0) st_X8_isArea lk_X8_110 ⟨(Nat.le_of_ble_eq_true rfl), (Nat.le_of_ble_eq_true rfl)⟩ dX8_split_26 rfl rfl (Nat.le_of_ble_eq_true rfl) (Nat.zero_le _) (Nat.zero_le _) ?_
  refine ja_ifB_eq (tgt := 62) dX8_split_29 (by decide) (fun c29 => absurd c29 (by decide)) (fun c29 => ?_)
  refine ja_iload_n (i := 2) dX8_split_32 rfl rfl ?_
  refine ja_iload_n (i := 3) dX8_split_33 rfl rfl ?_
  refine ja_icmpN_eq (tgt := 62) dX8_split_34 (by decide) (by omega) (by omega) (fun c34 => (by exfalso; omega)) (fun c34 => ?_)
  have jn51 : ∀ (_u : Nat), ja_A l (mX8_split 0 0) ja_sn (ja_Qf (mX8_split 0 0) (ja_jd (some (.int (nI (fb_ct (gvM (giU (ja_up D 100 0 (nI 0)) (fun q => decide (D 105 (256 * ly + q) = nI a) && decide (li ≤ if ax = nI 120 then q % 16 else q / 16)) 256) ly (nI o)) 256)))) Z (fun D2 => D2 = gvR (giU (ja_up D 100 0 (nI 0)) (fun q => decide (D 105 (256 * ly + q) = nI a) && decide (li ≤ if ax = nI 120 then q % 16 else q / 16)) 256) ly (some o) cp)) ja_x0) 51 [some (.ref (100)), some (.int (nI (ly))), some (.int (nI (a))), some (.int (nI (o))), some (.int (ax)), some (.int (nI (li))), none] [] Z (ja_up D 100 0 (nI 0)) 0 0 := by
    intro _u 
    refine ja_iload (i := 5) dX8_split_51 rfl ?_
    refine ja_iconst (v := nI 0) dX8_split_53 (by decide +kernel) ?_
    refine ja_bipush (v := nI 15) dX8_split_54 (by decide +kernel) ?_
    refine ja_cSr (st := []) (s_inT l (li) 0 15 (by omega) (by omega) (by omega)) rfl rfl (ce_X8_in 0 0) st_X8_in lk_X8_88 ⟨(Nat.le_of_ble_eq_true rfl), (Nat.le_of_ble_eq_true rfl)⟩ dX8_split_56 rfl rfl (Nat.le_of_ble_eq_true rfl) (Nat.zero_le _) (Nat.zero_le _) ?_
    refine ja_ifB_ne (tgt := 68) dX8_split_59 (by decide) (fun c59 => ?_) (fun c59 => absurd c59 (by decide))
    refine ja_aload_n (i := 0) dX8_split_68 rfl rfl ?_
    refine ja_getI fl_X8_9 (zM_s hz) rfl dX8_split_69 ?_
    refine ja_top (y := nI (w0)) hau ?_
    refine ja_iconst (v := (-1)) dX8_split_72 (by decide +kernel) ?_
    refine ja_icmp_ne (tgt := 82) dX8_split_73 (by decide) (fun c73 => ?_) (fun c73 => absurd c73 (nI_nm1 (by omega)))
    refine ja_aload_n (i := 0) dX8_split_82 rfl rfl ?_
    refine ja_iload_n (i := 1) dX8_split_83 rfl rfl ?_
    refine ja_iload_n (i := 3) dX8_split_84 rfl rfl ?_
    refine ja_cVr (st := []) (s_sizeOf (D := (ja_up D 100 0 (nI 0))) l hz (ly := ly) (by omega) (nI (o))) rfl rfl (ce_X8_sizeOf 0 0) im_X8_sizeOf se_X8_sizeOf lk_X8_103 k_X8 (zM_s hz) ⟨(Nat.le_of_ble_eq_true rfl), (Nat.le_of_ble_eq_true rfl)⟩ dX8_split_85 rfl rfl (Nat.le_of_ble_eq_true rfl) (Nat.zero_le _) (Nat.zero_le _) ?_
    have z1 := cSz_le ((ja_up D 100 0 (nI 0)) 105) ly (nI o) 256
    refine ja_ifN_le (tgt := 97) dX8_split_88 (by decide) (by omega) (fun c88 => ?_) (fun c88 => absurd hs c88)
    refine ja_iconst (v := nI 0) dX8_split_97 (by decide +kernel) ?_
    refine ja_istore (i := 6) dX8_split_98 rfl (Nat.le_of_ble_eq_true rfl) ?_
    have lp100 : ∀ (f100 : Nat) (q : Nat) (E : jD), (256 < q + f100) → (q ≤ 256) → (E = giU (ja_up D 100 0 (nI 0)) (fun q => decide (D 105 (256 * ly + q) = nI a) && decide (li ≤ if ax = nI 120 then q % 16 else q / 16)) q) → ja_A l (mX8_split 0 0) ja_sn (ja_Qf (mX8_split 0 0) (ja_jd (some (.int (nI (fb_ct (gvM (giU (ja_up D 100 0 (nI 0)) (fun q => decide (D 105 (256 * ly + q) = nI a) && decide (li ≤ if ax = nI 120 then q % 16 else q / 16)) 256) ly (nI o)) 256)))) Z (fun D2 => D2 = gvR (giU (ja_up D 100 0 (nI 0)) (fun q => decide (D 105 (256 * ly + q) = nI a) && decide (li ≤ if ax = nI 120 then q % 16 else q / 16)) 256) ly (some o) cp)) ja_x0) 100 [some (.ref (100)), some (.int (nI (ly))), some (.int (nI (a))), some (.int (nI (o))), some (.int (ax)), some (.int (nI (li))), some (.int (nI (q)))] [] Z E 0 0 := by
      intro f100
      induction f100 with
      | zero => intro q E hk hq hE; exfalso; omega
      | succ f100 ih100 =>
        intro q E hk hq hE
        refine ja_iload (i := 6) dX8_split_100 rfl ?_
        refine ja_sipush (v := nI 256) dX8_split_102 (by decide +kernel) ?_
        refine ja_icmpN_ge (tgt := 162) dX8_split_105 (by decide) (by omega) (by omega) (fun c105 => ?_) (fun c105 => ?_)
        ·
          refine ja_num (D2 := (giU (ja_up D 100 0 (nI 0)) (fun q => decide (D 105 (256 * ly + q) = nI a) && decide (li ≤ if ax = nI 120 then q % 16 else q / 16)) 256)) (by rw [hE, show q = 256 by omega]) ?_
          refine ja_aload_n (i := 0) dX8_split_162 rfl rfl ?_
          refine ja_iload_n (i := 1) dX8_split_163 rfl rfl ?_
          refine ja_iload_n (i := 3) dX8_split_164 rfl rfl ?_
          refine ja_cVd (st := []) (s_gives_some l (D := (giU (ja_up D 100 0 (nI 0)) (fun q => decide (D 105 (256 * ly + q) = nI a) && decide (li ≤ if ax = nI 120 then q % 16 else q / 16)) 256)) hz (by rw [giU_5]; exact hw) (ly := ly) h1 (by omega) (cp := cp) ((giU_o (by decide)).trans hc)) rfl rfl (ce_X8_gives 0 0) im_X8_gives se_X8_gives lk_X8_117 k_X8 (zM_s hz) ⟨(Nat.le_of_ble_eq_true rfl), (Nat.le_of_ble_eq_true rfl)⟩ dX8_split_165 rfl rfl (Nat.le_of_ble_eq_true rfl) (Nat.zero_le _) (Nat.zero_le _) ?_
          intro D165 hD165
          subst hD165
          refine ja_iret rfl rfl dX8_split_168 (Nat.zero_le _) (Nat.zero_le _) ?_
          exact ⟨rfl, rfl, rfl⟩
        ·
          refine ja_aload_n (i := 0) dX8_split_108 rfl rfl ?_
          refine ja_getR fl_X8_73 (zM_s hz) rfl (zM_p24 hz) dX8_split_109 ?_
          refine ja_iload (i := 6) dX8_split_112 rfl ?_
          refine ja_aload_n (i := 0) dX8_split_114 rfl rfl ?_
          refine ja_iload_n (i := 1) dX8_split_115 rfl rfl ?_
          refine ja_iload (i := 6) dX8_split_116 rfl ?_
          refine ja_cVr (st := [.int (nI (q)), .ref (125)]) (s_at (D := E) l hz (ly := ly) (q := q) (by omega) (by omega)) rfl rfl (ce_X8_at 0 0) im_X8_at se_X8_at lk_X8_92 k_X8 (zM_s hz) ⟨(Nat.le_of_ble_eq_true rfl), (Nat.le_of_ble_eq_true rfl)⟩ dX8_split_118 rfl rfl (Nat.le_of_ble_eq_true rfl) (Nat.zero_le _) (Nat.zero_le _) ?_
          refine ja_top (y := D 105 (256 * ly + q)) (by rw [hE, giU_5]; rfl) ?_
          refine ja_iload_n (i := 2) dX8_split_121 rfl rfl ?_
          refine ja_icmp_ne (tgt := 154) dX8_split_122 (by decide) (fun c122 => ?_) (fun c122 => ?_)
          ·
            refine ja_iconst (v := nI 0) dX8_split_154 (by decide +kernel) ?_
            refine ja_zast (zM_a24 hz) rfl (by omega) (by decide) (by decide +kernel) dX8_split_155 ?_
            refine ja_iincN dX8_split_156 rfl rfl (Nat.le_of_ble_eq_true rfl) ?_
            refine ja_goto (tgt := 100) dX8_split_159 (by decide) ?_
            exact ih100 (q + 1) _ (by omega) (by omega) (by rw [hE]; exact giU_s (by first | (simp only [c122, decide_true, Bool.true_and, ← hal]; first | (rw [decide_eq_true (by omega)]; rfl) | (rw [decide_eq_false (by omega)]; rfl)) | (simp [c122]; done) | (simp [c122]; rfl)))
          ·
            have jn145 : ∀ (al : Nat), (al = if ax = nI 120 then q % 16 else q / 16) → (al < 16) → ja_A l (mX8_split 0 0) ja_sn (ja_Qf (mX8_split 0 0) (ja_jd (some (.int (nI (fb_ct (gvM (giU (ja_up D 100 0 (nI 0)) (fun q => decide (D 105 (256 * ly + q) = nI a) && decide (li ≤ if ax = nI 120 then q % 16 else q / 16)) 256) ly (nI o)) 256)))) Z (fun D2 => D2 = gvR (giU (ja_up D 100 0 (nI 0)) (fun q => decide (D 105 (256 * ly + q) = nI a) && decide (li ≤ if ax = nI 120 then q % 16 else q / 16)) 256) ly (some o) cp)) ja_x0) 145 [some (.ref (100)), some (.int (nI (ly))), some (.int (nI (a))), some (.int (nI (o))), some (.int (ax)), some (.int (nI (li))), some (.int (nI (q)))] [.int (nI (al)), .int (nI (q)), .ref (125)] Z E 0 0 := by
              intro al hal hal2
              refine ja_iload (i := 5) dX8_split_145 rfl ?_
              refine ja_icmpN_lt (tgt := 154) dX8_split_147 (by decide) (by omega) (by omega) (fun c147 => ?_) (fun c147 => ?_)
              ·
                refine ja_iconst (v := nI 0) dX8_split_154 (by decide +kernel) ?_
                refine ja_zast (zM_a24 hz) rfl (by omega) (by decide) (by decide +kernel) dX8_split_155 ?_
                refine ja_iincN dX8_split_156 rfl rfl (Nat.le_of_ble_eq_true rfl) ?_
                refine ja_goto (tgt := 100) dX8_split_159 (by decide) ?_
                exact ih100 (q + 1) _ (by omega) (by omega) (by rw [hE]; exact giU_s (by first | (simp only [c122, decide_true, Bool.true_and, ← hal]; first | (rw [decide_eq_true (by omega)]; rfl) | (rw [decide_eq_false (by omega)]; rfl)) | (simp [c122]; done) | (simp [c122]; rfl)))
              ·
                refine ja_iconst (v := nI 1) dX8_split_150 (by decide +kernel) ?_
                refine ja_goto (tgt := 155) dX8_split_151 (by decide) ?_
                refine ja_zast (zM_a24 hz) rfl (by omega) (by decide) (by decide +kernel) dX8_split_155 ?_
                refine ja_iincN dX8_split_156 rfl rfl (Nat.le_of_ble_eq_true rfl) ?_
                refine ja_goto (tgt := 100) dX8_split_159 (by decide) ?_
                exact ih100 (q + 1) _ (by omega) (by omega) (by rw [hE]; exact giU_s (by first | (simp only [c122, decide_true, Bool.true_and, ← hal]; first | (rw [decide_eq_true (by omega)]; rfl) | (rw [decide_eq_false (by omega)]; rfl)) | (simp [c122]; done) | (simp [c122]; rfl)))
            refine ja_iload (i := 4) dX8_split_125 rfl ?_
            refine ja_bipush (v := nI 120) dX8_split_127 (by decide +kernel) ?_
            refine ja_icmp_ne (tgt := 140) dX8_split_129 (by decide) (fun c129 => ?_) (fun c129 => ?_)
            ·
              refine ja_iload (i := 6) dX8_split_140 rfl ?_
              refine ja_bipush (v := nI 16) dX8_split_142 (by decide +kernel) ?_
              refine ja_idivN dX8_split_144 (by omega) (by omega) (by omega) ?_
              exact jn145 (q / 16) (by first | exact (if_pos c129).symm | exact (if_neg c129).symm) (by omega)
            ·
              refine ja_iload (i := 6) dX8_split_132 rfl ?_
              refine ja_bipush (v := nI 16) dX8_split_134 (by decide +kernel) ?_
              refine ja_iremN dX8_split_136 (by omega) (by omega) (by omega) ?_
              refine ja_goto (tgt := 145) dX8_split_137 (by decide) ?_
              exact jn145 (q % 16) (by first | exact (if_pos c129).symm | exact (if_neg c129).symm) (by omega)
    exact lp100 257 0 (ja_up D 100 0 (nI 0)) (by omega) (by omega) giU_0
  refine ja_iload (i := 4) dX8_split_37 rfl ?_
  refine ja_bipush (v := nI 120) dX8_split_39 (by decide +kernel) ?_
  refine ja_icmp_eq (tgt := 51) dX8_split_41 (by decide) (fun c41 => ?_) (fun c41 => ?_)
  ·
    exact jn51 0
  ·
    refine ja_iload (i := 4) dX8_split_44 rfl ?_
    refine ja_bipush (v := nI 121) dX8_split_46 (by decide +kernel) ?_
    refine ja_icmp_ne (tgt := 62) dX8_split_48 (by decide) (fun c48 => absurd hx (by rintro (e | e); exact c41 e; exact c48 e)) (fun c48 => ?_)
    exact jn51 0
