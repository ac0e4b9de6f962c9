/-! THE REFERENCE: more calls, some that write -/
set_option maxRecDepth 100000 in
theorem cf_X8 : Cond.constantFloat RX8 198 1132462080 ∈ ja_T := ja_in6 (i := 143) rfl rfl
set_option maxRecDepth 100000 in
theorem cf_X7 : Cond.constantFloat RX7 309 1132462080 ∈ ja_T := ja_in5 (i := 2) rfl rfl
theorem isL_N {a : Nat} (h : a < 3) : nI 0 ≤ nI a ∧ nI a ≤ nI 2 := by
  have e : ∀ a : Fin 3, nI 0 ≤ nI a ∧ nI a ≤ nI 2 := by decide +kernel
  exact e ⟨a, h⟩
def areL (x y : Int32) : Prop := (nI 0 ≤ x ∧ x ≤ nI 2) ∧ (nI 0 ≤ y ∧ y ≤ nI 2) ∧ ¬ x = y

set_option maxRecDepth 100000 in
set_option maxHeartbeats 4000000 in
theorem s_isLayerD (l : Launch) {Z : jZ} {D : jD} (ly : Int32) : ja_M l (mX8_isLayer 0 0) [.int (ly)] Z D (ja_jr (some (.int (bI (decide (nI 0 ≤ ly ∧ ly ≤ nI 2))))) Z D) ja_x0 := by
  refine ja_Mof (lv := [some (.int (ly))]) (by decide +kernel) rfl rfl (Nat.le_of_ble_eq_true rfl) rfl ?_
  refine ja_iload_n (i := 0) dX8_isLayer_0 rfl rfl ?_
  refine ja_iconst (v := nI 0) dX8_isLayer_1 (by decide +kernel) ?_
  refine ja_iconst (v := nI 2) dX8_isLayer_2 (by decide +kernel) ?_
  refine ja_cSr (st := []) (s_in l (ly) (nI (0)) (nI (2))) rfl rfl (ce_X8_in 0 0) st_X8_in lk_X8_88 ⟨(Nat.le_of_ble_eq_true rfl), (Nat.le_of_ble_eq_true rfl)⟩ dX8_isLayer_3 rfl rfl (Nat.le_of_ble_eq_true rfl) (Nat.zero_le _) (Nat.zero_le _) ?_
  refine ja_iret rfl (bI_nar _) dX8_isLayer_6 (Nat.zero_le _) (Nat.zero_le _) ?_
  exact ⟨rfl, rfl, rfl⟩

set_option maxRecDepth 100000 in
set_option maxHeartbeats 4000000 in
theorem s_areLayersF (l : Launch) {Z : jZ} {D : jD} {x y : Int32} (h : ¬ areL x y) : ja_M l (mX8_areLayers 0 0) [.int (x), .int (y)] Z D (ja_jr (some (.int (bI false))) Z D) ja_x0 := by
  refine ja_Mof (lv := [some (.int (x)), some (.int (y))]) (by decide +kernel) rfl rfl (Nat.le_of_ble_eq_true rfl) rfl ?_
  refine ja_iload_n (i := 0) dX8_areLayers_0 rfl rfl ?_
  refine ja_cSr (st := []) (s_isLayerD l (x)) rfl rfl (ce_X8_isLayer 0 0) st_X8_isLayer lk_X8_106 ⟨(Nat.le_of_ble_eq_true rfl), (Nat.le_of_ble_eq_true rfl)⟩ dX8_areLayers_1 rfl rfl (Nat.le_of_ble_eq_true rfl) (Nat.zero_le _) (Nat.zero_le _) ?_
  refine ja_ifB_eq (tgt := 23) dX8_areLayers_4 (by decide) (fun c4 => ?_) (fun c4 => ?_)
  ·
    refine ja_iconst (v := nI 0) dX8_areLayers_23 (by decide +kernel) ?_
    refine ja_iret rfl (by decide +kernel) dX8_areLayers_24 (Nat.zero_le _) (Nat.zero_le _) ?_
    exact ⟨rfl, rfl, rfl⟩
  ·
    refine ja_iload_n (i := 1) dX8_areLayers_7 rfl rfl ?_
    refine ja_cSr (st := []) (s_isLayerD l (y)) rfl rfl (ce_X8_isLayer 0 0) st_X8_isLayer lk_X8_106 ⟨(Nat.le_of_ble_eq_true rfl), (Nat.le_of_ble_eq_true rfl)⟩ dX8_areLayers_8 rfl rfl (Nat.le_of_ble_eq_true rfl) (Nat.zero_le _) (Nat.zero_le _) ?_
    refine ja_ifB_eq (tgt := 23) dX8_areLayers_11 (by decide) (fun c11 => ?_) (fun c11 => ?_)
    ·
      refine ja_iconst (v := nI 0) dX8_areLayers_23 (by decide +kernel) ?_
      refine ja_iret rfl (by decide +kernel) dX8_areLayers_24 (Nat.zero_le _) (Nat.zero_le _) ?_
      exact ⟨rfl, rfl, rfl⟩
    ·
      refine ja_iload_n (i := 0) dX8_areLayers_14 rfl rfl ?_
      refine ja_iload_n (i := 1) dX8_areLayers_15 rfl rfl ?_
      refine ja_icmp_eq (tgt := 23) dX8_areLayers_16 (by decide) (fun c16 => ?_) (fun c16 => ?_)
      ·
        refine ja_iconst (v := nI 0) dX8_areLayers_23 (by decide +kernel) ?_
        refine ja_iret rfl (by decide +kernel) dX8_areLayers_24 (Nat.zero_le _) (Nat.zero_le _) ?_
        exact ⟨rfl, rfl, rfl⟩
      ·
        refine ja_iconst (v := nI 1) dX8_areLayers_19 (by decide +kernel) ?_
        refine ja_goto (tgt := 24) dX8_areLayers_20 (by decide) ?_
        refine ja_iret rfl (by decide +kernel) dX8_areLayers_24 (Nat.zero_le _) (Nat.zero_le _) ?_
        exact absurd ⟨of_decide_eq_true (by simpa using c4), of_decide_eq_true (by simpa using c11), c16⟩ h

set_option maxRecDepth 100000 in
set_option maxHeartbeats 4000000 in
theorem s_areLayersT (l : Launch) {Z : jZ} {D : jD} {a b : Nat} (h1 : a < 3) (h2 : b < 3) (h3 : a ≠ b) : ja_M l (mX8_areLayers 0 0) [.int (nI (a)), .int (nI (b))] Z D (ja_jr (some (.int (bI true))) Z D) ja_x0 := by
  refine ja_Mof (lv := [some (.int (nI (a))), some (.int (nI (b)))]) (by decide +kernel) rfl rfl (Nat.le_of_ble_eq_true rfl) rfl ?_
  refine ja_iload_n (i := 0) dX8_areLayers_0 rfl rfl ?_
  refine ja_cSr (st := []) (s_isLayerT l (by omega)) rfl rfl (ce_X8_isLayer 0 0) st_X8_isLayer lk_X8_106 ⟨(Nat.le_of_ble_eq_true rfl), (Nat.le_of_ble_eq_true rfl)⟩ dX8_areLayers_1 rfl rfl (Nat.le_of_ble_eq_true rfl) (Nat.zero_le _) (Nat.zero_le _) ?_
  refine ja_ifB_eq (tgt := 23) dX8_areLayers_4 (by decide) (fun c4 => absurd c4 (by decide)) (fun c4 => ?_)
  refine ja_iload_n (i := 1) dX8_areLayers_7 rfl rfl ?_
  refine ja_cSr (st := []) (s_isLayerT l (by omega)) rfl rfl (ce_X8_isLayer 0 0) st_X8_isLayer lk_X8_106 ⟨(Nat.le_of_ble_eq_true rfl), (Nat.le_of_ble_eq_true rfl)⟩ dX8_areLayers_8 rfl rfl (Nat.le_of_ble_eq_true rfl) (Nat.zero_le _) (Nat.zero_le _) ?_
  refine ja_ifB_eq (tgt := 23) dX8_areLayers_11 (by decide) (fun c11 => absurd c11 (by decide)) (fun c11 => ?_)
  refine ja_iload_n (i := 0) dX8_areLayers_14 rfl rfl ?_
  refine ja_iload_n (i := 1) dX8_areLayers_15 rfl rfl ?_
  refine ja_icmpN_eq (tgt := 23) dX8_areLayers_16 (by decide) (by omega) (by omega) (fun c16 => (by exfalso; omega)) (fun c16 => ?_)
  refine ja_iconst (v := nI 1) dX8_areLayers_19 (by decide +kernel) ?_
  refine ja_goto (tgt := 24) dX8_areLayers_20 (by decide) ?_
  refine ja_iret rfl (by decide +kernel) dX8_areLayers_24 (Nat.zero_le _) (Nat.zero_le _) ?_
  exact ⟨rfl, rfl, rfl⟩

set_option maxRecDepth 100000 in
set_option maxHeartbeats 4000000 in
theorem r_match_f1 (l : Launch) {Z : jZ} {D : jD} (hz : zM Z) {x y : Int32} (hal : ¬ areL x y) (a : Int32) : ja_M l (mX8_match 0 0) [.ref (100), .int (x), .int (a), .int (y)] Z D (ja_jd (some (.int (nI 0))) Z (fun D2 => D2 = ja_up D 100 0 (nI 1))) ja_x0 := by
  refine ja_Mof (lv := [some (.ref (100)), some (.int (x)), some (.int (a)), some (.int (y)), none]) (by decide +kernel) rfl rfl (Nat.le_of_ble_eq_true rfl) rfl ?_
  refine ja_aload_n (i := 0) dX8_match_0 rfl rfl ?_
  refine ja_iconst (v := nI 0) dX8_match_1 (by decide +kernel) ?_
  refine ja_putI fl_X8_85 (zM_s hz) rfl rfl rfl dX8_match_2 ?_
  refine ja_iload_n (i := 1) dX8_match_5 rfl rfl ?_
  refine ja_iload_n (i := 3) dX8_match_6 rfl rfl ?_
  refine ja_cSr (st := []) (s_areLayersF l hal) rfl rfl (ce_X8_areLayers 0 0) st_X8_areLayers lk_X8_164 ⟨(Nat.le_of_ble_eq_true rfl), (Nat.le_of_ble_eq_true rfl)⟩ dX8_match_7 rfl rfl (Nat.le_of_ble_eq_true rfl) (Nat.zero_le _) (Nat.zero_le _) ?_
  refine ja_ifB_ne (tgt := 19) dX8_match_10 (by decide) (fun c10 => absurd c10 (by decide)) (fun c10 => ?_)
  refine ja_aload_n (i := 0) dX8_match_13 rfl rfl ?_
  refine ja_iconst (v := nI 1) dX8_match_14 (by decide +kernel) ?_
  refine ja_cVd (st := []) (s_fails l hz (nI (1))) rfl rfl (ce_X8_fails 0 0) im_X8_fails se_X8_fails lk_X8_96 k_X8 (zM_s hz) ⟨(Nat.le_of_ble_eq_true rfl), (Nat.le_of_ble_eq_true rfl)⟩ dX8_match_15 rfl rfl (Nat.le_of_ble_eq_true rfl) (Nat.zero_le _) (Nat.zero_le _) ?_
  intro D15 hD15
  subst hD15
  refine ja_num (D2 := ja_up D 100 0 (nI (1))) up_2 ?_
  refine ja_iret rfl rfl dX8_match_18 (Nat.zero_le _) (Nat.zero_le _) ?_
  exact ⟨rfl, rfl, rfl⟩

set_option maxRecDepth 100000 in
set_option maxHeartbeats 4000000 in
theorem r_match_f2 (l : Launch) {Z : jZ} {D : jD} (hz : zM Z) {l1 l2 : Nat} (h1 : l1 < 3) (h2 : l2 < 3) (h3 : l1 ≠ l2) {a : Int32} (ha : ¬ (nI 0 ≤ a ∧ a ≤ nI 9)) : ja_M l (mX8_match 0 0) [.ref (100), .int (nI (l1)), .int (a), .int (nI (l2))] Z D (ja_jd (some (.int (nI 0))) Z (fun D2 => D2 = ja_up D 100 0 (nI 2))) ja_x0 := by
  refine ja_Mof (lv := [some (.ref (100)), some (.int (nI (l1))), some (.int (a)), some (.int (nI (l2))), none]) (by decide +kernel) rfl rfl (Nat.le_of_ble_eq_true rfl) rfl ?_
  refine ja_aload_n (i := 0) dX8_match_0 rfl rfl ?_
  refine ja_iconst (v := nI 0) dX8_match_1 (by decide +kernel) ?_
  refine ja_putI fl_X8_85 (zM_s hz) rfl rfl rfl dX8_match_2 ?_
  refine ja_iload_n (i := 1) dX8_match_5 rfl rfl ?_
  refine ja_iload_n (i := 3) dX8_match_6 rfl rfl ?_
  refine ja_cSr (st := []) (s_areLayersT l (by omega) (by omega) (by omega)) rfl rfl (ce_X8_areLayers 0 0) st_X8_areLayers lk_X8_164 ⟨(Nat.le_of_ble_eq_true rfl), (Nat.le_of_ble_eq_true rfl)⟩ dX8_match_7 rfl rfl (Nat.le_of_ble_eq_true rfl) (Nat.zero_le _) (Nat.zero_le _) ?_
  refine ja_ifB_ne (tgt := 19) dX8_match_10 (by decide) (fun c10 => ?_) (fun c10 => absurd c10 (by decide))
  refine ja_iload_n (i := 2) dX8_match_19 rfl rfl ?_
  refine ja_cSr (st := []) (s_isAreaF l ha) rfl rfl (ce_X8_isArea 0 0) st_X8_isArea lk_X8_110 ⟨(Nat.le_of_ble_eq_true rfl), (Nat.le_of_ble_eq_true rfl)⟩ dX8_match_20 rfl rfl (Nat.le_of_ble_eq_true rfl) (Nat.zero_le _) (Nat.zero_le _) ?_
  refine ja_ifB_ne (tgt := 32) dX8_match_23 (by decide) (fun c23 => absurd c23 (by decide)) (fun c23 => ?_)
  refine ja_aload_n (i := 0) dX8_match_26 rfl rfl ?_
  refine ja_iconst (v := nI 2) dX8_match_27 (by decide +kernel) ?_
  refine ja_cVd (st := []) (s_fails l hz (nI (2))) rfl rfl (ce_X8_fails 0 0) im_X8_fails se_X8_fails lk_X8_96 k_X8 (zM_s hz) ⟨(Nat.le_of_ble_eq_true rfl), (Nat.le_of_ble_eq_true rfl)⟩ dX8_match_28 rfl rfl (Nat.le_of_ble_eq_true rfl) (Nat.zero_le _) (Nat.zero_le _) ?_
  intro D28 hD28
  subst hD28
  refine ja_num (D2 := ja_up D 100 0 (nI (2))) up_2 ?_
  refine ja_iret rfl rfl dX8_match_31 (Nat.zero_le _) (Nat.zero_le _) ?_
  exact ⟨rfl, rfl, rfl⟩

set_option maxRecDepth 100000 in
set_option maxHeartbeats 4000000 in
theorem r_match_ok (l : Launch) {Z : jZ} {D : jD} (hz : zM Z) {l1 l2 : Nat} (h1 : l1 < 3) (h2 : l2 < 3) (h3 : l1 ≠ l2) {a : Nat} (h4 : a < 10) : ja_M l (mX8_match 0 0) [.ref (100), .int (nI (l1)), .int (nI (a)), .int (nI (l2))] Z D (ja_jd (some (.int (oN (bM (fun o => cCm (D 105) l1 (nI a) l2 (nI o) 256) 10)))) Z (fun D2 => D2 = ja_up D 100 0 (oC 3 (bM (fun o => cCm (D 105) l1 (nI a) l2 (nI o) 256) 10)))) ja_x0 := by
  refine ja_Mof (lv := [some (.ref (100)), some (.int (nI (l1))), some (.int (nI (a))), some (.int (nI (l2))), none]) (by decide +kernel) rfl rfl (Nat.le_of_ble_eq_true rfl) rfl ?_
  refine ja_aload_n (i := 0) dX8_match_0 rfl rfl ?_
  refine ja_iconst (v := nI 0) dX8_match_1 (by decide +kernel) ?_
  refine ja_putI fl_X8_85 (zM_s hz) rfl rfl rfl dX8_match_2 ?_
  refine ja_iload_n (i := 1) dX8_match_5 rfl rfl ?_
  refine ja_iload_n (i := 3) dX8_match_6 rfl rfl ?_
  refine ja_cSr (st := []) (s_areLayersT l (by omega) (by omega) (by omega)) rfl rfl (ce_X8_areLayers 0 0) st_X8_areLayers lk_X8_164 ⟨(Nat.le_of_ble_eq_true rfl), (Nat.le_of_ble_eq_true rfl)⟩ dX8_match_7 rfl rfl (Nat.le_of_ble_eq_true rfl) (Nat.zero_le _) (Nat.zero_le _) ?_
  refine ja_ifB_ne (tgt := 19) dX8_match_10 (by decide) (fun c10 => ?_) (fun c10 => absurd c10 (by decide))
  refine ja_iload_n (i := 2) dX8_match_19 rfl rfl ?_
  refine ja_cSr (st := []) (s_isAreaT l (by omega)) rfl rfl (ce_X8_isArea 0 0) st_X8_isArea lk_X8_110 ⟨(Nat.le_of_ble_eq_true rfl), (Nat.le_of_ble_eq_true rfl)⟩ dX8_match_20 rfl rfl (Nat.le_of_ble_eq_true rfl) (Nat.zero_le _) (Nat.zero_le _) ?_
  refine ja_ifB_ne (tgt := 32) dX8_match_23 (by decide) (fun c23 => ?_) (fun c23 => absurd c23 (by decide))
  refine ja_aload_n (i := 0) dX8_match_32 rfl rfl ?_
  refine ja_iload_n (i := 1) dX8_match_33 rfl rfl ?_
  refine ja_iload_n (i := 2) dX8_match_34 rfl rfl ?_
  refine ja_iload_n (i := 3) dX8_match_35 rfl rfl ?_
  refine ja_cVr (st := []) (s_matched (D := (ja_up D 100 0 (nI (0)))) l hz (l1 := l1) (l2 := l2) (by omega) (by omega) (nI (a))) rfl rfl (ce_X8_matched 0 0) im_X8_matched se_X8_matched lk_X8_174 k_X8 (zM_s hz) ⟨(Nat.le_of_ble_eq_true rfl), (Nat.le_of_ble_eq_true rfl)⟩ dX8_match_36 rfl rfl (Nat.le_of_ble_eq_true rfl) (Nat.zero_le _) (Nat.zero_le _) ?_
  refine ja_istore (i := 4) dX8_match_39 rfl (Nat.le_of_ble_eq_true rfl) ?_
  rcases hg : bM (fun o => cCm ((ja_up D 100 0 (nI 0)) 105) l1 (nI a) l2 (nI o) 256) 10 with _ | b
  ·
    refine ja_iload (i := 4) dX8_match_41 rfl ?_
    refine ja_iconst (v := (-1)) dX8_match_43 (by decide +kernel) ?_
    refine ja_icmp_ne (tgt := 55) dX8_match_44 (by decide) (fun c44 => absurd rfl c44) (fun c44 => ?_)
    refine ja_aload_n (i := 0) dX8_match_47 rfl rfl ?_
    refine ja_iconst (v := nI 3) dX8_match_48 (by decide +kernel) ?_
    refine ja_cVd (st := []) (s_fails l hz (nI (3))) rfl rfl (ce_X8_fails 0 0) im_X8_fails se_X8_fails lk_X8_96 k_X8 (zM_s hz) ⟨(Nat.le_of_ble_eq_true rfl), (Nat.le_of_ble_eq_true rfl)⟩ dX8_match_49 rfl rfl (Nat.le_of_ble_eq_true rfl) (Nat.zero_le _) (Nat.zero_le _) ?_
    intro D49 hD49
    subst hD49
    refine ja_num (D2 := ja_up D 100 0 (nI (3))) up_2 ?_
    refine ja_goto (tgt := 57) dX8_match_52 (by decide) ?_
    refine ja_iret rfl rfl dX8_match_57 (Nat.zero_le _) (Nat.zero_le _) ?_
    have e : bM (fun o => cCm (D 105) l1 (nI a) l2 (nI o) 256) 10 = none := hg
    exact ⟨by rw [e]; rfl, rfl, by rw [e]; rfl⟩
  ·
    have hb := (bM_lt hg).1
    refine ja_iload (i := 4) dX8_match_41 rfl ?_
    refine ja_iconst (v := (-1)) dX8_match_43 (by decide +kernel) ?_
    refine ja_icmp_ne (tgt := 55) dX8_match_44 (by decide) (fun c44 => ?_) (fun c44 => absurd c44 (nI_nm1 (by omega)))
    refine ja_iload (i := 4) dX8_match_55 rfl ?_
    refine ja_iret rfl rfl dX8_match_57 (Nat.zero_le _) (Nat.zero_le _) ?_
    have e : bM (fun o => cCm (D 105) l1 (nI a) l2 (nI o) 256) 10 = some b := hg
    exact ⟨by rw [e]; rfl, rfl, by rw [e]; rfl⟩

/-- the kind of a match: its character -/
def mkV (f : Nat → Int32) (l1 a l2 : Nat) : Option Nat → Int32
  | none => nI 110
  | some b => if cSz f l1 (nI a) 256 < 2 * cCm f l1 (nI a) l2 (nI b) 256 ∧ cSz f l2 (nI b) 256 < 2 * cCm f l1 (nI a) l2 (nI b) 256 then nI 115 else nI 100

set_option maxRecDepth 100000 in
set_option maxHeartbeats 4000000 in
theorem r_matchKind_f1 (l : Launch) {Z : jZ} {D : jD} (hz : zM Z) {x y : Int32} (hal : ¬ areL x y) (a : Int32) : ja_M l (mX8_matchKind 0 0) [.ref (100), .int (x), .int (a), .int (y)] Z D (ja_jd (some (.int (nI 0))) Z (fun D2 => D2 = ja_up D 100 0 (nI 1))) ja_x0 := by
  refine ja_Mof (lv := [some (.ref (100)), some (.int (x)), some (.int (a)), some (.int (y)), none, none]) (by decide +kernel) rfl rfl (Nat.le_of_ble_eq_true rfl) rfl ?_
  refine ja_aload_n (i := 0) dX8_matchKind_0 rfl rfl ?_
  refine ja_iload_n (i := 1) dX8_matchKind_1 rfl rfl ?_
  refine ja_iload_n (i := 3) dX8_matchKind_2 rfl rfl ?_
  refine ja_cSr (st := [.ref (100)]) (s_areLayersF l hal) rfl rfl (ce_X8_areLayers 0 0) st_X8_areLayers lk_X8_164 ⟨(Nat.le_of_ble_eq_true rfl), (Nat.le_of_ble_eq_true rfl)⟩ dX8_matchKind_3 rfl rfl (Nat.le_of_ble_eq_true rfl) (Nat.zero_le _) (Nat.zero_le _) ?_
  refine ja_ifB_ne (tgt := 13) dX8_matchKind_6 (by decide) (fun c6 => absurd c6 (by decide)) (fun c6 => ?_)
  refine ja_iconst (v := nI 1) dX8_matchKind_9 (by decide +kernel) ?_
  refine ja_goto (tgt := 25) dX8_matchKind_10 (by decide) ?_
  refine ja_putI fl_X8_85 (zM_s hz) rfl rfl rfl dX8_matchKind_25 ?_
  refine ja_aload_n (i := 0) dX8_matchKind_28 rfl rfl ?_
  refine ja_getI fl_X8_85 (zM_s hz) rfl dX8_matchKind_29 ?_
  refine ja_top (y := nI (1)) up_s ?_
  refine ja_ifN_le (tgt := 37) dX8_matchKind_32 (by decide) (by omega) (fun c32 => absurd c32 (by decide)) (fun c32 => ?_)
  refine ja_iconst (v := nI 0) dX8_matchKind_35 (by decide +kernel) ?_
  refine ja_iret rfl (by decide +kernel) dX8_matchKind_36 (Nat.zero_le _) (Nat.zero_le _) ?_
  exact ⟨rfl, rfl, rfl⟩

set_option maxRecDepth 100000 in
set_option maxHeartbeats 4000000 in
theorem r_matchKind_f2 (l : Launch) {Z : jZ} {D : jD} (hz : zM Z) {l1 l2 : Nat} (h1 : l1 < 3) (h2 : l2 < 3) (h3 : l1 ≠ l2) {a : Int32} (ha : ¬ (nI 0 ≤ a ∧ a ≤ nI 9)) : ja_M l (mX8_matchKind 0 0) [.ref (100), .int (nI (l1)), .int (a), .int (nI (l2))] Z D (ja_jd (some (.int (nI 0))) Z (fun D2 => D2 = ja_up D 100 0 (nI 2))) ja_x0 := by
  refine ja_Mof (lv := [some (.ref (100)), some (.int (nI (l1))), some (.int (a)), some (.int (nI (l2))), none, none]) (by decide +kernel) rfl rfl (Nat.le_of_ble_eq_true rfl) rfl ?_
  refine ja_aload_n (i := 0) dX8_matchKind_0 rfl rfl ?_
  refine ja_iload_n (i := 1) dX8_matchKind_1 rfl rfl ?_
  refine ja_iload_n (i := 3) dX8_matchKind_2 rfl rfl ?_
  refine ja_cSr (st := [.ref (100)]) (s_areLayersT l (by omega) (by omega) (by omega)) rfl rfl (ce_X8_areLayers 0 0) st_X8_areLayers lk_X8_164 ⟨(Nat.le_of_ble_eq_true rfl), (Nat.le_of_ble_eq_true rfl)⟩ dX8_matchKind_3 rfl rfl (Nat.le_of_ble_eq_true rfl) (Nat.zero_le _) (Nat.zero_le _) ?_
  refine ja_ifB_ne (tgt := 13) dX8_matchKind_6 (by decide) (fun c6 => ?_) (fun c6 => absurd c6 (by decide))
  refine ja_iload_n (i := 2) dX8_matchKind_13 rfl rfl ?_
  refine ja_cSr (st := [.ref (100)]) (s_isAreaF l ha) rfl rfl (ce_X8_isArea 0 0) st_X8_isArea lk_X8_110 ⟨(Nat.le_of_ble_eq_true rfl), (Nat.le_of_ble_eq_true rfl)⟩ dX8_matchKind_14 rfl rfl (Nat.le_of_ble_eq_true rfl) (Nat.zero_le _) (Nat.zero_le _) ?_
  refine ja_ifB_ne (tgt := 24) dX8_matchKind_17 (by decide) (fun c17 => absurd c17 (by decide)) (fun c17 => ?_)
  refine ja_iconst (v := nI 2) dX8_matchKind_20 (by decide +kernel) ?_
  refine ja_goto (tgt := 25) dX8_matchKind_21 (by decide) ?_
  refine ja_putI fl_X8_85 (zM_s hz) rfl rfl rfl dX8_matchKind_25 ?_
  refine ja_aload_n (i := 0) dX8_matchKind_28 rfl rfl ?_
  refine ja_getI fl_X8_85 (zM_s hz) rfl dX8_matchKind_29 ?_
  refine ja_top (y := nI (2)) up_s ?_
  refine ja_ifN_le (tgt := 37) dX8_matchKind_32 (by decide) (by omega) (fun c32 => absurd c32 (by decide)) (fun c32 => ?_)
  refine ja_iconst (v := nI 0) dX8_matchKind_35 (by decide +kernel) ?_
  refine ja_iret rfl (by decide +kernel) dX8_matchKind_36 (Nat.zero_le _) (Nat.zero_le _) ?_
  exact ⟨rfl, rfl, rfl⟩

set_option maxRecDepth 100000 in
set_option maxHeartbeats 4000000 in
theorem r_matchKind_ok (l : Launch) {Z : jZ} {D : jD} (hz : zM Z) {l1 l2 : Nat} (h1 : l1 < 3) (h2 : l2 < 3) (h3 : l1 ≠ l2) {a : Nat} (h4 : a < 10) : ja_M l (mX8_matchKind 0 0) [.ref (100), .int (nI (l1)), .int (nI (a)), .int (nI (l2))] Z D (ja_jd (some (.int (mkV (D 105) l1 a l2 (bM (fun o => cCm (D 105) l1 (nI a) l2 (nI o) 256) 10)))) Z (fun D2 => D2 = ja_up D 100 0 (nI 0))) ja_x0 := by
  refine ja_Mof (lv := [some (.ref (100)), some (.int (nI (l1))), some (.int (nI (a))), some (.int (nI (l2))), none, none]) (by decide +kernel) rfl rfl (Nat.le_of_ble_eq_true rfl) rfl ?_
  refine ja_aload_n (i := 0) dX8_matchKind_0 rfl rfl ?_
  refine ja_iload_n (i := 1) dX8_matchKind_1 rfl rfl ?_
  refine ja_iload_n (i := 3) dX8_matchKind_2 rfl rfl ?_
  refine ja_cSr (st := [.ref (100)]) (s_areLayersT l (by omega) (by omega) (by omega)) rfl rfl (ce_X8_areLayers 0 0) st_X8_areLayers lk_X8_164 ⟨(Nat.le_of_ble_eq_true rfl), (Nat.le_of_ble_eq_true rfl)⟩ dX8_matchKind_3 rfl rfl (Nat.le_of_ble_eq_true rfl) (Nat.zero_le _) (Nat.zero_le _) ?_
  refine ja_ifB_ne (tgt := 13) dX8_matchKind_6 (by decide) (fun c6 => ?_) (fun c6 => absurd c6 (by decide))
  refine ja_iload_n (i := 2) dX8_matchKind_13 rfl rfl ?_
  refine ja_cSr (st := [.ref (100)]) (s_isAreaT l (by omega)) rfl rfl (ce_X8_isArea 0 0) st_X8_isArea lk_X8_110 ⟨(Nat.le_of_ble_eq_true rfl), (Nat.le_of_ble_eq_true rfl)⟩ dX8_matchKind_14 rfl rfl (Nat.le_of_ble_eq_true rfl) (Nat.zero_le _) (Nat.zero_le _) ?_
  refine ja_ifB_ne (tgt := 24) dX8_matchKind_17 (by decide) (fun c17 => ?_) (fun c17 => absurd c17 (by decide))
  refine ja_iconst (v := nI 0) dX8_matchKind_24 (by decide +kernel) ?_
  refine ja_putI fl_X8_85 (zM_s hz) rfl rfl rfl dX8_matchKind_25 ?_
  refine ja_aload_n (i := 0) dX8_matchKind_28 rfl rfl ?_
  refine ja_getI fl_X8_85 (zM_s hz) rfl dX8_matchKind_29 ?_
  refine ja_top (y := nI (0)) up_s ?_
  refine ja_ifN_le (tgt := 37) dX8_matchKind_32 (by decide) (by omega) (fun c32 => ?_) (fun c32 => absurd c32 (by decide))
  refine ja_aload_n (i := 0) dX8_matchKind_37 rfl rfl ?_
  refine ja_iload_n (i := 1) dX8_matchKind_38 rfl rfl ?_
  refine ja_iload_n (i := 2) dX8_matchKind_39 rfl rfl ?_
  refine ja_iload_n (i := 3) dX8_matchKind_40 rfl rfl ?_
  refine ja_cVr (st := []) (s_matched (D := (ja_up D 100 0 (nI (0)))) l hz (l1 := l1) (l2 := l2) (by omega) (by omega) (nI (a))) rfl rfl (ce_X8_matched 0 0) im_X8_matched se_X8_matched lk_X8_174 k_X8 (zM_s hz) ⟨(Nat.le_of_ble_eq_true rfl), (Nat.le_of_ble_eq_true rfl)⟩ dX8_matchKind_41 rfl rfl (Nat.le_of_ble_eq_true rfl) (Nat.zero_le _) (Nat.zero_le _) ?_
  refine ja_istore (i := 4) dX8_matchKind_44 rfl (Nat.le_of_ble_eq_true rfl) ?_
  rcases hg : bM (fun o => cCm ((ja_up D 100 0 (nI 0)) 105) l1 (nI a) l2 (nI o) 256) 10 with _ | b
  ·
    refine ja_iload (i := 4) dX8_matchKind_46 rfl ?_
    refine ja_iconst (v := (-1)) dX8_matchKind_48 (by decide +kernel) ?_
    refine ja_icmp_ne (tgt := 55) dX8_matchKind_49 (by decide) (fun c49 => absurd rfl c49) (fun c49 => ?_)
    refine ja_bipush (v := nI 110) dX8_matchKind_52 (by decide +kernel) ?_
    refine ja_iret rfl (by decide +kernel) dX8_matchKind_54 (Nat.zero_le _) (Nat.zero_le _) ?_
    have e : bM (fun o => cCm (D 105) l1 (nI a) l2 (nI o) 256) 10 = none := hg
    exact ⟨by rw [e]; rfl, rfl, rfl⟩
  ·
    have hb := (bM_lt hg).1
    refine ja_iload (i := 4) dX8_matchKind_46 rfl ?_
    refine ja_iconst (v := (-1)) dX8_matchKind_48 (by decide +kernel) ?_
    refine ja_icmp_ne (tgt := 55) dX8_matchKind_49 (by decide) (fun c49 => ?_) (fun c49 => absurd c49 (nI_nm1 (by omega)))
    have z1 := cSz_le ((ja_up D 100 0 (nI 0)) 105) l1 (nI a) 256
    have z2 := cSz_le ((ja_up D 100 0 (nI 0)) 105) l2 (nI b) 256
    have z3 := cCm_le ((ja_up D 100 0 (nI 0)) 105) l1 (nI a) l2 (nI b) 256
    refine ja_iconst (v := nI 2) dX8_matchKind_55 (by decide +kernel) ?_
    refine ja_aload_n (i := 0) dX8_matchKind_56 rfl rfl ?_
    refine ja_iload_n (i := 1) dX8_matchKind_57 rfl rfl ?_
    refine ja_iload_n (i := 2) dX8_matchKind_58 rfl rfl ?_
    refine ja_iload_n (i := 3) dX8_matchKind_59 rfl rfl ?_
    refine ja_iload (i := 4) dX8_matchKind_60 rfl ?_
    refine ja_cVr (st := [.int (nI (2))]) (s_common (D := (ja_up D 100 0 (nI (0)))) l hz (l1 := l1) (l2 := l2) (by omega) (by omega) (nI (a)) (nI (b))) rfl rfl (ce_X8_common 0 0) im_X8_common se_X8_common lk_X8_170 k_X8 (zM_s hz) ⟨(Nat.le_of_ble_eq_true rfl), (Nat.le_of_ble_eq_true rfl)⟩ dX8_matchKind_62 rfl rfl (Nat.le_of_ble_eq_true rfl) (Nat.zero_le _) (Nat.zero_le _) ?_
    refine ja_imulN dX8_matchKind_65 ?_
    refine ja_istore (i := 5) dX8_matchKind_66 rfl (Nat.le_of_ble_eq_true rfl) ?_
    refine ja_iload (i := 5) dX8_matchKind_68 rfl ?_
    refine ja_aload_n (i := 0) dX8_matchKind_70 rfl rfl ?_
    refine ja_iload_n (i := 1) dX8_matchKind_71 rfl rfl ?_
    refine ja_iload_n (i := 2) dX8_matchKind_72 rfl rfl ?_
    refine ja_cVr (st := [.int (nI ((2) * (cCm ((ja_up D 100 0 (nI (0))) 105) l1 (nI (a)) l2 (nI (b)) 256)))]) (s_sizeOf (D := (ja_up D 100 0 (nI (0)))) l hz (ly := l1) (by omega) (nI (a))) rfl rfl (ce_X8_sizeOf 0 0) im_X8_sizeOf se_X8_sizeOf lk_X8_103 k_X8 (zM_s hz) ⟨(Nat.le_of_ble_eq_true rfl), (Nat.le_of_ble_eq_true rfl)⟩ dX8_matchKind_73 rfl rfl (Nat.le_of_ble_eq_true rfl) (Nat.zero_le _) (Nat.zero_le _) ?_
    refine ja_icmpN_le (tgt := 96) dX8_matchKind_76 (by decide) (by omega) (by omega) (fun c76 => ?_) (fun c76 => ?_)
    ·
      refine ja_bipush (v := nI 100) dX8_matchKind_96 (by decide +kernel) ?_
      refine ja_iret rfl (by decide +kernel) dX8_matchKind_98 (Nat.zero_le _) (Nat.zero_le _) ?_
      have e : bM (fun o => cCm (D 105) l1 (nI a) l2 (nI o) 256) 10 = some b := hg
      exact ⟨by rw [e]; exact congrArg (fun x => some (Value.int x)) (if_neg (fun q => by first | exact absurd q.1 (by assumption) | exact absurd q.2 (by assumption) | (obtain ⟨q1, q2⟩ := q; exact absurd q1 (Nat.not_lt.mpr c76)) | (obtain ⟨q1, q2⟩ := q; exact absurd q2 (Nat.not_lt.mpr c88)))).symm, rfl, rfl⟩
    ·
      refine ja_iload (i := 5) dX8_matchKind_79 rfl ?_
      refine ja_aload_n (i := 0) dX8_matchKind_81 rfl rfl ?_
      refine ja_iload_n (i := 3) dX8_matchKind_82 rfl rfl ?_
      refine ja_iload (i := 4) dX8_matchKind_83 rfl ?_
      refine ja_cVr (st := [.int (nI ((2) * (cCm ((ja_up D 100 0 (nI (0))) 105) l1 (nI (a)) l2 (nI (b)) 256)))]) (s_sizeOf (D := (ja_up D 100 0 (nI (0)))) l hz (ly := l2) (by omega) (nI (b))) rfl rfl (ce_X8_sizeOf 0 0) im_X8_sizeOf se_X8_sizeOf lk_X8_103 k_X8 (zM_s hz) ⟨(Nat.le_of_ble_eq_true rfl), (Nat.le_of_ble_eq_true rfl)⟩ dX8_matchKind_85 rfl rfl (Nat.le_of_ble_eq_true rfl) (Nat.zero_le _) (Nat.zero_le _) ?_
      refine ja_icmpN_le (tgt := 96) dX8_matchKind_88 (by decide) (by omega) (by omega) (fun c88 => ?_) (fun c88 => ?_)
      ·
        refine ja_bipush (v := nI 100) dX8_matchKind_96 (by decide +kernel) ?_
        refine ja_iret rfl (by decide +kernel) dX8_matchKind_98 (Nat.zero_le _) (Nat.zero_le _) ?_
        have e : bM (fun o => cCm (D 105) l1 (nI a) l2 (nI o) 256) 10 = some b := hg
        exact ⟨by rw [e]; exact congrArg (fun x => some (Value.int x)) (if_neg (fun q => by first | exact absurd q.1 (by assumption) | exact absurd q.2 (by assumption) | (obtain ⟨q1, q2⟩ := q; exact absurd q1 (Nat.not_lt.mpr c76)) | (obtain ⟨q1, q2⟩ := q; exact absurd q2 (Nat.not_lt.mpr c88)))).symm, rfl, rfl⟩
      ·
        refine ja_bipush (v := nI 115) dX8_matchKind_91 (by decide +kernel) ?_
        refine ja_goto (tgt := 98) dX8_matchKind_93 (by decide) ?_
        refine ja_iret rfl (by decide +kernel) dX8_matchKind_98 (Nat.zero_le _) (Nat.zero_le _) ?_
        have e : bM (fun o => cCm (D 105) l1 (nI a) l2 (nI o) 256) 10 = some b := hg
        exact ⟨by rw [e]; exact congrArg (fun x => some (Value.int x)) (if_pos ⟨Nat.lt_of_not_le c76, Nat.lt_of_not_le c88⟩).symm, rfl, rfl⟩

/-- the rules that stand: of two layers each -/
def wfR (D : jD) (n : Nat) : Prop := ∀ r, r < n → ∃ fl sl, fl < 3 ∧ sl < 3 ∧ ¬ fl = sl ∧ D 115 r = nI fl ∧ D 116 r = nI sl ∧ (D 114 r = nI 105 ∨ D 114 r = nI 110 ∨ D 114 r = nI 97)
def nN (x : Int32) : Nat := x.toInt.toNat
theorem nN_nI {a : Nat} (h : a < 2 ^ 31) : nN (nI a) = a := by
  rw [nN, nI_toInt h]
  rfl
/-- how many squares break a rule -/
def brkR (D : jD) (r : Nat) : Nat := brk (D 105) (D 114 r) (nN (D 115 r)) (nN (D 116 r)) 256
theorem brkR_le (D : jD) (r : Nat) : brkR D r ≤ 768 := brk_le _ _ _ _ _
set_option maxRecDepth 100000 in
theorem s_brokenW (l : Launch) {Z : jZ} {D : jD} (hz : zM Z) {n r : Nat} (hw : wfR D n) (hn : n ≤ 6) (h : r < n) : ja_M l (mX8_brokenAt 0 0) [.ref 100, .int (nI r)] Z D (ja_jr (some (.int (nI (brkR D r)))) Z D) ja_x0 := by
  obtain ⟨fl, sl, h1, h2, -, h3, h4, -⟩ := hw r h
  have e := s_brokenAt l (Z := Z) (D := D) hz (r := r) (by omega) h3 h1 h4 h2 rfl
  rw [brkR, h3, h4, nN_nI (by omega), nN_nI (by omega)]
  exact e
/-- the rule that is broken least, of those below n that are -/
def lbk (g : Nat → Nat) : Nat → Option Nat
  | 0 => none
  | r + 1 => match lbk g r with
    | none => if 0 < g r then some r else none
    | some b => if 0 < g r ∧ g r < g b then some r else some b
theorem lbk_lt {g : Nat → Nat} : ∀ {r b : Nat}, lbk g r = some b → b < r
  | 0, b, h => by cases h
  | r + 1, b, h => by
    rw [lbk] at h
    split at h
    · split at h
      · cases h
        omega
      · cases h
    · next hx =>
      have := lbk_lt hx
      split at h
      · cases h
        omega
      · cases h
        omega

set_option maxRecDepth 100000 in
set_option maxHeartbeats 4000000 in
theorem r_broken_f1 (l : Launch) {Z : jZ} {D : jD} (hz : zM Z) {n : Nat} (hrn : D 100 12 = nI n) (hn6 : n ≤ 6) {k : Int32} (hk : ¬ (0 ≤ k.toInt ∧ k.toInt < n)) : ja_M l (mX8_broken 0 0) [.ref (100), .int (k)] Z D (ja_jd (some (.int (nI 0))) Z (fun D2 => D2 = ja_up D 100 0 (nI 1))) ja_x0 := by
  refine ja_Mof (lv := [some (.ref (100)), some (.int (k))]) (by decide +kernel) rfl rfl (Nat.le_of_ble_eq_true rfl) rfl ?_
  refine ja_aload_n (i := 0) dX8_broken_0 rfl rfl ?_
  refine ja_iconst (v := nI 0) dX8_broken_1 (by decide +kernel) ?_
  refine ja_putI fl_X8_85 (zM_s hz) rfl rfl rfl dX8_broken_2 ?_
  refine ja_aload_n (i := 0) dX8_broken_5 rfl rfl ?_
  refine ja_iload_n (i := 1) dX8_broken_6 rfl rfl ?_
  refine ja_cVr (st := []) (s_isRuleF (D := (ja_up D 100 0 (nI (0)))) l hz (hrn) (by omega) hk) rfl rfl (ce_X8_isRule 0 0) im_X8_isRule se_X8_isRule lk_X8_123 k_X8 (zM_s hz) ⟨(Nat.le_of_ble_eq_true rfl), (Nat.le_of_ble_eq_true rfl)⟩ dX8_broken_7 rfl rfl (Nat.le_of_ble_eq_true rfl) (Nat.zero_le _) (Nat.zero_le _) ?_
  refine ja_ifB_eq (tgt := 21) dX8_broken_10 (by decide) (fun c10 => ?_) (fun c10 => absurd c10 (by decide))
  refine ja_aload_n (i := 0) dX8_broken_21 rfl rfl ?_
  refine ja_iconst (v := nI 1) dX8_broken_22 (by decide +kernel) ?_
  refine ja_cVd (st := []) (s_fails l hz (nI (1))) rfl rfl (ce_X8_fails 0 0) im_X8_fails se_X8_fails lk_X8_96 k_X8 (zM_s hz) ⟨(Nat.le_of_ble_eq_true rfl), (Nat.le_of_ble_eq_true rfl)⟩ dX8_broken_23 rfl rfl (Nat.le_of_ble_eq_true rfl) (Nat.zero_le _) (Nat.zero_le _) ?_
  intro D23 hD23
  subst hD23
  refine ja_num (D2 := ja_up D 100 0 (nI (1))) up_2 ?_
  refine ja_iret rfl rfl dX8_broken_26 (Nat.zero_le _) (Nat.zero_le _) ?_
  exact ⟨rfl, rfl, rfl⟩

set_option maxRecDepth 100000 in
set_option maxHeartbeats 4000000 in
theorem r_broken_ok (l : Launch) {Z : jZ} {D : jD} (hz : zM Z) {n : Nat} (hrn : D 100 12 = nI n) (hn6 : n ≤ 6) (hw : wfR D n) {k : Nat} (hk : k < n) : ja_M l (mX8_broken 0 0) [.ref (100), .int (nI (k))] Z D (ja_jd (some (.int (nI (brkR D k)))) Z (fun D2 => D2 = ja_up D 100 0 (nI 0))) ja_x0 := by
  refine ja_Mof (lv := [some (.ref (100)), some (.int (nI (k)))]) (by decide +kernel) rfl rfl (Nat.le_of_ble_eq_true rfl) rfl ?_
  refine ja_aload_n (i := 0) dX8_broken_0 rfl rfl ?_
  refine ja_iconst (v := nI 0) dX8_broken_1 (by decide +kernel) ?_
  refine ja_putI fl_X8_85 (zM_s hz) rfl rfl rfl dX8_broken_2 ?_
  refine ja_aload_n (i := 0) dX8_broken_5 rfl rfl ?_
  refine ja_iload_n (i := 1) dX8_broken_6 rfl rfl ?_
  refine ja_cVr (st := []) (s_isRuleT (D := (ja_up D 100 0 (nI (0)))) l hz (hrn) (by omega) (by omega)) rfl rfl (ce_X8_isRule 0 0) im_X8_isRule se_X8_isRule lk_X8_123 k_X8 (zM_s hz) ⟨(Nat.le_of_ble_eq_true rfl), (Nat.le_of_ble_eq_true rfl)⟩ dX8_broken_7 rfl rfl (Nat.le_of_ble_eq_true rfl) (Nat.zero_le _) (Nat.zero_le _) ?_
  refine ja_ifB_eq (tgt := 21) dX8_broken_10 (by decide) (fun c10 => absurd c10 (by decide)) (fun c10 => ?_)
  refine ja_aload_n (i := 0) dX8_broken_13 rfl rfl ?_
  refine ja_iload_n (i := 1) dX8_broken_14 rfl rfl ?_
  refine ja_cVr (st := []) (s_brokenW (D := (ja_up D 100 0 (nI (0)))) l hz (n := n) hw hn6 (r := k) (by omega)) rfl rfl (ce_X8_brokenAt 0 0) im_X8_brokenAt se_X8_brokenAt lk_X8_126 k_X8 (zM_s hz) ⟨(Nat.le_of_ble_eq_true rfl), (Nat.le_of_ble_eq_true rfl)⟩ dX8_broken_15 rfl rfl (Nat.le_of_ble_eq_true rfl) (Nat.zero_le _) (Nat.zero_le _) ?_
  refine ja_goto (tgt := 26) dX8_broken_18 (by decide) ?_
  refine ja_iret rfl rfl dX8_broken_26 (Nat.zero_le _) (Nat.zero_le _) ?_
  exact ⟨rfl, rfl, rfl⟩

set_option maxRecDepth 100000 in
set_option maxHeartbeats 4000000 in
theorem r_leastBroken (l : Launch) {Z : jZ} {D : jD} (hz : zM Z) {n : Nat} (hrn : D 100 12 = nI n) (hn6 : n ≤ 6) (hw : wfR D n)  : ja_M l (mX8_leastBroken 0 0) [.ref (100)] Z D (ja_jd (some (.int (oN (lbk (brkR D) n)))) Z (fun D2 => D2 = ja_up D 100 0 (oC 1 (lbk (brkR D) n)))) ja_x0 := by
  refine ja_Mof (lv := [some (.ref (100)), none, none, none]) (by decide +kernel) rfl rfl (Nat.le_of_ble_eq_true rfl) rfl ?_
  refine ja_aload_n (i := 0) dX8_leastBroken_0 rfl rfl ?_
  refine ja_iconst (v := nI 0) dX8_leastBroken_1 (by decide +kernel) ?_
  refine ja_putI fl_X8_85 (zM_s hz) rfl rfl rfl dX8_leastBroken_2 ?_
  refine ja_iconst (v := (-1)) dX8_leastBroken_5 (by decide +kernel) ?_
  refine ja_istore_n (i := 1) dX8_leastBroken_6 rfl rfl (Nat.le_of_ble_eq_true rfl) ?_
  refine ja_iconst (v := nI 0) dX8_leastBroken_7 (by decide +kernel) ?_
  refine ja_istore_n (i := 2) dX8_leastBroken_8 rfl rfl (Nat.le_of_ble_eq_true rfl) ?_
  have lp9 : ∀ (k9 : Nat) (r : Nat) (b0 : Option Nat), (n < r + k9) → (r ≤ n) → (b0 = lbk (brkR (ja_up D 100 0 (nI 0))) r) → ja_A l (mX8_leastBroken 0 0) ja_sn (ja_Qf (mX8_leastBroken 0 0) (ja_jd (some (.int (oN (lbk (brkR D) n)))) Z (fun D2 => D2 = ja_up D 100 0 (oC 1 (lbk (brkR D) n)))) ja_x0) 9 [some (.ref (100)), some (.int (oI b0)), some (.int (nI (r))), none] [] Z (ja_up D 100 0 (nI (0))) 0 0 := by
    intro k9
    induction k9 with
    | zero => intro r b0 hk hr hb; exfalso; omega
    | succ k9 ih9 =>
      intro r b0 hk hr hb
      refine ja_iload_n (i := 2) dX8_leastBroken_9 rfl rfl ?_
      refine ja_aload_n (i := 0) dX8_leastBroken_10 rfl rfl ?_
      refine ja_getI fl_X8_120 (zM_s hz) rfl dX8_leastBroken_11 ?_
      refine ja_top (y := nI (n)) hrn ?_
      refine ja_icmpN_ge (tgt := 65) dX8_leastBroken_14 (by decide) (by omega) (by omega) (fun c14 => ?_) (fun c14 => ?_)
      ·
        rcases b0 with _ | b
        ·
          refine ja_iload_n (i := 1) dX8_leastBroken_65 rfl rfl ?_
          refine ja_iconst (v := (-1)) dX8_leastBroken_66 (by decide +kernel) ?_
          refine ja_icmp_ne (tgt := 78) dX8_leastBroken_67 (by decide) (fun c67 => absurd rfl c67) (fun c67 => ?_)
          refine ja_aload_n (i := 0) dX8_leastBroken_70 rfl rfl ?_
          refine ja_iconst (v := nI 1) dX8_leastBroken_71 (by decide +kernel) ?_
          refine ja_cVd (st := []) (s_fails l hz (nI (1))) rfl rfl (ce_X8_fails 0 0) im_X8_fails se_X8_fails lk_X8_96 k_X8 (zM_s hz) ⟨(Nat.le_of_ble_eq_true rfl), (Nat.le_of_ble_eq_true rfl)⟩ dX8_leastBroken_72 rfl rfl (Nat.le_of_ble_eq_true rfl) (Nat.zero_le _) (Nat.zero_le _) ?_
          intro D72 hD72
          subst hD72
          refine ja_num (D2 := ja_up D 100 0 (nI (1))) up_2 ?_
          refine ja_goto (tgt := 79) dX8_leastBroken_75 (by decide) ?_
          refine ja_iret rfl rfl dX8_leastBroken_79 (Nat.zero_le _) (Nat.zero_le _) ?_
          have e : lbk (brkR D) n = none := by rw [← show r = n by omega]; exact hb.symm
          exact ⟨by rw [e]; rfl, rfl, by rw [e]; rfl⟩
        ·
          have hbl := lbk_lt hb.symm
          refine ja_iload_n (i := 1) dX8_leastBroken_65 rfl rfl ?_
          refine ja_iconst (v := (-1)) dX8_leastBroken_66 (by decide +kernel) ?_
          refine ja_icmp_ne (tgt := 78) dX8_leastBroken_67 (by decide) (fun c67 => ?_) (fun c67 => absurd c67 (nI_nm1 (by omega)))
          refine ja_iload_n (i := 1) dX8_leastBroken_78 rfl rfl ?_
          refine ja_iret rfl rfl dX8_leastBroken_79 (Nat.zero_le _) (Nat.zero_le _) ?_
          have e : lbk (brkR D) n = some b := by rw [← show r = n by omega]; exact hb.symm
          exact ⟨by rw [e]; rfl, rfl, by rw [e]; rfl⟩
      ·
        have z1 := brkR_le (ja_up D 100 0 (nI 0)) r
        rcases b0 with _ | b
        ·
          refine ja_aload_n (i := 0) dX8_leastBroken_17 rfl rfl ?_
          refine ja_iload_n (i := 2) dX8_leastBroken_18 rfl rfl ?_
          refine ja_cVr (st := []) (s_brokenW (D := (ja_up D 100 0 (nI (0)))) l hz (n := n) hw hn6 (r := r) (by omega)) rfl rfl (ce_X8_brokenAt 0 0) im_X8_brokenAt se_X8_brokenAt lk_X8_126 k_X8 (zM_s hz) ⟨(Nat.le_of_ble_eq_true rfl), (Nat.le_of_ble_eq_true rfl)⟩ dX8_leastBroken_19 rfl rfl (Nat.le_of_ble_eq_true rfl) (Nat.zero_le _) (Nat.zero_le _) ?_
          refine ja_ifN_le (tgt := 47) dX8_leastBroken_22 (by decide) (by omega) (fun c22 => ?_) (fun c22 => ?_)
          ·
            refine ja_iconst (v := nI 0) dX8_leastBroken_47 (by decide +kernel) ?_
            refine ja_istore_n (i := 3) dX8_leastBroken_48 rfl rfl (Nat.le_of_ble_eq_true rfl) ?_
            refine ja_iload_n (i := 3) dX8_leastBroken_49 rfl rfl ?_
            refine ja_ifN_eq (tgt := 57) dX8_leastBroken_50 (by decide) (by omega) (fun c50 => ?_) (fun c50 => absurd c50 (by decide))
            refine ja_iload_n (i := 1) dX8_leastBroken_57 rfl rfl ?_
            refine ja_istore_n (i := 1) dX8_leastBroken_58 rfl rfl (Nat.le_of_ble_eq_true rfl) ?_
            refine ja_iincN dX8_leastBroken_59 rfl rfl (Nat.le_of_ble_eq_true rfl) ?_
            refine ja_goto (tgt := 9) dX8_leastBroken_62 (by decide) ?_
            refine ja_forget (i := 3) ?_
            exact ih9 (r + 1) none (by omega) (by omega) (by rw [lbk, ← hb]; simp only []; first | rw [if_pos (by omega)] | rw [if_neg (by omega)])
          ·
            refine ja_iload_n (i := 1) dX8_leastBroken_25 rfl rfl ?_
            refine ja_iconst (v := (-1)) dX8_leastBroken_26 (by decide +kernel) ?_
            refine ja_icmp_eq (tgt := 43) dX8_leastBroken_27 (by decide) (fun c27 => ?_) (fun c27 => absurd rfl c27)
            refine ja_iconst (v := nI 1) dX8_leastBroken_43 (by decide +kernel) ?_
            refine ja_goto (tgt := 48) dX8_leastBroken_44 (by decide) ?_
            refine ja_istore_n (i := 3) dX8_leastBroken_48 rfl rfl (Nat.le_of_ble_eq_true rfl) ?_
            refine ja_iload_n (i := 3) dX8_leastBroken_49 rfl rfl ?_
            refine ja_ifN_eq (tgt := 57) dX8_leastBroken_50 (by decide) (by omega) (fun c50 => absurd c50 (by decide)) (fun c50 => ?_)
            refine ja_iload_n (i := 2) dX8_leastBroken_53 rfl rfl ?_
            refine ja_goto (tgt := 58) dX8_leastBroken_54 (by decide) ?_
            refine ja_istore_n (i := 1) dX8_leastBroken_58 rfl rfl (Nat.le_of_ble_eq_true rfl) ?_
            refine ja_iincN dX8_leastBroken_59 rfl rfl (Nat.le_of_ble_eq_true rfl) ?_
            refine ja_goto (tgt := 9) dX8_leastBroken_62 (by decide) ?_
            refine ja_forget (i := 3) ?_
            exact ih9 (r + 1) (some r) (by omega) (by omega) (by rw [lbk, ← hb]; simp only []; first | rw [if_pos (by omega)] | rw [if_neg (by omega)])
        ·
          have hbl := lbk_lt hb.symm
          have z2 := brkR_le (ja_up D 100 0 (nI 0)) b
          refine ja_aload_n (i := 0) dX8_leastBroken_17 rfl rfl ?_
          refine ja_iload_n (i := 2) dX8_leastBroken_18 rfl rfl ?_
          refine ja_cVr (st := []) (s_brokenW (D := (ja_up D 100 0 (nI (0)))) l hz (n := n) hw hn6 (r := r) (by omega)) rfl rfl (ce_X8_brokenAt 0 0) im_X8_brokenAt se_X8_brokenAt lk_X8_126 k_X8 (zM_s hz) ⟨(Nat.le_of_ble_eq_true rfl), (Nat.le_of_ble_eq_true rfl)⟩ dX8_leastBroken_19 rfl rfl (Nat.le_of_ble_eq_true rfl) (Nat.zero_le _) (Nat.zero_le _) ?_
          refine ja_ifN_le (tgt := 47) dX8_leastBroken_22 (by decide) (by omega) (fun c22 => ?_) (fun c22 => ?_)
          ·
            refine ja_iconst (v := nI 0) dX8_leastBroken_47 (by decide +kernel) ?_
            refine ja_istore_n (i := 3) dX8_leastBroken_48 rfl rfl (Nat.le_of_ble_eq_true rfl) ?_
            refine ja_iload_n (i := 3) dX8_leastBroken_49 rfl rfl ?_
            refine ja_ifN_eq (tgt := 57) dX8_leastBroken_50 (by decide) (by omega) (fun c50 => ?_) (fun c50 => absurd c50 (by decide))
            refine ja_iload_n (i := 1) dX8_leastBroken_57 rfl rfl ?_
            refine ja_istore_n (i := 1) dX8_leastBroken_58 rfl rfl (Nat.le_of_ble_eq_true rfl) ?_
            refine ja_iincN dX8_leastBroken_59 rfl rfl (Nat.le_of_ble_eq_true rfl) ?_
            refine ja_goto (tgt := 9) dX8_leastBroken_62 (by decide) ?_
            refine ja_forget (i := 3) ?_
            exact ih9 (r + 1) (some b) (by omega) (by omega) (by rw [lbk, ← hb]; simp only []; first | rw [if_pos (by omega)] | rw [if_neg (by omega)])
          ·
            refine ja_iload_n (i := 1) dX8_leastBroken_25 rfl rfl ?_
            refine ja_iconst (v := (-1)) dX8_leastBroken_26 (by decide +kernel) ?_
            refine ja_icmp_eq (tgt := 43) dX8_leastBroken_27 (by decide) (fun c27 => absurd c27 (nI_nm1 (by omega))) (fun c27 => ?_)
            refine ja_aload_n (i := 0) dX8_leastBroken_30 rfl rfl ?_
            refine ja_iload_n (i := 2) dX8_leastBroken_31 rfl rfl ?_
            refine ja_cVr (st := []) (s_brokenW (D := (ja_up D 100 0 (nI (0)))) l hz (n := n) hw hn6 (r := r) (by omega)) rfl rfl (ce_X8_brokenAt 0 0) im_X8_brokenAt se_X8_brokenAt lk_X8_126 k_X8 (zM_s hz) ⟨(Nat.le_of_ble_eq_true rfl), (Nat.le_of_ble_eq_true rfl)⟩ dX8_leastBroken_32 rfl rfl (Nat.le_of_ble_eq_true rfl) (Nat.zero_le _) (Nat.zero_le _) ?_
            refine ja_aload_n (i := 0) dX8_leastBroken_35 rfl rfl ?_
            refine ja_iload_n (i := 1) dX8_leastBroken_36 rfl rfl ?_
            refine ja_cVr (st := [.int (nI (brkR (ja_up D 100 0 (nI (0))) r))]) (s_brokenW (D := (ja_up D 100 0 (nI (0)))) l hz (n := n) hw hn6 (r := b) (by omega)) rfl rfl (ce_X8_brokenAt 0 0) im_X8_brokenAt se_X8_brokenAt lk_X8_126 k_X8 (zM_s hz) ⟨(Nat.le_of_ble_eq_true rfl), (Nat.le_of_ble_eq_true rfl)⟩ dX8_leastBroken_37 rfl rfl (Nat.le_of_ble_eq_true rfl) (Nat.zero_le _) (Nat.zero_le _) ?_
            refine ja_icmpN_ge (tgt := 47) dX8_leastBroken_40 (by decide) (by omega) (by omega) (fun c40 => ?_) (fun c40 => ?_)
            ·
              refine ja_iconst (v := nI 0) dX8_leastBroken_47 (by decide +kernel) ?_
              refine ja_istore_n (i := 3) dX8_leastBroken_48 rfl rfl (Nat.le_of_ble_eq_true rfl) ?_
              refine ja_iload_n (i := 3) dX8_leastBroken_49 rfl rfl ?_
              refine ja_ifN_eq (tgt := 57) dX8_leastBroken_50 (by decide) (by omega) (fun c50 => ?_) (fun c50 => absurd c50 (by decide))
              refine ja_iload_n (i := 1) dX8_leastBroken_57 rfl rfl ?_
              refine ja_istore_n (i := 1) dX8_leastBroken_58 rfl rfl (Nat.le_of_ble_eq_true rfl) ?_
              refine ja_iincN dX8_leastBroken_59 rfl rfl (Nat.le_of_ble_eq_true rfl) ?_
              refine ja_goto (tgt := 9) dX8_leastBroken_62 (by decide) ?_
              refine ja_forget (i := 3) ?_
              exact ih9 (r + 1) (some b) (by omega) (by omega) (by rw [lbk, ← hb]; simp only []; first | rw [if_pos (by omega)] | rw [if_neg (by omega)])
            ·
              refine ja_iconst (v := nI 1) dX8_leastBroken_43 (by decide +kernel) ?_
              refine ja_goto (tgt := 48) dX8_leastBroken_44 (by decide) ?_
              refine ja_istore_n (i := 3) dX8_leastBroken_48 rfl rfl (Nat.le_of_ble_eq_true rfl) ?_
              refine ja_iload_n (i := 3) dX8_leastBroken_49 rfl rfl ?_
              refine ja_ifN_eq (tgt := 57) dX8_leastBroken_50 (by decide) (by omega) (fun c50 => absurd c50 (by decide)) (fun c50 => ?_)
              refine ja_iload_n (i := 2) dX8_leastBroken_53 rfl rfl ?_
              refine ja_goto (tgt := 58) dX8_leastBroken_54 (by decide) ?_
              refine ja_istore_n (i := 1) dX8_leastBroken_58 rfl rfl (Nat.le_of_ble_eq_true rfl) ?_
              refine ja_iincN dX8_leastBroken_59 rfl rfl (Nat.le_of_ble_eq_true rfl) ?_
              refine ja_goto (tgt := 9) dX8_leastBroken_62 (by decide) ?_
              refine ja_forget (i := 3) ?_
              exact ih9 (r + 1) (some r) (by omega) (by omega) (by rw [lbk, ← hb]; simp only []; first | rw [if_pos (by omega)] | rw [if_neg (by omega)])
  exact lp9 (n + 1) 0 none (by omega) (by omega) rfl

set_option maxRecDepth 100000 in
set_option maxHeartbeats 4000000 in
theorem r_conflicts_f1 (l : Launch) {Z : jZ} {D : jD} (hz : zM Z) {vn : Nat} (hvn : D 100 16 = nI vn) (hv3 : vn ≤ 3) {k : Int32} (hk : ¬ (0 ≤ k.toInt ∧ k.toInt < vn)) : ja_M l (mX8_conflicts 0 0) [.ref (100), .int (k)] Z D (ja_jd (some (.int (nI 0))) Z (fun D2 => D2 = ja_up D 100 0 (nI 1))) ja_x0 := by
  refine ja_Mof (lv := [some (.ref (100)), some (.int (k)), none, none]) (by decide +kernel) rfl rfl (Nat.le_of_ble_eq_true rfl) rfl ?_
  refine ja_aload_n (i := 0) dX8_conflicts_0 rfl rfl ?_
  refine ja_iconst (v := nI 0) dX8_conflicts_1 (by decide +kernel) ?_
  refine ja_putI fl_X8_85 (zM_s hz) rfl rfl rfl dX8_conflicts_2 ?_
  refine ja_aload_n (i := 0) dX8_conflicts_5 rfl rfl ?_
  refine ja_iload_n (i := 1) dX8_conflicts_6 rfl rfl ?_
  refine ja_cVr (st := []) (s_isVersionF (D := (ja_up D 100 0 (nI (0)))) l hz (hvn) (by omega) hk) rfl rfl (ce_X8_isVersion 0 0) im_X8_isVersion se_X8_isVersion lk_X8_154 k_X8 (zM_s hz) ⟨(Nat.le_of_ble_eq_true rfl), (Nat.le_of_ble_eq_true rfl)⟩ dX8_conflicts_7 rfl rfl (Nat.le_of_ble_eq_true rfl) (Nat.zero_le _) (Nat.zero_le _) ?_
  refine ja_ifB_ne (tgt := 19) dX8_conflicts_10 (by decide) (fun c10 => absurd c10 (by decide)) (fun c10 => ?_)
  refine ja_aload_n (i := 0) dX8_conflicts_13 rfl rfl ?_
  refine ja_iconst (v := nI 1) dX8_conflicts_14 (by decide +kernel) ?_
  refine ja_cVd (st := []) (s_fails l hz (nI (1))) rfl rfl (ce_X8_fails 0 0) im_X8_fails se_X8_fails lk_X8_96 k_X8 (zM_s hz) ⟨(Nat.le_of_ble_eq_true rfl), (Nat.le_of_ble_eq_true rfl)⟩ dX8_conflicts_15 rfl rfl (Nat.le_of_ble_eq_true rfl) (Nat.zero_le _) (Nat.zero_le _) ?_
  intro D15 hD15
  subst hD15
  refine ja_num (D2 := ja_up D 100 0 (nI (1))) up_2 ?_
  refine ja_iret rfl rfl dX8_conflicts_18 (Nat.zero_le _) (Nat.zero_le _) ?_
  exact ⟨rfl, rfl, rfl⟩

set_option maxRecDepth 100000 in
set_option maxHeartbeats 4000000 in
theorem r_conflicts_ok (l : Launch) {Z : jZ} {D : jD} (hz : zM Z) {vn : Nat} (hvn : D 100 16 = nI vn) (hv3 : vn ≤ 3) {v ly : Nat} (hv : v < vn) (hly : D 118 v = nI ly) (h1 : ly < 3) : ja_M l (mX8_conflicts 0 0) [.ref (100), .int (nI (v))] Z D (ja_jd (some (.int (nI (fb_ct (cfl D v ly) 256)))) Z (fun D2 => D2 = ja_up D 100 0 (nI 0))) ja_x0 := by
  refine ja_Mof (lv := [some (.ref (100)), some (.int (nI (v))), none, none]) (by decide +kernel) rfl rfl (Nat.le_of_ble_eq_true rfl) rfl ?_
  refine ja_aload_n (i := 0) dX8_conflicts_0 rfl rfl ?_
  refine ja_iconst (v := nI 0) dX8_conflicts_1 (by decide +kernel) ?_
  refine ja_putI fl_X8_85 (zM_s hz) rfl rfl rfl dX8_conflicts_2 ?_
  refine ja_aload_n (i := 0) dX8_conflicts_5 rfl rfl ?_
  refine ja_iload_n (i := 1) dX8_conflicts_6 rfl rfl ?_
  refine ja_cVr (st := []) (s_isVersionT (D := (ja_up D 100 0 (nI (0)))) l hz (hvn) (by omega) (by omega)) rfl rfl (ce_X8_isVersion 0 0) im_X8_isVersion se_X8_isVersion lk_X8_154 k_X8 (zM_s hz) ⟨(Nat.le_of_ble_eq_true rfl), (Nat.le_of_ble_eq_true rfl)⟩ dX8_conflicts_7 rfl rfl (Nat.le_of_ble_eq_true rfl) (Nat.zero_le _) (Nat.zero_le _) ?_
  refine ja_ifB_ne (tgt := 19) dX8_conflicts_10 (by decide) (fun c10 => ?_) (fun c10 => absurd c10 (by decide))
  refine ja_iconst (v := nI 0) dX8_conflicts_19 (by decide +kernel) ?_
  refine ja_istore_n (i := 2) dX8_conflicts_20 rfl rfl (Nat.le_of_ble_eq_true rfl) ?_
  refine ja_iconst (v := nI 0) dX8_conflicts_21 (by decide +kernel) ?_
  refine ja_istore_n (i := 3) dX8_conflicts_22 rfl rfl (Nat.le_of_ble_eq_true rfl) ?_
  have lp23 : ∀ (k23 : Nat) (q n : Nat), (256 < q + k23) → (q ≤ 256) → (n = fb_ct (cfl (ja_up D 100 0 (nI 0)) v ly) q) → ja_A l (mX8_conflicts 0 0) ja_sn (ja_Qf (mX8_conflicts 0 0) (ja_jd (some (.int (nI (fb_ct (cfl D v ly) 256)))) Z (fun D2 => D2 = ja_up D 100 0 (nI 0))) ja_x0) 23 [some (.ref (100)), some (.int (nI (v))), some (.int (nI (n))), some (.int (nI (q)))] [] Z (ja_up D 100 0 (nI (0))) 0 0 := by
    intro k23
    induction k23 with
    | zero => intro q n hk hq hn; exfalso; omega
    | succ k23 ih23 =>
      intro q n hk hq hn
      refine ja_iload_n (i := 3) dX8_conflicts_23 rfl rfl ?_
      refine ja_sipush (v := nI 256) dX8_conflicts_24 (by decide +kernel) ?_
      refine ja_icmpN_ge (tgt := 53) dX8_conflicts_27 (by decide) (by omega) (by omega) (fun c27 => ?_) (fun c27 => ?_)
      ·
        refine ja_iload_n (i := 2) dX8_conflicts_53 rfl rfl ?_
        refine ja_iret rfl rfl dX8_conflicts_54 (Nat.zero_le _) (Nat.zero_le _) ?_
        refine ⟨?_, rfl, rfl⟩
        rw [hn, show q = 256 by omega]
        rfl
      ·
        refine ja_iload_n (i := 2) dX8_conflicts_30 rfl rfl ?_
        refine ja_aload_n (i := 0) dX8_conflicts_31 rfl rfl ?_
        refine ja_iload_n (i := 1) dX8_conflicts_32 rfl rfl ?_
        refine ja_iload_n (i := 3) dX8_conflicts_33 rfl rfl ?_
        refine ja_cVr (st := [.int (nI (n))]) (s_isConflict (D := (ja_up D 100 0 (nI (0)))) l hz (v := v) (ly := ly) (q := q) (by omega) hly h1 (by omega)) rfl rfl (ce_X8_isConflict 0 0) im_X8_isConflict se_X8_isConflict lk_X8_157 k_X8 (zM_s hz) ⟨(Nat.le_of_ble_eq_true rfl), (Nat.le_of_ble_eq_true rfl)⟩ dX8_conflicts_34 rfl rfl (Nat.le_of_ble_eq_true rfl) (Nat.zero_le _) (Nat.zero_le _) ?_
        refine ja_ifB_eq (tgt := 44) dX8_conflicts_37 (by decide) (fun c37 => ?_) (fun c37 => ?_)
        ·
          refine ja_iconst (v := nI 0) dX8_conflicts_44 (by decide +kernel) ?_
          refine ja_iaddN dX8_conflicts_45 ?_
          refine ja_istore_n (i := 2) dX8_conflicts_46 rfl rfl (Nat.le_of_ble_eq_true rfl) ?_
          refine ja_iincN dX8_conflicts_47 rfl rfl (Nat.le_of_ble_eq_true rfl) ?_
          refine ja_goto (tgt := 23) dX8_conflicts_50 (by decide) ?_
          exact ih23 (q + 1) _ (by omega) (by omega) (by rw [hn, fb_ct_succ]; simp [c37])
        ·
          refine ja_iconst (v := nI 1) dX8_conflicts_40 (by decide +kernel) ?_
          refine ja_goto (tgt := 45) dX8_conflicts_41 (by decide) ?_
          refine ja_iaddN dX8_conflicts_45 ?_
          refine ja_istore_n (i := 2) dX8_conflicts_46 rfl rfl (Nat.le_of_ble_eq_true rfl) ?_
          refine ja_iincN dX8_conflicts_47 rfl rfl (Nat.le_of_ble_eq_true rfl) ?_
          refine ja_goto (tgt := 23) dX8_conflicts_50 (by decide) ?_
          exact ih23 (q + 1) _ (by omega) (by omega) (by rw [hn, fb_ct_succ]; simp [c37])
  exact lp23 257 0 0 (by omega) (by omega) rfl

set_option maxRecDepth 100000 in
set_option maxHeartbeats 4000000 in
theorem r_isSound (l : Launch) {Z : jZ} {D : jD} (hz : zM Z)  : ja_M l (mX8_isSound 0 0) [.ref (100)] Z D (ja_jd (some (.int (bI true))) Z (fun D2 => D2 = ja_up D 100 0 (nI 0))) ja_x0 := by
  refine ja_Mof (lv := [some (.ref (100))]) (by decide +kernel) rfl rfl (Nat.le_of_ble_eq_true rfl) rfl ?_
  refine ja_aload_n (i := 0) dX8_isSound_0 rfl rfl ?_
  refine ja_iconst (v := nI 0) dX8_isSound_1 (by decide +kernel) ?_
  refine ja_putI fl_X8_85 (zM_s hz) rfl rfl rfl dX8_isSound_2 ?_
  refine ja_iconst (v := nI 1) dX8_isSound_5 (by decide +kernel) ?_
  refine ja_iret rfl (by decide +kernel) dX8_isSound_6 (Nat.zero_le _) (Nat.zero_le _) ?_
  exact ⟨rfl, rfl, rfl⟩
