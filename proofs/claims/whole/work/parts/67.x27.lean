/-! THE CLASS: its calls, 1 -/
theorem stU_id {D : jD} {t : Nat → Nat} (h : ∀ k, k < 256 → D 12 k = nI (t k)) : stU D t = D := by
  funext a b
  unfold stU fnU
  split
  · next e => rw [e.1]; exact (h b e.2).symm
  · rfl
theorem c_measureD (l : Launch) {Z : jZ} {D : jD} (hx : zX Z) {ly : Nat} (h1 : ly < 3) {a : Int32} {t0 : Nat → Nat} (hT0 : sT t0) (hst : ∀ k, k < 256 → D 12 k = nI (t0 k)) : ja_M l (mX5_measure 0 0) [.ref 11, .ref (30 + 10 * ly), .int a] Z D (ja_jd none Z (fun D2 => ∃ t, D2 = stU D t ∧ stpOK (D (31 + 10 * ly)) a t)) ja_x0 := by
  have h := c_measure l (Z := Z) (D := D) hx h1 (a := a) hT0
  rw [stU_id hst] at h
  exact h

set_option maxRecDepth 100000 in
set_option maxHeartbeats 4000000 in
theorem c_areaAt_f1 (l : Launch) {Z : jZ} {D : jD} (hx : zX Z) {ly : Int32} (q : Int32) (hl : ¬ (nI 0 ≤ ly ∧ ly ≤ nI 2))  : ja_M l (mX7_areaAt 1 6) [.ref (0), .int (ly), .int (q)] Z D ja_r0 (ja_jx "java/lang/IndexOutOfBoundsException" Z D) := by
  refine ja_Mof (lv := [some (.ref (0)), some (.int (ly)), some (.int (q)), none]) (by decide +kernel) rfl rfl (Nat.le_of_ble_eq_true rfl) rfl ?_
  refine ja_aload_n (i := 0) dX7_areaAt_0 rfl rfl ?_
  refine ja_iload_n (i := 1) dX7_areaAt_1 rfl rfl ?_
  refine ja_cVx (st := []) (c_layerOf_x (D := D) l hx hl) (ce_X7_layerOf 1 6) im_X7_layerOf se_X7_layerOf lk_X7_93 k_X7 (zX_o0 hx) ⟨(Nat.le_of_ble_eq_true rfl), (Nat.le_of_ble_eq_true rfl)⟩ dX7_areaAt_2 rfl rfl (Nat.le_of_ble_eq_true rfl) (Nat.le_of_ble_eq_true rfl) (Nat.le_of_ble_eq_true rfl) ?_
  refine ja_out rfl (Nat.le_of_ble_eq_true rfl) (Nat.le_of_ble_eq_true rfl) ?_
  exact ⟨rfl, rfl, rfl⟩

set_option maxRecDepth 100000 in
set_option maxHeartbeats 4000000 in
theorem c_areaAt_f1b (l : Launch) {Z : jZ} {D : jD} (hx : zX Z) {ly : Nat} (h1 : ly < 3) {q : Int32} (hq : ¬ (nI 0 ≤ q ∧ q ≤ nI 255)) : ja_M l (mX7_areaAt 1 6) [.ref (0), .int (nI (ly)), .int (q)] Z D ja_r0 (ja_jx "java/lang/IndexOutOfBoundsException" Z D) := by
  refine ja_Mof (lv := [some (.ref (0)), some (.int (nI (ly))), some (.int (q)), none]) (by decide +kernel) rfl rfl (Nat.le_of_ble_eq_true rfl) rfl ?_
  refine ja_aload_n (i := 0) dX7_areaAt_0 rfl rfl ?_
  refine ja_iload_n (i := 1) dX7_areaAt_1 rfl rfl ?_
  refine ja_cVr (st := []) (c_layerOf (D := D) l hx (ly := ly) (by omega)) rfl rfl (ce_X7_layerOf 0 0) im_X7_layerOf se_X7_layerOf lk_X7_93 k_X7 (zX_o0 hx) ⟨(Nat.le_of_ble_eq_true rfl), (Nat.le_of_ble_eq_true rfl)⟩ dX7_areaAt_2 rfl rfl (Nat.le_of_ble_eq_true rfl) (Nat.zero_le _) (Nat.zero_le _) ?_
  refine ja_astore_n (i := 3) dX7_areaAt_5 rfl rfl (Nat.le_of_ble_eq_true rfl) ?_
  refine ja_iload_n (i := 2) dX7_areaAt_6 rfl rfl ?_
  refine ja_cSx (st := []) (c_needSquare_x (D := D) l hq) (ce_X7_needSquare 1 6) st_X7_needSquare lk_X7_178 ⟨(Nat.le_of_ble_eq_true rfl), (Nat.le_of_ble_eq_true rfl)⟩ dX7_areaAt_7 rfl rfl (Nat.le_of_ble_eq_true rfl) (Nat.le_of_ble_eq_true rfl) (Nat.le_of_ble_eq_true rfl) ?_
  refine ja_out rfl (Nat.le_of_ble_eq_true rfl) (Nat.le_of_ble_eq_true rfl) ?_
  exact ⟨rfl, rfl, rfl⟩

set_option maxRecDepth 100000 in
set_option maxHeartbeats 4000000 in
theorem c_areaAt_ok (l : Launch) {Z : jZ} {D : jD} (hx : zX Z) {ly : Nat} (h1 : ly < 3) {q : Nat} (h2 : q < 256) : ja_M l (mX7_areaAt 0 0) [.ref (0), .int (nI (ly)), .int (nI (q))] Z D (ja_jr (some (.int (D (31 + 10 * ly) q))) Z D) ja_x0 := by
  refine ja_Mof (lv := [some (.ref (0)), some (.int (nI (ly))), some (.int (nI (q))), none]) (by decide +kernel) rfl rfl (Nat.le_of_ble_eq_true rfl) rfl ?_
  refine ja_aload_n (i := 0) dX7_areaAt_0 rfl rfl ?_
  refine ja_iload_n (i := 1) dX7_areaAt_1 rfl rfl ?_
  refine ja_cVr (st := []) (c_layerOf (D := D) l hx (ly := ly) (by omega)) rfl rfl (ce_X7_layerOf 0 0) im_X7_layerOf se_X7_layerOf lk_X7_93 k_X7 (zX_o0 hx) ⟨(Nat.le_of_ble_eq_true rfl), (Nat.le_of_ble_eq_true rfl)⟩ dX7_areaAt_2 rfl rfl (Nat.le_of_ble_eq_true rfl) (Nat.zero_le _) (Nat.zero_le _) ?_
  refine ja_astore_n (i := 3) dX7_areaAt_5 rfl rfl (Nat.le_of_ble_eq_true rfl) ?_
  refine ja_iload_n (i := 2) dX7_areaAt_6 rfl rfl ?_
  refine ja_cSr0 (st := []) (c_needSquare (D := D) l (q := q) (by omega)) rfl rfl (ce_X7_needSquare 0 0) st_X7_needSquare lk_X7_178 ⟨(Nat.le_of_ble_eq_true rfl), (Nat.le_of_ble_eq_true rfl)⟩ dX7_areaAt_7 rfl rfl (Nat.le_of_ble_eq_true rfl) (Nat.zero_le _) (Nat.zero_le _) ?_
  refine ja_aload_n (i := 3) dX7_areaAt_10 rfl rfl ?_
  refine ja_getR fl_X7_135 (zL_o hx (l := ly) (by omega)) rfl (zL_p0 hx (l := ly) (by omega)) dX7_areaAt_11 ?_
  refine ja_iload_n (i := 2) dX7_areaAt_14 rfl rfl ?_
  refine ja_iald (zL_a0 hx (l := ly) (by omega)) rfl (by omega) (by decide) dX7_areaAt_15 ?_
  refine ja_iret rfl rfl dX7_areaAt_16 (Nat.zero_le _) (Nat.zero_le _) ?_
  exact ⟨rfl, rfl, rfl⟩

set_option maxRecDepth 100000 in
set_option maxHeartbeats 4000000 in
theorem c_areaThen_f1 (l : Launch) {Z : jZ} {D : jD} (hx : zX Z) {ly : Int32} (q t : Int32) (hl : ¬ (nI 0 ≤ ly ∧ ly ≤ nI 2))  : ja_M l (mX7_areaThen 1 6) [.ref (0), .int (ly), .int (q), .int (t)] Z D ja_r0 (ja_jx "java/lang/IndexOutOfBoundsException" Z D) := by
  refine ja_Mof (lv := [some (.ref (0)), some (.int (ly)), some (.int (q)), some (.int (t)), none]) (by decide +kernel) rfl rfl (Nat.le_of_ble_eq_true rfl) rfl ?_
  refine ja_aload_n (i := 0) dX7_areaThen_0 rfl rfl ?_
  refine ja_iload_n (i := 1) dX7_areaThen_1 rfl rfl ?_
  refine ja_cVx (st := []) (c_layerOf_x (D := D) l hx hl) (ce_X7_layerOf 1 6) im_X7_layerOf se_X7_layerOf lk_X7_93 k_X7 (zX_o0 hx) ⟨(Nat.le_of_ble_eq_true rfl), (Nat.le_of_ble_eq_true rfl)⟩ dX7_areaThen_2 rfl rfl (Nat.le_of_ble_eq_true rfl) (Nat.le_of_ble_eq_true rfl) (Nat.le_of_ble_eq_true rfl) ?_
  refine ja_out rfl (Nat.le_of_ble_eq_true rfl) (Nat.le_of_ble_eq_true rfl) ?_
  exact ⟨rfl, rfl, rfl⟩

set_option maxRecDepth 100000 in
set_option maxHeartbeats 4000000 in
theorem c_areaThen_f1b (l : Launch) {Z : jZ} {D : jD} (hx : zX Z) {ly : Nat} (h1 : ly < 3) {q : Int32} (t : Int32) (hq : ¬ (nI 0 ≤ q ∧ q ≤ nI 255)) : ja_M l (mX7_areaThen 1 6) [.ref (0), .int (nI (ly)), .int (q), .int (t)] Z D ja_r0 (ja_jx "java/lang/IndexOutOfBoundsException" Z D) := by
  refine ja_Mof (lv := [some (.ref (0)), some (.int (nI (ly))), some (.int (q)), some (.int (t)), none]) (by decide +kernel) rfl rfl (Nat.le_of_ble_eq_true rfl) rfl ?_
  refine ja_aload_n (i := 0) dX7_areaThen_0 rfl rfl ?_
  refine ja_iload_n (i := 1) dX7_areaThen_1 rfl rfl ?_
  refine ja_cVr (st := []) (c_layerOf (D := D) l hx (ly := ly) (by omega)) rfl rfl (ce_X7_layerOf 0 0) im_X7_layerOf se_X7_layerOf lk_X7_93 k_X7 (zX_o0 hx) ⟨(Nat.le_of_ble_eq_true rfl), (Nat.le_of_ble_eq_true rfl)⟩ dX7_areaThen_2 rfl rfl (Nat.le_of_ble_eq_true rfl) (Nat.zero_le _) (Nat.zero_le _) ?_
  refine ja_astore (i := 4) dX7_areaThen_5 rfl (Nat.le_of_ble_eq_true rfl) ?_
  refine ja_iload_n (i := 2) dX7_areaThen_7 rfl rfl ?_
  refine ja_cSx (st := []) (c_needSquare_x (D := D) l hq) (ce_X7_needSquare 1 6) st_X7_needSquare lk_X7_178 ⟨(Nat.le_of_ble_eq_true rfl), (Nat.le_of_ble_eq_true rfl)⟩ dX7_areaThen_8 rfl rfl (Nat.le_of_ble_eq_true rfl) (Nat.le_of_ble_eq_true rfl) (Nat.le_of_ble_eq_true rfl) ?_
  refine ja_out rfl (Nat.le_of_ble_eq_true rfl) (Nat.le_of_ble_eq_true rfl) ?_
  exact ⟨rfl, rfl, rfl⟩

set_option maxRecDepth 100000 in
set_option maxHeartbeats 4000000 in
theorem c_areaThen_f2 (l : Launch) {Z : jZ} {D : jD} (hx : zX Z) {tn : Nat} (hnow : D 0 6 = nI tn) (htn : tn ≤ 40) {ly : Nat} (h1 : ly < 3) {q : Nat} (h2 : q < 256) {t : Int32} (hb : ¬ (nI 0 ≤ t ∧ t ≤ nI tn)) : ja_M l (mX7_areaThen 1 6) [.ref (0), .int (nI (ly)), .int (nI (q)), .int (t)] Z D ja_r0 (ja_jx "java/lang/IllegalArgumentException" Z D) := by
  refine ja_Mof (lv := [some (.ref (0)), some (.int (nI (ly))), some (.int (nI (q))), some (.int (t)), none]) (by decide +kernel) rfl rfl (Nat.le_of_ble_eq_true rfl) rfl ?_
  refine ja_aload_n (i := 0) dX7_areaThen_0 rfl rfl ?_
  refine ja_iload_n (i := 1) dX7_areaThen_1 rfl rfl ?_
  refine ja_cVr (st := []) (c_layerOf (D := D) l hx (ly := ly) (by omega)) rfl rfl (ce_X7_layerOf 0 0) im_X7_layerOf se_X7_layerOf lk_X7_93 k_X7 (zX_o0 hx) ⟨(Nat.le_of_ble_eq_true rfl), (Nat.le_of_ble_eq_true rfl)⟩ dX7_areaThen_2 rfl rfl (Nat.le_of_ble_eq_true rfl) (Nat.zero_le _) (Nat.zero_le _) ?_
  refine ja_astore (i := 4) dX7_areaThen_5 rfl (Nat.le_of_ble_eq_true rfl) ?_
  refine ja_iload_n (i := 2) dX7_areaThen_7 rfl rfl ?_
  refine ja_cSr0 (st := []) (c_needSquare (D := D) l (q := q) (by omega)) rfl rfl (ce_X7_needSquare 0 0) st_X7_needSquare lk_X7_178 ⟨(Nat.le_of_ble_eq_true rfl), (Nat.le_of_ble_eq_true rfl)⟩ dX7_areaThen_8 rfl rfl (Nat.le_of_ble_eq_true rfl) (Nat.zero_le _) (Nat.zero_le _) ?_
  refine ja_aload_n (i := 0) dX7_areaThen_11 rfl rfl ?_
  refine ja_iload_n (i := 3) dX7_areaThen_12 rfl rfl ?_
  refine ja_cVx (st := []) (c_needTime_x (D := D) l hx hnow htn hb) (ce_X7_needTime 1 6) im_X7_needTime se_X7_needTime lk_X7_181 k_X7 (zX_o0 hx) ⟨(Nat.le_of_ble_eq_true rfl), (Nat.le_of_ble_eq_true rfl)⟩ dX7_areaThen_13 rfl rfl (Nat.le_of_ble_eq_true rfl) (Nat.le_of_ble_eq_true rfl) (Nat.le_of_ble_eq_true rfl) ?_
  refine ja_out rfl (Nat.le_of_ble_eq_true rfl) (Nat.le_of_ble_eq_true rfl) ?_
  exact ⟨rfl, rfl, rfl⟩

set_option maxRecDepth 100000 in
set_option maxHeartbeats 4000000 in
theorem c_authorOf_f1 (l : Launch) {Z : jZ} {D : jD} (hx : zX Z) {ly : Int32} (q t : Int32) (hl : ¬ (nI 0 ≤ ly ∧ ly ≤ nI 2))  : ja_M l (mX7_authorOf 1 6) [.ref (0), .int (ly), .int (q), .int (t)] Z D ja_r0 (ja_jx "java/lang/IndexOutOfBoundsException" Z D) := by
  refine ja_Mof (lv := [some (.ref (0)), some (.int (ly)), some (.int (q)), some (.int (t)), none, none]) (by decide +kernel) rfl rfl (Nat.le_of_ble_eq_true rfl) rfl ?_
  refine ja_aload_n (i := 0) dX7_authorOf_0 rfl rfl ?_
  refine ja_iload_n (i := 1) dX7_authorOf_1 rfl rfl ?_
  refine ja_cVx (st := []) (c_layerOf_x (D := D) l hx hl) (ce_X7_layerOf 1 6) im_X7_layerOf se_X7_layerOf lk_X7_93 k_X7 (zX_o0 hx) ⟨(Nat.le_of_ble_eq_true rfl), (Nat.le_of_ble_eq_true rfl)⟩ dX7_authorOf_2 rfl rfl (Nat.le_of_ble_eq_true rfl) (Nat.le_of_ble_eq_true rfl) (Nat.le_of_ble_eq_true rfl) ?_
  refine ja_out rfl (Nat.le_of_ble_eq_true rfl) (Nat.le_of_ble_eq_true rfl) ?_
  exact ⟨rfl, rfl, rfl⟩

set_option maxRecDepth 100000 in
set_option maxHeartbeats 4000000 in
theorem c_authorOf_f1b (l : Launch) {Z : jZ} {D : jD} (hx : zX Z) {ly : Nat} (h1 : ly < 3) {q : Int32} (t : Int32) (hq : ¬ (nI 0 ≤ q ∧ q ≤ nI 255)) : ja_M l (mX7_authorOf 1 6) [.ref (0), .int (nI (ly)), .int (q), .int (t)] Z D ja_r0 (ja_jx "java/lang/IndexOutOfBoundsException" Z D) := by
  refine ja_Mof (lv := [some (.ref (0)), some (.int (nI (ly))), some (.int (q)), some (.int (t)), none, none]) (by decide +kernel) rfl rfl (Nat.le_of_ble_eq_true rfl) rfl ?_
  refine ja_aload_n (i := 0) dX7_authorOf_0 rfl rfl ?_
  refine ja_iload_n (i := 1) dX7_authorOf_1 rfl rfl ?_
  refine ja_cVr (st := []) (c_layerOf (D := D) l hx (ly := ly) (by omega)) rfl rfl (ce_X7_layerOf 0 0) im_X7_layerOf se_X7_layerOf lk_X7_93 k_X7 (zX_o0 hx) ⟨(Nat.le_of_ble_eq_true rfl), (Nat.le_of_ble_eq_true rfl)⟩ dX7_authorOf_2 rfl rfl (Nat.le_of_ble_eq_true rfl) (Nat.zero_le _) (Nat.zero_le _) ?_
  refine ja_astore (i := 4) dX7_authorOf_5 rfl (Nat.le_of_ble_eq_true rfl) ?_
  refine ja_iload_n (i := 2) dX7_authorOf_7 rfl rfl ?_
  refine ja_cSx (st := []) (c_needSquare_x (D := D) l hq) (ce_X7_needSquare 1 6) st_X7_needSquare lk_X7_178 ⟨(Nat.le_of_ble_eq_true rfl), (Nat.le_of_ble_eq_true rfl)⟩ dX7_authorOf_8 rfl rfl (Nat.le_of_ble_eq_true rfl) (Nat.le_of_ble_eq_true rfl) (Nat.le_of_ble_eq_true rfl) ?_
  refine ja_out rfl (Nat.le_of_ble_eq_true rfl) (Nat.le_of_ble_eq_true rfl) ?_
  exact ⟨rfl, rfl, rfl⟩

set_option maxRecDepth 100000 in
set_option maxHeartbeats 4000000 in
theorem c_authorOf_f2 (l : Launch) {Z : jZ} {D : jD} (hx : zX Z) {tn : Nat} (hnow : D 0 6 = nI tn) (htn : tn ≤ 40) {ly : Nat} (h1 : ly < 3) {q : Nat} (h2 : q < 256) {t : Int32} (hb : ¬ (nI 0 ≤ t ∧ t ≤ nI tn)) : ja_M l (mX7_authorOf 1 6) [.ref (0), .int (nI (ly)), .int (nI (q)), .int (t)] Z D ja_r0 (ja_jx "java/lang/IllegalArgumentException" Z D) := by
  refine ja_Mof (lv := [some (.ref (0)), some (.int (nI (ly))), some (.int (nI (q))), some (.int (t)), none, none]) (by decide +kernel) rfl rfl (Nat.le_of_ble_eq_true rfl) rfl ?_
  refine ja_aload_n (i := 0) dX7_authorOf_0 rfl rfl ?_
  refine ja_iload_n (i := 1) dX7_authorOf_1 rfl rfl ?_
  refine ja_cVr (st := []) (c_layerOf (D := D) l hx (ly := ly) (by omega)) rfl rfl (ce_X7_layerOf 0 0) im_X7_layerOf se_X7_layerOf lk_X7_93 k_X7 (zX_o0 hx) ⟨(Nat.le_of_ble_eq_true rfl), (Nat.le_of_ble_eq_true rfl)⟩ dX7_authorOf_2 rfl rfl (Nat.le_of_ble_eq_true rfl) (Nat.zero_le _) (Nat.zero_le _) ?_
  refine ja_astore (i := 4) dX7_authorOf_5 rfl (Nat.le_of_ble_eq_true rfl) ?_
  refine ja_iload_n (i := 2) dX7_authorOf_7 rfl rfl ?_
  refine ja_cSr0 (st := []) (c_needSquare (D := D) l (q := q) (by omega)) rfl rfl (ce_X7_needSquare 0 0) st_X7_needSquare lk_X7_178 ⟨(Nat.le_of_ble_eq_true rfl), (Nat.le_of_ble_eq_true rfl)⟩ dX7_authorOf_8 rfl rfl (Nat.le_of_ble_eq_true rfl) (Nat.zero_le _) (Nat.zero_le _) ?_
  refine ja_aload_n (i := 0) dX7_authorOf_11 rfl rfl ?_
  refine ja_iload_n (i := 3) dX7_authorOf_12 rfl rfl ?_
  refine ja_cVx (st := []) (c_needTime_x (D := D) l hx hnow htn hb) (ce_X7_needTime 1 6) im_X7_needTime se_X7_needTime lk_X7_181 k_X7 (zX_o0 hx) ⟨(Nat.le_of_ble_eq_true rfl), (Nat.le_of_ble_eq_true rfl)⟩ dX7_authorOf_13 rfl rfl (Nat.le_of_ble_eq_true rfl) (Nat.le_of_ble_eq_true rfl) (Nat.le_of_ble_eq_true rfl) ?_
  refine ja_out rfl (Nat.le_of_ble_eq_true rfl) (Nat.le_of_ble_eq_true rfl) ?_
  exact ⟨rfl, rfl, rfl⟩

set_option maxRecDepth 100000 in
set_option maxHeartbeats 4000000 in
theorem c_areaThen_ok (l : Launch) {Z : jZ} {D : jD} (hx : zX Z) {tn : Nat} (hnow : D 0 6 = nI tn) (htn : tn ≤ 40) {ly : Nat} (h1 : ly < 3) {q : Nat} (h2 : q < 256) {t : Nat} (hb : t ≤ tn) : ja_M l (mX7_areaThen 0 0) [.ref (0), .int (nI (ly)), .int (nI (q)), .int (nI (t))] Z D (ja_jr (some (.int (D (36 + 10 * ly) (t * 256 + q)))) Z D) ja_x0 := by
  refine ja_Mof (lv := [some (.ref (0)), some (.int (nI (ly))), some (.int (nI (q))), some (.int (nI (t))), none]) (by decide +kernel) rfl rfl (Nat.le_of_ble_eq_true rfl) rfl ?_
  refine ja_aload_n (i := 0) dX7_areaThen_0 rfl rfl ?_
  refine ja_iload_n (i := 1) dX7_areaThen_1 rfl rfl ?_
  refine ja_cVr (st := []) (c_layerOf (D := D) l hx (ly := ly) (by omega)) rfl rfl (ce_X7_layerOf 0 0) im_X7_layerOf se_X7_layerOf lk_X7_93 k_X7 (zX_o0 hx) ⟨(Nat.le_of_ble_eq_true rfl), (Nat.le_of_ble_eq_true rfl)⟩ dX7_areaThen_2 rfl rfl (Nat.le_of_ble_eq_true rfl) (Nat.zero_le _) (Nat.zero_le _) ?_
  refine ja_astore (i := 4) dX7_areaThen_5 rfl (Nat.le_of_ble_eq_true rfl) ?_
  refine ja_iload_n (i := 2) dX7_areaThen_7 rfl rfl ?_
  refine ja_cSr0 (st := []) (c_needSquare (D := D) l (q := q) (by omega)) rfl rfl (ce_X7_needSquare 0 0) st_X7_needSquare lk_X7_178 ⟨(Nat.le_of_ble_eq_true rfl), (Nat.le_of_ble_eq_true rfl)⟩ dX7_areaThen_8 rfl rfl (Nat.le_of_ble_eq_true rfl) (Nat.zero_le _) (Nat.zero_le _) ?_
  refine ja_aload_n (i := 0) dX7_areaThen_11 rfl rfl ?_
  refine ja_iload_n (i := 3) dX7_areaThen_12 rfl rfl ?_
  refine ja_cVr0 (st := []) (c_needTime (D := D) l hx hnow htn (t := t) (by omega)) rfl rfl (ce_X7_needTime 0 0) im_X7_needTime se_X7_needTime lk_X7_181 k_X7 (zX_o0 hx) ⟨(Nat.le_of_ble_eq_true rfl), (Nat.le_of_ble_eq_true rfl)⟩ dX7_areaThen_13 rfl rfl (Nat.le_of_ble_eq_true rfl) (Nat.zero_le _) (Nat.zero_le _) ?_
  refine ja_aload (i := 4) dX7_areaThen_16 rfl ?_
  refine ja_iload_n (i := 3) dX7_areaThen_18 rfl rfl ?_
  refine ja_iload_n (i := 2) dX7_areaThen_19 rfl rfl ?_
  refine ja_cVr (st := []) (c_areaBy (D := D) l hx h1 (t := t) (q := q) (by omega) (by omega)) rfl rfl (ce_X1_areaBy 0 0) im_X1_areaBy se_X1_areaBy lk_X7_184 k_X1 (zL_o hx (l := ly) (by omega)) ⟨(Nat.le_of_ble_eq_true rfl), (Nat.le_of_ble_eq_true rfl)⟩ dX7_areaThen_20 rfl rfl (Nat.le_of_ble_eq_true rfl) (Nat.zero_le _) (Nat.zero_le _) ?_
  refine ja_iret rfl rfl dX7_areaThen_23 (Nat.zero_le _) (Nat.zero_le _) ?_
  exact ⟨rfl, rfl, rfl⟩

set_option maxRecDepth 100000 in
set_option maxHeartbeats 4000000 in
theorem c_authorOf_ok (l : Launch) {Z : jZ} {D : jD} (hx : zX Z) {tn : Nat} (hnow : D 0 6 = nI tn) (htn : tn ≤ 40) {ly : Nat} (h1 : ly < 3) {q : Nat} (h2 : q < 256) {t : Nat} (hb : t ≤ tn) (h0 : ¬ lcg (fun t => D (36 + 10 * ly) (t * 256 + q)) t = 0) : ja_M l (mX7_authorOf 0 0) [.ref (0), .int (nI (ly)), .int (nI (q)), .int (nI (t))] Z D (ja_jr (some (.int (D 4 (lcg (fun t => D (36 + 10 * ly) (t * 256 + q)) t)))) Z D) ja_x0 := by
  refine ja_Mof (lv := [some (.ref (0)), some (.int (nI (ly))), some (.int (nI (q))), some (.int (nI (t))), none, none]) (by decide +kernel) rfl rfl (Nat.le_of_ble_eq_true rfl) rfl ?_
  refine ja_aload_n (i := 0) dX7_authorOf_0 rfl rfl ?_
  refine ja_iload_n (i := 1) dX7_authorOf_1 rfl rfl ?_
  refine ja_cVr (st := []) (c_layerOf (D := D) l hx (ly := ly) (by omega)) rfl rfl (ce_X7_layerOf 0 0) im_X7_layerOf se_X7_layerOf lk_X7_93 k_X7 (zX_o0 hx) ⟨(Nat.le_of_ble_eq_true rfl), (Nat.le_of_ble_eq_true rfl)⟩ dX7_authorOf_2 rfl rfl (Nat.le_of_ble_eq_true rfl) (Nat.zero_le _) (Nat.zero_le _) ?_
  refine ja_astore (i := 4) dX7_authorOf_5 rfl (Nat.le_of_ble_eq_true rfl) ?_
  refine ja_iload_n (i := 2) dX7_authorOf_7 rfl rfl ?_
  refine ja_cSr0 (st := []) (c_needSquare (D := D) l (q := q) (by omega)) rfl rfl (ce_X7_needSquare 0 0) st_X7_needSquare lk_X7_178 ⟨(Nat.le_of_ble_eq_true rfl), (Nat.le_of_ble_eq_true rfl)⟩ dX7_authorOf_8 rfl rfl (Nat.le_of_ble_eq_true rfl) (Nat.zero_le _) (Nat.zero_le _) ?_
  refine ja_aload_n (i := 0) dX7_authorOf_11 rfl rfl ?_
  refine ja_iload_n (i := 3) dX7_authorOf_12 rfl rfl ?_
  refine ja_cVr0 (st := []) (c_needTime (D := D) l hx hnow htn (t := t) (by omega)) rfl rfl (ce_X7_needTime 0 0) im_X7_needTime se_X7_needTime lk_X7_181 k_X7 (zX_o0 hx) ⟨(Nat.le_of_ble_eq_true rfl), (Nat.le_of_ble_eq_true rfl)⟩ dX7_authorOf_13 rfl rfl (Nat.le_of_ble_eq_true rfl) (Nat.zero_le _) (Nat.zero_le _) ?_
  refine ja_iload_n (i := 3) dX7_authorOf_16 rfl rfl ?_
  refine ja_istore (i := 5) dX7_authorOf_17 rfl (Nat.le_of_ble_eq_true rfl) ?_
  have lp19 : ∀ (f19 : Nat) (k : Nat), (k < f19) → (k ≤ t) → (lcg (fun t => D (36 + 10 * ly) (t * 256 + q)) t = lcg (fun t => D (36 + 10 * ly) (t * 256 + q)) k) → ja_A l (mX7_authorOf 0 0) ja_sn (ja_Qf (mX7_authorOf 0 0) (ja_jr (some (.int (D 4 (lcg (fun t => D (36 + 10 * ly) (t * 256 + q)) t)))) Z D) ja_x0) 19 [some (.ref (0)), some (.int (nI (ly))), some (.int (nI (q))), some (.int (nI (t))), some (.ref (30 + 10 * ly)), some (.int (nI (k)))] [] Z D 0 0 := by
    intro f19
    induction f19 with
    | zero => intro k hf hk hk2; exfalso; omega
    | succ f19 ih19 =>
      intro k hf hk hk2
      refine ja_iload (i := 5) dX7_authorOf_19 rfl ?_
      refine ja_ifN_le (tgt := 59) dX7_authorOf_21 (by decide) (by omega) (fun c21 => ?_) (fun c21 => ?_)
      ·
        exfalso; exact h0 (by have := lcg_le (fun t => D (36 + 10 * ly) (t * 256 + q)) k; omega)
      ·
        refine ja_aload (i := 4) dX7_authorOf_24 rfl ?_
        refine ja_iload (i := 5) dX7_authorOf_26 rfl ?_
        refine ja_iload_n (i := 2) dX7_authorOf_28 rfl rfl ?_
        refine ja_cVr (st := []) (c_areaBy (D := D) l hx h1 (t := k) (q := q) (by omega) (by omega)) rfl rfl (ce_X1_areaBy 0 0) im_X1_areaBy se_X1_areaBy lk_X7_184 k_X1 (zL_o hx (l := ly) (by omega)) ⟨(Nat.le_of_ble_eq_true rfl), (Nat.le_of_ble_eq_true rfl)⟩ dX7_authorOf_29 rfl rfl (Nat.le_of_ble_eq_true rfl) (Nat.zero_le _) (Nat.zero_le _) ?_
        refine ja_aload (i := 4) dX7_authorOf_32 rfl ?_
        refine ja_iload (i := 5) dX7_authorOf_34 rfl ?_
        refine ja_iconst (v := nI 1) dX7_authorOf_36 (by decide +kernel) ?_
        refine ja_isubN dX7_authorOf_37 (by omega) ?_
        refine ja_iload_n (i := 2) dX7_authorOf_38 rfl rfl ?_
        refine ja_cVr (st := [.int (D (36 + 10 * ly) (k * 256 + q))]) (c_areaBy (D := D) l hx h1 (t := k - 1) (q := q) (by omega) (by omega)) rfl rfl (ce_X1_areaBy 0 0) im_X1_areaBy se_X1_areaBy lk_X7_184 k_X1 (zL_o hx (l := ly) (by omega)) ⟨(Nat.le_of_ble_eq_true rfl), (Nat.le_of_ble_eq_true rfl)⟩ dX7_authorOf_39 rfl rfl (Nat.le_of_ble_eq_true rfl) (Nat.zero_le _) (Nat.zero_le _) ?_
        refine ja_icmp_eq (tgt := 53) dX7_authorOf_42 (by decide) (fun c42 => ?_) (fun c42 => ?_)
        ·
          refine ja_iinc (v := nI (k - 1)) dX7_authorOf_53 rfl (nI_dec (by omega)) rfl (Nat.le_of_ble_eq_true rfl) ?_
          refine ja_goto (tgt := 19) dX7_authorOf_56 (by decide) ?_
          exact ih19 (k - 1) (by omega) (by omega) (hk2.trans (lcg_go (by omega) c42).symm)
        ·
          refine ja_aload_n (i := 0) dX7_authorOf_45 rfl rfl ?_
          refine ja_getR fl_X7_27 (zX_o0 hx) rfl (zX_p0_3 hx) dX7_authorOf_46 ?_
          refine ja_iload (i := 5) dX7_authorOf_49 rfl ?_
          refine ja_iald (zX_o4 hx) rfl (by omega) (by decide) dX7_authorOf_51 ?_
          refine ja_iret rfl rfl dX7_authorOf_52 (Nat.zero_le _) (Nat.zero_le _) ?_
          exact ⟨by rw [hk2, lcg_stay c42], rfl, rfl⟩
  exact lp19 (t + 1) t (by omega) (by omega) rfl

set_option maxRecDepth 100000 in
set_option maxHeartbeats 4000000 in
theorem c_authorOf_f3 (l : Launch) {Z : jZ} {D : jD} (hx : zX Z) {tn : Nat} (hnow : D 0 6 = nI tn) (htn : tn ≤ 40) {ly : Nat} (h1 : ly < 3) {q : Nat} (h2 : q < 256) {t : Nat} (hb : t ≤ tn) (h0 : lcg (fun t => D (36 + 10 * ly) (t * 256 + q)) t = 0) : ja_M l (mX7_authorOf 1 6) [.ref (0), .int (nI (ly)), .int (nI (q)), .int (nI (t))] Z D ja_r0 (ja_jx "java/util/NoSuchElementException" Z D) := by
  refine ja_Mof (lv := [some (.ref (0)), some (.int (nI (ly))), some (.int (nI (q))), some (.int (nI (t))), none, none]) (by decide +kernel) rfl rfl (Nat.le_of_ble_eq_true rfl) rfl ?_
  refine ja_aload_n (i := 0) dX7_authorOf_0 rfl rfl ?_
  refine ja_iload_n (i := 1) dX7_authorOf_1 rfl rfl ?_
  refine ja_cVr (st := []) (c_layerOf (D := D) l hx (ly := ly) (by omega)) rfl rfl (ce_X7_layerOf 0 0) im_X7_layerOf se_X7_layerOf lk_X7_93 k_X7 (zX_o0 hx) ⟨(Nat.le_of_ble_eq_true rfl), (Nat.le_of_ble_eq_true rfl)⟩ dX7_authorOf_2 rfl rfl (Nat.le_of_ble_eq_true rfl) (Nat.zero_le _) (Nat.zero_le _) ?_
  refine ja_astore (i := 4) dX7_authorOf_5 rfl (Nat.le_of_ble_eq_true rfl) ?_
  refine ja_iload_n (i := 2) dX7_authorOf_7 rfl rfl ?_
  refine ja_cSr0 (st := []) (c_needSquare (D := D) l (q := q) (by omega)) rfl rfl (ce_X7_needSquare 0 0) st_X7_needSquare lk_X7_178 ⟨(Nat.le_of_ble_eq_true rfl), (Nat.le_of_ble_eq_true rfl)⟩ dX7_authorOf_8 rfl rfl (Nat.le_of_ble_eq_true rfl) (Nat.zero_le _) (Nat.zero_le _) ?_
  refine ja_aload_n (i := 0) dX7_authorOf_11 rfl rfl ?_
  refine ja_iload_n (i := 3) dX7_authorOf_12 rfl rfl ?_
  refine ja_cVr0 (st := []) (c_needTime (D := D) l hx hnow htn (t := t) (by omega)) rfl rfl (ce_X7_needTime 0 0) im_X7_needTime se_X7_needTime lk_X7_181 k_X7 (zX_o0 hx) ⟨(Nat.le_of_ble_eq_true rfl), (Nat.le_of_ble_eq_true rfl)⟩ dX7_authorOf_13 rfl rfl (Nat.le_of_ble_eq_true rfl) (Nat.zero_le _) (Nat.zero_le _) ?_
  refine ja_iload_n (i := 3) dX7_authorOf_16 rfl rfl ?_
  refine ja_istore (i := 5) dX7_authorOf_17 rfl (Nat.le_of_ble_eq_true rfl) ?_
  have lp19 : ∀ (f19 : Nat) (k : Nat), (k < f19) → (k ≤ t) → (lcg (fun t => D (36 + 10 * ly) (t * 256 + q)) t = lcg (fun t => D (36 + 10 * ly) (t * 256 + q)) k) → ja_A l (mX7_authorOf 1 6) ja_sn (ja_Qf (mX7_authorOf 1 6) ja_r0 (ja_jx "java/util/NoSuchElementException" Z D)) 19 [some (.ref (0)), some (.int (nI (ly))), some (.int (nI (q))), some (.int (nI (t))), some (.ref (30 + 10 * ly)), some (.int (nI (k)))] [] Z D 0 0 := by
    intro f19
    induction f19 with
    | zero => intro k hf hk hk2; exfalso; omega
    | succ f19 ih19 =>
      intro k hf hk hk2
      refine ja_iload (i := 5) dX7_authorOf_19 rfl ?_
      refine ja_ifN_le (tgt := 59) dX7_authorOf_21 (by decide) (by omega) (fun c21 => ?_) (fun c21 => ?_)
      ·
        refine ja_throwE ts_X7_173_188_177 rfl dX7_authorOf_59 dX7_authorOf_62 dX7_authorOf_63 dX7_authorOf_65 dX7_authorOf_68 (Nat.le_of_ble_eq_true rfl) (Nat.le_of_ble_eq_true rfl) (Nat.le_of_ble_eq_true rfl) (Nat.le_of_ble_eq_true rfl) ?_
        exact ⟨rfl, rfl, rfl⟩
      ·
        refine ja_aload (i := 4) dX7_authorOf_24 rfl ?_
        refine ja_iload (i := 5) dX7_authorOf_26 rfl ?_
        refine ja_iload_n (i := 2) dX7_authorOf_28 rfl rfl ?_
        refine ja_cVr (st := []) (c_areaBy (D := D) l hx h1 (t := k) (q := q) (by omega) (by omega)) rfl rfl (ce_X1_areaBy 0 0) im_X1_areaBy se_X1_areaBy lk_X7_184 k_X1 (zL_o hx (l := ly) (by omega)) ⟨(Nat.le_of_ble_eq_true rfl), (Nat.le_of_ble_eq_true rfl)⟩ dX7_authorOf_29 rfl rfl (Nat.le_of_ble_eq_true rfl) (Nat.zero_le _) (Nat.zero_le _) ?_
        refine ja_aload (i := 4) dX7_authorOf_32 rfl ?_
        refine ja_iload (i := 5) dX7_authorOf_34 rfl ?_
        refine ja_iconst (v := nI 1) dX7_authorOf_36 (by decide +kernel) ?_
        refine ja_isubN dX7_authorOf_37 (by omega) ?_
        refine ja_iload_n (i := 2) dX7_authorOf_38 rfl rfl ?_
        refine ja_cVr (st := [.int (D (36 + 10 * ly) (k * 256 + q))]) (c_areaBy (D := D) l hx h1 (t := k - 1) (q := q) (by omega) (by omega)) rfl rfl (ce_X1_areaBy 0 0) im_X1_areaBy se_X1_areaBy lk_X7_184 k_X1 (zL_o hx (l := ly) (by omega)) ⟨(Nat.le_of_ble_eq_true rfl), (Nat.le_of_ble_eq_true rfl)⟩ dX7_authorOf_39 rfl rfl (Nat.le_of_ble_eq_true rfl) (Nat.zero_le _) (Nat.zero_le _) ?_
        refine ja_icmp_eq (tgt := 53) dX7_authorOf_42 (by decide) (fun c42 => ?_) (fun c42 => ?_)
        ·
          refine ja_iinc (v := nI (k - 1)) dX7_authorOf_53 rfl (nI_dec (by omega)) rfl (Nat.le_of_ble_eq_true rfl) ?_
          refine ja_goto (tgt := 19) dX7_authorOf_56 (by decide) ?_
          exact ih19 (k - 1) (by omega) (by omega) (hk2.trans (lcg_go (by omega) c42).symm)
        ·
          exfalso; have := lcg_stay (f := fun t => D (36 + 10 * ly) (t * 256 + q)) (k := k) c42; omega
  exact lp19 (t + 1) t (by omega) (by omega) rfl

set_option maxRecDepth 100000 in
set_option maxHeartbeats 4000000 in
theorem c_size_f1 (l : Launch) {Z : jZ} {D : jD} (hx : zX Z) {ly a : Int32} (hl : ¬ (nI 0 ≤ ly ∧ ly ≤ nI 2))  : ja_M l (mX7_size 1 6) [.ref (0), .int (ly), .int (a)] Z D ja_r0 (ja_jx "java/lang/IndexOutOfBoundsException" Z D) := by
  refine ja_Mof (lv := [some (.ref (0)), some (.int (ly)), some (.int (a)), none]) (by decide +kernel) rfl rfl (Nat.le_of_ble_eq_true rfl) rfl ?_
  refine ja_aload_n (i := 0) dX7_size_0 rfl rfl ?_
  refine ja_iload_n (i := 1) dX7_size_1 rfl rfl ?_
  refine ja_cVx (st := []) (c_layerOf_x (D := D) l hx hl) (ce_X7_layerOf 1 6) im_X7_layerOf se_X7_layerOf lk_X7_93 k_X7 (zX_o0 hx) ⟨(Nat.le_of_ble_eq_true rfl), (Nat.le_of_ble_eq_true rfl)⟩ dX7_size_2 rfl rfl (Nat.le_of_ble_eq_true rfl) (Nat.le_of_ble_eq_true rfl) (Nat.le_of_ble_eq_true rfl) ?_
  refine ja_out rfl (Nat.le_of_ble_eq_true rfl) (Nat.le_of_ble_eq_true rfl) ?_
  exact ⟨rfl, rfl, rfl⟩

set_option maxRecDepth 100000 in
set_option maxHeartbeats 4000000 in
theorem c_size_f2 (l : Launch) {Z : jZ} {D : jD} (hx : zX Z) {ly : Nat} (h1 : ly < 3) {a : Int32} (ha : ¬ (nI 0 ≤ a ∧ a ≤ nI 9))  : ja_M l (mX7_size 1 6) [.ref (0), .int (nI (ly)), .int (a)] Z D ja_r0 (ja_jx "java/lang/IllegalArgumentException" Z D) := by
  refine ja_Mof (lv := [some (.ref (0)), some (.int (nI (ly))), some (.int (a)), none]) (by decide +kernel) rfl rfl (Nat.le_of_ble_eq_true rfl) rfl ?_
  refine ja_aload_n (i := 0) dX7_size_0 rfl rfl ?_
  refine ja_iload_n (i := 1) dX7_size_1 rfl rfl ?_
  refine ja_cVr (st := []) (c_layerOf (D := D) l hx (ly := ly) (by omega)) rfl rfl (ce_X7_layerOf 0 0) im_X7_layerOf se_X7_layerOf lk_X7_93 k_X7 (zX_o0 hx) ⟨(Nat.le_of_ble_eq_true rfl), (Nat.le_of_ble_eq_true rfl)⟩ dX7_size_2 rfl rfl (Nat.le_of_ble_eq_true rfl) (Nat.zero_le _) (Nat.zero_le _) ?_
  refine ja_astore_n (i := 3) dX7_size_5 rfl rfl (Nat.le_of_ble_eq_true rfl) ?_
  refine ja_iload_n (i := 2) dX7_size_6 rfl rfl ?_
  refine ja_cSx (st := []) (c_needArea_x (D := D) l ha) (ce_X7_needArea 1 6) st_X7_needArea lk_X7_138 ⟨(Nat.le_of_ble_eq_true rfl), (Nat.le_of_ble_eq_true rfl)⟩ dX7_size_7 rfl rfl (Nat.le_of_ble_eq_true rfl) (Nat.le_of_ble_eq_true rfl) (Nat.le_of_ble_eq_true rfl) ?_
  refine ja_out rfl (Nat.le_of_ble_eq_true rfl) (Nat.le_of_ble_eq_true rfl) ?_
  exact ⟨rfl, rfl, rfl⟩

set_option maxRecDepth 100000 in
set_option maxHeartbeats 4000000 in
theorem c_size_ok (l : Launch) {Z : jZ} {D : jD} (hx : zX Z) {ly : Nat} (h1 : ly < 3) {a : Nat} (h2 : a < 10) : ja_M l (mX7_size 0 0) [.ref (0), .int (nI (ly)), .int (nI (a))] Z D (ja_jr (some (.int (D (32 + 10 * ly) a))) Z D) ja_x0 := by
  refine ja_Mof (lv := [some (.ref (0)), some (.int (nI (ly))), some (.int (nI (a))), none]) (by decide +kernel) rfl rfl (Nat.le_of_ble_eq_true rfl) rfl ?_
  refine ja_aload_n (i := 0) dX7_size_0 rfl rfl ?_
  refine ja_iload_n (i := 1) dX7_size_1 rfl rfl ?_
  refine ja_cVr (st := []) (c_layerOf (D := D) l hx (ly := ly) (by omega)) rfl rfl (ce_X7_layerOf 0 0) im_X7_layerOf se_X7_layerOf lk_X7_93 k_X7 (zX_o0 hx) ⟨(Nat.le_of_ble_eq_true rfl), (Nat.le_of_ble_eq_true rfl)⟩ dX7_size_2 rfl rfl (Nat.le_of_ble_eq_true rfl) (Nat.zero_le _) (Nat.zero_le _) ?_
  refine ja_astore_n (i := 3) dX7_size_5 rfl rfl (Nat.le_of_ble_eq_true rfl) ?_
  refine ja_iload_n (i := 2) dX7_size_6 rfl rfl ?_
  refine ja_cSr0 (st := []) (c_needArea (D := D) l (a := a) (by omega)) rfl rfl (ce_X7_needArea 0 0) st_X7_needArea lk_X7_138 ⟨(Nat.le_of_ble_eq_true rfl), (Nat.le_of_ble_eq_true rfl)⟩ dX7_size_7 rfl rfl (Nat.le_of_ble_eq_true rfl) (Nat.zero_le _) (Nat.zero_le _) ?_
  refine ja_aload_n (i := 3) dX7_size_10 rfl rfl ?_
  refine ja_getR fl_X7_127 (zL_o hx (l := ly) (by omega)) rfl (zL_p1 hx (l := ly) (by omega)) dX7_size_11 ?_
  refine ja_iload_n (i := 2) dX7_size_14 rfl rfl ?_
  refine ja_iald (zL_a1 hx (l := ly) (by omega)) rfl (by omega) (by decide) dX7_size_15 ?_
  refine ja_iret rfl rfl dX7_size_16 (Nat.zero_le _) (Nat.zero_le _) ?_
  exact ⟨rfl, rfl, rfl⟩

set_option maxRecDepth 100000 in
set_option maxHeartbeats 4000000 in
theorem c_value_f1 (l : Launch) {Z : jZ} {D : jD} (hx : zX Z) {ly a : Int32} (hl : ¬ (nI 0 ≤ ly ∧ ly ≤ nI 2))  : ja_M l (mX7_value 1 6) [.ref (0), .int (ly), .int (a)] Z D ja_r0 (ja_jx "java/lang/IndexOutOfBoundsException" Z D) := by
  refine ja_Mof (lv := [some (.ref (0)), some (.int (ly)), some (.int (a)), none]) (by decide +kernel) rfl rfl (Nat.le_of_ble_eq_true rfl) rfl ?_
  refine ja_aload_n (i := 0) dX7_value_0 rfl rfl ?_
  refine ja_iload_n (i := 1) dX7_value_1 rfl rfl ?_
  refine ja_cVx (st := []) (c_layerOf_x (D := D) l hx hl) (ce_X7_layerOf 1 6) im_X7_layerOf se_X7_layerOf lk_X7_93 k_X7 (zX_o0 hx) ⟨(Nat.le_of_ble_eq_true rfl), (Nat.le_of_ble_eq_true rfl)⟩ dX7_value_2 rfl rfl (Nat.le_of_ble_eq_true rfl) (Nat.le_of_ble_eq_true rfl) (Nat.le_of_ble_eq_true rfl) ?_
  refine ja_out rfl (Nat.le_of_ble_eq_true rfl) (Nat.le_of_ble_eq_true rfl) ?_
  exact ⟨rfl, rfl, rfl⟩

set_option maxRecDepth 100000 in
set_option maxHeartbeats 4000000 in
theorem c_value_f2 (l : Launch) {Z : jZ} {D : jD} (hx : zX Z) {ly : Nat} (h1 : ly < 3) {a : Int32} (ha : ¬ (nI 0 ≤ a ∧ a ≤ nI 9))  : ja_M l (mX7_value 1 6) [.ref (0), .int (nI (ly)), .int (a)] Z D ja_r0 (ja_jx "java/lang/IllegalArgumentException" Z D) := by
  refine ja_Mof (lv := [some (.ref (0)), some (.int (nI (ly))), some (.int (a)), none]) (by decide +kernel) rfl rfl (Nat.le_of_ble_eq_true rfl) rfl ?_
  refine ja_aload_n (i := 0) dX7_value_0 rfl rfl ?_
  refine ja_iload_n (i := 1) dX7_value_1 rfl rfl ?_
  refine ja_cVr (st := []) (c_layerOf (D := D) l hx (ly := ly) (by omega)) rfl rfl (ce_X7_layerOf 0 0) im_X7_layerOf se_X7_layerOf lk_X7_93 k_X7 (zX_o0 hx) ⟨(Nat.le_of_ble_eq_true rfl), (Nat.le_of_ble_eq_true rfl)⟩ dX7_value_2 rfl rfl (Nat.le_of_ble_eq_true rfl) (Nat.zero_le _) (Nat.zero_le _) ?_
  refine ja_astore_n (i := 3) dX7_value_5 rfl rfl (Nat.le_of_ble_eq_true rfl) ?_
  refine ja_iload_n (i := 2) dX7_value_6 rfl rfl ?_
  refine ja_cSx (st := []) (c_needArea_x (D := D) l ha) (ce_X7_needArea 1 6) st_X7_needArea lk_X7_138 ⟨(Nat.le_of_ble_eq_true rfl), (Nat.le_of_ble_eq_true rfl)⟩ dX7_value_7 rfl rfl (Nat.le_of_ble_eq_true rfl) (Nat.le_of_ble_eq_true rfl) (Nat.le_of_ble_eq_true rfl) ?_
  refine ja_out rfl (Nat.le_of_ble_eq_true rfl) (Nat.le_of_ble_eq_true rfl) ?_
  exact ⟨rfl, rfl, rfl⟩

set_option maxRecDepth 100000 in
set_option maxHeartbeats 4000000 in
theorem c_value_ok (l : Launch) {Z : jZ} {D : jD} (hx : zX Z) {ly : Nat} (h1 : ly < 3) {a : Nat} (h2 : a < 10) : ja_M l (mX7_value 0 0) [.ref (0), .int (nI (ly)), .int (nI (a))] Z D (ja_jr (some (.int (D (33 + 10 * ly) a))) Z D) ja_x0 := by
  refine ja_Mof (lv := [some (.ref (0)), some (.int (nI (ly))), some (.int (nI (a))), none]) (by decide +kernel) rfl rfl (Nat.le_of_ble_eq_true rfl) rfl ?_
  refine ja_aload_n (i := 0) dX7_value_0 rfl rfl ?_
  refine ja_iload_n (i := 1) dX7_value_1 rfl rfl ?_
  refine ja_cVr (st := []) (c_layerOf (D := D) l hx (ly := ly) (by omega)) rfl rfl (ce_X7_layerOf 0 0) im_X7_layerOf se_X7_layerOf lk_X7_93 k_X7 (zX_o0 hx) ⟨(Nat.le_of_ble_eq_true rfl), (Nat.le_of_ble_eq_true rfl)⟩ dX7_value_2 rfl rfl (Nat.le_of_ble_eq_true rfl) (Nat.zero_le _) (Nat.zero_le _) ?_
  refine ja_astore_n (i := 3) dX7_value_5 rfl rfl (Nat.le_of_ble_eq_true rfl) ?_
  refine ja_iload_n (i := 2) dX7_value_6 rfl rfl ?_
  refine ja_cSr0 (st := []) (c_needArea (D := D) l (a := a) (by omega)) rfl rfl (ce_X7_needArea 0 0) st_X7_needArea lk_X7_138 ⟨(Nat.le_of_ble_eq_true rfl), (Nat.le_of_ble_eq_true rfl)⟩ dX7_value_7 rfl rfl (Nat.le_of_ble_eq_true rfl) (Nat.zero_le _) (Nat.zero_le _) ?_
  refine ja_aload_n (i := 3) dX7_value_10 rfl rfl ?_
  refine ja_getR fl_X7_145 (zL_o hx (l := ly) (by omega)) rfl (zL_p2 hx (l := ly) (by omega)) dX7_value_11 ?_
  refine ja_iload_n (i := 2) dX7_value_14 rfl rfl ?_
  refine ja_iald (zL_a2 hx (l := ly) (by omega)) rfl (by omega) (by decide) dX7_value_15 ?_
  refine ja_iret rfl rfl dX7_value_16 (Nat.zero_le _) (Nat.zero_le _) ?_
  exact ⟨rfl, rfl, rfl⟩

set_option maxRecDepth 100000 in
set_option maxHeartbeats 4000000 in
theorem c_rim_f1 (l : Launch) {Z : jZ} {D : jD} (hx : zX Z) {ly a : Int32} (hl : ¬ (nI 0 ≤ ly ∧ ly ≤ nI 2))  : ja_M l (mX7_rim 1 6) [.ref (0), .int (ly), .int (a)] Z D ja_r0 (ja_jx "java/lang/IndexOutOfBoundsException" Z D) := by
  refine ja_Mof (lv := [some (.ref (0)), some (.int (ly)), some (.int (a)), none, none, none]) (by decide +kernel) rfl rfl (Nat.le_of_ble_eq_true rfl) rfl ?_
  refine ja_aload_n (i := 0) dX7_rim_0 rfl rfl ?_
  refine ja_iload_n (i := 1) dX7_rim_1 rfl rfl ?_
  refine ja_cVx (st := []) (c_layerOf_x (D := D) l hx hl) (ce_X7_layerOf 1 6) im_X7_layerOf se_X7_layerOf lk_X7_93 k_X7 (zX_o0 hx) ⟨(Nat.le_of_ble_eq_true rfl), (Nat.le_of_ble_eq_true rfl)⟩ dX7_rim_2 rfl rfl (Nat.le_of_ble_eq_true rfl) (Nat.le_of_ble_eq_true rfl) (Nat.le_of_ble_eq_true rfl) ?_
  refine ja_out rfl (Nat.le_of_ble_eq_true rfl) (Nat.le_of_ble_eq_true rfl) ?_
  exact ⟨rfl, rfl, rfl⟩

set_option maxRecDepth 100000 in
set_option maxHeartbeats 4000000 in
theorem c_rim_f2 (l : Launch) {Z : jZ} {D : jD} (hx : zX Z) {ly : Nat} (h1 : ly < 3) {a : Int32} (ha : ¬ (nI 0 ≤ a ∧ a ≤ nI 9))  : ja_M l (mX7_rim 1 6) [.ref (0), .int (nI (ly)), .int (a)] Z D ja_r0 (ja_jx "java/lang/IllegalArgumentException" Z D) := by
  refine ja_Mof (lv := [some (.ref (0)), some (.int (nI (ly))), some (.int (a)), none, none, none]) (by decide +kernel) rfl rfl (Nat.le_of_ble_eq_true rfl) rfl ?_
  refine ja_aload_n (i := 0) dX7_rim_0 rfl rfl ?_
  refine ja_iload_n (i := 1) dX7_rim_1 rfl rfl ?_
  refine ja_cVr (st := []) (c_layerOf (D := D) l hx (ly := ly) (by omega)) rfl rfl (ce_X7_layerOf 0 0) im_X7_layerOf se_X7_layerOf lk_X7_93 k_X7 (zX_o0 hx) ⟨(Nat.le_of_ble_eq_true rfl), (Nat.le_of_ble_eq_true rfl)⟩ dX7_rim_2 rfl rfl (Nat.le_of_ble_eq_true rfl) (Nat.zero_le _) (Nat.zero_le _) ?_
  refine ja_astore_n (i := 3) dX7_rim_5 rfl rfl (Nat.le_of_ble_eq_true rfl) ?_
  refine ja_iload_n (i := 2) dX7_rim_6 rfl rfl ?_
  refine ja_cSx (st := []) (c_needArea_x (D := D) l ha) (ce_X7_needArea 1 6) st_X7_needArea lk_X7_138 ⟨(Nat.le_of_ble_eq_true rfl), (Nat.le_of_ble_eq_true rfl)⟩ dX7_rim_7 rfl rfl (Nat.le_of_ble_eq_true rfl) (Nat.le_of_ble_eq_true rfl) (Nat.le_of_ble_eq_true rfl) ?_
  refine ja_out rfl (Nat.le_of_ble_eq_true rfl) (Nat.le_of_ble_eq_true rfl) ?_
  exact ⟨rfl, rfl, rfl⟩

def xrm (c : Nat → Int32) (a : Int32) (q : Nat) : Nat := if c q = a then fb_sm (rmX c q) 4 else 0

set_option maxRecDepth 100000 in
set_option maxHeartbeats 4000000 in
theorem c_rim_ok (l : Launch) {Z : jZ} {D : jD} (hx : zX Z) {ly : Nat} (h1 : ly < 3) {a : Nat} (h2 : a < 10) : ja_M l (mX7_rim 0 0) [.ref (0), .int (nI (ly)), .int (nI (a))] Z D (ja_jr (some (.int (nI (fb_sm (xrm (D (31 + 10 * ly)) (nI a)) 256)))) Z D) ja_x0 := by
  refine ja_Mof (lv := [some (.ref (0)), some (.int (nI (ly))), some (.int (nI (a))), none, none, none]) (by decide +kernel) rfl rfl (Nat.le_of_ble_eq_true rfl) rfl ?_
  refine ja_aload_n (i := 0) dX7_rim_0 rfl rfl ?_
  refine ja_iload_n (i := 1) dX7_rim_1 rfl rfl ?_
  refine ja_cVr (st := []) (c_layerOf (D := D) l hx (ly := ly) (by omega)) rfl rfl (ce_X7_layerOf 0 0) im_X7_layerOf se_X7_layerOf lk_X7_93 k_X7 (zX_o0 hx) ⟨(Nat.le_of_ble_eq_true rfl), (Nat.le_of_ble_eq_true rfl)⟩ dX7_rim_2 rfl rfl (Nat.le_of_ble_eq_true rfl) (Nat.zero_le _) (Nat.zero_le _) ?_
  refine ja_astore_n (i := 3) dX7_rim_5 rfl rfl (Nat.le_of_ble_eq_true rfl) ?_
  refine ja_iload_n (i := 2) dX7_rim_6 rfl rfl ?_
  refine ja_cSr0 (st := []) (c_needArea (D := D) l (a := a) (by omega)) rfl rfl (ce_X7_needArea 0 0) st_X7_needArea lk_X7_138 ⟨(Nat.le_of_ble_eq_true rfl), (Nat.le_of_ble_eq_true rfl)⟩ dX7_rim_7 rfl rfl (Nat.le_of_ble_eq_true rfl) (Nat.zero_le _) (Nat.zero_le _) ?_
  refine ja_iconst (v := nI 0) dX7_rim_10 (by decide +kernel) ?_
  refine ja_istore (i := 4) dX7_rim_11 rfl (Nat.le_of_ble_eq_true rfl) ?_
  refine ja_iconst (v := nI 0) dX7_rim_13 (by decide +kernel) ?_
  refine ja_istore (i := 5) dX7_rim_14 rfl (Nat.le_of_ble_eq_true rfl) ?_
  have lp16 : ∀ (f16 : Nat) (q n : Nat), (256 < q + f16) → (q ≤ 256) → (n = fb_sm (xrm (D (31 + 10 * ly)) (nI a)) q) → ja_A l (mX7_rim 0 0) ja_sn (ja_Qf (mX7_rim 0 0) (ja_jr (some (.int (nI (fb_sm (xrm (D (31 + 10 * ly)) (nI a)) 256)))) Z D) ja_x0) 16 [some (.ref (0)), some (.int (nI (ly))), some (.int (nI (a))), some (.ref (30 + 10 * ly)), some (.int (nI (n))), some (.int (nI (q)))] [] Z D 0 0 := by
    intro f16
    induction f16 with
    | zero => intro q n hf hq hn; exfalso; omega
    | succ f16 ih16 =>
      intro q n hf hq hn
      refine ja_iload (i := 5) dX7_rim_16 rfl ?_
      refine ja_sipush (v := nI 256) dX7_rim_18 (by decide +kernel) ?_
      refine ja_icmpN_ge (tgt := 52) dX7_rim_21 (by decide) (by omega) (by omega) (fun c21 => ?_) (fun c21 => ?_)
      ·
        refine ja_iload (i := 4) dX7_rim_52 rfl ?_
        refine ja_iret rfl rfl dX7_rim_54 (Nat.zero_le _) (Nat.zero_le _) ?_
        exact ⟨by rw [hn, show q = 256 by omega], rfl, rfl⟩
      ·
        refine ja_aload_n (i := 3) dX7_rim_24 rfl rfl ?_
        refine ja_getR fl_X7_135 (zL_o hx (l := ly) (by omega)) rfl (zL_p0 hx (l := ly) (by omega)) dX7_rim_25 ?_
        refine ja_iload (i := 5) dX7_rim_28 rfl ?_
        refine ja_iald (zL_a0 hx (l := ly) (by omega)) rfl (by omega) (by decide) dX7_rim_30 ?_
        refine ja_iload_n (i := 2) dX7_rim_31 rfl rfl ?_
        refine ja_icmp_ne (tgt := 46) dX7_rim_32 (by decide) (fun c32 => ?_) (fun c32 => ?_)
        ·
          refine ja_iincN dX7_rim_46 rfl rfl (Nat.le_of_ble_eq_true rfl) ?_
          refine ja_goto (tgt := 16) dX7_rim_49 (by decide) ?_
          exact ih16 (q + 1) _ (by omega) (by omega) (by rw [hn, fb_sm_succ, show xrm (D (31 + 10 * ly)) (nI a) q = 0 from if_neg c32, Nat.add_zero])
        ·
          refine ja_iload (i := 4) dX7_rim_35 rfl ?_
          refine ja_aload_n (i := 3) dX7_rim_37 rfl rfl ?_
          refine ja_iload (i := 5) dX7_rim_38 rfl ?_
          refine ja_cVr (st := [.int (nI (n))]) (c_openSides (D := D) l hx h1 (q := q) (by omega)) rfl rfl (ce_X1_openSides 0 0) im_X1_openSides se_X1_openSides lk_X7_190 k_X1 (zL_o hx (l := ly) (by omega)) ⟨(Nat.le_of_ble_eq_true rfl), (Nat.le_of_ble_eq_true rfl)⟩ dX7_rim_40 rfl rfl (Nat.le_of_ble_eq_true rfl) (Nat.zero_le _) (Nat.zero_le _) ?_
          refine ja_iaddN dX7_rim_43 ?_
          refine ja_istore (i := 4) dX7_rim_44 rfl (Nat.le_of_ble_eq_true rfl) ?_
          refine ja_iincN dX7_rim_46 rfl rfl (Nat.le_of_ble_eq_true rfl) ?_
          refine ja_goto (tgt := 16) dX7_rim_49 (by decide) ?_
          exact ih16 (q + 1) _ (by omega) (by omega) (by rw [hn, fb_sm_succ (xrm (D (31 + 10 * ly)) (nI a)) q, show xrm (D (31 + 10 * ly)) (nI a) q = fb_sm (rmX (D (31 + 10 * ly)) q) 4 from if_pos c32])
  exact lp16 257 0 0 (by omega) (by omega) rfl

set_option maxRecDepth 100000 in
set_option maxHeartbeats 4000000 in
theorem c_border_f1 (l : Launch) {Z : jZ} {D : jD} (hx : zX Z) {ly a : Int32} (o : Int32) (hl : ¬ (nI 0 ≤ ly ∧ ly ≤ nI 2))  : ja_M l (mX7_border 1 6) [.ref (0), .int (ly), .int (a), .int (o)] Z D ja_r0 (ja_jx "java/lang/IndexOutOfBoundsException" Z D) := by
  refine ja_Mof (lv := [some (.ref (0)), some (.int (ly)), some (.int (a)), some (.int (o)), none, none, none, none, none]) (by decide +kernel) rfl rfl (Nat.le_of_ble_eq_true rfl) rfl ?_
  refine ja_aload_n (i := 0) dX7_border_0 rfl rfl ?_
  refine ja_iload_n (i := 1) dX7_border_1 rfl rfl ?_
  refine ja_cVx (st := []) (c_layerOf_x (D := D) l hx hl) (ce_X7_layerOf 1 6) im_X7_layerOf se_X7_layerOf lk_X7_93 k_X7 (zX_o0 hx) ⟨(Nat.le_of_ble_eq_true rfl), (Nat.le_of_ble_eq_true rfl)⟩ dX7_border_2 rfl rfl (Nat.le_of_ble_eq_true rfl) (Nat.le_of_ble_eq_true rfl) (Nat.le_of_ble_eq_true rfl) ?_
  refine ja_out rfl (Nat.le_of_ble_eq_true rfl) (Nat.le_of_ble_eq_true rfl) ?_
  exact ⟨rfl, rfl, rfl⟩

set_option maxRecDepth 100000 in
set_option maxHeartbeats 4000000 in
theorem c_border_f2 (l : Launch) {Z : jZ} {D : jD} (hx : zX Z) {ly : Nat} (h1 : ly < 3) {a : Int32} (o : Int32) (ha : ¬ (nI 0 ≤ a ∧ a ≤ nI 9))  : ja_M l (mX7_border 1 6) [.ref (0), .int (nI (ly)), .int (a), .int (o)] Z D ja_r0 (ja_jx "java/lang/IllegalArgumentException" Z D) := by
  refine ja_Mof (lv := [some (.ref (0)), some (.int (nI (ly))), some (.int (a)), some (.int (o)), none, none, none, none, none]) (by decide +kernel) rfl rfl (Nat.le_of_ble_eq_true rfl) rfl ?_
  refine ja_aload_n (i := 0) dX7_border_0 rfl rfl ?_
  refine ja_iload_n (i := 1) dX7_border_1 rfl rfl ?_
  refine ja_cVr (st := []) (c_layerOf (D := D) l hx (ly := ly) (by omega)) rfl rfl (ce_X7_layerOf 0 0) im_X7_layerOf se_X7_layerOf lk_X7_93 k_X7 (zX_o0 hx) ⟨(Nat.le_of_ble_eq_true rfl), (Nat.le_of_ble_eq_true rfl)⟩ dX7_border_2 rfl rfl (Nat.le_of_ble_eq_true rfl) (Nat.zero_le _) (Nat.zero_le _) ?_
  refine ja_astore (i := 4) dX7_border_5 rfl (Nat.le_of_ble_eq_true rfl) ?_
  refine ja_iload_n (i := 2) dX7_border_7 rfl rfl ?_
  refine ja_iload_n (i := 3) dX7_border_8 rfl rfl ?_
  refine ja_cSx (st := []) (c_needTwoAreas_x1 (D := D) l (o) ha) (ce_X7_needTwoAreas 1 6) st_X7_needTwoAreas lk_X7_122 ⟨(Nat.le_of_ble_eq_true rfl), (Nat.le_of_ble_eq_true rfl)⟩ dX7_border_9 rfl rfl (Nat.le_of_ble_eq_true rfl) (Nat.le_of_ble_eq_true rfl) (Nat.le_of_ble_eq_true rfl) ?_
  refine ja_out rfl (Nat.le_of_ble_eq_true rfl) (Nat.le_of_ble_eq_true rfl) ?_
  exact ⟨rfl, rfl, rfl⟩

set_option maxRecDepth 100000 in
set_option maxHeartbeats 4000000 in
theorem c_border_f2b (l : Launch) {Z : jZ} {D : jD} (hx : zX Z) {ly : Nat} (h1 : ly < 3) {a : Nat} (h2 : a < 10) {o : Int32} (ho : ¬ (nI 0 ≤ o ∧ o ≤ nI 9)) : ja_M l (mX7_border 1 6) [.ref (0), .int (nI (ly)), .int (nI (a)), .int (o)] Z D ja_r0 (ja_jx "java/lang/IllegalArgumentException" Z D) := by
  refine ja_Mof (lv := [some (.ref (0)), some (.int (nI (ly))), some (.int (nI (a))), some (.int (o)), none, none, none, none, none]) (by decide +kernel) rfl rfl (Nat.le_of_ble_eq_true rfl) rfl ?_
  refine ja_aload_n (i := 0) dX7_border_0 rfl rfl ?_
  refine ja_iload_n (i := 1) dX7_border_1 rfl rfl ?_
  refine ja_cVr (st := []) (c_layerOf (D := D) l hx (ly := ly) (by omega)) rfl rfl (ce_X7_layerOf 0 0) im_X7_layerOf se_X7_layerOf lk_X7_93 k_X7 (zX_o0 hx) ⟨(Nat.le_of_ble_eq_true rfl), (Nat.le_of_ble_eq_true rfl)⟩ dX7_border_2 rfl rfl (Nat.le_of_ble_eq_true rfl) (Nat.zero_le _) (Nat.zero_le _) ?_
  refine ja_astore (i := 4) dX7_border_5 rfl (Nat.le_of_ble_eq_true rfl) ?_
  refine ja_iload_n (i := 2) dX7_border_7 rfl rfl ?_
  refine ja_iload_n (i := 3) dX7_border_8 rfl rfl ?_
  refine ja_cSx (st := []) (c_needTwoAreas_x2 (D := D) l (a := a) (by omega) ho) (ce_X7_needTwoAreas 1 6) st_X7_needTwoAreas lk_X7_122 ⟨(Nat.le_of_ble_eq_true rfl), (Nat.le_of_ble_eq_true rfl)⟩ dX7_border_9 rfl rfl (Nat.le_of_ble_eq_true rfl) (Nat.le_of_ble_eq_true rfl) (Nat.le_of_ble_eq_true rfl) ?_
  refine ja_out rfl (Nat.le_of_ble_eq_true rfl) (Nat.le_of_ble_eq_true rfl) ?_
  exact ⟨rfl, rfl, rfl⟩

set_option maxRecDepth 100000 in
set_option maxHeartbeats 4000000 in
theorem c_border_f2c (l : Launch) {Z : jZ} {D : jD} (hx : zX Z) {ly : Nat} (h1 : ly < 3) {a : Nat} (h2 : a < 10) : ja_M l (mX7_border 1 6) [.ref (0), .int (nI (ly)), .int (nI (a)), .int (nI (a))] Z D ja_r0 (ja_jx "java/lang/IllegalArgumentException" Z D) := by
  refine ja_Mof (lv := [some (.ref (0)), some (.int (nI (ly))), some (.int (nI (a))), some (.int (nI (a))), none, none, none, none, none]) (by decide +kernel) rfl rfl (Nat.le_of_ble_eq_true rfl) rfl ?_
  refine ja_aload_n (i := 0) dX7_border_0 rfl rfl ?_
  refine ja_iload_n (i := 1) dX7_border_1 rfl rfl ?_
  refine ja_cVr (st := []) (c_layerOf (D := D) l hx (ly := ly) (by omega)) rfl rfl (ce_X7_layerOf 0 0) im_X7_layerOf se_X7_layerOf lk_X7_93 k_X7 (zX_o0 hx) ⟨(Nat.le_of_ble_eq_true rfl), (Nat.le_of_ble_eq_true rfl)⟩ dX7_border_2 rfl rfl (Nat.le_of_ble_eq_true rfl) (Nat.zero_le _) (Nat.zero_le _) ?_
  refine ja_astore (i := 4) dX7_border_5 rfl (Nat.le_of_ble_eq_true rfl) ?_
  refine ja_iload_n (i := 2) dX7_border_7 rfl rfl ?_
  refine ja_iload_n (i := 3) dX7_border_8 rfl rfl ?_
  refine ja_cSx (st := []) (c_needTwoAreas_x3 (D := D) l (a := a) (by omega)) (ce_X7_needTwoAreas 1 6) st_X7_needTwoAreas lk_X7_122 ⟨(Nat.le_of_ble_eq_true rfl), (Nat.le_of_ble_eq_true rfl)⟩ dX7_border_9 rfl rfl (Nat.le_of_ble_eq_true rfl) (Nat.le_of_ble_eq_true rfl) (Nat.le_of_ble_eq_true rfl) ?_
  refine ja_out rfl (Nat.le_of_ble_eq_true rfl) (Nat.le_of_ble_eq_true rfl) ?_
  exact ⟨rfl, rfl, rfl⟩

set_option maxRecDepth 100000 in
set_option maxHeartbeats 4000000 in
theorem c_distance_f1 (l : Launch) {Z : jZ} {D : jD} (hx : zX Z) {ly a : Int32} (o : Int32) (hl : ¬ (nI 0 ≤ ly ∧ ly ≤ nI 2))  : ja_M l (mX7_distance 1 6) [.ref (0), .int (ly), .int (a), .int (o)] Z D ja_r0 (ja_jx "java/lang/IndexOutOfBoundsException" Z D) := by
  refine ja_Mof (lv := [some (.ref (0)), some (.int (ly)), some (.int (a)), some (.int (o)), none]) (by decide +kernel) rfl rfl (Nat.le_of_ble_eq_true rfl) rfl ?_
  refine ja_aload_n (i := 0) dX7_distance_0 rfl rfl ?_
  refine ja_iload_n (i := 1) dX7_distance_1 rfl rfl ?_
  refine ja_cVx (st := []) (c_layerOf_x (D := D) l hx hl) (ce_X7_layerOf 1 6) im_X7_layerOf se_X7_layerOf lk_X7_93 k_X7 (zX_o0 hx) ⟨(Nat.le_of_ble_eq_true rfl), (Nat.le_of_ble_eq_true rfl)⟩ dX7_distance_2 rfl rfl (Nat.le_of_ble_eq_true rfl) (Nat.le_of_ble_eq_true rfl) (Nat.le_of_ble_eq_true rfl) ?_
  refine ja_out rfl (Nat.le_of_ble_eq_true rfl) (Nat.le_of_ble_eq_true rfl) ?_
  exact ⟨rfl, rfl, rfl⟩

set_option maxRecDepth 100000 in
set_option maxHeartbeats 4000000 in
theorem c_distance_f2 (l : Launch) {Z : jZ} {D : jD} (hx : zX Z) {ly : Nat} (h1 : ly < 3) {a : Int32} (o : Int32) (ha : ¬ (nI 0 ≤ a ∧ a ≤ nI 9))  : ja_M l (mX7_distance 1 6) [.ref (0), .int (nI (ly)), .int (a), .int (o)] Z D ja_r0 (ja_jx "java/lang/IllegalArgumentException" Z D) := by
  refine ja_Mof (lv := [some (.ref (0)), some (.int (nI (ly))), some (.int (a)), some (.int (o)), none]) (by decide +kernel) rfl rfl (Nat.le_of_ble_eq_true rfl) rfl ?_
  refine ja_aload_n (i := 0) dX7_distance_0 rfl rfl ?_
  refine ja_iload_n (i := 1) dX7_distance_1 rfl rfl ?_
  refine ja_cVr (st := []) (c_layerOf (D := D) l hx (ly := ly) (by omega)) rfl rfl (ce_X7_layerOf 0 0) im_X7_layerOf se_X7_layerOf lk_X7_93 k_X7 (zX_o0 hx) ⟨(Nat.le_of_ble_eq_true rfl), (Nat.le_of_ble_eq_true rfl)⟩ dX7_distance_2 rfl rfl (Nat.le_of_ble_eq_true rfl) (Nat.zero_le _) (Nat.zero_le _) ?_
  refine ja_astore (i := 4) dX7_distance_5 rfl (Nat.le_of_ble_eq_true rfl) ?_
  refine ja_iload_n (i := 2) dX7_distance_7 rfl rfl ?_
  refine ja_iload_n (i := 3) dX7_distance_8 rfl rfl ?_
  refine ja_cSx (st := []) (c_needTwoAreas_x1 (D := D) l (o) ha) (ce_X7_needTwoAreas 1 6) st_X7_needTwoAreas lk_X7_122 ⟨(Nat.le_of_ble_eq_true rfl), (Nat.le_of_ble_eq_true rfl)⟩ dX7_distance_9 rfl rfl (Nat.le_of_ble_eq_true rfl) (Nat.le_of_ble_eq_true rfl) (Nat.le_of_ble_eq_true rfl) ?_
  refine ja_out rfl (Nat.le_of_ble_eq_true rfl) (Nat.le_of_ble_eq_true rfl) ?_
  exact ⟨rfl, rfl, rfl⟩

set_option maxRecDepth 100000 in
set_option maxHeartbeats 4000000 in
theorem c_distance_f2b (l : Launch) {Z : jZ} {D : jD} (hx : zX Z) {ly : Nat} (h1 : ly < 3) {a : Nat} (h2 : a < 10) {o : Int32} (ho : ¬ (nI 0 ≤ o ∧ o ≤ nI 9)) : ja_M l (mX7_distance 1 6) [.ref (0), .int (nI (ly)), .int (nI (a)), .int (o)] Z D ja_r0 (ja_jx "java/lang/IllegalArgumentException" Z D) := by
  refine ja_Mof (lv := [some (.ref (0)), some (.int (nI (ly))), some (.int (nI (a))), some (.int (o)), none]) (by decide +kernel) rfl rfl (Nat.le_of_ble_eq_true rfl) rfl ?_
  refine ja_aload_n (i := 0) dX7_distance_0 rfl rfl ?_
  refine ja_iload_n (i := 1) dX7_distance_1 rfl rfl ?_
  refine ja_cVr (st := []) (c_layerOf (D := D) l hx (ly := ly) (by omega)) rfl rfl (ce_X7_layerOf 0 0) im_X7_layerOf se_X7_layerOf lk_X7_93 k_X7 (zX_o0 hx) ⟨(Nat.le_of_ble_eq_true rfl), (Nat.le_of_ble_eq_true rfl)⟩ dX7_distance_2 rfl rfl (Nat.le_of_ble_eq_true rfl) (Nat.zero_le _) (Nat.zero_le _) ?_
  refine ja_astore (i := 4) dX7_distance_5 rfl (Nat.le_of_ble_eq_true rfl) ?_
  refine ja_iload_n (i := 2) dX7_distance_7 rfl rfl ?_
  refine ja_iload_n (i := 3) dX7_distance_8 rfl rfl ?_
  refine ja_cSx (st := []) (c_needTwoAreas_x2 (D := D) l (a := a) (by omega) ho) (ce_X7_needTwoAreas 1 6) st_X7_needTwoAreas lk_X7_122 ⟨(Nat.le_of_ble_eq_true rfl), (Nat.le_of_ble_eq_true rfl)⟩ dX7_distance_9 rfl rfl (Nat.le_of_ble_eq_true rfl) (Nat.le_of_ble_eq_true rfl) (Nat.le_of_ble_eq_true rfl) ?_
  refine ja_out rfl (Nat.le_of_ble_eq_true rfl) (Nat.le_of_ble_eq_true rfl) ?_
  exact ⟨rfl, rfl, rfl⟩

set_option maxRecDepth 100000 in
set_option maxHeartbeats 4000000 in
theorem c_distance_f2c (l : Launch) {Z : jZ} {D : jD} (hx : zX Z) {ly : Nat} (h1 : ly < 3) {a : Nat} (h2 : a < 10) : ja_M l (mX7_distance 1 6) [.ref (0), .int (nI (ly)), .int (nI (a)), .int (nI (a))] Z D ja_r0 (ja_jx "java/lang/IllegalArgumentException" Z D) := by
  refine ja_Mof (lv := [some (.ref (0)), some (.int (nI (ly))), some (.int (nI (a))), some (.int (nI (a))), none]) (by decide +kernel) rfl rfl (Nat.le_of_ble_eq_true rfl) rfl ?_
  refine ja_aload_n (i := 0) dX7_distance_0 rfl rfl ?_
  refine ja_iload_n (i := 1) dX7_distance_1 rfl rfl ?_
  refine ja_cVr (st := []) (c_layerOf (D := D) l hx (ly := ly) (by omega)) rfl rfl (ce_X7_layerOf 0 0) im_X7_layerOf se_X7_layerOf lk_X7_93 k_X7 (zX_o0 hx) ⟨(Nat.le_of_ble_eq_true rfl), (Nat.le_of_ble_eq_true rfl)⟩ dX7_distance_2 rfl rfl (Nat.le_of_ble_eq_true rfl) (Nat.zero_le _) (Nat.zero_le _) ?_
  refine ja_astore (i := 4) dX7_distance_5 rfl (Nat.le_of_ble_eq_true rfl) ?_
  refine ja_iload_n (i := 2) dX7_distance_7 rfl rfl ?_
  refine ja_iload_n (i := 3) dX7_distance_8 rfl rfl ?_
  refine ja_cSx (st := []) (c_needTwoAreas_x3 (D := D) l (a := a) (by omega)) (ce_X7_needTwoAreas 1 6) st_X7_needTwoAreas lk_X7_122 ⟨(Nat.le_of_ble_eq_true rfl), (Nat.le_of_ble_eq_true rfl)⟩ dX7_distance_9 rfl rfl (Nat.le_of_ble_eq_true rfl) (Nat.le_of_ble_eq_true rfl) (Nat.le_of_ble_eq_true rfl) ?_
  refine ja_out rfl (Nat.le_of_ble_eq_true rfl) (Nat.le_of_ble_eq_true rfl) ?_
  exact ⟨rfl, rfl, rfl⟩

def xbd (c : Nat → Int32) (a o : Int32) (q s : Nat) : Nat := match nbX s q with
  | none => 0
  | some j => if c q = a ∧ c j = o then 1 else 0

set_option maxRecDepth 100000 in
set_option maxHeartbeats 4000000 in
theorem c_border_ok (l : Launch) {Z : jZ} {D : jD} (hx : zX Z) {ly : Nat} (h1 : ly < 3) {a o : Nat} (h2 : a < 10) (h3 : o < 10) (h4 : a ≠ o)  : ja_M l (mX7_border 0 0) [.ref (0), .int (nI (ly)), .int (nI (a)), .int (nI (o))] Z D (ja_jr (some (.int (nI (fb_sm (fun q => fb_sm (xbd (D (31 + 10 * ly)) (nI a) (nI o) q) 4) 256)))) Z D) ja_x0 := by
  refine ja_Mof (lv := [some (.ref (0)), some (.int (nI (ly))), some (.int (nI (a))), some (.int (nI (o))), none, none, none, none, none]) (by decide +kernel) rfl rfl (Nat.le_of_ble_eq_true rfl) rfl ?_
  refine ja_aload_n (i := 0) dX7_border_0 rfl rfl ?_
  refine ja_iload_n (i := 1) dX7_border_1 rfl rfl ?_
  refine ja_cVr (st := []) (c_layerOf (D := D) l hx (ly := ly) (by omega)) rfl rfl (ce_X7_layerOf 0 0) im_X7_layerOf se_X7_layerOf lk_X7_93 k_X7 (zX_o0 hx) ⟨(Nat.le_of_ble_eq_true rfl), (Nat.le_of_ble_eq_true rfl)⟩ dX7_border_2 rfl rfl (Nat.le_of_ble_eq_true rfl) (Nat.zero_le _) (Nat.zero_le _) ?_
  refine ja_astore (i := 4) dX7_border_5 rfl (Nat.le_of_ble_eq_true rfl) ?_
  refine ja_iload_n (i := 2) dX7_border_7 rfl rfl ?_
  refine ja_iload_n (i := 3) dX7_border_8 rfl rfl ?_
  refine ja_cSr0 (st := []) (c_needTwoAreas (D := D) l (a := a) (o := o) (by omega) (by omega) h4) rfl rfl (ce_X7_needTwoAreas 0 0) st_X7_needTwoAreas lk_X7_122 ⟨(Nat.le_of_ble_eq_true rfl), (Nat.le_of_ble_eq_true rfl)⟩ dX7_border_9 rfl rfl (Nat.le_of_ble_eq_true rfl) (Nat.zero_le _) (Nat.zero_le _) ?_
  refine ja_iconst (v := nI 0) dX7_border_12 (by decide +kernel) ?_
  refine ja_istore (i := 5) dX7_border_13 rfl (Nat.le_of_ble_eq_true rfl) ?_
  refine ja_iconst (v := nI 0) dX7_border_15 (by decide +kernel) ?_
  refine ja_istore (i := 6) dX7_border_16 rfl (Nat.le_of_ble_eq_true rfl) ?_
  have lp18 : ∀ (f18 : Nat) (q n : Nat), (256 < q + f18) → (q ≤ 256) → (n = fb_sm (fun q => fb_sm (xbd (D (31 + 10 * ly)) (nI a) (nI o) q) 4) q) → ja_A l (mX7_border 0 0) ja_sn (ja_Qf (mX7_border 0 0) (ja_jr (some (.int (nI (fb_sm (fun q => fb_sm (xbd (D (31 + 10 * ly)) (nI a) (nI o) q) 4) 256)))) Z D) ja_x0) 18 [some (.ref (0)), some (.int (nI (ly))), some (.int (nI (a))), some (.int (nI (o))), some (.ref (30 + 10 * ly)), some (.int (nI (n))), some (.int (nI (q))), none, none] [] Z D 0 0 := by
    intro f18
    induction f18 with
    | zero => intro q n hf hq hn; exfalso; omega
    | succ f18 ih18 =>
      intro q n hf hq hn
      refine ja_iload (i := 6) dX7_border_18 rfl ?_
      refine ja_sipush (v := nI 256) dX7_border_20 (by decide +kernel) ?_
      refine ja_icmpN_ge (tgt := 89) dX7_border_23 (by decide) (by omega) (by omega) (fun c23 => ?_) (fun c23 => ?_)
      ·
        refine ja_iload (i := 5) dX7_border_89 rfl ?_
        refine ja_iret rfl rfl dX7_border_91 (Nat.zero_le _) (Nat.zero_le _) ?_
        exact ⟨by rw [hn, show q = 256 by omega], rfl, rfl⟩
      ·
        refine ja_iconst (v := nI 0) dX7_border_26 (by decide +kernel) ?_
        refine ja_istore (i := 7) dX7_border_27 rfl (Nat.le_of_ble_eq_true rfl) ?_
        have lp29 : ∀ (f29 : Nat) (s n2 : Nat), (4 < s + f29) → (s ≤ 4) → (n2 = n + fb_sm (xbd (D (31 + 10 * ly)) (nI a) (nI o) q) s) → ja_A l (mX7_border 0 0) ja_sn (ja_Qf (mX7_border 0 0) (ja_jr (some (.int (nI (fb_sm (fun q => fb_sm (xbd (D (31 + 10 * ly)) (nI a) (nI o) q) 4) 256)))) Z D) ja_x0) 29 [some (.ref (0)), some (.int (nI (ly))), some (.int (nI (a))), some (.int (nI (o))), some (.ref (30 + 10 * ly)), some (.int (nI (n2))), some (.int (nI (q))), some (.int (nI (s))), none] [] Z D 0 0 := by
          intro f29
          induction f29 with
          | zero => intro s n2 hf hs hn2; exfalso; omega
          | succ f29 ih29 =>
            intro s n2 hf hs hn2
            refine ja_iload (i := 7) dX7_border_29 rfl ?_
            refine ja_iconst (v := nI 4) dX7_border_31 (by decide +kernel) ?_
            refine ja_icmpN_ge (tgt := 83) dX7_border_32 (by decide) (by omega) (by omega) (fun c32 => ?_) (fun c32 => ?_)
            ·
              refine ja_iincN dX7_border_83 rfl rfl (Nat.le_of_ble_eq_true rfl) ?_
              refine ja_goto (tgt := 18) dX7_border_86 (by decide) ?_
              refine ja_forget (i := 7) ?_
              exact ih18 (q + 1) _ (by omega) (by omega) (by rw [hn2, hn, fb_sm_succ, show s = 4 by omega])
            ·
              refine ja_iload (i := 6) dX7_border_35 rfl ?_
              refine ja_iload (i := 7) dX7_border_37 rfl ?_
              refine ja_cSr (st := []) (c_nb l (q := q) (s := s) (by omega) (by omega)) rfl rfl (ce_X7_neighbour 0 0) st_X7_neighbour lk_X7_193 ⟨(Nat.le_of_ble_eq_true rfl), (Nat.le_of_ble_eq_true rfl)⟩ dX7_border_39 rfl rfl (Nat.le_of_ble_eq_true rfl) (Nat.zero_le _) (Nat.zero_le _) ?_
              refine ja_istore (i := 8) dX7_border_42 rfl (Nat.le_of_ble_eq_true rfl) ?_
              rcases hnb : nbX s q with _ | j
              ·
                refine ja_iload (i := 8) dX7_border_44 rfl ?_
                refine ja_iconst (v := (-1)) dX7_border_46 (by decide +kernel) ?_
                refine ja_icmp_eq (tgt := 77) dX7_border_47 (by decide) (fun c47 => ?_) (fun c47 => absurd rfl c47)
                refine ja_iincN dX7_border_77 rfl rfl (Nat.le_of_ble_eq_true rfl) ?_
                refine ja_goto (tgt := 29) dX7_border_80 (by decide) ?_
                refine ja_forget (i := 8) ?_
                exact ih29 (s + 1) _ (by omega) (by omega) (by rw [hn2, fb_sm_succ, xbd, hnb]; first | rfl | (show _ = _ + (_ + if _ then 1 else 0); rw [if_neg (fun h => by first | exact c59 h.1 | exact c71 h.2), Nat.add_zero]))
              ·
                have hj := nbX_lt (by omega) hnb
                refine ja_iload (i := 8) dX7_border_44 rfl ?_
                refine ja_iconst (v := (-1)) dX7_border_46 (by decide +kernel) ?_
                refine ja_icmp_eq (tgt := 77) dX7_border_47 (by decide) (fun c47 => absurd c47 (nI_nm1 (by omega))) (fun c47 => ?_)
                refine ja_aload (i := 4) dX7_border_50 rfl ?_
                refine ja_getR fl_X7_135 (zL_o hx (l := ly) (by omega)) rfl (zL_p0 hx (l := ly) (by omega)) dX7_border_52 ?_
                refine ja_iload (i := 6) dX7_border_55 rfl ?_
                refine ja_iald (zL_a0 hx (l := ly) (by omega)) rfl (by omega) (by decide) dX7_border_57 ?_
                refine ja_iload_n (i := 2) dX7_border_58 rfl rfl ?_
                refine ja_icmp_ne (tgt := 77) dX7_border_59 (by decide) (fun c59 => ?_) (fun c59 => ?_)
                ·
                  refine ja_iincN dX7_border_77 rfl rfl (Nat.le_of_ble_eq_true rfl) ?_
                  refine ja_goto (tgt := 29) dX7_border_80 (by decide) ?_
                  refine ja_forget (i := 8) ?_
                  exact ih29 (s + 1) _ (by omega) (by omega) (by rw [hn2, fb_sm_succ, xbd, hnb]; first | rfl | (show _ = _ + (_ + if _ then 1 else 0); rw [if_neg (fun h => by first | exact c59 h.1 | exact c71 h.2), Nat.add_zero]))
                ·
                  refine ja_aload (i := 4) dX7_border_62 rfl ?_
                  refine ja_getR fl_X7_135 (zL_o hx (l := ly) (by omega)) rfl (zL_p0 hx (l := ly) (by omega)) dX7_border_64 ?_
                  refine ja_iload (i := 8) dX7_border_67 rfl ?_
                  refine ja_iald (zL_a0 hx (l := ly) (by omega)) rfl (by omega) (by decide) dX7_border_69 ?_
                  refine ja_iload_n (i := 3) dX7_border_70 rfl rfl ?_
                  refine ja_icmp_ne (tgt := 77) dX7_border_71 (by decide) (fun c71 => ?_) (fun c71 => ?_)
                  ·
                    refine ja_iincN dX7_border_77 rfl rfl (Nat.le_of_ble_eq_true rfl) ?_
                    refine ja_goto (tgt := 29) dX7_border_80 (by decide) ?_
                    refine ja_forget (i := 8) ?_
                    exact ih29 (s + 1) _ (by omega) (by omega) (by rw [hn2, fb_sm_succ, xbd, hnb]; first | rfl | (show _ = _ + (_ + if _ then 1 else 0); rw [if_neg (fun h => by first | exact c59 h.1 | exact c71 h.2), Nat.add_zero]))
                  ·
                    refine ja_iincN dX7_border_74 rfl rfl (Nat.le_of_ble_eq_true rfl) ?_
                    refine ja_iincN dX7_border_77 rfl rfl (Nat.le_of_ble_eq_true rfl) ?_
                    refine ja_goto (tgt := 29) dX7_border_80 (by decide) ?_
                    refine ja_forget (i := 8) ?_
                    exact ih29 (s + 1) _ (by omega) (by omega) (by rw [hn2, fb_sm_succ, xbd, hnb]; first | (show _ = _ + (_ + if _ then 1 else 0); rw [if_pos ⟨c59, c71⟩]; omega) )
        exact lp29 5 0 n (by omega) (by omega) rfl
  exact lp18 257 0 0 (by omega) (by omega) rfl

theorem cSz_pos {f : Nat → Int32} {ly : Nat} {a : Int32} : ¬ cSz f ly a 256 = 0 ↔ ∃ q, q < 256 ∧ f (256 * ly + q) = a := by
  constructor
  · intro h
    obtain ⟨q, h1, h2⟩ := ct_pos (p := fun q => decide (f (256 * ly + q) = a)) (Nat.pos_of_ne_zero h)
    exact ⟨q, h1, of_decide_eq_true h2⟩
  · rintro ⟨q, h1, h2⟩ e
    have := ct_has (p := fun q => decide (f (256 * ly + q) = a)) (q := q) (decide_eq_true h2) h1
    unfold cSz at e
    omega
theorem btw_ex {f : Nat → Int32} {ly : Nat} {a o : Int32} : (∃ m, lst (btw f ly a o) = some m) ↔ ¬ cSz f ly a 256 = 0 ∧ ¬ cSz f ly o 256 = 0 := by
  constructor
  · rintro ⟨m, h⟩
    obtain ⟨q, n, h1, h2, h3, h4, -⟩ := (lst_is h).1
    exact ⟨cSz_pos.mpr ⟨q, h1, h3⟩, cSz_pos.mpr ⟨n, h2, h4⟩⟩
  · rintro ⟨h1, h2⟩
    obtain ⟨q, q1, q2⟩ := cSz_pos.mp h1
    obtain ⟨n, n1, n2⟩ := cSz_pos.mp h2
    cases h : lst (btw f ly a o) with
    | none => exact absurd ⟨q, n, q1, n1, q2, n2, rfl⟩ (lst_no h (stp q n))
    | some m => exact ⟨m, rfl⟩

set_option maxRecDepth 100000 in
set_option maxHeartbeats 4000000 in
theorem c_distance_ok (l : Launch) {Z : jZ} {D : jD} (hx : zX Z) {ly : Nat} (h1 : ly < 3) {t0 : Nat → Nat} (hT0 : sT t0) (hst : ∀ k, k < 256 → D 12 k = nI (t0 k)) {f : Nat → Int32} (hf : ∀ q, q < 256 → D (31 + 10 * ly) q = f (256 * ly + q)) (hz : ∀ a, a < 10 → D (32 + 10 * ly) a = nI (cSz f ly (nI a) 256)) {a o : Nat} (h2 : a < 10) (h3 : o < 10) (h4 : a ≠ o) {m : Nat} (hd : lst (btw f ly (nI a) (nI o)) = some m) : ja_M l (mX7_distance 0 0) [.ref (0), .int (nI (ly)), .int (nI (a)), .int (nI (o))] Z D (ja_jd (some (.int (nI m))) Z (fun D2 => ∃ t, sT t ∧ D2 = stU D t)) ja_x0 := by
  obtain ⟨y1, y2⟩ := btw_ex.mp ⟨m, hd⟩
  refine ja_Mof (lv := [some (.ref (0)), some (.int (nI (ly))), some (.int (nI (a))), some (.int (nI (o))), none]) (by decide +kernel) rfl rfl (Nat.le_of_ble_eq_true rfl) rfl ?_
  refine ja_aload_n (i := 0) dX7_distance_0 rfl rfl ?_
  refine ja_iload_n (i := 1) dX7_distance_1 rfl rfl ?_
  refine ja_cVr (st := []) (c_layerOf (D := D) l hx (ly := ly) (by omega)) rfl rfl (ce_X7_layerOf 0 0) im_X7_layerOf se_X7_layerOf lk_X7_93 k_X7 (zX_o0 hx) ⟨(Nat.le_of_ble_eq_true rfl), (Nat.le_of_ble_eq_true rfl)⟩ dX7_distance_2 rfl rfl (Nat.le_of_ble_eq_true rfl) (Nat.zero_le _) (Nat.zero_le _) ?_
  refine ja_astore (i := 4) dX7_distance_5 rfl (Nat.le_of_ble_eq_true rfl) ?_
  refine ja_iload_n (i := 2) dX7_distance_7 rfl rfl ?_
  refine ja_iload_n (i := 3) dX7_distance_8 rfl rfl ?_
  refine ja_cSr0 (st := []) (c_needTwoAreas (D := D) l (a := a) (o := o) (by omega) (by omega) h4) rfl rfl (ce_X7_needTwoAreas 0 0) st_X7_needTwoAreas lk_X7_122 ⟨(Nat.le_of_ble_eq_true rfl), (Nat.le_of_ble_eq_true rfl)⟩ dX7_distance_9 rfl rfl (Nat.le_of_ble_eq_true rfl) (Nat.zero_le _) (Nat.zero_le _) ?_
  have z1 := cSz_le f ly (nI a) 256
  have z2 := cSz_le f ly (nI o) 256
  refine ja_aload (i := 4) dX7_distance_12 rfl ?_
  refine ja_getR fl_X7_127 (zL_o hx (l := ly) (by omega)) rfl (zL_p1 hx (l := ly) (by omega)) dX7_distance_14 ?_
  refine ja_iload_n (i := 2) dX7_distance_17 rfl rfl ?_
  refine ja_iald (zL_a1 hx (l := ly) (by omega)) rfl (by omega) (by decide) dX7_distance_18 ?_
  refine ja_top (y := nI (cSz f ly (nI a) 256)) (hz a h2) ?_
  refine ja_ifN_eq (tgt := 32) dX7_distance_19 (by decide) (by omega) (fun c19 => (by exfalso; omega)) (fun c19 => ?_)
  refine ja_aload (i := 4) dX7_distance_22 rfl ?_
  refine ja_getR fl_X7_127 (zL_o hx (l := ly) (by omega)) rfl (zL_p1 hx (l := ly) (by omega)) dX7_distance_24 ?_
  refine ja_iload_n (i := 3) dX7_distance_27 rfl rfl ?_
  refine ja_iald (zL_a1 hx (l := ly) (by omega)) rfl (by omega) (by decide) dX7_distance_28 ?_
  refine ja_top (y := nI (cSz f ly (nI o) 256)) (hz o h3) ?_
  refine ja_ifN_ne (tgt := 42) dX7_distance_29 (by decide) (by omega) (fun c29 => ?_) (fun c29 => (by exfalso; omega))
  refine ja_aload_n (i := 0) dX7_distance_42 rfl rfl ?_
  refine ja_getR fl_X7_41 (zX_o0 hx) rfl (zX_p0_10 hx) dX7_distance_43 ?_
  refine ja_aload (i := 4) dX7_distance_46 rfl ?_
  refine ja_iload_n (i := 2) dX7_distance_48 rfl rfl ?_
  refine ja_cVd0 (st := []) (c_measureD (D := D) l hx h1 (a := nI (a)) (t0 := t0) hT0 hst) rfl rfl (ce_X5_measure 0 0) im_X5_measure se_X5_measure lk_X7_198 k_X5 (zX_o11 hx) ⟨(Nat.le_of_ble_eq_true rfl), (Nat.le_of_ble_eq_true rfl)⟩ dX7_distance_49 rfl rfl (Nat.le_of_ble_eq_true rfl) (Nat.zero_le _) (Nat.zero_le _) ?_
  intro D1 hD1
  obtain ⟨t, hD1, hOK⟩ := hD1
  subst hD1
  refine ja_aload_n (i := 0) dX7_distance_52 rfl rfl ?_
  refine ja_getR fl_X7_41 (zX_o0 hx) rfl (zX_p0_10 hx) dX7_distance_53 ?_
  refine ja_aload (i := 4) dX7_distance_56 rfl ?_
  refine ja_iload_n (i := 3) dX7_distance_58 rfl rfl ?_
  refine ja_cVr (st := []) (c_fewestTo (D := D) l hx h1 (o := nI (o)) (t := t) hOK.1) rfl rfl (ce_X5_fewestTo 0 0) im_X5_fewestTo se_X5_fewestTo lk_X7_202 k_X5 (zX_o11 hx) ⟨(Nat.le_of_ble_eq_true rfl), (Nat.le_of_ble_eq_true rfl)⟩ dX7_distance_59 rfl rfl (Nat.le_of_ble_eq_true rfl) (Nat.zero_le _) (Nat.zero_le _) ?_
  refine ja_iret rfl rfl dX7_distance_62 (Nat.zero_le _) (Nat.zero_le _) ?_
  exact ⟨by rw [fwt_lst hf hOK, hd], rfl, t, hOK.1, rfl⟩

set_option maxRecDepth 100000 in
set_option maxHeartbeats 4000000 in
theorem c_distance_f3 (l : Launch) {Z : jZ} {D : jD} (hx : zX Z) {ly : Nat} (h1 : ly < 3) {t0 : Nat → Nat} (hT0 : sT t0) (hst : ∀ k, k < 256 → D 12 k = nI (t0 k)) {f : Nat → Int32} (hf : ∀ q, q < 256 → D (31 + 10 * ly) q = f (256 * ly + q)) (hz : ∀ a, a < 10 → D (32 + 10 * ly) a = nI (cSz f ly (nI a) 256)) {a o : Nat} (h2 : a < 10) (h3 : o < 10) (h4 : a ≠ o) (hd : lst (btw f ly (nI a) (nI o)) = none) : ja_M l (mX7_distance 1 6) [.ref (0), .int (nI (ly)), .int (nI (a)), .int (nI (o))] Z D ja_r0 (ja_jx "java/util/NoSuchElementException" Z D) := by
  have y0 : cSz f ly (nI a) 256 = 0 ∨ cSz f ly (nI o) 256 = 0 := Classical.byContradiction fun h => by
    have := btw_ex.mpr ⟨fun x => h (Or.inl x), fun x => h (Or.inr x)⟩
    rw [hd] at this
    obtain ⟨_, h⟩ := this
    cases h
  refine ja_Mof (lv := [some (.ref (0)), some (.int (nI (ly))), some (.int (nI (a))), some (.int (nI (o))), none]) (by decide +kernel) rfl rfl (Nat.le_of_ble_eq_true rfl) rfl ?_
  refine ja_aload_n (i := 0) dX7_distance_0 rfl rfl ?_
  refine ja_iload_n (i := 1) dX7_distance_1 rfl rfl ?_
  refine ja_cVr (st := []) (c_layerOf (D := D) l hx (ly := ly) (by omega)) rfl rfl (ce_X7_layerOf 0 0) im_X7_layerOf se_X7_layerOf lk_X7_93 k_X7 (zX_o0 hx) ⟨(Nat.le_of_ble_eq_true rfl), (Nat.le_of_ble_eq_true rfl)⟩ dX7_distance_2 rfl rfl (Nat.le_of_ble_eq_true rfl) (Nat.zero_le _) (Nat.zero_le _) ?_
  refine ja_astore (i := 4) dX7_distance_5 rfl (Nat.le_of_ble_eq_true rfl) ?_
  refine ja_iload_n (i := 2) dX7_distance_7 rfl rfl ?_
  refine ja_iload_n (i := 3) dX7_distance_8 rfl rfl ?_
  refine ja_cSr0 (st := []) (c_needTwoAreas (D := D) l (a := a) (o := o) (by omega) (by omega) h4) rfl rfl (ce_X7_needTwoAreas 0 0) st_X7_needTwoAreas lk_X7_122 ⟨(Nat.le_of_ble_eq_true rfl), (Nat.le_of_ble_eq_true rfl)⟩ dX7_distance_9 rfl rfl (Nat.le_of_ble_eq_true rfl) (Nat.zero_le _) (Nat.zero_le _) ?_
  have z1 := cSz_le f ly (nI a) 256
  have z2 := cSz_le f ly (nI o) 256
  refine ja_aload (i := 4) dX7_distance_12 rfl ?_
  refine ja_getR fl_X7_127 (zL_o hx (l := ly) (by omega)) rfl (zL_p1 hx (l := ly) (by omega)) dX7_distance_14 ?_
  refine ja_iload_n (i := 2) dX7_distance_17 rfl rfl ?_
  refine ja_iald (zL_a1 hx (l := ly) (by omega)) rfl (by omega) (by decide) dX7_distance_18 ?_
  refine ja_top (y := nI (cSz f ly (nI a) 256)) (hz a h2) ?_
  refine ja_ifN_eq (tgt := 32) dX7_distance_19 (by decide) (by omega) (fun c19 => ?_) (fun c19 => ?_)
  ·
    refine ja_throwE ts_X7_173_196_177 rfl dX7_distance_32 dX7_distance_35 dX7_distance_36 dX7_distance_38 dX7_distance_41 (Nat.le_of_ble_eq_true rfl) (Nat.le_of_ble_eq_true rfl) (Nat.le_of_ble_eq_true rfl) (Nat.le_of_ble_eq_true rfl) ?_
    exact ⟨rfl, rfl, rfl⟩
  ·
    refine ja_aload (i := 4) dX7_distance_22 rfl ?_
    refine ja_getR fl_X7_127 (zL_o hx (l := ly) (by omega)) rfl (zL_p1 hx (l := ly) (by omega)) dX7_distance_24 ?_
    refine ja_iload_n (i := 3) dX7_distance_27 rfl rfl ?_
    refine ja_iald (zL_a1 hx (l := ly) (by omega)) rfl (by omega) (by decide) dX7_distance_28 ?_
    refine ja_top (y := nI (cSz f ly (nI o) 256)) (hz o h3) ?_
    refine ja_ifN_ne (tgt := 42) dX7_distance_29 (by decide) (by omega) (fun c29 => ?_) (fun c29 => ?_)
    ·
      exfalso; omega
    ·
      refine ja_throwE ts_X7_173_196_177 rfl dX7_distance_32 dX7_distance_35 dX7_distance_36 dX7_distance_38 dX7_distance_41 (Nat.le_of_ble_eq_true rfl) (Nat.le_of_ble_eq_true rfl) (Nat.le_of_ble_eq_true rfl) (Nat.le_of_ble_eq_true rfl) ?_
      exact ⟨rfl, rfl, rfl⟩

set_option maxRecDepth 100000 in
set_option maxHeartbeats 4000000 in
theorem c_nearest_f1 (l : Launch) {Z : jZ} {D : jD} (hx : zX Z) {ly a : Int32} (hl : ¬ (nI 0 ≤ ly ∧ ly ≤ nI 2))  : ja_M l (mX7_nearest 1 6) [.ref (0), .int (ly), .int (a)] Z D ja_r0 (ja_jx "java/lang/IndexOutOfBoundsException" Z D) := by
  refine ja_Mof (lv := [some (.ref (0)), some (.int (ly)), some (.int (a)), none, none, none, none, none]) (by decide +kernel) rfl rfl (Nat.le_of_ble_eq_true rfl) rfl ?_
  refine ja_aload_n (i := 0) dX7_nearest_0 rfl rfl ?_
  refine ja_iload_n (i := 1) dX7_nearest_1 rfl rfl ?_
  refine ja_cVx (st := []) (c_layerOf_x (D := D) l hx hl) (ce_X7_layerOf 1 6) im_X7_layerOf se_X7_layerOf lk_X7_93 k_X7 (zX_o0 hx) ⟨(Nat.le_of_ble_eq_true rfl), (Nat.le_of_ble_eq_true rfl)⟩ dX7_nearest_2 rfl rfl (Nat.le_of_ble_eq_true rfl) (Nat.le_of_ble_eq_true rfl) (Nat.le_of_ble_eq_true rfl) ?_
  refine ja_out rfl (Nat.le_of_ble_eq_true rfl) (Nat.le_of_ble_eq_true rfl) ?_
  exact ⟨rfl, rfl, rfl⟩

set_option maxRecDepth 100000 in
set_option maxHeartbeats 4000000 in
theorem c_nearest_f2 (l : Launch) {Z : jZ} {D : jD} (hx : zX Z) {ly : Nat} (h1 : ly < 3) {a : Int32} (ha : ¬ (nI 0 ≤ a ∧ a ≤ nI 9))  : ja_M l (mX7_nearest 1 6) [.ref (0), .int (nI (ly)), .int (a)] Z D ja_r0 (ja_jx "java/lang/IllegalArgumentException" Z D) := by
  refine ja_Mof (lv := [some (.ref (0)), some (.int (nI (ly))), some (.int (a)), none, none, none, none, none]) (by decide +kernel) rfl rfl (Nat.le_of_ble_eq_true rfl) rfl ?_
  refine ja_aload_n (i := 0) dX7_nearest_0 rfl rfl ?_
  refine ja_iload_n (i := 1) dX7_nearest_1 rfl rfl ?_
  refine ja_cVr (st := []) (c_layerOf (D := D) l hx (ly := ly) (by omega)) rfl rfl (ce_X7_layerOf 0 0) im_X7_layerOf se_X7_layerOf lk_X7_93 k_X7 (zX_o0 hx) ⟨(Nat.le_of_ble_eq_true rfl), (Nat.le_of_ble_eq_true rfl)⟩ dX7_nearest_2 rfl rfl (Nat.le_of_ble_eq_true rfl) (Nat.zero_le _) (Nat.zero_le _) ?_
  refine ja_astore_n (i := 3) dX7_nearest_5 rfl rfl (Nat.le_of_ble_eq_true rfl) ?_
  refine ja_iload_n (i := 2) dX7_nearest_6 rfl rfl ?_
  refine ja_cSx (st := []) (c_needArea_x (D := D) l ha) (ce_X7_needArea 1 6) st_X7_needArea lk_X7_138 ⟨(Nat.le_of_ble_eq_true rfl), (Nat.le_of_ble_eq_true rfl)⟩ dX7_nearest_7 rfl rfl (Nat.le_of_ble_eq_true rfl) (Nat.le_of_ble_eq_true rfl) (Nat.le_of_ble_eq_true rfl) ?_
  refine ja_out rfl (Nat.le_of_ble_eq_true rfl) (Nat.le_of_ble_eq_true rfl) ?_
  exact ⟨rfl, rfl, rfl⟩

def nrM : Option (Nat × Nat) → Nat
  | none => 1000
  | some (_, m) => m
theorem nrM_le {f : Nat → Int32} {ly a o : Nat} {r : Option (Nat × Nat)} (h : r = nrs (fun o => lst (btw f ly (nI a) (nI o))) a o) : nrM r ≤ 1000 := by
  subst h
  induction o with
  | zero => exact Nat.le_refl _
  | succ o ih =>
    by_cases e : o = a
    · rw [nrs_skip (by rw [if_pos e])]; exact ih
    · cases hl : lst (btw f ly (nI a) (nI o)) with
      | none => rw [nrs_skip (by rw [if_neg e]; exact hl)]; exact ih
      | some d =>
        have hd := btw_le hl
        cases hp : nrs (fun o => lst (btw f ly (nI a) (nI o))) a o with
        | none => rw [nrs_first e hl hp]; show d ≤ 1000; omega
        | some bm =>
          obtain ⟨b, m⟩ := bm
          rw [hp] at ih
          by_cases h3 : d < m
          · rw [nrs_less e hl hp h3]; show d ≤ 1000; omega
          · rw [nrs_keep e hl hp h3]; exact ih
theorem nrq_y {f : Nat → Int32} {ly a o n : Nat} {r : Option (Nat × Nat)} (hr : r = nrs (fun o => lst (btw f ly (nI a) (nI o))) a o) (h1 : ¬ o = a) (hf : n = match lst (btw f ly (nI a) (nI o)) with | none => 1000 | some m => m) (h : n < nrM r) : some (o, n) = nrs (fun o => lst (btw f ly (nI a) (nI o))) a (o + 1) := by
  have hle := nrM_le hr
  cases hl : lst (btw f ly (nI a) (nI o)) with
  | none => rw [hl] at hf; have hf : n = 1000 := hf; omega
  | some d =>
    rw [hl] at hf
    have hf : n = d := hf
    subst hf
    cases r with
    | none => exact (nrs_first h1 hl hr.symm).symm
    | some bm =>
      obtain ⟨b, m⟩ := bm
      exact (nrs_less h1 hl hr.symm h).symm
theorem nrq_n {f : Nat → Int32} {ly a o n : Nat} {r : Option (Nat × Nat)} (hr : r = nrs (fun o => lst (btw f ly (nI a) (nI o))) a o) (hf : n = match lst (btw f ly (nI a) (nI o)) with | none => 1000 | some m => m) (h : o = a ∨ nrM r ≤ n) : r = nrs (fun o => lst (btw f ly (nI a) (nI o))) a (o + 1) := by
  by_cases e : o = a
  · rw [nrs_skip (by rw [if_pos e])]; exact hr
  · cases hl : lst (btw f ly (nI a) (nI o)) with
    | none => rw [nrs_skip (by rw [if_neg e]; exact hl)]; exact hr
    | some d =>
      rw [hl] at hf
      have hf : n = d := hf
      subst hf
      have hd := btw_le hl
      cases r with
      | none => rcases h with h | h
                · exact absurd h e
                · have h : 1000 ≤ n := h; omega
      | some bm =>
        obtain ⟨b, m⟩ := bm
        rcases h with h | h
        · exact absurd h e
        · exact (nrs_keep e hl hr.symm (Nat.not_lt.mpr h)).symm

set_option maxRecDepth 100000 in
set_option maxHeartbeats 4000000 in
theorem c_nearest_ok (l : Launch) {Z : jZ} {D : jD} (hx : zX Z) {ly : Nat} (h1 : ly < 3) {t0 : Nat → Nat} (hT0 : sT t0) (hst : ∀ k, k < 256 → D 12 k = nI (t0 k)) {f : Nat → Int32} (hf : ∀ q, q < 256 → D (31 + 10 * ly) q = f (256 * ly + q)) {a : Nat} (h2 : a < 10) {b m9 : Nat} (hr9 : nrs (fun o => lst (btw f ly (nI a) (nI o))) a 10 = some (b, m9)) (hb9 : b < 10) : ja_M l (mX7_nearest 0 0) [.ref (0), .int (nI (ly)), .int (nI (a))] Z D (ja_jd (some (.int (nI b))) Z (fun D2 => ∃ t, sT t ∧ D2 = stU D t)) ja_x0 := by
  refine ja_Mof (lv := [some (.ref (0)), some (.int (nI (ly))), some (.int (nI (a))), none, none, none, none, none]) (by decide +kernel) rfl rfl (Nat.le_of_ble_eq_true rfl) rfl ?_
  refine ja_aload_n (i := 0) dX7_nearest_0 rfl rfl ?_
  refine ja_iload_n (i := 1) dX7_nearest_1 rfl rfl ?_
  refine ja_cVr (st := []) (c_layerOf (D := D) l hx (ly := ly) (by omega)) rfl rfl (ce_X7_layerOf 0 0) im_X7_layerOf se_X7_layerOf lk_X7_93 k_X7 (zX_o0 hx) ⟨(Nat.le_of_ble_eq_true rfl), (Nat.le_of_ble_eq_true rfl)⟩ dX7_nearest_2 rfl rfl (Nat.le_of_ble_eq_true rfl) (Nat.zero_le _) (Nat.zero_le _) ?_
  refine ja_astore_n (i := 3) dX7_nearest_5 rfl rfl (Nat.le_of_ble_eq_true rfl) ?_
  refine ja_iload_n (i := 2) dX7_nearest_6 rfl rfl ?_
  refine ja_cSr0 (st := []) (c_needArea (D := D) l (a := a) (by omega)) rfl rfl (ce_X7_needArea 0 0) st_X7_needArea lk_X7_138 ⟨(Nat.le_of_ble_eq_true rfl), (Nat.le_of_ble_eq_true rfl)⟩ dX7_nearest_7 rfl rfl (Nat.le_of_ble_eq_true rfl) (Nat.zero_le _) (Nat.zero_le _) ?_
  refine ja_aload_n (i := 0) dX7_nearest_10 rfl rfl ?_
  refine ja_getR fl_X7_41 (zX_o0 hx) rfl (zX_p0_10 hx) dX7_nearest_11 ?_
  refine ja_aload_n (i := 3) dX7_nearest_14 rfl rfl ?_
  refine ja_iload_n (i := 2) dX7_nearest_15 rfl rfl ?_
  refine ja_cVd0 (st := []) (c_measureD (D := D) l hx h1 (a := nI (a)) (t0 := t0) hT0 hst) rfl rfl (ce_X5_measure 0 0) im_X5_measure se_X5_measure lk_X7_198 k_X5 (zX_o11 hx) ⟨(Nat.le_of_ble_eq_true rfl), (Nat.le_of_ble_eq_true rfl)⟩ dX7_nearest_16 rfl rfl (Nat.le_of_ble_eq_true rfl) (Nat.zero_le _) (Nat.zero_le _) ?_
  intro D1 hD1
  obtain ⟨t, hD1, hOK⟩ := hD1
  subst hD1
  refine ja_iconst (v := (-1)) dX7_nearest_19 (by decide +kernel) ?_
  refine ja_istore (i := 4) dX7_nearest_20 rfl (Nat.le_of_ble_eq_true rfl) ?_
  refine ja_sipush (v := nI 1000) dX7_nearest_22 (by decide +kernel) ?_
  refine ja_istore (i := 5) dX7_nearest_25 rfl (Nat.le_of_ble_eq_true rfl) ?_
  refine ja_iconst (v := nI 0) dX7_nearest_27 (by decide +kernel) ?_
  refine ja_istore (i := 6) dX7_nearest_28 rfl (Nat.le_of_ble_eq_true rfl) ?_
  have lp30 : ∀ (f30 : Nat) (o m : Nat) (r : Option (Nat × Nat)), (10 < o + f30) → (o ≤ 10) → (r = nrs (fun o => lst (btw f ly (nI a) (nI o))) a o) → (m = nrM r) → ja_A l (mX7_nearest 0 0) ja_sn (ja_Qf (mX7_nearest 0 0) (ja_jd (some (.int (nI b))) Z (fun D2 => ∃ t, sT t ∧ D2 = stU D t)) ja_x0) 30 [some (.ref (0)), some (.int (nI (ly))), some (.int (nI (a))), some (.ref (30 + 10 * ly)), some (.int (oI (oF r))), some (.int (nI (m))), some (.int (nI (o))), none] [] Z (stU D t) 0 0 := by
    intro f30
    induction f30 with
    | zero => intro o m r hf2 ho hr hm; exfalso; omega
    | succ f30 ih30 =>
      intro o m r hf2 ho hr hm
      have hfe := fwt_lst (o := nI o) hf hOK
      have hfw := fwt_le (D (31 + 10 * ly)) (nI o) t 256
      have hm9 := nrM_le (show r = nrs (fun o => lst (btw f ly (nI a) (nI o))) a o from hr)
      refine ja_iload (i := 6) dX7_nearest_30 rfl ?_
      refine ja_bipush (v := nI 10) dX7_nearest_32 (by decide +kernel) ?_
      refine ja_icmpN_ge (tgt := 76) dX7_nearest_34 (by decide) (by omega) (by omega) (fun c34 => ?_) (fun c34 => ?_)
      ·
        obtain rfl : o = 10 := by omega
        rw [hr9] at hr
        subst hr
        refine ja_iload (i := 4) dX7_nearest_76 rfl ?_
        refine ja_iconst (v := (-1)) dX7_nearest_78 (by decide +kernel) ?_
        refine ja_icmp_ne (tgt := 92) dX7_nearest_79 (by decide) (fun c79 => ?_) (fun c79 => absurd c79 (nI_nm1 (by omega)))
        refine ja_iload (i := 4) dX7_nearest_92 rfl ?_
        refine ja_iret rfl rfl dX7_nearest_94 (Nat.zero_le _) (Nat.zero_le _) ?_
        exact ⟨rfl, rfl, t, hOK.1, rfl⟩
      ·
        refine ja_aload_n (i := 0) dX7_nearest_37 rfl rfl ?_
        refine ja_getR fl_X7_41 (zX_o0 hx) rfl (zX_p0_10 hx) dX7_nearest_38 ?_
        refine ja_aload_n (i := 3) dX7_nearest_41 rfl rfl ?_
        refine ja_iload (i := 6) dX7_nearest_42 rfl ?_
        refine ja_cVr (st := []) (c_fewestTo (D := D) l hx h1 (o := nI (o)) (t := t) hOK.1) rfl rfl (ce_X5_fewestTo 0 0) im_X5_fewestTo se_X5_fewestTo lk_X7_202 k_X5 (zX_o11 hx) ⟨(Nat.le_of_ble_eq_true rfl), (Nat.le_of_ble_eq_true rfl)⟩ dX7_nearest_44 rfl rfl (Nat.le_of_ble_eq_true rfl) (Nat.zero_le _) (Nat.zero_le _) ?_
        refine ja_istore (i := 7) dX7_nearest_47 rfl (Nat.le_of_ble_eq_true rfl) ?_
        refine ja_iload (i := 6) dX7_nearest_49 rfl ?_
        refine ja_iload_n (i := 2) dX7_nearest_51 rfl rfl ?_
        refine ja_icmpN_eq (tgt := 70) dX7_nearest_52 (by decide) (by omega) (by omega) (fun c52 => ?_) (fun c52 => ?_)
        ·
          refine ja_iincN dX7_nearest_70 rfl rfl (Nat.le_of_ble_eq_true rfl) ?_
          refine ja_goto (tgt := 30) dX7_nearest_73 (by decide) ?_
          refine ja_forget (i := 7) ?_
          exact ih30 (o + 1) m r (by omega) (by omega) (nrq_n hr hfe (by rw [← hm]; omega)) hm
        ·
          refine ja_iload (i := 7) dX7_nearest_55 rfl ?_
          refine ja_iload (i := 5) dX7_nearest_57 rfl ?_
          refine ja_icmpN_ge (tgt := 70) dX7_nearest_59 (by decide) (by omega) (by omega) (fun c59 => ?_) (fun c59 => ?_)
          ·
            refine ja_iincN dX7_nearest_70 rfl rfl (Nat.le_of_ble_eq_true rfl) ?_
            refine ja_goto (tgt := 30) dX7_nearest_73 (by decide) ?_
            refine ja_forget (i := 7) ?_
            exact ih30 (o + 1) m r (by omega) (by omega) (nrq_n hr hfe (by rw [← hm]; omega)) hm
          ·
            refine ja_iload (i := 6) dX7_nearest_62 rfl ?_
            refine ja_istore (i := 4) dX7_nearest_64 rfl (Nat.le_of_ble_eq_true rfl) ?_
            refine ja_iload (i := 7) dX7_nearest_66 rfl ?_
            refine ja_istore (i := 5) dX7_nearest_68 rfl (Nat.le_of_ble_eq_true rfl) ?_
            refine ja_iincN dX7_nearest_70 rfl rfl (Nat.le_of_ble_eq_true rfl) ?_
            refine ja_goto (tgt := 30) dX7_nearest_73 (by decide) ?_
            refine ja_forget (i := 7) ?_
            exact ih30 (o + 1) _ (some (o, _)) (by omega) (by omega) (nrq_y hr c52 hfe (by rw [← hm]; omega)) rfl
  exact lp30 11 0 1000 none (by omega) (by omega) rfl rfl

set_option maxRecDepth 100000 in
set_option maxHeartbeats 4000000 in
theorem c_nearest_f3 (l : Launch) {Z : jZ} {D : jD} (hx : zX Z) {ly : Nat} (h1 : ly < 3) {t0 : Nat → Nat} (hT0 : sT t0) (hst : ∀ k, k < 256 → D 12 k = nI (t0 k)) {f : Nat → Int32} (hf : ∀ q, q < 256 → D (31 + 10 * ly) q = f (256 * ly + q)) {a : Nat} (h2 : a < 10) (hr9 : nrs (fun o => lst (btw f ly (nI a) (nI o))) a 10 = none) : ja_M l (mX7_nearest 1 6) [.ref (0), .int (nI (ly)), .int (nI (a))] Z D ja_r0 (fun E2 Z2 D2 => E2 = "java/util/NoSuchElementException" ∧ Z2 = Z ∧ ∃ t, sT t ∧ D2 = stU D t) := by
  refine ja_Mof (lv := [some (.ref (0)), some (.int (nI (ly))), some (.int (nI (a))), none, none, none, none, none]) (by decide +kernel) rfl rfl (Nat.le_of_ble_eq_true rfl) rfl ?_
  refine ja_aload_n (i := 0) dX7_nearest_0 rfl rfl ?_
  refine ja_iload_n (i := 1) dX7_nearest_1 rfl rfl ?_
  refine ja_cVr (st := []) (c_layerOf (D := D) l hx (ly := ly) (by omega)) rfl rfl (ce_X7_layerOf 0 0) im_X7_layerOf se_X7_layerOf lk_X7_93 k_X7 (zX_o0 hx) ⟨(Nat.le_of_ble_eq_true rfl), (Nat.le_of_ble_eq_true rfl)⟩ dX7_nearest_2 rfl rfl (Nat.le_of_ble_eq_true rfl) (Nat.zero_le _) (Nat.zero_le _) ?_
  refine ja_astore_n (i := 3) dX7_nearest_5 rfl rfl (Nat.le_of_ble_eq_true rfl) ?_
  refine ja_iload_n (i := 2) dX7_nearest_6 rfl rfl ?_
  refine ja_cSr0 (st := []) (c_needArea (D := D) l (a := a) (by omega)) rfl rfl (ce_X7_needArea 0 0) st_X7_needArea lk_X7_138 ⟨(Nat.le_of_ble_eq_true rfl), (Nat.le_of_ble_eq_true rfl)⟩ dX7_nearest_7 rfl rfl (Nat.le_of_ble_eq_true rfl) (Nat.zero_le _) (Nat.zero_le _) ?_
  refine ja_aload_n (i := 0) dX7_nearest_10 rfl rfl ?_
  refine ja_getR fl_X7_41 (zX_o0 hx) rfl (zX_p0_10 hx) dX7_nearest_11 ?_
  refine ja_aload_n (i := 3) dX7_nearest_14 rfl rfl ?_
  refine ja_iload_n (i := 2) dX7_nearest_15 rfl rfl ?_
  refine ja_cVd0 (st := []) (c_measureD (D := D) l hx h1 (a := nI (a)) (t0 := t0) hT0 hst) rfl rfl (ce_X5_measure 0 0) im_X5_measure se_X5_measure lk_X7_198 k_X5 (zX_o11 hx) ⟨(Nat.le_of_ble_eq_true rfl), (Nat.le_of_ble_eq_true rfl)⟩ dX7_nearest_16 rfl rfl (Nat.le_of_ble_eq_true rfl) (Nat.zero_le _) (Nat.zero_le _) ?_
  intro D1 hD1
  obtain ⟨t, hD1, hOK⟩ := hD1
  subst hD1
  refine ja_iconst (v := (-1)) dX7_nearest_19 (by decide +kernel) ?_
  refine ja_istore (i := 4) dX7_nearest_20 rfl (Nat.le_of_ble_eq_true rfl) ?_
  refine ja_sipush (v := nI 1000) dX7_nearest_22 (by decide +kernel) ?_
  refine ja_istore (i := 5) dX7_nearest_25 rfl (Nat.le_of_ble_eq_true rfl) ?_
  refine ja_iconst (v := nI 0) dX7_nearest_27 (by decide +kernel) ?_
  refine ja_istore (i := 6) dX7_nearest_28 rfl (Nat.le_of_ble_eq_true rfl) ?_
  have lp30 : ∀ (f30 : Nat) (o m : Nat) (r : Option (Nat × Nat)), (10 < o + f30) → (o ≤ 10) → (r = nrs (fun o => lst (btw f ly (nI a) (nI o))) a o) → (m = nrM r) → ja_A l (mX7_nearest 1 6) ja_sn (ja_Qf (mX7_nearest 1 6) ja_r0 (fun E2 Z2 D2 => E2 = "java/util/NoSuchElementException" ∧ Z2 = Z ∧ ∃ t, sT t ∧ D2 = stU D t)) 30 [some (.ref (0)), some (.int (nI (ly))), some (.int (nI (a))), some (.ref (30 + 10 * ly)), some (.int (oI (oF r))), some (.int (nI (m))), some (.int (nI (o))), none] [] Z (stU D t) 0 0 := by
    intro f30
    induction f30 with
    | zero => intro o m r hf2 ho hr hm; exfalso; omega
    | succ f30 ih30 =>
      intro o m r hf2 ho hr hm
      have hfe := fwt_lst (o := nI o) hf hOK
      have hfw := fwt_le (D (31 + 10 * ly)) (nI o) t 256
      have hm9 := nrM_le (show r = nrs (fun o => lst (btw f ly (nI a) (nI o))) a o from hr)
      refine ja_iload (i := 6) dX7_nearest_30 rfl ?_
      refine ja_bipush (v := nI 10) dX7_nearest_32 (by decide +kernel) ?_
      refine ja_icmpN_ge (tgt := 76) dX7_nearest_34 (by decide) (by omega) (by omega) (fun c34 => ?_) (fun c34 => ?_)
      ·
        obtain rfl : o = 10 := by omega
        rw [hr9] at hr
        subst hr
        refine ja_iload (i := 4) dX7_nearest_76 rfl ?_
        refine ja_iconst (v := (-1)) dX7_nearest_78 (by decide +kernel) ?_
        refine ja_icmp_ne (tgt := 92) dX7_nearest_79 (by decide) (fun c79 => absurd rfl c79) (fun c79 => ?_)
        refine ja_throwE ts_X7_173_206_177 rfl dX7_nearest_82 dX7_nearest_85 dX7_nearest_86 dX7_nearest_88 dX7_nearest_91 (Nat.le_of_ble_eq_true rfl) (Nat.le_of_ble_eq_true rfl) (Nat.le_of_ble_eq_true rfl) (Nat.le_of_ble_eq_true rfl) ?_
        exact ⟨rfl, rfl, t, hOK.1, rfl⟩
      ·
        refine ja_aload_n (i := 0) dX7_nearest_37 rfl rfl ?_
        refine ja_getR fl_X7_41 (zX_o0 hx) rfl (zX_p0_10 hx) dX7_nearest_38 ?_
        refine ja_aload_n (i := 3) dX7_nearest_41 rfl rfl ?_
        refine ja_iload (i := 6) dX7_nearest_42 rfl ?_
        refine ja_cVr (st := []) (c_fewestTo (D := D) l hx h1 (o := nI (o)) (t := t) hOK.1) rfl rfl (ce_X5_fewestTo 0 0) im_X5_fewestTo se_X5_fewestTo lk_X7_202 k_X5 (zX_o11 hx) ⟨(Nat.le_of_ble_eq_true rfl), (Nat.le_of_ble_eq_true rfl)⟩ dX7_nearest_44 rfl rfl (Nat.le_of_ble_eq_true rfl) (Nat.zero_le _) (Nat.zero_le _) ?_
        refine ja_istore (i := 7) dX7_nearest_47 rfl (Nat.le_of_ble_eq_true rfl) ?_
        refine ja_iload (i := 6) dX7_nearest_49 rfl ?_
        refine ja_iload_n (i := 2) dX7_nearest_51 rfl rfl ?_
        refine ja_icmpN_eq (tgt := 70) dX7_nearest_52 (by decide) (by omega) (by omega) (fun c52 => ?_) (fun c52 => ?_)
        ·
          refine ja_iincN dX7_nearest_70 rfl rfl (Nat.le_of_ble_eq_true rfl) ?_
          refine ja_goto (tgt := 30) dX7_nearest_73 (by decide) ?_
          refine ja_forget (i := 7) ?_
          exact ih30 (o + 1) m r (by omega) (by omega) (nrq_n hr hfe (by rw [← hm]; omega)) hm
        ·
          refine ja_iload (i := 7) dX7_nearest_55 rfl ?_
          refine ja_iload (i := 5) dX7_nearest_57 rfl ?_
          refine ja_icmpN_ge (tgt := 70) dX7_nearest_59 (by decide) (by omega) (by omega) (fun c59 => ?_) (fun c59 => ?_)
          ·
            refine ja_iincN dX7_nearest_70 rfl rfl (Nat.le_of_ble_eq_true rfl) ?_
            refine ja_goto (tgt := 30) dX7_nearest_73 (by decide) ?_
            refine ja_forget (i := 7) ?_
            exact ih30 (o + 1) m r (by omega) (by omega) (nrq_n hr hfe (by rw [← hm]; omega)) hm
          ·
            refine ja_iload (i := 6) dX7_nearest_62 rfl ?_
            refine ja_istore (i := 4) dX7_nearest_64 rfl (Nat.le_of_ble_eq_true rfl) ?_
            refine ja_iload (i := 7) dX7_nearest_66 rfl ?_
            refine ja_istore (i := 5) dX7_nearest_68 rfl (Nat.le_of_ble_eq_true rfl) ?_
            refine ja_iincN dX7_nearest_70 rfl rfl (Nat.le_of_ble_eq_true rfl) ?_
            refine ja_goto (tgt := 30) dX7_nearest_73 (by decide) ?_
            refine ja_forget (i := 7) ?_
            exact ih30 (o + 1) _ (some (o, _)) (by omega) (by omega) (nrq_y hr c52 hfe (by rw [← hm]; omega)) rfl
  exact lp30 11 0 1000 none (by omega) (by omega) rfl rfl

set_option maxRecDepth 100000 in
set_option maxHeartbeats 4000000 in
theorem c_belt_f1 (l : Launch) {Z : jZ} {D : jD} (hx : zX Z) {ly a : Int32} (w : Int32) (hl : ¬ (nI 0 ≤ ly ∧ ly ≤ nI 2))  : ja_M l (mX7_belt 1 6) [.ref (0), .int (ly), .int (a), .int (w)] Z D ja_r0 (ja_jx "java/lang/IndexOutOfBoundsException" Z D) := by
  refine ja_Mof (lv := [some (.ref (0)), some (.int (ly)), some (.int (a)), some (.int (w)), none]) (by decide +kernel) rfl rfl (Nat.le_of_ble_eq_true rfl) rfl ?_
  refine ja_aload_n (i := 0) dX7_belt_0 rfl rfl ?_
  refine ja_iload_n (i := 1) dX7_belt_1 rfl rfl ?_
  refine ja_cVx (st := []) (c_layerOf_x (D := D) l hx hl) (ce_X7_layerOf 1 6) im_X7_layerOf se_X7_layerOf lk_X7_93 k_X7 (zX_o0 hx) ⟨(Nat.le_of_ble_eq_true rfl), (Nat.le_of_ble_eq_true rfl)⟩ dX7_belt_2 rfl rfl (Nat.le_of_ble_eq_true rfl) (Nat.le_of_ble_eq_true rfl) (Nat.le_of_ble_eq_true rfl) ?_
  refine ja_out rfl (Nat.le_of_ble_eq_true rfl) (Nat.le_of_ble_eq_true rfl) ?_
  exact ⟨rfl, rfl, rfl⟩

set_option maxRecDepth 100000 in
set_option maxHeartbeats 4000000 in
theorem c_belt_f2 (l : Launch) {Z : jZ} {D : jD} (hx : zX Z) {ly : Nat} (h1 : ly < 3) {a : Int32} (w : Int32) (ha : ¬ (nI 0 ≤ a ∧ a ≤ nI 9))  : ja_M l (mX7_belt 1 6) [.ref (0), .int (nI (ly)), .int (a), .int (w)] Z D ja_r0 (ja_jx "java/lang/IllegalArgumentException" Z D) := by
  refine ja_Mof (lv := [some (.ref (0)), some (.int (nI (ly))), some (.int (a)), some (.int (w)), none]) (by decide +kernel) rfl rfl (Nat.le_of_ble_eq_true rfl) rfl ?_
  refine ja_aload_n (i := 0) dX7_belt_0 rfl rfl ?_
  refine ja_iload_n (i := 1) dX7_belt_1 rfl rfl ?_
  refine ja_cVr (st := []) (c_layerOf (D := D) l hx (ly := ly) (by omega)) rfl rfl (ce_X7_layerOf 0 0) im_X7_layerOf se_X7_layerOf lk_X7_93 k_X7 (zX_o0 hx) ⟨(Nat.le_of_ble_eq_true rfl), (Nat.le_of_ble_eq_true rfl)⟩ dX7_belt_2 rfl rfl (Nat.le_of_ble_eq_true rfl) (Nat.zero_le _) (Nat.zero_le _) ?_
  refine ja_astore (i := 4) dX7_belt_5 rfl (Nat.le_of_ble_eq_true rfl) ?_
  refine ja_iload_n (i := 2) dX7_belt_7 rfl rfl ?_
  refine ja_cSx (st := []) (c_needArea_x (D := D) l ha) (ce_X7_needArea 1 6) st_X7_needArea lk_X7_138 ⟨(Nat.le_of_ble_eq_true rfl), (Nat.le_of_ble_eq_true rfl)⟩ dX7_belt_8 rfl rfl (Nat.le_of_ble_eq_true rfl) (Nat.le_of_ble_eq_true rfl) (Nat.le_of_ble_eq_true rfl) ?_
  refine ja_out rfl (Nat.le_of_ble_eq_true rfl) (Nat.le_of_ble_eq_true rfl) ?_
  exact ⟨rfl, rfl, rfl⟩

set_option maxRecDepth 100000 in
set_option maxHeartbeats 4000000 in
theorem c_belt_f2b (l : Launch) {Z : jZ} {D : jD} (hx : zX Z) {ly : Nat} (h1 : ly < 3) {a : Nat} (h2 : a < 10) {w : Int32} (hw : ¬ (nI 1 ≤ w ∧ w ≤ nI 30)) : ja_M l (mX7_belt 1 6) [.ref (0), .int (nI (ly)), .int (nI (a)), .int (w)] Z D ja_r0 (ja_jx "java/lang/IllegalArgumentException" Z D) := by
  refine ja_Mof (lv := [some (.ref (0)), some (.int (nI (ly))), some (.int (nI (a))), some (.int (w)), none]) (by decide +kernel) rfl rfl (Nat.le_of_ble_eq_true rfl) rfl ?_
  refine ja_aload_n (i := 0) dX7_belt_0 rfl rfl ?_
  refine ja_iload_n (i := 1) dX7_belt_1 rfl rfl ?_
  refine ja_cVr (st := []) (c_layerOf (D := D) l hx (ly := ly) (by omega)) rfl rfl (ce_X7_layerOf 0 0) im_X7_layerOf se_X7_layerOf lk_X7_93 k_X7 (zX_o0 hx) ⟨(Nat.le_of_ble_eq_true rfl), (Nat.le_of_ble_eq_true rfl)⟩ dX7_belt_2 rfl rfl (Nat.le_of_ble_eq_true rfl) (Nat.zero_le _) (Nat.zero_le _) ?_
  refine ja_astore (i := 4) dX7_belt_5 rfl (Nat.le_of_ble_eq_true rfl) ?_
  refine ja_iload_n (i := 2) dX7_belt_7 rfl rfl ?_
  refine ja_cSr0 (st := []) (c_needArea (D := D) l (a := a) (by omega)) rfl rfl (ce_X7_needArea 0 0) st_X7_needArea lk_X7_138 ⟨(Nat.le_of_ble_eq_true rfl), (Nat.le_of_ble_eq_true rfl)⟩ dX7_belt_8 rfl rfl (Nat.le_of_ble_eq_true rfl) (Nat.zero_le _) (Nat.zero_le _) ?_
  refine ja_iload_n (i := 3) dX7_belt_11 rfl rfl ?_
  refine ja_iconst (v := nI 1) dX7_belt_12 (by decide +kernel) ?_
  refine ja_icmp_lt (tgt := 22) dX7_belt_13 (by decide) (fun c13 => ?_) (fun c13 => ?_)
  ·
    refine ja_throw ts_X7_60_208_64 rfl dX7_belt_22 dX7_belt_25 dX7_belt_26 dX7_belt_28 dX7_belt_31 (Nat.le_of_ble_eq_true rfl) (Nat.le_of_ble_eq_true rfl) (Nat.le_of_ble_eq_true rfl) (Nat.le_of_ble_eq_true rfl) ?_
    exact ⟨rfl, rfl, rfl⟩
  ·
    refine ja_iload_n (i := 3) dX7_belt_16 rfl rfl ?_
    refine ja_bipush (v := nI 30) dX7_belt_17 (by decide +kernel) ?_
    refine ja_icmp_le (tgt := 32) dX7_belt_19 (by decide) (fun c19 => ?_) (fun c19 => ?_)
    ·
      exact absurd ⟨Int32.not_lt.mp c13, c19⟩ hw
    ·
      refine ja_throw ts_X7_60_208_64 rfl dX7_belt_22 dX7_belt_25 dX7_belt_26 dX7_belt_28 dX7_belt_31 (Nat.le_of_ble_eq_true rfl) (Nat.le_of_ble_eq_true rfl) (Nat.le_of_ble_eq_true rfl) (Nat.le_of_ble_eq_true rfl) ?_
      exact ⟨rfl, rfl, rfl⟩

set_option maxRecDepth 100000 in
set_option maxHeartbeats 4000000 in
theorem c_belt_ok (l : Launch) {Z : jZ} {D : jD} (hx : zX Z) {ly : Nat} (h1 : ly < 3) {t0 : Nat → Nat} (hT0 : sT t0) (hst : ∀ k, k < 256 → D 12 k = nI (t0 k)) {a : Nat} (h2 : a < 10) {w : Nat} (h3 : 1 ≤ w) (h4 : w ≤ 30) : ja_M l (mX7_belt 0 0) [.ref (0), .int (nI (ly)), .int (nI (a)), .int (nI (w))] Z D (fun v2 Z2 D2 => ∃ t, stpOK (D (31 + 10 * ly)) (nI a) t ∧ v2 = some (.int (nI (fb_ct (fun q => decide (0 < t q) && decide (t q ≤ w)) 256))) ∧ Z2 = Z ∧ D2 = stU D t) ja_x0 := by
  refine ja_Mof (lv := [some (.ref (0)), some (.int (nI (ly))), some (.int (nI (a))), some (.int (nI (w))), none]) (by decide +kernel) rfl rfl (Nat.le_of_ble_eq_true rfl) rfl ?_
  refine ja_aload_n (i := 0) dX7_belt_0 rfl rfl ?_
  refine ja_iload_n (i := 1) dX7_belt_1 rfl rfl ?_
  refine ja_cVr (st := []) (c_layerOf (D := D) l hx (ly := ly) (by omega)) rfl rfl (ce_X7_layerOf 0 0) im_X7_layerOf se_X7_layerOf lk_X7_93 k_X7 (zX_o0 hx) ⟨(Nat.le_of_ble_eq_true rfl), (Nat.le_of_ble_eq_true rfl)⟩ dX7_belt_2 rfl rfl (Nat.le_of_ble_eq_true rfl) (Nat.zero_le _) (Nat.zero_le _) ?_
  refine ja_astore (i := 4) dX7_belt_5 rfl (Nat.le_of_ble_eq_true rfl) ?_
  refine ja_iload_n (i := 2) dX7_belt_7 rfl rfl ?_
  refine ja_cSr0 (st := []) (c_needArea (D := D) l (a := a) (by omega)) rfl rfl (ce_X7_needArea 0 0) st_X7_needArea lk_X7_138 ⟨(Nat.le_of_ble_eq_true rfl), (Nat.le_of_ble_eq_true rfl)⟩ dX7_belt_8 rfl rfl (Nat.le_of_ble_eq_true rfl) (Nat.zero_le _) (Nat.zero_le _) ?_
  refine ja_iload_n (i := 3) dX7_belt_11 rfl rfl ?_
  refine ja_iconst (v := nI 1) dX7_belt_12 (by decide +kernel) ?_
  refine ja_icmpN_lt (tgt := 22) dX7_belt_13 (by decide) (by omega) (by omega) (fun c13 => (by exfalso; omega)) (fun c13 => ?_)
  refine ja_iload_n (i := 3) dX7_belt_16 rfl rfl ?_
  refine ja_bipush (v := nI 30) dX7_belt_17 (by decide +kernel) ?_
  refine ja_icmpN_le (tgt := 32) dX7_belt_19 (by decide) (by omega) (by omega) (fun c19 => ?_) (fun c19 => (by exfalso; omega))
  refine ja_aload_n (i := 0) dX7_belt_32 rfl rfl ?_
  refine ja_getR fl_X7_41 (zX_o0 hx) rfl (zX_p0_10 hx) dX7_belt_33 ?_
  refine ja_aload (i := 4) dX7_belt_36 rfl ?_
  refine ja_iload_n (i := 2) dX7_belt_38 rfl rfl ?_
  refine ja_cVd0 (st := []) (c_measureD (D := D) l hx h1 (a := nI (a)) (t0 := t0) hT0 hst) rfl rfl (ce_X5_measure 0 0) im_X5_measure se_X5_measure lk_X7_198 k_X5 (zX_o11 hx) ⟨(Nat.le_of_ble_eq_true rfl), (Nat.le_of_ble_eq_true rfl)⟩ dX7_belt_39 rfl rfl (Nat.le_of_ble_eq_true rfl) (Nat.zero_le _) (Nat.zero_le _) ?_
  intro D1 hD1
  obtain ⟨t, hD1, hOK⟩ := hD1
  subst hD1
  refine ja_aload_n (i := 0) dX7_belt_42 rfl rfl ?_
  refine ja_getR fl_X7_41 (zX_o0 hx) rfl (zX_p0_10 hx) dX7_belt_43 ?_
  refine ja_iload_n (i := 3) dX7_belt_46 rfl rfl ?_
  refine ja_cVr (st := []) (c_squaresWithin (D := D) l hx (t := t) hOK.1 (w := w) (by omega)) rfl rfl (ce_X5_squaresWithin 0 0) im_X5_squaresWithin se_X5_squaresWithin lk_X7_210 k_X5 (zX_o11 hx) ⟨(Nat.le_of_ble_eq_true rfl), (Nat.le_of_ble_eq_true rfl)⟩ dX7_belt_47 rfl rfl (Nat.le_of_ble_eq_true rfl) (Nat.zero_le _) (Nat.zero_le _) ?_
  refine ja_iret rfl rfl dX7_belt_50 (Nat.zero_le _) (Nat.zero_le _) ?_
  exact ⟨t, hOK, rfl, rfl, rfl⟩
