/-! THE CLASS: its calls, 3 -/
section JLW
variable {l : Launch} {M : jM} {sc : Nat × (Nat → Int32)} {Qf : jQ} {pc : Nat} {lv : List (Option Value)} {st : List Value} {Z : jZ} {D : jD} {c9 s9 : Nat}
/-- a float by a wide index -/
theorem ja_ldcfW {v : UInt32} {i : Nat} (d : decode M.2.1 pc = .ok (.ldc_w i, 3)) (hw : Cond.constantFloat M.1.cls i v ∈ ja_T) (k : ja_A l M sc Qf (pc + 3) lv (.float v :: st) Z D c9 s9) : ja_A l M sc Qf pc lv st Z D c9 s9 := by
  intro p e s m args below meth c G tc ad0 L0 ad H locs ls C I hl hs
  intro T hT X
  obtain ⟨t, a, b⟩ := k p e s m args below meth c G tc ad0 L0 ad H locs ls C I hl (ja_osc (ja_okf _) hs) T hT X
  refine ⟨t, ?_, b⟩
  obtain ⟨kc, cf, hk, hcf, hcp⟩ := Cond.constantFloat_spec C.1.2.2.2.1 (C.1.2.2.2.2 _ hw)
  obtain ⟨k', hk', he⟩ := X.warmed.alike.2.2 _ _ hk
  have d' : decode c.code pc = .ok (.ldc_w i, 3) := by rw [C.1.2.1]; exact d
  have hexec := C.1.1
  jvm_step X.here [X.here.top, hexec, d', Op.ldc_w.wp_float (s := T) (f := F0 m pc ls (st.map (ja_cv ad))) X.here.top hk' (by rw [he]; exact hcf) hcp]
  exact a
end JLW

set_option maxRecDepth 100000 in
set_option maxHeartbeats 4000000 in
theorem c_pieces_f1 (l : Launch) {Z : jZ} {D : jD} (hx : zX Z) {x y : Int32} (hal : ¬ areL x y)  : ja_M l (mX7_pieces 1 6) [.ref (0), .int (x), .int (y)] Z D ja_r0 (ja_jx "java/lang/IndexOutOfBoundsException" Z D) := by
  refine ja_Mof (lv := [some (.ref (0)), some (.int (x)), some (.int (y))]) (by decide +kernel) rfl rfl (Nat.le_of_ble_eq_true rfl) rfl ?_
  refine ja_aload_n (i := 0) dX7_pieces_0 rfl rfl ?_
  refine ja_iload_n (i := 1) dX7_pieces_1 rfl rfl ?_
  refine ja_iload_n (i := 2) dX7_pieces_2 rfl rfl ?_
  refine ja_cVx (st := []) (c_needTwoLayers_x (D := D) l hx hal) (ce_X7_needTwoLayers 1 6) im_X7_needTwoLayers se_X7_needTwoLayers lk_X7_165 k_X7 (zX_o0 hx) ⟨(Nat.le_of_ble_eq_true rfl), (Nat.le_of_ble_eq_true rfl)⟩ dX7_pieces_3 rfl rfl (Nat.le_of_ble_eq_true rfl) (Nat.le_of_ble_eq_true rfl) (Nat.le_of_ble_eq_true rfl) ?_
  refine ja_out rfl (Nat.le_of_ble_eq_true rfl) (Nat.le_of_ble_eq_true rfl) ?_
  exact ⟨rfl, rfl, rfl⟩

set_option maxRecDepth 100000 in
set_option maxHeartbeats 4000000 in
theorem c_pieces_ok (l : Launch) {Z : jZ} {D : jD} (hx : zX Z) (hw : wfX D) {l1 l2 : Nat} (h1 : l1 < 3) (h2 : l2 < 3) (h3 : l1 ≠ l2)  : ja_M l (mX7_pieces 0 0) [.ref (0), .int (nI (l1)), .int (nI (l2))] Z D (ja_jd (some (.int (nI (pcs (rwX D l1 l2) 256).2))) Z (fun D2 => LAY D D2 (31 + 10 * l1) (31 + 10 * l2) (rwX D l1 l2) 256)) ja_x0 := by
  refine ja_Mof (lv := [some (.ref (0)), some (.int (nI (l1))), some (.int (nI (l2)))]) (by decide +kernel) rfl rfl (Nat.le_of_ble_eq_true rfl) rfl ?_
  refine ja_aload_n (i := 0) dX7_pieces_0 rfl rfl ?_
  refine ja_iload_n (i := 1) dX7_pieces_1 rfl rfl ?_
  refine ja_iload_n (i := 2) dX7_pieces_2 rfl rfl ?_
  refine ja_cVr0 (st := []) (c_needTwoLayers (D := D) l hx (a := l1) (b := l2) (by omega) (by omega) h3) rfl rfl (ce_X7_needTwoLayers 0 0) im_X7_needTwoLayers se_X7_needTwoLayers lk_X7_165 k_X7 (zX_o0 hx) ⟨(Nat.le_of_ble_eq_true rfl), (Nat.le_of_ble_eq_true rfl)⟩ dX7_pieces_3 rfl rfl (Nat.le_of_ble_eq_true rfl) (Nat.zero_le _) (Nat.zero_le _) ?_
  refine ja_aload_n (i := 0) dX7_pieces_6 rfl rfl ?_
  refine ja_iload_n (i := 1) dX7_pieces_7 rfl rfl ?_
  refine ja_iload_n (i := 2) dX7_pieces_8 rfl rfl ?_
  refine ja_cVd0 (st := []) (c_layOver (D := D) l hx hw (l1 := l1) (l2 := l2) (by omega) (by omega)) rfl rfl (ce_X7_layOver 0 0) im_X7_layOver se_X7_layOver lk_X7_261 k_X7 (zX_o0 hx) ⟨(Nat.le_of_ble_eq_true rfl), (Nat.le_of_ble_eq_true rfl)⟩ dX7_pieces_9 rfl rfl (Nat.le_of_ble_eq_true rfl) (Nat.zero_le _) (Nat.zero_le _) ?_
  intro E hE
  obtain ⟨np, hnp⟩ : ∃ np, np = (pcs (rwX D l1 l2) 256).2 := ⟨_, rfl⟩
  have hE3 : E 5 3 = nI np := by rw [hnp]; exact hE.2.1
  have hnp6 : np ≤ 256 := by rw [hnp]; exact pcs_le _ _
  refine ja_aload_n (i := 0) dX7_pieces_12 rfl rfl ?_
  refine ja_getR fl_X7_34 (zX_o0 hx) rfl (zX_p0_9 hx) dX7_pieces_13 ?_
  refine ja_getI fl_X7_248 (zX_o5 hx) rfl dX7_pieces_16 ?_
  refine ja_top (y := nI (np)) hE3 ?_
  refine ja_iret rfl rfl dX7_pieces_19 (Nat.zero_le _) (Nat.zero_le _) ?_
  exact ⟨by rw [hnp], rfl, hE⟩

set_option maxRecDepth 100000 in
set_option maxHeartbeats 4000000 in
theorem c_pieceSize_f1 (l : Launch) {Z : jZ} {D : jD} (hx : zX Z) {x y : Int32} (hal : ¬ areL x y) (k : Int32) : ja_M l (mX7_pieceSize 1 6) [.ref (0), .int (x), .int (y), .int (k)] Z D ja_r0 (ja_jx "java/lang/IndexOutOfBoundsException" Z D) := by
  refine ja_Mof (lv := [some (.ref (0)), some (.int (x)), some (.int (y)), some (.int (k))]) (by decide +kernel) rfl rfl (Nat.le_of_ble_eq_true rfl) rfl ?_
  refine ja_aload_n (i := 0) dX7_pieceSize_0 rfl rfl ?_
  refine ja_iload_n (i := 1) dX7_pieceSize_1 rfl rfl ?_
  refine ja_iload_n (i := 2) dX7_pieceSize_2 rfl rfl ?_
  refine ja_cVx (st := []) (c_needTwoLayers_x (D := D) l hx hal) (ce_X7_needTwoLayers 1 6) im_X7_needTwoLayers se_X7_needTwoLayers lk_X7_165 k_X7 (zX_o0 hx) ⟨(Nat.le_of_ble_eq_true rfl), (Nat.le_of_ble_eq_true rfl)⟩ dX7_pieceSize_3 rfl rfl (Nat.le_of_ble_eq_true rfl) (Nat.le_of_ble_eq_true rfl) (Nat.le_of_ble_eq_true rfl) ?_
  refine ja_out rfl (Nat.le_of_ble_eq_true rfl) (Nat.le_of_ble_eq_true rfl) ?_
  exact ⟨rfl, rfl, rfl⟩

set_option maxRecDepth 100000 in
set_option maxHeartbeats 4000000 in
theorem c_pieceSize_f2 (l : Launch) {Z : jZ} {D : jD} (hx : zX Z) (hw : wfX D) {l1 l2 : Nat} (h1 : l1 < 3) (h2 : l2 < 3) (h3 : l1 ≠ l2) {k : Int32} (hk : ¬ (0 ≤ k.toInt ∧ k.toInt < ((pcs (rwX D l1 l2) 256).2 : Int)))  : ja_M l (mX7_pieceSize 1 6) [.ref (0), .int (nI (l1)), .int (nI (l2)), .int (k)] Z D ja_r0 (fun E2 Z2 D2 => E2 = "java/util/NoSuchElementException" ∧ Z2 = Z ∧ LAY D D2 (31 + 10 * l1) (31 + 10 * l2) (rwX D l1 l2) 256) := by
  refine ja_Mof (lv := [some (.ref (0)), some (.int (nI (l1))), some (.int (nI (l2))), some (.int (k))]) (by decide +kernel) rfl rfl (Nat.le_of_ble_eq_true rfl) rfl ?_
  refine ja_aload_n (i := 0) dX7_pieceSize_0 rfl rfl ?_
  refine ja_iload_n (i := 1) dX7_pieceSize_1 rfl rfl ?_
  refine ja_iload_n (i := 2) dX7_pieceSize_2 rfl rfl ?_
  refine ja_cVr0 (st := []) (c_needTwoLayers (D := D) l hx (a := l1) (b := l2) (by omega) (by omega) h3) rfl rfl (ce_X7_needTwoLayers 0 0) im_X7_needTwoLayers se_X7_needTwoLayers lk_X7_165 k_X7 (zX_o0 hx) ⟨(Nat.le_of_ble_eq_true rfl), (Nat.le_of_ble_eq_true rfl)⟩ dX7_pieceSize_3 rfl rfl (Nat.le_of_ble_eq_true rfl) (Nat.zero_le _) (Nat.zero_le _) ?_
  refine ja_aload_n (i := 0) dX7_pieceSize_6 rfl rfl ?_
  refine ja_iload_n (i := 1) dX7_pieceSize_7 rfl rfl ?_
  refine ja_iload_n (i := 2) dX7_pieceSize_8 rfl rfl ?_
  refine ja_cVd0 (st := []) (c_layOver (D := D) l hx hw (l1 := l1) (l2 := l2) (by omega) (by omega)) rfl rfl (ce_X7_layOver 0 0) im_X7_layOver se_X7_layOver lk_X7_261 k_X7 (zX_o0 hx) ⟨(Nat.le_of_ble_eq_true rfl), (Nat.le_of_ble_eq_true rfl)⟩ dX7_pieceSize_9 rfl rfl (Nat.le_of_ble_eq_true rfl) (Nat.zero_le _) (Nat.zero_le _) ?_
  intro E hE
  obtain ⟨np, hnp⟩ : ∃ np, np = (pcs (rwX D l1 l2) 256).2 := ⟨_, rfl⟩
  have hE3 : E 5 3 = nI np := by rw [hnp]; exact hE.2.1
  have hnp6 : np ≤ 256 := by rw [hnp]; exact pcs_le _ _
  rw [← hnp] at hk
  refine ja_aload_n (i := 0) dX7_pieceSize_12 rfl rfl ?_
  refine ja_iload_n (i := 3) dX7_pieceSize_13 rfl rfl ?_
  refine ja_cVx (st := []) (c_needPiece_x (D := E) l hx (n := np) hE3 (by omega) hk) (ce_X7_needPiece 1 6) im_X7_needPiece se_X7_needPiece lk_X7_264 k_X7 (zX_o0 hx) ⟨(Nat.le_of_ble_eq_true rfl), (Nat.le_of_ble_eq_true rfl)⟩ dX7_pieceSize_14 rfl rfl (Nat.le_of_ble_eq_true rfl) (Nat.le_of_ble_eq_true rfl) (Nat.le_of_ble_eq_true rfl) ?_
  refine ja_out rfl (Nat.le_of_ble_eq_true rfl) (Nat.le_of_ble_eq_true rfl) ?_
  exact ⟨rfl, rfl, hE⟩

set_option maxRecDepth 100000 in
set_option maxHeartbeats 4000000 in
theorem c_pieceSize_ok (l : Launch) {Z : jZ} {D : jD} (hx : zX Z) (hw : wfX D) {l1 l2 : Nat} (h1 : l1 < 3) (h2 : l2 < 3) (h3 : l1 ≠ l2) {k : Nat} (hk : k < (pcs (rwX D l1 l2) 256).2) : ja_M l (mX7_pieceSize 0 0) [.ref (0), .int (nI (l1)), .int (nI (l2)), .int (nI (k))] Z D (ja_jd (some (.int (nI (pzs (rwX D l1 l2) 256 k)))) Z (fun D2 => LAY D D2 (31 + 10 * l1) (31 + 10 * l2) (rwX D l1 l2) 256)) ja_x0 := by
  refine ja_Mof (lv := [some (.ref (0)), some (.int (nI (l1))), some (.int (nI (l2))), some (.int (nI (k)))]) (by decide +kernel) rfl rfl (Nat.le_of_ble_eq_true rfl) rfl ?_
  refine ja_aload_n (i := 0) dX7_pieceSize_0 rfl rfl ?_
  refine ja_iload_n (i := 1) dX7_pieceSize_1 rfl rfl ?_
  refine ja_iload_n (i := 2) dX7_pieceSize_2 rfl rfl ?_
  refine ja_cVr0 (st := []) (c_needTwoLayers (D := D) l hx (a := l1) (b := l2) (by omega) (by omega) h3) rfl rfl (ce_X7_needTwoLayers 0 0) im_X7_needTwoLayers se_X7_needTwoLayers lk_X7_165 k_X7 (zX_o0 hx) ⟨(Nat.le_of_ble_eq_true rfl), (Nat.le_of_ble_eq_true rfl)⟩ dX7_pieceSize_3 rfl rfl (Nat.le_of_ble_eq_true rfl) (Nat.zero_le _) (Nat.zero_le _) ?_
  refine ja_aload_n (i := 0) dX7_pieceSize_6 rfl rfl ?_
  refine ja_iload_n (i := 1) dX7_pieceSize_7 rfl rfl ?_
  refine ja_iload_n (i := 2) dX7_pieceSize_8 rfl rfl ?_
  refine ja_cVd0 (st := []) (c_layOver (D := D) l hx hw (l1 := l1) (l2 := l2) (by omega) (by omega)) rfl rfl (ce_X7_layOver 0 0) im_X7_layOver se_X7_layOver lk_X7_261 k_X7 (zX_o0 hx) ⟨(Nat.le_of_ble_eq_true rfl), (Nat.le_of_ble_eq_true rfl)⟩ dX7_pieceSize_9 rfl rfl (Nat.le_of_ble_eq_true rfl) (Nat.zero_le _) (Nat.zero_le _) ?_
  intro E hE
  obtain ⟨np, hnp⟩ : ∃ np, np = (pcs (rwX D l1 l2) 256).2 := ⟨_, rfl⟩
  have hE3 : E 5 3 = nI np := by rw [hnp]; exact hE.2.1
  have hnp6 : np ≤ 256 := by rw [hnp]; exact pcs_le _ _
  rw [← hnp] at hk
  refine ja_aload_n (i := 0) dX7_pieceSize_12 rfl rfl ?_
  refine ja_iload_n (i := 3) dX7_pieceSize_13 rfl rfl ?_
  refine ja_cVr0 (st := []) (c_needPiece (D := E) l hx (n := np) (p := k) hE3 (by omega) (by omega)) rfl rfl (ce_X7_needPiece 0 0) im_X7_needPiece se_X7_needPiece lk_X7_264 k_X7 (zX_o0 hx) ⟨(Nat.le_of_ble_eq_true rfl), (Nat.le_of_ble_eq_true rfl)⟩ dX7_pieceSize_14 rfl rfl (Nat.le_of_ble_eq_true rfl) (Nat.zero_le _) (Nat.zero_le _) ?_
  refine ja_aload_n (i := 0) dX7_pieceSize_17 rfl rfl ?_
  refine ja_getR fl_X7_34 (zX_o0 hx) rfl (zX_p0_9 hx) dX7_pieceSize_18 ?_
  refine ja_getR fl_X7_267 (zX_o5 hx) rfl (zX_p5_0 hx) dX7_pieceSize_21 ?_
  refine ja_iload_n (i := 3) dX7_pieceSize_24 rfl rfl ?_
  refine ja_iald (zX_o6 hx) rfl (by omega) (by decide) dX7_pieceSize_25 ?_
  refine ja_top (y := nI (pzs (rwX D l1 l2) 256 k)) (hE.2.2.2 k (hnp ▸ hk)).1 ?_
  refine ja_iret rfl rfl dX7_pieceSize_26 (Nat.zero_le _) (Nat.zero_le _) ?_
  exact ⟨rfl, rfl, hE⟩

set_option maxRecDepth 100000 in
set_option maxHeartbeats 4000000 in
theorem c_parent_f1 (l : Launch) {Z : jZ} {D : jD} (hx : zX Z) {x y : Int32} (hal : ¬ areL x y) (k : Int32) (sc : Bool) : ja_M l (mX7_parent 1 6) [.ref (0), .int (x), .int (y), .int (k), .int (bI (sc))] Z D ja_r0 (ja_jx "java/lang/IndexOutOfBoundsException" Z D) := by
  refine ja_Mof (lv := [some (.ref (0)), some (.int (x)), some (.int (y)), some (.int (k)), some (.int (bI (sc)))]) (by decide +kernel) rfl rfl (Nat.le_of_ble_eq_true rfl) rfl ?_
  refine ja_aload_n (i := 0) dX7_parent_0 rfl rfl ?_
  refine ja_iload_n (i := 1) dX7_parent_1 rfl rfl ?_
  refine ja_iload_n (i := 2) dX7_parent_2 rfl rfl ?_
  refine ja_cVx (st := []) (c_needTwoLayers_x (D := D) l hx hal) (ce_X7_needTwoLayers 1 6) im_X7_needTwoLayers se_X7_needTwoLayers lk_X7_165 k_X7 (zX_o0 hx) ⟨(Nat.le_of_ble_eq_true rfl), (Nat.le_of_ble_eq_true rfl)⟩ dX7_parent_3 rfl rfl (Nat.le_of_ble_eq_true rfl) (Nat.le_of_ble_eq_true rfl) (Nat.le_of_ble_eq_true rfl) ?_
  refine ja_out rfl (Nat.le_of_ble_eq_true rfl) (Nat.le_of_ble_eq_true rfl) ?_
  exact ⟨rfl, rfl, rfl⟩

set_option maxRecDepth 100000 in
set_option maxHeartbeats 4000000 in
theorem c_parent_f2 (l : Launch) {Z : jZ} {D : jD} (hx : zX Z) (hw : wfX D) {l1 l2 : Nat} (h1 : l1 < 3) (h2 : l2 < 3) (h3 : l1 ≠ l2) {k : Int32} (hk : ¬ (0 ≤ k.toInt ∧ k.toInt < ((pcs (rwX D l1 l2) 256).2 : Int))) (sc : Bool) : ja_M l (mX7_parent 1 6) [.ref (0), .int (nI (l1)), .int (nI (l2)), .int (k), .int (bI (sc))] Z D ja_r0 (fun E2 Z2 D2 => E2 = "java/util/NoSuchElementException" ∧ Z2 = Z ∧ LAY D D2 (31 + 10 * l1) (31 + 10 * l2) (rwX D l1 l2) 256) := by
  refine ja_Mof (lv := [some (.ref (0)), some (.int (nI (l1))), some (.int (nI (l2))), some (.int (k)), some (.int (bI (sc)))]) (by decide +kernel) rfl rfl (Nat.le_of_ble_eq_true rfl) rfl ?_
  refine ja_aload_n (i := 0) dX7_parent_0 rfl rfl ?_
  refine ja_iload_n (i := 1) dX7_parent_1 rfl rfl ?_
  refine ja_iload_n (i := 2) dX7_parent_2 rfl rfl ?_
  refine ja_cVr0 (st := []) (c_needTwoLayers (D := D) l hx (a := l1) (b := l2) (by omega) (by omega) h3) rfl rfl (ce_X7_needTwoLayers 0 0) im_X7_needTwoLayers se_X7_needTwoLayers lk_X7_165 k_X7 (zX_o0 hx) ⟨(Nat.le_of_ble_eq_true rfl), (Nat.le_of_ble_eq_true rfl)⟩ dX7_parent_3 rfl rfl (Nat.le_of_ble_eq_true rfl) (Nat.zero_le _) (Nat.zero_le _) ?_
  refine ja_aload_n (i := 0) dX7_parent_6 rfl rfl ?_
  refine ja_iload_n (i := 1) dX7_parent_7 rfl rfl ?_
  refine ja_iload_n (i := 2) dX7_parent_8 rfl rfl ?_
  refine ja_cVd0 (st := []) (c_layOver (D := D) l hx hw (l1 := l1) (l2 := l2) (by omega) (by omega)) rfl rfl (ce_X7_layOver 0 0) im_X7_layOver se_X7_layOver lk_X7_261 k_X7 (zX_o0 hx) ⟨(Nat.le_of_ble_eq_true rfl), (Nat.le_of_ble_eq_true rfl)⟩ dX7_parent_9 rfl rfl (Nat.le_of_ble_eq_true rfl) (Nat.zero_le _) (Nat.zero_le _) ?_
  intro E hE
  obtain ⟨np, hnp⟩ : ∃ np, np = (pcs (rwX D l1 l2) 256).2 := ⟨_, rfl⟩
  have hE3 : E 5 3 = nI np := by rw [hnp]; exact hE.2.1
  have hnp6 : np ≤ 256 := by rw [hnp]; exact pcs_le _ _
  rw [← hnp] at hk
  refine ja_aload_n (i := 0) dX7_parent_12 rfl rfl ?_
  refine ja_iload_n (i := 3) dX7_parent_13 rfl rfl ?_
  refine ja_cVx (st := []) (c_needPiece_x (D := E) l hx (n := np) hE3 (by omega) hk) (ce_X7_needPiece 1 6) im_X7_needPiece se_X7_needPiece lk_X7_264 k_X7 (zX_o0 hx) ⟨(Nat.le_of_ble_eq_true rfl), (Nat.le_of_ble_eq_true rfl)⟩ dX7_parent_14 rfl rfl (Nat.le_of_ble_eq_true rfl) (Nat.le_of_ble_eq_true rfl) (Nat.le_of_ble_eq_true rfl) ?_
  refine ja_out rfl (Nat.le_of_ble_eq_true rfl) (Nat.le_of_ble_eq_true rfl) ?_
  exact ⟨rfl, rfl, hE⟩

set_option maxRecDepth 100000 in
set_option maxHeartbeats 4000000 in
theorem c_parent_okt (l : Launch) {Z : jZ} {D : jD} (hx : zX Z) (hw : wfX D) {l1 l2 : Nat} (h1 : l1 < 3) (h2 : l2 < 3) (h3 : l1 ≠ l2) {k q0 : Nat} (hk : k < (pcs (rwX D l1 l2) 256).2) (hq0 : q0 < 256) (hp : (pcs (rwX D l1 l2) 256).1 q0 = nI k) (hp2 : ∀ j, j < q0 → ¬ (pcs (rwX D l1 l2) 256).1 j = nI k) : ja_M l (mX7_parent 0 0) [.ref (0), .int (nI (l1)), .int (nI (l2)), .int (nI (k)), .int (bI (true))] Z D (ja_jd (some (.int (D (31 + 10 * l2) q0))) Z (fun D2 => LAY D D2 (31 + 10 * l1) (31 + 10 * l2) (rwX D l1 l2) 256)) ja_x0 := by
  refine ja_Mof (lv := [some (.ref (0)), some (.int (nI (l1))), some (.int (nI (l2))), some (.int (nI (k))), some (.int (bI (true)))]) (by decide +kernel) rfl rfl (Nat.le_of_ble_eq_true rfl) rfl ?_
  refine ja_aload_n (i := 0) dX7_parent_0 rfl rfl ?_
  refine ja_iload_n (i := 1) dX7_parent_1 rfl rfl ?_
  refine ja_iload_n (i := 2) dX7_parent_2 rfl rfl ?_
  refine ja_cVr0 (st := []) (c_needTwoLayers (D := D) l hx (a := l1) (b := l2) (by omega) (by omega) h3) rfl rfl (ce_X7_needTwoLayers 0 0) im_X7_needTwoLayers se_X7_needTwoLayers lk_X7_165 k_X7 (zX_o0 hx) ⟨(Nat.le_of_ble_eq_true rfl), (Nat.le_of_ble_eq_true rfl)⟩ dX7_parent_3 rfl rfl (Nat.le_of_ble_eq_true rfl) (Nat.zero_le _) (Nat.zero_le _) ?_
  refine ja_aload_n (i := 0) dX7_parent_6 rfl rfl ?_
  refine ja_iload_n (i := 1) dX7_parent_7 rfl rfl ?_
  refine ja_iload_n (i := 2) dX7_parent_8 rfl rfl ?_
  refine ja_cVd0 (st := []) (c_layOver (D := D) l hx hw (l1 := l1) (l2 := l2) (by omega) (by omega)) rfl rfl (ce_X7_layOver 0 0) im_X7_layOver se_X7_layOver lk_X7_261 k_X7 (zX_o0 hx) ⟨(Nat.le_of_ble_eq_true rfl), (Nat.le_of_ble_eq_true rfl)⟩ dX7_parent_9 rfl rfl (Nat.le_of_ble_eq_true rfl) (Nat.zero_le _) (Nat.zero_le _) ?_
  intro E hE
  obtain ⟨np, hnp⟩ : ∃ np, np = (pcs (rwX D l1 l2) 256).2 := ⟨_, rfl⟩
  have hE3 : E 5 3 = nI np := by rw [hnp]; exact hE.2.1
  have hnp6 : np ≤ 256 := by rw [hnp]; exact pcs_le _ _
  rw [← hnp] at hk
  refine ja_aload_n (i := 0) dX7_parent_12 rfl rfl ?_
  refine ja_iload_n (i := 3) dX7_parent_13 rfl rfl ?_
  refine ja_cVr0 (st := []) (c_needPiece (D := E) l hx (n := np) (p := k) hE3 (by omega) (by omega)) rfl rfl (ce_X7_needPiece 0 0) im_X7_needPiece se_X7_needPiece lk_X7_264 k_X7 (zX_o0 hx) ⟨(Nat.le_of_ble_eq_true rfl), (Nat.le_of_ble_eq_true rfl)⟩ dX7_parent_14 rfl rfl (Nat.le_of_ble_eq_true rfl) (Nat.zero_le _) (Nat.zero_le _) ?_
  obtain ⟨-, x9, y1, y2, y3, y4, y5⟩ := hE.2.2.2 k (hnp ▸ hk)
  have e9 : x9 = q0 := fb_first_one (p := fun j => (pcs (rwX D l1 l2) 256).1 j = nI k) y2 y3 hp hp2
  rw [e9] at y4 y5
  refine ja_iload (i := 4) dX7_parent_17 rfl ?_
  refine ja_ifB_eq (tgt := 34) dX7_parent_19 (by decide) (fun c19 => absurd c19 (by decide)) (fun c19 => ?_)
  refine ja_aload_n (i := 0) dX7_parent_22 rfl rfl ?_
  refine ja_getR fl_X7_34 (zX_o0 hx) rfl (zX_p0_9 hx) dX7_parent_23 ?_
  refine ja_getR fl_X7_268 (zX_o5 hx) rfl (zX_p5_2 hx) dX7_parent_26 ?_
  refine ja_iload_n (i := 3) dX7_parent_29 rfl rfl ?_
  refine ja_iald (zX_o8 hx) rfl (by omega) (by decide) dX7_parent_30 ?_
  refine ja_top (y := D (31 + 10 * l2) q0) y5 ?_
  refine ja_goto (tgt := 43) dX7_parent_31 (by decide) ?_
  refine ja_iret rfl rfl dX7_parent_43 (Nat.zero_le _) (Nat.zero_le _) ?_
  exact ⟨rfl, rfl, hE⟩

set_option maxRecDepth 100000 in
set_option maxHeartbeats 4000000 in
theorem c_parent_okf (l : Launch) {Z : jZ} {D : jD} (hx : zX Z) (hw : wfX D) {l1 l2 : Nat} (h1 : l1 < 3) (h2 : l2 < 3) (h3 : l1 ≠ l2) {k q0 : Nat} (hk : k < (pcs (rwX D l1 l2) 256).2) (hq0 : q0 < 256) (hp : (pcs (rwX D l1 l2) 256).1 q0 = nI k) (hp2 : ∀ j, j < q0 → ¬ (pcs (rwX D l1 l2) 256).1 j = nI k) : ja_M l (mX7_parent 0 0) [.ref (0), .int (nI (l1)), .int (nI (l2)), .int (nI (k)), .int (bI (false))] Z D (ja_jd (some (.int (D (31 + 10 * l1) q0))) Z (fun D2 => LAY D D2 (31 + 10 * l1) (31 + 10 * l2) (rwX D l1 l2) 256)) ja_x0 := by
  refine ja_Mof (lv := [some (.ref (0)), some (.int (nI (l1))), some (.int (nI (l2))), some (.int (nI (k))), some (.int (bI (false)))]) (by decide +kernel) rfl rfl (Nat.le_of_ble_eq_true rfl) rfl ?_
  refine ja_aload_n (i := 0) dX7_parent_0 rfl rfl ?_
  refine ja_iload_n (i := 1) dX7_parent_1 rfl rfl ?_
  refine ja_iload_n (i := 2) dX7_parent_2 rfl rfl ?_
  refine ja_cVr0 (st := []) (c_needTwoLayers (D := D) l hx (a := l1) (b := l2) (by omega) (by omega) h3) rfl rfl (ce_X7_needTwoLayers 0 0) im_X7_needTwoLayers se_X7_needTwoLayers lk_X7_165 k_X7 (zX_o0 hx) ⟨(Nat.le_of_ble_eq_true rfl), (Nat.le_of_ble_eq_true rfl)⟩ dX7_parent_3 rfl rfl (Nat.le_of_ble_eq_true rfl) (Nat.zero_le _) (Nat.zero_le _) ?_
  refine ja_aload_n (i := 0) dX7_parent_6 rfl rfl ?_
  refine ja_iload_n (i := 1) dX7_parent_7 rfl rfl ?_
  refine ja_iload_n (i := 2) dX7_parent_8 rfl rfl ?_
  refine ja_cVd0 (st := []) (c_layOver (D := D) l hx hw (l1 := l1) (l2 := l2) (by omega) (by omega)) rfl rfl (ce_X7_layOver 0 0) im_X7_layOver se_X7_layOver lk_X7_261 k_X7 (zX_o0 hx) ⟨(Nat.le_of_ble_eq_true rfl), (Nat.le_of_ble_eq_true rfl)⟩ dX7_parent_9 rfl rfl (Nat.le_of_ble_eq_true rfl) (Nat.zero_le _) (Nat.zero_le _) ?_
  intro E hE
  obtain ⟨np, hnp⟩ : ∃ np, np = (pcs (rwX D l1 l2) 256).2 := ⟨_, rfl⟩
  have hE3 : E 5 3 = nI np := by rw [hnp]; exact hE.2.1
  have hnp6 : np ≤ 256 := by rw [hnp]; exact pcs_le _ _
  rw [← hnp] at hk
  refine ja_aload_n (i := 0) dX7_parent_12 rfl rfl ?_
  refine ja_iload_n (i := 3) dX7_parent_13 rfl rfl ?_
  refine ja_cVr0 (st := []) (c_needPiece (D := E) l hx (n := np) (p := k) hE3 (by omega) (by omega)) rfl rfl (ce_X7_needPiece 0 0) im_X7_needPiece se_X7_needPiece lk_X7_264 k_X7 (zX_o0 hx) ⟨(Nat.le_of_ble_eq_true rfl), (Nat.le_of_ble_eq_true rfl)⟩ dX7_parent_14 rfl rfl (Nat.le_of_ble_eq_true rfl) (Nat.zero_le _) (Nat.zero_le _) ?_
  obtain ⟨-, x9, y1, y2, y3, y4, y5⟩ := hE.2.2.2 k (hnp ▸ hk)
  have e9 : x9 = q0 := fb_first_one (p := fun j => (pcs (rwX D l1 l2) 256).1 j = nI k) y2 y3 hp hp2
  rw [e9] at y4 y5
  refine ja_iload (i := 4) dX7_parent_17 rfl ?_
  refine ja_ifB_eq (tgt := 34) dX7_parent_19 (by decide) (fun c19 => ?_) (fun c19 => absurd c19 (by decide))
  refine ja_aload_n (i := 0) dX7_parent_34 rfl rfl ?_
  refine ja_getR fl_X7_34 (zX_o0 hx) rfl (zX_p0_9 hx) dX7_parent_35 ?_
  refine ja_getR fl_X7_271 (zX_o5 hx) rfl (zX_p5_1 hx) dX7_parent_38 ?_
  refine ja_iload_n (i := 3) dX7_parent_41 rfl rfl ?_
  refine ja_iald (zX_o7 hx) rfl (by omega) (by decide) dX7_parent_42 ?_
  refine ja_top (y := D (31 + 10 * l1) q0) y4 ?_
  refine ja_iret rfl rfl dX7_parent_43 (Nat.zero_le _) (Nat.zero_le _) ?_
  exact ⟨rfl, rfl, hE⟩

set_option maxRecDepth 100000 in
set_option maxHeartbeats 4000000 in
theorem c_match_f1 (l : Launch) {Z : jZ} {D : jD} (hx : zX Z) {x y : Int32} (hal : ¬ areL x y) (a : Int32) : ja_M l (mX7_match 1 6) [.ref (0), .int (x), .int (a), .int (y)] Z D ja_r0 (ja_jx "java/lang/IndexOutOfBoundsException" Z D) := by
  refine ja_Mof (lv := [some (.ref (0)), some (.int (x)), some (.int (a)), some (.int (y)), none]) (by decide +kernel) rfl rfl (Nat.le_of_ble_eq_true rfl) rfl ?_
  refine ja_aload_n (i := 0) dX7_match_0 rfl rfl ?_
  refine ja_iload_n (i := 1) dX7_match_1 rfl rfl ?_
  refine ja_iload_n (i := 3) dX7_match_2 rfl rfl ?_
  refine ja_cVx (st := []) (c_needTwoLayers_x (D := D) l hx hal) (ce_X7_needTwoLayers 1 6) im_X7_needTwoLayers se_X7_needTwoLayers lk_X7_165 k_X7 (zX_o0 hx) ⟨(Nat.le_of_ble_eq_true rfl), (Nat.le_of_ble_eq_true rfl)⟩ dX7_match_3 rfl rfl (Nat.le_of_ble_eq_true rfl) (Nat.le_of_ble_eq_true rfl) (Nat.le_of_ble_eq_true rfl) ?_
  refine ja_out rfl (Nat.le_of_ble_eq_true rfl) (Nat.le_of_ble_eq_true rfl) ?_
  exact ⟨rfl, rfl, rfl⟩

set_option maxRecDepth 100000 in
set_option maxHeartbeats 4000000 in
theorem c_match_f2 (l : Launch) {Z : jZ} {D : jD} (hx : zX Z) {l1 l2 : Nat} (h1 : l1 < 3) (h2 : l2 < 3) (h3 : l1 ≠ l2) {a : Int32} (ha : ¬ (nI 0 ≤ a ∧ a ≤ nI 9))  : ja_M l (mX7_match 1 6) [.ref (0), .int (nI (l1)), .int (a), .int (nI (l2))] Z D ja_r0 (ja_jx "java/lang/IllegalArgumentException" Z D) := by
  refine ja_Mof (lv := [some (.ref (0)), some (.int (nI (l1))), some (.int (a)), some (.int (nI (l2))), none]) (by decide +kernel) rfl rfl (Nat.le_of_ble_eq_true rfl) rfl ?_
  refine ja_aload_n (i := 0) dX7_match_0 rfl rfl ?_
  refine ja_iload_n (i := 1) dX7_match_1 rfl rfl ?_
  refine ja_iload_n (i := 3) dX7_match_2 rfl rfl ?_
  refine ja_cVr0 (st := []) (c_needTwoLayers (D := D) l hx (a := l1) (b := l2) (by omega) (by omega) h3) rfl rfl (ce_X7_needTwoLayers 0 0) im_X7_needTwoLayers se_X7_needTwoLayers lk_X7_165 k_X7 (zX_o0 hx) ⟨(Nat.le_of_ble_eq_true rfl), (Nat.le_of_ble_eq_true rfl)⟩ dX7_match_3 rfl rfl (Nat.le_of_ble_eq_true rfl) (Nat.zero_le _) (Nat.zero_le _) ?_
  refine ja_iload_n (i := 2) dX7_match_6 rfl rfl ?_
  refine ja_cSx (st := []) (c_needArea_x (D := D) l ha) (ce_X7_needArea 1 6) st_X7_needArea lk_X7_138 ⟨(Nat.le_of_ble_eq_true rfl), (Nat.le_of_ble_eq_true rfl)⟩ dX7_match_7 rfl rfl (Nat.le_of_ble_eq_true rfl) (Nat.le_of_ble_eq_true rfl) (Nat.le_of_ble_eq_true rfl) ?_
  refine ja_out rfl (Nat.le_of_ble_eq_true rfl) (Nat.le_of_ble_eq_true rfl) ?_
  exact ⟨rfl, rfl, rfl⟩

set_option maxRecDepth 100000 in
set_option maxHeartbeats 4000000 in
theorem c_matchKind_f1 (l : Launch) {Z : jZ} {D : jD} (hx : zX Z) {x y : Int32} (hal : ¬ areL x y) (a : Int32) : ja_M l (mX7_matchKind 1 6) [.ref (0), .int (x), .int (a), .int (y)] Z D ja_r0 (ja_jx "java/lang/IndexOutOfBoundsException" Z D) := by
  refine ja_Mof (lv := [some (.ref (0)), some (.int (x)), some (.int (a)), some (.int (y)), none, none, none, none]) (by decide +kernel) rfl rfl (Nat.le_of_ble_eq_true rfl) rfl ?_
  refine ja_aload_n (i := 0) dX7_matchKind_0 rfl rfl ?_
  refine ja_iload_n (i := 1) dX7_matchKind_1 rfl rfl ?_
  refine ja_iload_n (i := 3) dX7_matchKind_2 rfl rfl ?_
  refine ja_cVx (st := []) (c_needTwoLayers_x (D := D) l hx hal) (ce_X7_needTwoLayers 1 6) im_X7_needTwoLayers se_X7_needTwoLayers lk_X7_165 k_X7 (zX_o0 hx) ⟨(Nat.le_of_ble_eq_true rfl), (Nat.le_of_ble_eq_true rfl)⟩ dX7_matchKind_3 rfl rfl (Nat.le_of_ble_eq_true rfl) (Nat.le_of_ble_eq_true rfl) (Nat.le_of_ble_eq_true rfl) ?_
  refine ja_out rfl (Nat.le_of_ble_eq_true rfl) (Nat.le_of_ble_eq_true rfl) ?_
  exact ⟨rfl, rfl, rfl⟩

set_option maxRecDepth 100000 in
set_option maxHeartbeats 4000000 in
theorem c_matchKind_f2 (l : Launch) {Z : jZ} {D : jD} (hx : zX Z) {l1 l2 : Nat} (h1 : l1 < 3) (h2 : l2 < 3) (h3 : l1 ≠ l2) {a : Int32} (ha : ¬ (nI 0 ≤ a ∧ a ≤ nI 9))  : ja_M l (mX7_matchKind 1 6) [.ref (0), .int (nI (l1)), .int (a), .int (nI (l2))] Z D ja_r0 (ja_jx "java/lang/IllegalArgumentException" Z D) := by
  refine ja_Mof (lv := [some (.ref (0)), some (.int (nI (l1))), some (.int (a)), some (.int (nI (l2))), none, none, none, none]) (by decide +kernel) rfl rfl (Nat.le_of_ble_eq_true rfl) rfl ?_
  refine ja_aload_n (i := 0) dX7_matchKind_0 rfl rfl ?_
  refine ja_iload_n (i := 1) dX7_matchKind_1 rfl rfl ?_
  refine ja_iload_n (i := 3) dX7_matchKind_2 rfl rfl ?_
  refine ja_cVr0 (st := []) (c_needTwoLayers (D := D) l hx (a := l1) (b := l2) (by omega) (by omega) h3) rfl rfl (ce_X7_needTwoLayers 0 0) im_X7_needTwoLayers se_X7_needTwoLayers lk_X7_165 k_X7 (zX_o0 hx) ⟨(Nat.le_of_ble_eq_true rfl), (Nat.le_of_ble_eq_true rfl)⟩ dX7_matchKind_3 rfl rfl (Nat.le_of_ble_eq_true rfl) (Nat.zero_le _) (Nat.zero_le _) ?_
  refine ja_iload_n (i := 2) dX7_matchKind_6 rfl rfl ?_
  refine ja_cSx (st := []) (c_needArea_x (D := D) l ha) (ce_X7_needArea 1 6) st_X7_needArea lk_X7_138 ⟨(Nat.le_of_ble_eq_true rfl), (Nat.le_of_ble_eq_true rfl)⟩ dX7_matchKind_7 rfl rfl (Nat.le_of_ble_eq_true rfl) (Nat.le_of_ble_eq_true rfl) (Nat.le_of_ble_eq_true rfl) ?_
  refine ja_out rfl (Nat.le_of_ble_eq_true rfl) (Nat.le_of_ble_eq_true rfl) ?_
  exact ⟨rfl, rfl, rfl⟩

set_option maxRecDepth 100000 in
set_option maxHeartbeats 4000000 in
theorem c_match_ok (l : Launch) {Z : jZ} {D : jD} (hx : zX Z) {l1 l2 : Nat} (h1 : l1 < 3) (h2 : l2 < 3) (h3 : l1 ≠ l2) {a b : Nat} (h4 : a < 10) (hb : b < 10) (hb9 : bM (fun o => cXm D l1 (nI a) l2 (nI o) 256) 10 = some b) : ja_M l (mX7_match 0 0) [.ref (0), .int (nI (l1)), .int (nI (a)), .int (nI (l2))] Z D (ja_jr (some (.int (nI b))) Z D) ja_x0 := by
  refine ja_Mof (lv := [some (.ref (0)), some (.int (nI (l1))), some (.int (nI (a))), some (.int (nI (l2))), none]) (by decide +kernel) rfl rfl (Nat.le_of_ble_eq_true rfl) rfl ?_
  refine ja_aload_n (i := 0) dX7_match_0 rfl rfl ?_
  refine ja_iload_n (i := 1) dX7_match_1 rfl rfl ?_
  refine ja_iload_n (i := 3) dX7_match_2 rfl rfl ?_
  refine ja_cVr0 (st := []) (c_needTwoLayers (D := D) l hx (a := l1) (b := l2) (by omega) (by omega) h3) rfl rfl (ce_X7_needTwoLayers 0 0) im_X7_needTwoLayers se_X7_needTwoLayers lk_X7_165 k_X7 (zX_o0 hx) ⟨(Nat.le_of_ble_eq_true rfl), (Nat.le_of_ble_eq_true rfl)⟩ dX7_match_3 rfl rfl (Nat.le_of_ble_eq_true rfl) (Nat.zero_le _) (Nat.zero_le _) ?_
  refine ja_iload_n (i := 2) dX7_match_6 rfl rfl ?_
  refine ja_cSr0 (st := []) (c_needArea (D := D) l (a := a) (by omega)) rfl rfl (ce_X7_needArea 0 0) st_X7_needArea lk_X7_138 ⟨(Nat.le_of_ble_eq_true rfl), (Nat.le_of_ble_eq_true rfl)⟩ dX7_match_7 rfl rfl (Nat.le_of_ble_eq_true rfl) (Nat.zero_le _) (Nat.zero_le _) ?_
  refine ja_aload_n (i := 0) dX7_match_10 rfl rfl ?_
  refine ja_iload_n (i := 1) dX7_match_11 rfl rfl ?_
  refine ja_cVr (st := []) (c_layerOf (D := D) l hx (ly := l1) (by omega)) rfl rfl (ce_X7_layerOf 0 0) im_X7_layerOf se_X7_layerOf lk_X7_93 k_X7 (zX_o0 hx) ⟨(Nat.le_of_ble_eq_true rfl), (Nat.le_of_ble_eq_true rfl)⟩ dX7_match_12 rfl rfl (Nat.le_of_ble_eq_true rfl) (Nat.zero_le _) (Nat.zero_le _) ?_
  refine ja_iload_n (i := 2) dX7_match_15 rfl rfl ?_
  refine ja_aload_n (i := 0) dX7_match_16 rfl rfl ?_
  refine ja_iload_n (i := 3) dX7_match_17 rfl rfl ?_
  refine ja_cVr (st := [.int (nI (a)), .ref (30 + 10 * l1)]) (c_layerOf (D := D) l hx (ly := l2) (by omega)) rfl rfl (ce_X7_layerOf 0 0) im_X7_layerOf se_X7_layerOf lk_X7_93 k_X7 (zX_o0 hx) ⟨(Nat.le_of_ble_eq_true rfl), (Nat.le_of_ble_eq_true rfl)⟩ dX7_match_18 rfl rfl (Nat.le_of_ble_eq_true rfl) (Nat.zero_le _) (Nat.zero_le _) ?_
  refine ja_cSr (st := []) (c_bestMatch (D := D) l hx h1 h2 (nI a)) rfl rfl (ce_X7_bestMatch 0 0) st_X7_bestMatch lk_X7_274 ⟨(Nat.le_of_ble_eq_true rfl), (Nat.le_of_ble_eq_true rfl)⟩ dX7_match_21 rfl rfl (Nat.le_of_ble_eq_true rfl) (Nat.zero_le _) (Nat.zero_le _) ?_
  refine ja_top (y := nI (b)) (by rw [hb9]; rfl) ?_
  refine ja_istore (i := 4) dX7_match_24 rfl (Nat.le_of_ble_eq_true rfl) ?_
  refine ja_iload (i := 4) dX7_match_26 rfl ?_
  refine ja_iconst (v := (-1)) dX7_match_28 (by decide +kernel) ?_
  refine ja_icmp_ne (tgt := 43) dX7_match_29 (by decide) (fun c29 => ?_) (fun c29 => absurd c29 (nI_nm1 (by omega)))
  refine ja_iload (i := 4) dX7_match_43 rfl ?_
  refine ja_iret rfl rfl dX7_match_45 (Nat.zero_le _) (Nat.zero_le _) ?_
  exact ⟨rfl, rfl, rfl⟩

set_option maxRecDepth 100000 in
set_option maxHeartbeats 4000000 in
theorem c_match_f3 (l : Launch) {Z : jZ} {D : jD} (hx : zX Z) {l1 l2 : Nat} (h1 : l1 < 3) (h2 : l2 < 3) (h3 : l1 ≠ l2) {a : Nat} (h4 : a < 10) (hb9 : bM (fun o => cXm D l1 (nI a) l2 (nI o) 256) 10 = none) : ja_M l (mX7_match 1 6) [.ref (0), .int (nI (l1)), .int (nI (a)), .int (nI (l2))] Z D ja_r0 (ja_jx "java/util/NoSuchElementException" Z D) := by
  refine ja_Mof (lv := [some (.ref (0)), some (.int (nI (l1))), some (.int (nI (a))), some (.int (nI (l2))), none]) (by decide +kernel) rfl rfl (Nat.le_of_ble_eq_true rfl) rfl ?_
  refine ja_aload_n (i := 0) dX7_match_0 rfl rfl ?_
  refine ja_iload_n (i := 1) dX7_match_1 rfl rfl ?_
  refine ja_iload_n (i := 3) dX7_match_2 rfl rfl ?_
  refine ja_cVr0 (st := []) (c_needTwoLayers (D := D) l hx (a := l1) (b := l2) (by omega) (by omega) h3) rfl rfl (ce_X7_needTwoLayers 0 0) im_X7_needTwoLayers se_X7_needTwoLayers lk_X7_165 k_X7 (zX_o0 hx) ⟨(Nat.le_of_ble_eq_true rfl), (Nat.le_of_ble_eq_true rfl)⟩ dX7_match_3 rfl rfl (Nat.le_of_ble_eq_true rfl) (Nat.zero_le _) (Nat.zero_le _) ?_
  refine ja_iload_n (i := 2) dX7_match_6 rfl rfl ?_
  refine ja_cSr0 (st := []) (c_needArea (D := D) l (a := a) (by omega)) rfl rfl (ce_X7_needArea 0 0) st_X7_needArea lk_X7_138 ⟨(Nat.le_of_ble_eq_true rfl), (Nat.le_of_ble_eq_true rfl)⟩ dX7_match_7 rfl rfl (Nat.le_of_ble_eq_true rfl) (Nat.zero_le _) (Nat.zero_le _) ?_
  refine ja_aload_n (i := 0) dX7_match_10 rfl rfl ?_
  refine ja_iload_n (i := 1) dX7_match_11 rfl rfl ?_
  refine ja_cVr (st := []) (c_layerOf (D := D) l hx (ly := l1) (by omega)) rfl rfl (ce_X7_layerOf 0 0) im_X7_layerOf se_X7_layerOf lk_X7_93 k_X7 (zX_o0 hx) ⟨(Nat.le_of_ble_eq_true rfl), (Nat.le_of_ble_eq_true rfl)⟩ dX7_match_12 rfl rfl (Nat.le_of_ble_eq_true rfl) (Nat.zero_le _) (Nat.zero_le _) ?_
  refine ja_iload_n (i := 2) dX7_match_15 rfl rfl ?_
  refine ja_aload_n (i := 0) dX7_match_16 rfl rfl ?_
  refine ja_iload_n (i := 3) dX7_match_17 rfl rfl ?_
  refine ja_cVr (st := [.int (nI (a)), .ref (30 + 10 * l1)]) (c_layerOf (D := D) l hx (ly := l2) (by omega)) rfl rfl (ce_X7_layerOf 0 0) im_X7_layerOf se_X7_layerOf lk_X7_93 k_X7 (zX_o0 hx) ⟨(Nat.le_of_ble_eq_true rfl), (Nat.le_of_ble_eq_true rfl)⟩ dX7_match_18 rfl rfl (Nat.le_of_ble_eq_true rfl) (Nat.zero_le _) (Nat.zero_le _) ?_
  refine ja_cSr (st := []) (c_bestMatch (D := D) l hx h1 h2 (nI a)) rfl rfl (ce_X7_bestMatch 0 0) st_X7_bestMatch lk_X7_274 ⟨(Nat.le_of_ble_eq_true rfl), (Nat.le_of_ble_eq_true rfl)⟩ dX7_match_21 rfl rfl (Nat.le_of_ble_eq_true rfl) (Nat.zero_le _) (Nat.zero_le _) ?_
  refine ja_top (y := (-1)) (by rw [hb9]; rfl) ?_
  refine ja_istore (i := 4) dX7_match_24 rfl (Nat.le_of_ble_eq_true rfl) ?_
  refine ja_iload (i := 4) dX7_match_26 rfl ?_
  refine ja_iconst (v := (-1)) dX7_match_28 (by decide +kernel) ?_
  refine ja_icmp_ne (tgt := 43) dX7_match_29 (by decide) (fun c29 => absurd rfl c29) (fun c29 => ?_)
  refine ja_throwEW ts_X7_173_278_177 rfl dX7_match_32 dX7_match_35 dX7_match_36 dX7_match_39 dX7_match_42 (Nat.le_of_ble_eq_true rfl) (Nat.le_of_ble_eq_true rfl) (Nat.le_of_ble_eq_true rfl) (Nat.le_of_ble_eq_true rfl) ?_
  exact ⟨rfl, rfl, rfl⟩

set_option maxRecDepth 100000 in
set_option maxHeartbeats 4000000 in
theorem c_matchKind_n (l : Launch) {Z : jZ} {D : jD} (hx : zX Z) {l1 l2 : Nat} (h1 : l1 < 3) (h2 : l2 < 3) (h3 : l1 ≠ l2) {a : Nat} (h4 : a < 10) (hb9 : bM (fun o => cXm D l1 (nI a) l2 (nI o) 256) 10 = none) : ja_M l (mX7_matchKind 0 0) [.ref (0), .int (nI (l1)), .int (nI (a)), .int (nI (l2))] Z D (ja_jr (some (.int (nI 110))) Z D) ja_x0 := by
  refine ja_Mof (lv := [some (.ref (0)), some (.int (nI (l1))), some (.int (nI (a))), some (.int (nI (l2))), none, none, none, none]) (by decide +kernel) rfl rfl (Nat.le_of_ble_eq_true rfl) rfl ?_
  refine ja_aload_n (i := 0) dX7_matchKind_0 rfl rfl ?_
  refine ja_iload_n (i := 1) dX7_matchKind_1 rfl rfl ?_
  refine ja_iload_n (i := 3) dX7_matchKind_2 rfl rfl ?_
  refine ja_cVr0 (st := []) (c_needTwoLayers (D := D) l hx (a := l1) (b := l2) (by omega) (by omega) h3) rfl rfl (ce_X7_needTwoLayers 0 0) im_X7_needTwoLayers se_X7_needTwoLayers lk_X7_165 k_X7 (zX_o0 hx) ⟨(Nat.le_of_ble_eq_true rfl), (Nat.le_of_ble_eq_true rfl)⟩ dX7_matchKind_3 rfl rfl (Nat.le_of_ble_eq_true rfl) (Nat.zero_le _) (Nat.zero_le _) ?_
  refine ja_iload_n (i := 2) dX7_matchKind_6 rfl rfl ?_
  refine ja_cSr0 (st := []) (c_needArea (D := D) l (a := a) (by omega)) rfl rfl (ce_X7_needArea 0 0) st_X7_needArea lk_X7_138 ⟨(Nat.le_of_ble_eq_true rfl), (Nat.le_of_ble_eq_true rfl)⟩ dX7_matchKind_7 rfl rfl (Nat.le_of_ble_eq_true rfl) (Nat.zero_le _) (Nat.zero_le _) ?_
  refine ja_aload_n (i := 0) dX7_matchKind_10 rfl rfl ?_
  refine ja_iload_n (i := 1) dX7_matchKind_11 rfl rfl ?_
  refine ja_cVr (st := []) (c_layerOf (D := D) l hx (ly := l1) (by omega)) rfl rfl (ce_X7_layerOf 0 0) im_X7_layerOf se_X7_layerOf lk_X7_93 k_X7 (zX_o0 hx) ⟨(Nat.le_of_ble_eq_true rfl), (Nat.le_of_ble_eq_true rfl)⟩ dX7_matchKind_12 rfl rfl (Nat.le_of_ble_eq_true rfl) (Nat.zero_le _) (Nat.zero_le _) ?_
  refine ja_astore (i := 4) dX7_matchKind_15 rfl (Nat.le_of_ble_eq_true rfl) ?_
  refine ja_aload_n (i := 0) dX7_matchKind_17 rfl rfl ?_
  refine ja_iload_n (i := 3) dX7_matchKind_18 rfl rfl ?_
  refine ja_cVr (st := []) (c_layerOf (D := D) l hx (ly := l2) (by omega)) rfl rfl (ce_X7_layerOf 0 0) im_X7_layerOf se_X7_layerOf lk_X7_93 k_X7 (zX_o0 hx) ⟨(Nat.le_of_ble_eq_true rfl), (Nat.le_of_ble_eq_true rfl)⟩ dX7_matchKind_19 rfl rfl (Nat.le_of_ble_eq_true rfl) (Nat.zero_le _) (Nat.zero_le _) ?_
  refine ja_astore (i := 5) dX7_matchKind_22 rfl (Nat.le_of_ble_eq_true rfl) ?_
  refine ja_aload (i := 4) dX7_matchKind_24 rfl ?_
  refine ja_iload_n (i := 2) dX7_matchKind_26 rfl rfl ?_
  refine ja_aload (i := 5) dX7_matchKind_27 rfl ?_
  refine ja_cSr (st := []) (c_bestMatch (D := D) l hx h1 h2 (nI a)) rfl rfl (ce_X7_bestMatch 0 0) st_X7_bestMatch lk_X7_274 ⟨(Nat.le_of_ble_eq_true rfl), (Nat.le_of_ble_eq_true rfl)⟩ dX7_matchKind_29 rfl rfl (Nat.le_of_ble_eq_true rfl) (Nat.zero_le _) (Nat.zero_le _) ?_
  refine ja_top (y := (-1)) (by rw [hb9]; rfl) ?_
  refine ja_istore (i := 6) dX7_matchKind_32 rfl (Nat.le_of_ble_eq_true rfl) ?_
  refine ja_iload (i := 6) dX7_matchKind_34 rfl ?_
  refine ja_cSr (st := []) (c_isAreaN l) rfl rfl (ce_X7_isArea 0 0) st_X7_isArea lk_X7_280 ⟨(Nat.le_of_ble_eq_true rfl), (Nat.le_of_ble_eq_true rfl)⟩ dX7_matchKind_36 rfl rfl (Nat.le_of_ble_eq_true rfl) (Nat.zero_le _) (Nat.zero_le _) ?_
  refine ja_ifB_ne (tgt := 45) dX7_matchKind_39 (by decide) (fun c39 => absurd c39 (by decide)) (fun c39 => ?_)
  refine ja_bipush (v := nI 110) dX7_matchKind_42 (by decide +kernel) ?_
  refine ja_iret rfl (by decide +kernel) dX7_matchKind_44 (Nat.zero_le _) (Nat.zero_le _) ?_
  exact ⟨rfl, rfl, rfl⟩

set_option maxRecDepth 100000 in
set_option maxHeartbeats 4000000 in
theorem c_matchKind_ok (l : Launch) {Z : jZ} {D : jD} (hx : zX Z) {l1 l2 : Nat} (h1 : l1 < 3) (h2 : l2 < 3) (h3 : l1 ≠ l2) {a b z1 z2 : Nat} (h4 : a < 10) (hb : b < 10) (hb9 : bM (fun o => cXm D l1 (nI a) l2 (nI o) 256) 10 = some b) (hz1 : D (32 + 10 * l1) a = nI z1) (hz2 : D (32 + 10 * l2) b = nI z2) (hz3 : z1 ≤ 256) (hz4 : z2 ≤ 256) : ja_M l (mX7_matchKind 0 0) [.ref (0), .int (nI (l1)), .int (nI (a)), .int (nI (l2))] Z D (ja_jr (some (.int (nI (if z1 < 2 * cXm D l1 (nI a) l2 (nI b) 256 ∧ z2 < 2 * cXm D l1 (nI a) l2 (nI b) 256 then 115 else 100)))) Z D) ja_x0 := by
  have hcm : cXm D l1 (nI a) l2 (nI b) 256 ≤ 256 := fb_ct_le _ _
  refine ja_Mof (lv := [some (.ref (0)), some (.int (nI (l1))), some (.int (nI (a))), some (.int (nI (l2))), none, none, none, none]) (by decide +kernel) rfl rfl (Nat.le_of_ble_eq_true rfl) rfl ?_
  refine ja_aload_n (i := 0) dX7_matchKind_0 rfl rfl ?_
  refine ja_iload_n (i := 1) dX7_matchKind_1 rfl rfl ?_
  refine ja_iload_n (i := 3) dX7_matchKind_2 rfl rfl ?_
  refine ja_cVr0 (st := []) (c_needTwoLayers (D := D) l hx (a := l1) (b := l2) (by omega) (by omega) h3) rfl rfl (ce_X7_needTwoLayers 0 0) im_X7_needTwoLayers se_X7_needTwoLayers lk_X7_165 k_X7 (zX_o0 hx) ⟨(Nat.le_of_ble_eq_true rfl), (Nat.le_of_ble_eq_true rfl)⟩ dX7_matchKind_3 rfl rfl (Nat.le_of_ble_eq_true rfl) (Nat.zero_le _) (Nat.zero_le _) ?_
  refine ja_iload_n (i := 2) dX7_matchKind_6 rfl rfl ?_
  refine ja_cSr0 (st := []) (c_needArea (D := D) l (a := a) (by omega)) rfl rfl (ce_X7_needArea 0 0) st_X7_needArea lk_X7_138 ⟨(Nat.le_of_ble_eq_true rfl), (Nat.le_of_ble_eq_true rfl)⟩ dX7_matchKind_7 rfl rfl (Nat.le_of_ble_eq_true rfl) (Nat.zero_le _) (Nat.zero_le _) ?_
  refine ja_aload_n (i := 0) dX7_matchKind_10 rfl rfl ?_
  refine ja_iload_n (i := 1) dX7_matchKind_11 rfl rfl ?_
  refine ja_cVr (st := []) (c_layerOf (D := D) l hx (ly := l1) (by omega)) rfl rfl (ce_X7_layerOf 0 0) im_X7_layerOf se_X7_layerOf lk_X7_93 k_X7 (zX_o0 hx) ⟨(Nat.le_of_ble_eq_true rfl), (Nat.le_of_ble_eq_true rfl)⟩ dX7_matchKind_12 rfl rfl (Nat.le_of_ble_eq_true rfl) (Nat.zero_le _) (Nat.zero_le _) ?_
  refine ja_astore (i := 4) dX7_matchKind_15 rfl (Nat.le_of_ble_eq_true rfl) ?_
  refine ja_aload_n (i := 0) dX7_matchKind_17 rfl rfl ?_
  refine ja_iload_n (i := 3) dX7_matchKind_18 rfl rfl ?_
  refine ja_cVr (st := []) (c_layerOf (D := D) l hx (ly := l2) (by omega)) rfl rfl (ce_X7_layerOf 0 0) im_X7_layerOf se_X7_layerOf lk_X7_93 k_X7 (zX_o0 hx) ⟨(Nat.le_of_ble_eq_true rfl), (Nat.le_of_ble_eq_true rfl)⟩ dX7_matchKind_19 rfl rfl (Nat.le_of_ble_eq_true rfl) (Nat.zero_le _) (Nat.zero_le _) ?_
  refine ja_astore (i := 5) dX7_matchKind_22 rfl (Nat.le_of_ble_eq_true rfl) ?_
  refine ja_aload (i := 4) dX7_matchKind_24 rfl ?_
  refine ja_iload_n (i := 2) dX7_matchKind_26 rfl rfl ?_
  refine ja_aload (i := 5) dX7_matchKind_27 rfl ?_
  refine ja_cSr (st := []) (c_bestMatch (D := D) l hx h1 h2 (nI a)) rfl rfl (ce_X7_bestMatch 0 0) st_X7_bestMatch lk_X7_274 ⟨(Nat.le_of_ble_eq_true rfl), (Nat.le_of_ble_eq_true rfl)⟩ dX7_matchKind_29 rfl rfl (Nat.le_of_ble_eq_true rfl) (Nat.zero_le _) (Nat.zero_le _) ?_
  refine ja_top (y := nI (b)) (by rw [hb9]; rfl) ?_
  refine ja_istore (i := 6) dX7_matchKind_32 rfl (Nat.le_of_ble_eq_true rfl) ?_
  refine ja_iload (i := 6) dX7_matchKind_34 rfl ?_
  refine ja_cSr (st := []) (c_isAreaT l (by omega)) rfl rfl (ce_X7_isArea 0 0) st_X7_isArea lk_X7_280 ⟨(Nat.le_of_ble_eq_true rfl), (Nat.le_of_ble_eq_true rfl)⟩ dX7_matchKind_36 rfl rfl (Nat.le_of_ble_eq_true rfl) (Nat.zero_le _) (Nat.zero_le _) ?_
  refine ja_ifB_ne (tgt := 45) dX7_matchKind_39 (by decide) (fun c39 => ?_) (fun c39 => absurd c39 (by decide))
  refine ja_iconst (v := nI 2) dX7_matchKind_45 (by decide +kernel) ?_
  refine ja_aload (i := 4) dX7_matchKind_46 rfl ?_
  refine ja_iload_n (i := 2) dX7_matchKind_48 rfl rfl ?_
  refine ja_aload (i := 5) dX7_matchKind_49 rfl ?_
  refine ja_iload (i := 6) dX7_matchKind_51 rfl ?_
  refine ja_cSr (st := [.int (nI (2))]) (c_commonSize (D := D) l hx h1 h2 (nI a) (nI b)) rfl rfl (ce_X7_commonSize 0 0) st_X7_commonSize lk_X7_283 ⟨(Nat.le_of_ble_eq_true rfl), (Nat.le_of_ble_eq_true rfl)⟩ dX7_matchKind_53 rfl rfl (Nat.le_of_ble_eq_true rfl) (Nat.zero_le _) (Nat.zero_le _) ?_
  refine ja_imulN dX7_matchKind_56 ?_
  refine ja_istore (i := 7) dX7_matchKind_57 rfl (Nat.le_of_ble_eq_true rfl) ?_
  refine ja_iload (i := 7) dX7_matchKind_59 rfl ?_
  refine ja_aload (i := 4) dX7_matchKind_61 rfl ?_
  refine ja_getR fl_X7_127 (zL_o hx (l := l1) (by omega)) rfl (zL_p1 hx (l := l1) (by omega)) dX7_matchKind_63 ?_
  refine ja_iload_n (i := 2) dX7_matchKind_66 rfl rfl ?_
  refine ja_iald (zL_a1 hx (l := l1) (by omega)) rfl (by omega) (by decide) dX7_matchKind_67 ?_
  refine ja_top (y := nI (z1)) hz1 ?_
  refine ja_icmpN_le (tgt := 89) dX7_matchKind_68 (by decide) (by omega) (by omega) (fun c68 => ?_) (fun c68 => ?_)
  ·
    refine ja_bipush (v := nI 100) dX7_matchKind_89 (by decide +kernel) ?_
    refine ja_iret rfl (by decide +kernel) dX7_matchKind_91 (Nat.zero_le _) (Nat.zero_le _) ?_
    exact ⟨by rw [if_neg (by omega)], rfl, rfl⟩
  ·
    refine ja_iload (i := 7) dX7_matchKind_71 rfl ?_
    refine ja_aload (i := 5) dX7_matchKind_73 rfl ?_
    refine ja_getR fl_X7_127 (zL_o hx (l := l2) (by omega)) rfl (zL_p1 hx (l := l2) (by omega)) dX7_matchKind_75 ?_
    refine ja_iload (i := 6) dX7_matchKind_78 rfl ?_
    refine ja_iald (zL_a1 hx (l := l2) (by omega)) rfl (by omega) (by decide) dX7_matchKind_80 ?_
    refine ja_top (y := nI (z2)) hz2 ?_
    refine ja_icmpN_le (tgt := 89) dX7_matchKind_81 (by decide) (by omega) (by omega) (fun c81 => ?_) (fun c81 => ?_)
    ·
      refine ja_bipush (v := nI 100) dX7_matchKind_89 (by decide +kernel) ?_
      refine ja_iret rfl (by decide +kernel) dX7_matchKind_91 (Nat.zero_le _) (Nat.zero_le _) ?_
      exact ⟨by rw [if_neg (by omega)], rfl, rfl⟩
    ·
      refine ja_bipush (v := nI 115) dX7_matchKind_84 (by decide +kernel) ?_
      refine ja_goto (tgt := 91) dX7_matchKind_86 (by decide) ?_
      refine ja_iret rfl (by decide +kernel) dX7_matchKind_91 (Nat.zero_le _) (Nat.zero_le _) ?_
      exact ⟨by rw [if_pos ⟨by omega, by omega⟩], rfl, rfl⟩

set_option maxRecDepth 100000 in
set_option maxHeartbeats 4000000 in
theorem c_coarse_f1 (l : Launch) {Z : jZ} {D : jD} (hx : zX Z) {ly : Int32} (le a : Int32) (hl : ¬ (nI 0 ≤ ly ∧ ly ≤ nI 2))  : ja_M l (mX7_coarse 1 6) [.ref (0), .int (ly), .int (le), .int (a)] Z D ja_r0 (ja_jx "java/lang/IndexOutOfBoundsException" Z D) := by
  refine ja_Mof (lv := [some (.ref (0)), some (.int (ly)), some (.int (le)), some (.int (a)), none]) (by decide +kernel) rfl rfl (Nat.le_of_ble_eq_true rfl) rfl ?_
  refine ja_aload_n (i := 0) dX7_coarse_0 rfl rfl ?_
  refine ja_iload_n (i := 1) dX7_coarse_1 rfl rfl ?_
  refine ja_cVx (st := []) (c_layerOf_x (D := D) l hx hl) (ce_X7_layerOf 1 6) im_X7_layerOf se_X7_layerOf lk_X7_93 k_X7 (zX_o0 hx) ⟨(Nat.le_of_ble_eq_true rfl), (Nat.le_of_ble_eq_true rfl)⟩ dX7_coarse_2 rfl rfl (Nat.le_of_ble_eq_true rfl) (Nat.le_of_ble_eq_true rfl) (Nat.le_of_ble_eq_true rfl) ?_
  refine ja_out rfl (Nat.le_of_ble_eq_true rfl) (Nat.le_of_ble_eq_true rfl) ?_
  exact ⟨rfl, rfl, rfl⟩

set_option maxRecDepth 100000 in
set_option maxHeartbeats 4000000 in
theorem c_coarse_f2 (l : Launch) {Z : jZ} {D : jD} (hx : zX Z) {ly : Nat} (h1 : ly < 3) {le : Int32} (hle : ¬ (nI 1 ≤ le ∧ le ≤ nI 256)) (a : Int32) : ja_M l (mX7_coarse 1 6) [.ref (0), .int (nI (ly)), .int (le), .int (a)] Z D ja_r0 (ja_jx "java/lang/IllegalArgumentException" Z D) := by
  refine ja_Mof (lv := [some (.ref (0)), some (.int (nI (ly))), some (.int (le)), some (.int (a)), none]) (by decide +kernel) rfl rfl (Nat.le_of_ble_eq_true rfl) rfl ?_
  refine ja_aload_n (i := 0) dX7_coarse_0 rfl rfl ?_
  refine ja_iload_n (i := 1) dX7_coarse_1 rfl rfl ?_
  refine ja_cVr (st := []) (c_layerOf (D := D) l hx (ly := ly) (by omega)) rfl rfl (ce_X7_layerOf 0 0) im_X7_layerOf se_X7_layerOf lk_X7_93 k_X7 (zX_o0 hx) ⟨(Nat.le_of_ble_eq_true rfl), (Nat.le_of_ble_eq_true rfl)⟩ dX7_coarse_2 rfl rfl (Nat.le_of_ble_eq_true rfl) (Nat.zero_le _) (Nat.zero_le _) ?_
  refine ja_astore (i := 4) dX7_coarse_5 rfl (Nat.le_of_ble_eq_true rfl) ?_
  refine ja_iload_n (i := 2) dX7_coarse_7 rfl rfl ?_
  refine ja_cSx (st := []) (c_needLeast_x (D := D) l hle) (ce_X7_needLeast 1 6) st_X7_needLeast lk_X7_287 ⟨(Nat.le_of_ble_eq_true rfl), (Nat.le_of_ble_eq_true rfl)⟩ dX7_coarse_8 rfl rfl (Nat.le_of_ble_eq_true rfl) (Nat.le_of_ble_eq_true rfl) (Nat.le_of_ble_eq_true rfl) ?_
  refine ja_out rfl (Nat.le_of_ble_eq_true rfl) (Nat.le_of_ble_eq_true rfl) ?_
  exact ⟨rfl, rfl, rfl⟩

set_option maxRecDepth 100000 in
set_option maxHeartbeats 4000000 in
theorem c_coarse_f2b (l : Launch) {Z : jZ} {D : jD} (hx : zX Z) {ly : Nat} (h1 : ly < 3) {le : Nat} (hl1 : 1 ≤ le) (hl2 : le ≤ 256) {a : Int32} (ha : ¬ (nI 0 ≤ a ∧ a ≤ nI 9))  : ja_M l (mX7_coarse 1 6) [.ref (0), .int (nI (ly)), .int (nI (le)), .int (a)] Z D ja_r0 (ja_jx "java/lang/IllegalArgumentException" Z D) := by
  refine ja_Mof (lv := [some (.ref (0)), some (.int (nI (ly))), some (.int (nI (le))), some (.int (a)), none]) (by decide +kernel) rfl rfl (Nat.le_of_ble_eq_true rfl) rfl ?_
  refine ja_aload_n (i := 0) dX7_coarse_0 rfl rfl ?_
  refine ja_iload_n (i := 1) dX7_coarse_1 rfl rfl ?_
  refine ja_cVr (st := []) (c_layerOf (D := D) l hx (ly := ly) (by omega)) rfl rfl (ce_X7_layerOf 0 0) im_X7_layerOf se_X7_layerOf lk_X7_93 k_X7 (zX_o0 hx) ⟨(Nat.le_of_ble_eq_true rfl), (Nat.le_of_ble_eq_true rfl)⟩ dX7_coarse_2 rfl rfl (Nat.le_of_ble_eq_true rfl) (Nat.zero_le _) (Nat.zero_le _) ?_
  refine ja_astore (i := 4) dX7_coarse_5 rfl (Nat.le_of_ble_eq_true rfl) ?_
  refine ja_iload_n (i := 2) dX7_coarse_7 rfl rfl ?_
  refine ja_cSr0 (st := []) (c_needLeast (D := D) l (le := le) (by omega) (by omega)) rfl rfl (ce_X7_needLeast 0 0) st_X7_needLeast lk_X7_287 ⟨(Nat.le_of_ble_eq_true rfl), (Nat.le_of_ble_eq_true rfl)⟩ dX7_coarse_8 rfl rfl (Nat.le_of_ble_eq_true rfl) (Nat.zero_le _) (Nat.zero_le _) ?_
  refine ja_iload_n (i := 3) dX7_coarse_11 rfl rfl ?_
  refine ja_cSx (st := []) (c_needArea_x (D := D) l ha) (ce_X7_needArea 1 6) st_X7_needArea lk_X7_138 ⟨(Nat.le_of_ble_eq_true rfl), (Nat.le_of_ble_eq_true rfl)⟩ dX7_coarse_12 rfl rfl (Nat.le_of_ble_eq_true rfl) (Nat.le_of_ble_eq_true rfl) (Nat.le_of_ble_eq_true rfl) ?_
  refine ja_out rfl (Nat.le_of_ble_eq_true rfl) (Nat.le_of_ble_eq_true rfl) ?_
  exact ⟨rfl, rfl, rfl⟩

set_option maxRecDepth 100000 in
set_option maxHeartbeats 4000000 in
theorem c_coarse_f3 (l : Launch) {Z : jZ} {D : jD} (hx : zX Z) {ly : Nat} (h1 : ly < 3) {le : Nat} (hl1 : 1 ≤ le) (hl2 : le ≤ 256) {c : Nat → Option Nat} {z : Nat → Nat} {f : Nat → Int32} (hw : ∀ q a, c q = some a → a < 10) (hc : ∀ q, q < 256 → D (31 + 10 * ly) q = oI (c q)) (hcn : ∀ a, a < 10 → D (32 + 10 * ly) a = nI (z a)) (hz : ∀ a, a < 10 → z a = eN c a) (hf : ∀ q, q < 256 → f (256 * ly + q) = oI (c q)) {a : Nat} (h2 : a < 10) (hs : z a = 0) : ja_M l (mX7_coarse 1 6) [.ref (0), .int (nI (ly)), .int (nI (le)), .int (nI (a))] Z D ja_r0 (ja_jx "java/util/NoSuchElementException" Z D) := by
  refine ja_Mof (lv := [some (.ref (0)), some (.int (nI (ly))), some (.int (nI (le))), some (.int (nI (a))), none]) (by decide +kernel) rfl rfl (Nat.le_of_ble_eq_true rfl) rfl ?_
  refine ja_aload_n (i := 0) dX7_coarse_0 rfl rfl ?_
  refine ja_iload_n (i := 1) dX7_coarse_1 rfl rfl ?_
  refine ja_cVr (st := []) (c_layerOf (D := D) l hx (ly := ly) (by omega)) rfl rfl (ce_X7_layerOf 0 0) im_X7_layerOf se_X7_layerOf lk_X7_93 k_X7 (zX_o0 hx) ⟨(Nat.le_of_ble_eq_true rfl), (Nat.le_of_ble_eq_true rfl)⟩ dX7_coarse_2 rfl rfl (Nat.le_of_ble_eq_true rfl) (Nat.zero_le _) (Nat.zero_le _) ?_
  refine ja_astore (i := 4) dX7_coarse_5 rfl (Nat.le_of_ble_eq_true rfl) ?_
  refine ja_iload_n (i := 2) dX7_coarse_7 rfl rfl ?_
  refine ja_cSr0 (st := []) (c_needLeast (D := D) l (le := le) (by omega) (by omega)) rfl rfl (ce_X7_needLeast 0 0) st_X7_needLeast lk_X7_287 ⟨(Nat.le_of_ble_eq_true rfl), (Nat.le_of_ble_eq_true rfl)⟩ dX7_coarse_8 rfl rfl (Nat.le_of_ble_eq_true rfl) (Nat.zero_le _) (Nat.zero_le _) ?_
  refine ja_iload_n (i := 3) dX7_coarse_11 rfl rfl ?_
  refine ja_cSr0 (st := []) (c_needArea (D := D) l (a := a) (by omega)) rfl rfl (ce_X7_needArea 0 0) st_X7_needArea lk_X7_138 ⟨(Nat.le_of_ble_eq_true rfl), (Nat.le_of_ble_eq_true rfl)⟩ dX7_coarse_12 rfl rfl (Nat.le_of_ble_eq_true rfl) (Nat.zero_le _) (Nat.zero_le _) ?_
  refine ja_aload (i := 4) dX7_coarse_15 rfl ?_
  refine ja_getR fl_X7_127 (zL_o hx (l := ly) (by omega)) rfl (zL_p1 hx (l := ly) (by omega)) dX7_coarse_17 ?_
  refine ja_iload_n (i := 3) dX7_coarse_20 rfl rfl ?_
  refine ja_iald (zL_a1 hx (l := ly) (by omega)) rfl (by omega) (by decide) dX7_coarse_21 ?_
  refine ja_top (y := nI (0)) (by rw [hcn a h2, hs]) ?_
  refine ja_ifN_ne (tgt := 35) dX7_coarse_22 (by decide) (by omega) (fun c22 => absurd c22 (by decide)) (fun c22 => ?_)
  refine ja_throwE ts_X7_173_143_177 rfl dX7_coarse_25 dX7_coarse_28 dX7_coarse_29 dX7_coarse_31 dX7_coarse_34 (Nat.le_of_ble_eq_true rfl) (Nat.le_of_ble_eq_true rfl) (Nat.le_of_ble_eq_true rfl) (Nat.le_of_ble_eq_true rfl) ?_
  exact ⟨rfl, rfl, rfl⟩

set_option maxRecDepth 100000 in
set_option maxHeartbeats 4000000 in
theorem c_coarse_ok (l : Launch) {Z : jZ} {D : jD} (hx : zX Z) {ly : Nat} (h1 : ly < 3) {le : Nat} (hl1 : 1 ≤ le) (hl2 : le ≤ 256) {c : Nat → Option Nat} {z : Nat → Nat} {f : Nat → Int32} (hw : ∀ q a, c q = some a → a < 10) (hc : ∀ q, q < 256 → D (31 + 10 * ly) q = oI (c q)) (hcn : ∀ a, a < 10 → D (32 + 10 * ly) a = nI (z a)) (hz : ∀ a, a < 10 → z a = eN c a) (hf : ∀ q, q < 256 → f (256 * ly + q) = oI (c q)) {a : Nat} (h2 : a < 10) (hs : ¬ z a = 0) : ja_M l (mX7_coarse 0 0) [.ref (0), .int (nI (ly)), .int (nI (le)), .int (nI (a))] Z D (ja_jd (some (.int (crI f ly le 10 a))) Z (fun D2 => ∃ s z2 b, D2 = cmU D s z2 b)) ja_x0 := by
  refine ja_Mof (lv := [some (.ref (0)), some (.int (nI (ly))), some (.int (nI (le))), some (.int (nI (a))), none]) (by decide +kernel) rfl rfl (Nat.le_of_ble_eq_true rfl) rfl ?_
  refine ja_aload_n (i := 0) dX7_coarse_0 rfl rfl ?_
  refine ja_iload_n (i := 1) dX7_coarse_1 rfl rfl ?_
  refine ja_cVr (st := []) (c_layerOf (D := D) l hx (ly := ly) (by omega)) rfl rfl (ce_X7_layerOf 0 0) im_X7_layerOf se_X7_layerOf lk_X7_93 k_X7 (zX_o0 hx) ⟨(Nat.le_of_ble_eq_true rfl), (Nat.le_of_ble_eq_true rfl)⟩ dX7_coarse_2 rfl rfl (Nat.le_of_ble_eq_true rfl) (Nat.zero_le _) (Nat.zero_le _) ?_
  refine ja_astore (i := 4) dX7_coarse_5 rfl (Nat.le_of_ble_eq_true rfl) ?_
  refine ja_iload_n (i := 2) dX7_coarse_7 rfl rfl ?_
  refine ja_cSr0 (st := []) (c_needLeast (D := D) l (le := le) (by omega) (by omega)) rfl rfl (ce_X7_needLeast 0 0) st_X7_needLeast lk_X7_287 ⟨(Nat.le_of_ble_eq_true rfl), (Nat.le_of_ble_eq_true rfl)⟩ dX7_coarse_8 rfl rfl (Nat.le_of_ble_eq_true rfl) (Nat.zero_le _) (Nat.zero_le _) ?_
  refine ja_iload_n (i := 3) dX7_coarse_11 rfl rfl ?_
  refine ja_cSr0 (st := []) (c_needArea (D := D) l (a := a) (by omega)) rfl rfl (ce_X7_needArea 0 0) st_X7_needArea lk_X7_138 ⟨(Nat.le_of_ble_eq_true rfl), (Nat.le_of_ble_eq_true rfl)⟩ dX7_coarse_12 rfl rfl (Nat.le_of_ble_eq_true rfl) (Nat.zero_le _) (Nat.zero_le _) ?_
  have zz1 : z a ≤ 256 := by rw [hz a h2]; exact eN_le c a
  refine ja_aload (i := 4) dX7_coarse_15 rfl ?_
  refine ja_getR fl_X7_127 (zL_o hx (l := ly) (by omega)) rfl (zL_p1 hx (l := ly) (by omega)) dX7_coarse_17 ?_
  refine ja_iload_n (i := 3) dX7_coarse_20 rfl rfl ?_
  refine ja_iald (zL_a1 hx (l := ly) (by omega)) rfl (by omega) (by decide) dX7_coarse_21 ?_
  refine ja_top (y := nI (z a)) (hcn a h2) ?_
  refine ja_ifN_ne (tgt := 35) dX7_coarse_22 (by decide) (by omega) (fun c22 => ?_) (fun c22 => (by exfalso; omega))
  refine ja_aload_n (i := 0) dX7_coarse_35 rfl rfl ?_
  refine ja_getR fl_X7_48 (zX_o0 hx) rfl (zX_p0_11 hx) dX7_coarse_36 ?_
  refine ja_aload (i := 4) dX7_coarse_39 rfl ?_
  refine ja_iload_n (i := 2) dX7_coarse_41 rfl rfl ?_
  refine ja_cVd0 (st := []) (c_draw (D := D) l hx h1 hl2 hw hc hcn hz hf) rfl rfl (ce_X0_draw 0 0) im_X0_draw se_X0_draw lk_X7_290 k_X0 (zX_o13 hx) ⟨(Nat.le_of_ble_eq_true rfl), (Nat.le_of_ble_eq_true rfl)⟩ dX7_coarse_42 rfl rfl (Nat.le_of_ble_eq_true rfl) (Nat.zero_le _) (Nat.zero_le _) ?_
  intro E hE
  obtain ⟨s, z2, b, hE, hC⟩ := hE
  subst hE
  refine ja_aload_n (i := 0) dX7_coarse_45 rfl rfl ?_
  refine ja_getR fl_X7_48 (zX_o0 hx) rfl (zX_p0_11 hx) dX7_coarse_46 ?_
  refine ja_getR fl_X7_293 (zX_o13 hx) rfl (zX_p13_0 hx) dX7_coarse_49 ?_
  refine ja_iload_n (i := 3) dX7_coarse_52 rfl rfl ?_
  refine ja_iald (zX_o14 hx) rfl (by omega) (by decide) dX7_coarse_53 ?_
  refine ja_top (y := crI f ly le 10 a) (by rw [cmU_s h2, (hC.1 a h2).1]) ?_
  refine ja_iret rfl rfl dX7_coarse_54 (Nat.zero_le _) (Nat.zero_le _) ?_
  exact ⟨rfl, rfl, _, _, _, rfl⟩

set_option maxRecDepth 100000 in
set_option maxHeartbeats 4000000 in
theorem c_coarseAreas_f1 (l : Launch) {Z : jZ} {D : jD} (hx : zX Z) {ly : Int32} (le : Int32) (hl : ¬ (nI 0 ≤ ly ∧ ly ≤ nI 2))  : ja_M l (mX7_coarseAreas 1 6) [.ref (0), .int (ly), .int (le)] Z D ja_r0 (ja_jx "java/lang/IndexOutOfBoundsException" Z D) := by
  refine ja_Mof (lv := [some (.ref (0)), some (.int (ly)), some (.int (le)), none]) (by decide +kernel) rfl rfl (Nat.le_of_ble_eq_true rfl) rfl ?_
  refine ja_aload_n (i := 0) dX7_coarseAreas_0 rfl rfl ?_
  refine ja_iload_n (i := 1) dX7_coarseAreas_1 rfl rfl ?_
  refine ja_cVx (st := []) (c_layerOf_x (D := D) l hx hl) (ce_X7_layerOf 1 6) im_X7_layerOf se_X7_layerOf lk_X7_93 k_X7 (zX_o0 hx) ⟨(Nat.le_of_ble_eq_true rfl), (Nat.le_of_ble_eq_true rfl)⟩ dX7_coarseAreas_2 rfl rfl (Nat.le_of_ble_eq_true rfl) (Nat.le_of_ble_eq_true rfl) (Nat.le_of_ble_eq_true rfl) ?_
  refine ja_out rfl (Nat.le_of_ble_eq_true rfl) (Nat.le_of_ble_eq_true rfl) ?_
  exact ⟨rfl, rfl, rfl⟩

set_option maxRecDepth 100000 in
set_option maxHeartbeats 4000000 in
theorem c_coarseAreas_f2 (l : Launch) {Z : jZ} {D : jD} (hx : zX Z) {ly : Nat} (h1 : ly < 3) {le : Int32} (hle : ¬ (nI 1 ≤ le ∧ le ≤ nI 256)) : ja_M l (mX7_coarseAreas 1 6) [.ref (0), .int (nI (ly)), .int (le)] Z D ja_r0 (ja_jx "java/lang/IllegalArgumentException" Z D) := by
  refine ja_Mof (lv := [some (.ref (0)), some (.int (nI (ly))), some (.int (le)), none]) (by decide +kernel) rfl rfl (Nat.le_of_ble_eq_true rfl) rfl ?_
  refine ja_aload_n (i := 0) dX7_coarseAreas_0 rfl rfl ?_
  refine ja_iload_n (i := 1) dX7_coarseAreas_1 rfl rfl ?_
  refine ja_cVr (st := []) (c_layerOf (D := D) l hx (ly := ly) (by omega)) rfl rfl (ce_X7_layerOf 0 0) im_X7_layerOf se_X7_layerOf lk_X7_93 k_X7 (zX_o0 hx) ⟨(Nat.le_of_ble_eq_true rfl), (Nat.le_of_ble_eq_true rfl)⟩ dX7_coarseAreas_2 rfl rfl (Nat.le_of_ble_eq_true rfl) (Nat.zero_le _) (Nat.zero_le _) ?_
  refine ja_astore_n (i := 3) dX7_coarseAreas_5 rfl rfl (Nat.le_of_ble_eq_true rfl) ?_
  refine ja_iload_n (i := 2) dX7_coarseAreas_6 rfl rfl ?_
  refine ja_cSx (st := []) (c_needLeast_x (D := D) l hle) (ce_X7_needLeast 1 6) st_X7_needLeast lk_X7_287 ⟨(Nat.le_of_ble_eq_true rfl), (Nat.le_of_ble_eq_true rfl)⟩ dX7_coarseAreas_7 rfl rfl (Nat.le_of_ble_eq_true rfl) (Nat.le_of_ble_eq_true rfl) (Nat.le_of_ble_eq_true rfl) ?_
  refine ja_out rfl (Nat.le_of_ble_eq_true rfl) (Nat.le_of_ble_eq_true rfl) ?_
  exact ⟨rfl, rfl, rfl⟩

set_option maxRecDepth 100000 in
set_option maxHeartbeats 4000000 in
theorem c_coarseAreas_ok (l : Launch) {Z : jZ} {D : jD} (hx : zX Z) {ly : Nat} (h1 : ly < 3) {le : Nat} (hl1 : 1 ≤ le) (hl2 : le ≤ 256) {c : Nat → Option Nat} {z : Nat → Nat} {f : Nat → Int32} (hw : ∀ q a, c q = some a → a < 10) (hc : ∀ q, q < 256 → D (31 + 10 * ly) q = oI (c q)) (hcn : ∀ a, a < 10 → D (32 + 10 * ly) a = nI (z a)) (hz : ∀ a, a < 10 → z a = eN c a) (hf : ∀ q, q < 256 → f (256 * ly + q) = oI (c q))  : ja_M l (mX7_coarseAreas 0 0) [.ref (0), .int (nI (ly)), .int (nI (le))] Z D (ja_jd (some (.int (nI (cnz f (crI f ly le 10) ly)))) Z (fun D2 => ∃ s z2 b, D2 = cmU D s z2 b)) ja_x0 := by
  refine ja_Mof (lv := [some (.ref (0)), some (.int (nI (ly))), some (.int (nI (le))), none]) (by decide +kernel) rfl rfl (Nat.le_of_ble_eq_true rfl) rfl ?_
  refine ja_aload_n (i := 0) dX7_coarseAreas_0 rfl rfl ?_
  refine ja_iload_n (i := 1) dX7_coarseAreas_1 rfl rfl ?_
  refine ja_cVr (st := []) (c_layerOf (D := D) l hx (ly := ly) (by omega)) rfl rfl (ce_X7_layerOf 0 0) im_X7_layerOf se_X7_layerOf lk_X7_93 k_X7 (zX_o0 hx) ⟨(Nat.le_of_ble_eq_true rfl), (Nat.le_of_ble_eq_true rfl)⟩ dX7_coarseAreas_2 rfl rfl (Nat.le_of_ble_eq_true rfl) (Nat.zero_le _) (Nat.zero_le _) ?_
  refine ja_astore_n (i := 3) dX7_coarseAreas_5 rfl rfl (Nat.le_of_ble_eq_true rfl) ?_
  refine ja_iload_n (i := 2) dX7_coarseAreas_6 rfl rfl ?_
  refine ja_cSr0 (st := []) (c_needLeast (D := D) l (le := le) (by omega) (by omega)) rfl rfl (ce_X7_needLeast 0 0) st_X7_needLeast lk_X7_287 ⟨(Nat.le_of_ble_eq_true rfl), (Nat.le_of_ble_eq_true rfl)⟩ dX7_coarseAreas_7 rfl rfl (Nat.le_of_ble_eq_true rfl) (Nat.zero_le _) (Nat.zero_le _) ?_
  refine ja_aload_n (i := 0) dX7_coarseAreas_10 rfl rfl ?_
  refine ja_getR fl_X7_48 (zX_o0 hx) rfl (zX_p0_11 hx) dX7_coarseAreas_11 ?_
  refine ja_aload_n (i := 3) dX7_coarseAreas_14 rfl rfl ?_
  refine ja_iload_n (i := 2) dX7_coarseAreas_15 rfl rfl ?_
  refine ja_cVd0 (st := []) (c_draw (D := D) l hx h1 hl2 hw hc hcn hz hf) rfl rfl (ce_X0_draw 0 0) im_X0_draw se_X0_draw lk_X7_290 k_X0 (zX_o13 hx) ⟨(Nat.le_of_ble_eq_true rfl), (Nat.le_of_ble_eq_true rfl)⟩ dX7_coarseAreas_16 rfl rfl (Nat.le_of_ble_eq_true rfl) (Nat.zero_le _) (Nat.zero_le _) ?_
  intro E hE
  obtain ⟨s, z2, b, hE, hC⟩ := hE
  subst hE
  refine ja_aload_n (i := 0) dX7_coarseAreas_19 rfl rfl ?_
  refine ja_getR fl_X7_48 (zX_o0 hx) rfl (zX_p0_11 hx) dX7_coarseAreas_20 ?_
  refine ja_cVr (st := []) (c_countAreas (D := D) l hx (s := s) (z := z2) (b := b) (CRS_zz hC)) rfl rfl (ce_X0_countAreas 0 0) im_X0_countAreas se_X0_countAreas lk_X7_296 k_X0 (zX_o13 hx) ⟨(Nat.le_of_ble_eq_true rfl), (Nat.le_of_ble_eq_true rfl)⟩ dX7_coarseAreas_23 rfl rfl (Nat.le_of_ble_eq_true rfl) (Nat.zero_le _) (Nat.zero_le _) ?_
  refine ja_iret rfl rfl dX7_coarseAreas_26 (Nat.zero_le _) (Nat.zero_le _) ?_
  exact ⟨congrArg some (congrArg Value.int (congrArg nI (fb_ct_cong fun a ha => by rw [hC.2.1 a ha]))), rfl, _, _, _, rfl⟩

set_option maxRecDepth 100000 in
set_option maxHeartbeats 4000000 in
theorem c_placeOf_f1 (l : Launch) {Z : jZ} {D : jD} (hx : zX Z) {ly a : Int32} (hl : ¬ (nI 0 ≤ ly ∧ ly ≤ nI 2))  : ja_M l (mX7_placeOf 1 6) [.ref (0), .int (ly), .int (a)] Z D ja_r0 (ja_jx "java/lang/IndexOutOfBoundsException" Z D) := by
  refine ja_Mof (lv := [some (.ref (0)), some (.int (ly)), some (.int (a)), none, none]) (by decide +kernel) rfl rfl (Nat.le_of_ble_eq_true rfl) rfl ?_
  refine ja_aload_n (i := 0) dX7_placeOf_0 rfl rfl ?_
  refine ja_iload_n (i := 1) dX7_placeOf_1 rfl rfl ?_
  refine ja_cVx (st := []) (c_layerOf_x (D := D) l hx hl) (ce_X7_layerOf 1 6) im_X7_layerOf se_X7_layerOf lk_X7_93 k_X7 (zX_o0 hx) ⟨(Nat.le_of_ble_eq_true rfl), (Nat.le_of_ble_eq_true rfl)⟩ dX7_placeOf_2 rfl rfl (Nat.le_of_ble_eq_true rfl) (Nat.le_of_ble_eq_true rfl) (Nat.le_of_ble_eq_true rfl) ?_
  refine ja_out rfl (Nat.le_of_ble_eq_true rfl) (Nat.le_of_ble_eq_true rfl) ?_
  exact ⟨rfl, rfl, rfl⟩

set_option maxRecDepth 100000 in
set_option maxHeartbeats 4000000 in
theorem c_placeOf_f2 (l : Launch) {Z : jZ} {D : jD} (hx : zX Z) {ly : Nat} (h1 : ly < 3) {a : Int32} (ha : ¬ (nI 0 ≤ a ∧ a ≤ nI 9))  : ja_M l (mX7_placeOf 1 6) [.ref (0), .int (nI (ly)), .int (a)] Z D ja_r0 (ja_jx "java/lang/IllegalArgumentException" Z D) := by
  refine ja_Mof (lv := [some (.ref (0)), some (.int (nI (ly))), some (.int (a)), none, none]) (by decide +kernel) rfl rfl (Nat.le_of_ble_eq_true rfl) rfl ?_
  refine ja_aload_n (i := 0) dX7_placeOf_0 rfl rfl ?_
  refine ja_iload_n (i := 1) dX7_placeOf_1 rfl rfl ?_
  refine ja_cVr (st := []) (c_layerOf (D := D) l hx (ly := ly) (by omega)) rfl rfl (ce_X7_layerOf 0 0) im_X7_layerOf se_X7_layerOf lk_X7_93 k_X7 (zX_o0 hx) ⟨(Nat.le_of_ble_eq_true rfl), (Nat.le_of_ble_eq_true rfl)⟩ dX7_placeOf_2 rfl rfl (Nat.le_of_ble_eq_true rfl) (Nat.zero_le _) (Nat.zero_le _) ?_
  refine ja_astore_n (i := 3) dX7_placeOf_5 rfl rfl (Nat.le_of_ble_eq_true rfl) ?_
  refine ja_iload_n (i := 2) dX7_placeOf_6 rfl rfl ?_
  refine ja_cSx (st := []) (c_needArea_x (D := D) l ha) (ce_X7_needArea 1 6) st_X7_needArea lk_X7_138 ⟨(Nat.le_of_ble_eq_true rfl), (Nat.le_of_ble_eq_true rfl)⟩ dX7_placeOf_7 rfl rfl (Nat.le_of_ble_eq_true rfl) (Nat.le_of_ble_eq_true rfl) (Nat.le_of_ble_eq_true rfl) ?_
  refine ja_out rfl (Nat.le_of_ble_eq_true rfl) (Nat.le_of_ble_eq_true rfl) ?_
  exact ⟨rfl, rfl, rfl⟩

set_option maxRecDepth 100000 in
set_option maxHeartbeats 4000000 in
theorem c_placeOf_ok (l : Launch) {Z : jZ} {D : jD} (hx : zX Z) {ly : Nat} (h1 : ly < 3) {X : jD} (hf : ∀ q, q < 256 → D (31 + 10 * ly) q = X 105 (256 * ly + q)) {z : Nat → Nat} (hz : ∀ a, a < 10 → D (32 + 10 * ly) a = nI (z a)) (hz2 : ∀ a, a < 10 → z a ≤ 256) {lm : Nat → Nat} (hlm : ∀ a, a < 10 → D (34 + 10 * ly) a = nI (lm a) ∧ lm a ≤ 6) (hzX : ∀ o, o < 10 → z o = cSz (X 105) ly (nI o) 256) {a : Nat} (h2 : a < 10) (hp : ¬ plN X ly lm 10 127 a = -1) : ja_M l (mX7_placeOf 0 0) [.ref (0), .int (nI (ly)), .int (nI (a))] Z D (ja_jd (some (.int (plN X ly lm 10 127 a))) Z (fun D2 => ∀ i j, ¬ i = 18 → D2 i j = D i j)) ja_x0 := by
  refine ja_Mof (lv := [some (.ref (0)), some (.int (nI (ly))), some (.int (nI (a))), none, none]) (by decide +kernel) rfl rfl (Nat.le_of_ble_eq_true rfl) rfl ?_
  refine ja_aload_n (i := 0) dX7_placeOf_0 rfl rfl ?_
  refine ja_iload_n (i := 1) dX7_placeOf_1 rfl rfl ?_
  refine ja_cVr (st := []) (c_layerOf (D := D) l hx (ly := ly) (by omega)) rfl rfl (ce_X7_layerOf 0 0) im_X7_layerOf se_X7_layerOf lk_X7_93 k_X7 (zX_o0 hx) ⟨(Nat.le_of_ble_eq_true rfl), (Nat.le_of_ble_eq_true rfl)⟩ dX7_placeOf_2 rfl rfl (Nat.le_of_ble_eq_true rfl) (Nat.zero_le _) (Nat.zero_le _) ?_
  refine ja_astore_n (i := 3) dX7_placeOf_5 rfl rfl (Nat.le_of_ble_eq_true rfl) ?_
  refine ja_iload_n (i := 2) dX7_placeOf_6 rfl rfl ?_
  refine ja_cSr0 (st := []) (c_needArea (D := D) l (a := a) (by omega)) rfl rfl (ce_X7_needArea 0 0) st_X7_needArea lk_X7_138 ⟨(Nat.le_of_ble_eq_true rfl), (Nat.le_of_ble_eq_true rfl)⟩ dX7_placeOf_7 rfl rfl (Nat.le_of_ble_eq_true rfl) (Nat.zero_le _) (Nat.zero_le _) ?_
  refine ja_aload_n (i := 0) dX7_placeOf_10 rfl rfl ?_
  refine ja_getR fl_X7_55 (zX_o0 hx) rfl (zX_p0_12 hx) dX7_placeOf_11 ?_
  refine ja_aload_n (i := 3) dX7_placeOf_14 rfl rfl ?_
  refine ja_iload_n (i := 2) dX7_placeOf_15 rfl rfl ?_
  refine ja_cVd (st := []) (c_firstSquare (D := D) l hx h1 hf hz hz2 hlm hzX h2) rfl rfl (ce_X2_firstSquare 0 0) im_X2_firstSquare se_X2_firstSquare lk_X7_304 k_X2 (zX_o17 hx) ⟨(Nat.le_of_ble_eq_true rfl), (Nat.le_of_ble_eq_true rfl)⟩ dX7_placeOf_16 rfl rfl (Nat.le_of_ble_eq_true rfl) (Nat.zero_le _) (Nat.zero_le _) ?_
  intro E hE
  refine ja_istore (i := 4) dX7_placeOf_19 rfl (Nat.le_of_ble_eq_true rfl) ?_
  refine ja_iload (i := 4) dX7_placeOf_21 rfl ?_
  refine ja_iconst (v := (-1)) dX7_placeOf_23 (by decide +kernel) ?_
  refine ja_icmp_ne (tgt := 38) dX7_placeOf_24 (by decide) (fun c24 => ?_) (fun c24 => absurd c24 hp)
  refine ja_iload (i := 4) dX7_placeOf_38 rfl ?_
  refine ja_iret rfl rfl dX7_placeOf_40 (Nat.zero_le _) (Nat.zero_le _) ?_
  exact ⟨rfl, rfl, hE⟩

set_option maxRecDepth 100000 in
set_option maxHeartbeats 4000000 in
theorem c_placeOf_f3 (l : Launch) {Z : jZ} {D : jD} (hx : zX Z) {ly : Nat} (h1 : ly < 3) {X : jD} (hf : ∀ q, q < 256 → D (31 + 10 * ly) q = X 105 (256 * ly + q)) {z : Nat → Nat} (hz : ∀ a, a < 10 → D (32 + 10 * ly) a = nI (z a)) (hz2 : ∀ a, a < 10 → z a ≤ 256) {lm : Nat → Nat} (hlm : ∀ a, a < 10 → D (34 + 10 * ly) a = nI (lm a) ∧ lm a ≤ 6) (hzX : ∀ o, o < 10 → z o = cSz (X 105) ly (nI o) 256) {a : Nat} (h2 : a < 10) (hp : plN X ly lm 10 127 a = -1) : ja_M l (mX7_placeOf 1 6) [.ref (0), .int (nI (ly)), .int (nI (a))] Z D ja_r0 (fun E2 Z2 D2 => E2 = "java/util/NoSuchElementException" ∧ Z2 = Z ∧ ∀ i j, ¬ i = 18 → D2 i j = D i j) := by
  refine ja_Mof (lv := [some (.ref (0)), some (.int (nI (ly))), some (.int (nI (a))), none, none]) (by decide +kernel) rfl rfl (Nat.le_of_ble_eq_true rfl) rfl ?_
  refine ja_aload_n (i := 0) dX7_placeOf_0 rfl rfl ?_
  refine ja_iload_n (i := 1) dX7_placeOf_1 rfl rfl ?_
  refine ja_cVr (st := []) (c_layerOf (D := D) l hx (ly := ly) (by omega)) rfl rfl (ce_X7_layerOf 0 0) im_X7_layerOf se_X7_layerOf lk_X7_93 k_X7 (zX_o0 hx) ⟨(Nat.le_of_ble_eq_true rfl), (Nat.le_of_ble_eq_true rfl)⟩ dX7_placeOf_2 rfl rfl (Nat.le_of_ble_eq_true rfl) (Nat.zero_le _) (Nat.zero_le _) ?_
  refine ja_astore_n (i := 3) dX7_placeOf_5 rfl rfl (Nat.le_of_ble_eq_true rfl) ?_
  refine ja_iload_n (i := 2) dX7_placeOf_6 rfl rfl ?_
  refine ja_cSr0 (st := []) (c_needArea (D := D) l (a := a) (by omega)) rfl rfl (ce_X7_needArea 0 0) st_X7_needArea lk_X7_138 ⟨(Nat.le_of_ble_eq_true rfl), (Nat.le_of_ble_eq_true rfl)⟩ dX7_placeOf_7 rfl rfl (Nat.le_of_ble_eq_true rfl) (Nat.zero_le _) (Nat.zero_le _) ?_
  refine ja_aload_n (i := 0) dX7_placeOf_10 rfl rfl ?_
  refine ja_getR fl_X7_55 (zX_o0 hx) rfl (zX_p0_12 hx) dX7_placeOf_11 ?_
  refine ja_aload_n (i := 3) dX7_placeOf_14 rfl rfl ?_
  refine ja_iload_n (i := 2) dX7_placeOf_15 rfl rfl ?_
  refine ja_cVd (st := []) (c_firstSquare (D := D) l hx h1 hf hz hz2 hlm hzX h2) rfl rfl (ce_X2_firstSquare 0 0) im_X2_firstSquare se_X2_firstSquare lk_X7_304 k_X2 (zX_o17 hx) ⟨(Nat.le_of_ble_eq_true rfl), (Nat.le_of_ble_eq_true rfl)⟩ dX7_placeOf_16 rfl rfl (Nat.le_of_ble_eq_true rfl) (Nat.zero_le _) (Nat.zero_le _) ?_
  intro E hE
  refine ja_istore (i := 4) dX7_placeOf_19 rfl (Nat.le_of_ble_eq_true rfl) ?_
  refine ja_iload (i := 4) dX7_placeOf_21 rfl ?_
  refine ja_iconst (v := (-1)) dX7_placeOf_23 (by decide +kernel) ?_
  refine ja_icmp_ne (tgt := 38) dX7_placeOf_24 (by decide) (fun c24 => absurd hp c24) (fun c24 => ?_)
  refine ja_throwEW ts_X7_173_307_177 rfl dX7_placeOf_27 dX7_placeOf_30 dX7_placeOf_31 dX7_placeOf_34 dX7_placeOf_37 (Nat.le_of_ble_eq_true rfl) (Nat.le_of_ble_eq_true rfl) (Nat.le_of_ble_eq_true rfl) (Nat.le_of_ble_eq_true rfl) ?_
  exact ⟨rfl, rfl, hE⟩

set_option maxRecDepth 100000 in
set_option maxHeartbeats 4000000 in
theorem c_values_f1 (l : Launch) {Z : jZ} {D : jD} (hx : zX Z) {ly : Int32} (hl : ¬ (nI 0 ≤ ly ∧ ly ≤ nI 2))  : ja_M l (mX7_values 1 6) [.ref (0), .int (ly)] Z D ja_r0 (ja_jx "java/lang/IndexOutOfBoundsException" Z D) := by
  refine ja_Mof (lv := [some (.ref (0)), some (.int (ly)), none, none, none, none]) (by decide +kernel) rfl rfl (Nat.le_of_ble_eq_true rfl) rfl ?_
  refine ja_aload_n (i := 0) dX7_values_0 rfl rfl ?_
  refine ja_iload_n (i := 1) dX7_values_1 rfl rfl ?_
  refine ja_cVx (st := []) (c_layerOf_x (D := D) l hx hl) (ce_X7_layerOf 1 6) im_X7_layerOf se_X7_layerOf lk_X7_93 k_X7 (zX_o0 hx) ⟨(Nat.le_of_ble_eq_true rfl), (Nat.le_of_ble_eq_true rfl)⟩ dX7_values_2 rfl rfl (Nat.le_of_ble_eq_true rfl) (Nat.le_of_ble_eq_true rfl) (Nat.le_of_ble_eq_true rfl) ?_
  refine ja_out rfl (Nat.le_of_ble_eq_true rfl) (Nat.le_of_ble_eq_true rfl) ?_
  exact ⟨rfl, rfl, rfl⟩

set_option maxRecDepth 100000 in
set_option maxHeartbeats 4000000 in
theorem c_values_ok (l : Launch) {Z : jZ} {D : jD} (hx : zX Z) {ly : Nat} (h1 : ly < 3) {f : Nat → Int32} (hv : ∀ a, a < 10 → D (33 + 10 * ly) a = f (10 * ly + a)) : ja_M l (mX7_values 0 0) [.ref (0), .int (nI (ly))] Z D (ja_jr (some (.long (vsm f ly 10))) Z D) ja_x0 := by
  refine ja_Mof (lv := [some (.ref (0)), some (.int (nI (ly))), none, none, none, none]) (by decide +kernel) rfl rfl (Nat.le_of_ble_eq_true rfl) rfl ?_
  refine ja_aload_n (i := 0) dX7_values_0 rfl rfl ?_
  refine ja_iload_n (i := 1) dX7_values_1 rfl rfl ?_
  refine ja_cVr (st := []) (c_layerOf (D := D) l hx (ly := ly) (by omega)) rfl rfl (ce_X7_layerOf 0 0) im_X7_layerOf se_X7_layerOf lk_X7_93 k_X7 (zX_o0 hx) ⟨(Nat.le_of_ble_eq_true rfl), (Nat.le_of_ble_eq_true rfl)⟩ dX7_values_2 rfl rfl (Nat.le_of_ble_eq_true rfl) (Nat.zero_le _) (Nat.zero_le _) ?_
  refine ja_astore_n (i := 2) dX7_values_5 rfl rfl (Nat.le_of_ble_eq_true rfl) ?_
  refine ja_lconst (v := 0) dX7_values_6 (by decide +kernel) ?_
  refine ja_lstore_n (i := 3) dX7_values_7 rfl rfl (Nat.le_of_ble_eq_true rfl) ?_
  refine ja_iconst (v := nI 0) dX7_values_8 (by decide +kernel) ?_
  refine ja_istore (i := 5) dX7_values_9 rfl (Nat.le_of_ble_eq_true rfl) ?_
  have lp11 : ∀ (f11 : Nat) (k : Nat) (s : Int64), (10 < k + f11) → (k ≤ 10) → (s = vsm f ly k) → ja_A l (mX7_values 0 0) ja_sn (ja_Qf (mX7_values 0 0) (ja_jr (some (.long (vsm f ly 10))) Z D) ja_x0) 11 [some (.ref (0)), some (.int (nI (ly))), some (.ref (30 + 10 * ly)), some (.long (s)), none, some (.int (nI (k)))] [] Z D 0 0 := by
    intro f11
    induction f11 with
    | zero => intro k s hf2 hk hs; exfalso; omega
    | succ f11 ih11 =>
      intro k s hf2 hk hs
      refine ja_iload (i := 5) dX7_values_11 rfl ?_
      refine ja_bipush (v := nI 10) dX7_values_13 (by decide +kernel) ?_
      refine ja_icmpN_ge (tgt := 35) dX7_values_15 (by decide) (by omega) (by omega) (fun c15 => ?_) (fun c15 => ?_)
      ·
        refine ja_lload_n (i := 3) dX7_values_35 rfl rfl ?_
        refine ja_lret rfl dX7_values_36 (Nat.zero_le _) (Nat.zero_le _) ?_
        exact ⟨by rw [hs, show k = 10 by omega], rfl, rfl⟩
      ·
        refine ja_lload_n (i := 3) dX7_values_18 rfl rfl ?_
        refine ja_aload_n (i := 2) dX7_values_19 rfl rfl ?_
        refine ja_getR fl_X7_145 (zL_o hx (l := ly) (by omega)) rfl (zL_p2 hx (l := ly) (by omega)) dX7_values_20 ?_
        refine ja_iload (i := 5) dX7_values_23 rfl ?_
        refine ja_iald (zL_a2 hx (l := ly) (by omega)) rfl (by omega) (by decide) dX7_values_25 ?_
        refine ja_top (y := f (10 * ly + k)) (hv k (by omega)) ?_
        refine ja_i2l dX7_values_26 rfl ?_
        refine ja_ladd dX7_values_27 ?_
        refine ja_lstore_n (i := 3) dX7_values_28 rfl rfl (Nat.le_of_ble_eq_true rfl) ?_
        refine ja_iincN dX7_values_29 rfl rfl (Nat.le_of_ble_eq_true rfl) ?_
        refine ja_goto (tgt := 11) dX7_values_32 (by decide) ?_
        exact ih11 (k + 1) _ (by omega) (by omega) (by rw [hs]; rfl)
  exact lp11 11 0 0 (by omega) (by omega) rfl

set_option maxRecDepth 100000 in
set_option maxHeartbeats 4000000 in
theorem c_covered_f1 (l : Launch) {Z : jZ} {D : jD} (hx : zX Z) {ly : Int32} (hl : ¬ (nI 0 ≤ ly ∧ ly ≤ nI 2))  : ja_M l (mX7_covered 1 6) [.ref (0), .int (ly)] Z D ja_r0 (ja_jx "java/lang/IndexOutOfBoundsException" Z D) := by
  refine ja_Mof (lv := [some (.ref (0)), some (.int (ly)), none, none, none]) (by decide +kernel) rfl rfl (Nat.le_of_ble_eq_true rfl) rfl ?_
  refine ja_aload_n (i := 0) dX7_covered_0 rfl rfl ?_
  refine ja_iload_n (i := 1) dX7_covered_1 rfl rfl ?_
  refine ja_cVx (st := []) (c_layerOf_x (D := D) l hx hl) (ce_X7_layerOf 1 6) im_X7_layerOf se_X7_layerOf lk_X7_93 k_X7 (zX_o0 hx) ⟨(Nat.le_of_ble_eq_true rfl), (Nat.le_of_ble_eq_true rfl)⟩ dX7_covered_2 rfl rfl (Nat.le_of_ble_eq_true rfl) (Nat.le_of_ble_eq_true rfl) (Nat.le_of_ble_eq_true rfl) ?_
  refine ja_out rfl (Nat.le_of_ble_eq_true rfl) (Nat.le_of_ble_eq_true rfl) ?_
  exact ⟨rfl, rfl, rfl⟩

set_option maxRecDepth 100000 in
set_option maxHeartbeats 4000000 in
theorem c_covered_ok (l : Launch) {Z : jZ} {D : jD} (hx : zX Z) {ly : Nat} (h1 : ly < 3) {z : Nat → Nat} (hz : ∀ a, a < 10 → D (32 + 10 * ly) a = nI (z a)) (hs : fb_sm z 10 ≤ 256) (hnn : ∀ n, n ≤ 256 → vf_n32 (FP.fdiv (FP.i2f (nI n)) 1132462080)) : ja_M l (mX7_covered 0 0) [.ref (0), .int (nI (ly))] Z D (ja_jr (some (.float (FP.fdiv (FP.i2f (nI (fb_sm z 10))) 1132462080))) Z D) ja_x0 := by
  refine ja_Mof (lv := [some (.ref (0)), some (.int (nI (ly))), none, none, none]) (by decide +kernel) rfl rfl (Nat.le_of_ble_eq_true rfl) rfl ?_
  refine ja_aload_n (i := 0) dX7_covered_0 rfl rfl ?_
  refine ja_iload_n (i := 1) dX7_covered_1 rfl rfl ?_
  refine ja_cVr (st := []) (c_layerOf (D := D) l hx (ly := ly) (by omega)) rfl rfl (ce_X7_layerOf 0 0) im_X7_layerOf se_X7_layerOf lk_X7_93 k_X7 (zX_o0 hx) ⟨(Nat.le_of_ble_eq_true rfl), (Nat.le_of_ble_eq_true rfl)⟩ dX7_covered_2 rfl rfl (Nat.le_of_ble_eq_true rfl) (Nat.zero_le _) (Nat.zero_le _) ?_
  refine ja_astore_n (i := 2) dX7_covered_5 rfl rfl (Nat.le_of_ble_eq_true rfl) ?_
  refine ja_iconst (v := nI 0) dX7_covered_6 (by decide +kernel) ?_
  refine ja_istore_n (i := 3) dX7_covered_7 rfl rfl (Nat.le_of_ble_eq_true rfl) ?_
  refine ja_iconst (v := nI 0) dX7_covered_8 (by decide +kernel) ?_
  refine ja_istore (i := 4) dX7_covered_9 rfl (Nat.le_of_ble_eq_true rfl) ?_
  have lp11 : ∀ (f11 : Nat) (k n : Nat), (10 < k + f11) → (k ≤ 10) → (n = fb_sm z k) → ja_A l (mX7_covered 0 0) ja_sn (ja_Qf (mX7_covered 0 0) (ja_jr (some (.float (FP.fdiv (FP.i2f (nI (fb_sm z 10))) 1132462080))) Z D) ja_x0) 11 [some (.ref (0)), some (.int (nI (ly))), some (.ref (30 + 10 * ly)), some (.int (nI (n))), some (.int (nI (k)))] [] Z D 0 0 := by
    intro f11
    induction f11 with
    | zero => intro k n hf2 hk hn; exfalso; omega
    | succ f11 ih11 =>
      intro k n hf2 hk hn
      refine ja_iload (i := 4) dX7_covered_11 rfl ?_
      refine ja_bipush (v := nI 10) dX7_covered_13 (by decide +kernel) ?_
      refine ja_icmpN_ge (tgt := 34) dX7_covered_15 (by decide) (by omega) (by omega) (fun c15 => ?_) (fun c15 => ?_)
      ·
        refine ja_iload_n (i := 3) dX7_covered_34 rfl rfl ?_
        refine ja_i2f dX7_covered_35 ?_
        refine ja_ldcfW (v := 1132462080) dX7_covered_36 cf_X7 ?_
        refine ja_fdiv dX7_covered_39 (hnn _ (by rw [hn, show k = 10 by omega]; exact hs)) ?_
        refine ja_fret rfl dX7_covered_40 (Nat.zero_le _) (Nat.zero_le _) ?_
        exact ⟨by rw [hn, show k = 10 by omega], rfl, rfl⟩
      ·
        refine ja_iload_n (i := 3) dX7_covered_18 rfl rfl ?_
        refine ja_aload_n (i := 2) dX7_covered_19 rfl rfl ?_
        refine ja_getR fl_X7_127 (zL_o hx (l := ly) (by omega)) rfl (zL_p1 hx (l := ly) (by omega)) dX7_covered_20 ?_
        refine ja_iload (i := 4) dX7_covered_23 rfl ?_
        refine ja_iald (zL_a1 hx (l := ly) (by omega)) rfl (by omega) (by decide) dX7_covered_25 ?_
        refine ja_top (y := nI (z k)) (hz k (by omega)) ?_
        refine ja_iaddN dX7_covered_26 ?_
        refine ja_istore_n (i := 3) dX7_covered_27 rfl rfl (Nat.le_of_ble_eq_true rfl) ?_
        refine ja_iincN dX7_covered_28 rfl rfl (Nat.le_of_ble_eq_true rfl) ?_
        refine ja_goto (tgt := 11) dX7_covered_31 (by decide) ?_
        exact ih11 (k + 1) _ (by omega) (by omega) (by rw [hn, fb_sm_succ])
  exact lp11 11 0 0 (by omega) (by omega) rfl

set_option maxRecDepth 100000 in
set_option maxHeartbeats 4000000 in
theorem c_meanPiece_f1 (l : Launch) {Z : jZ} {D : jD} (hx : zX Z) {x y : Int32} (hal : ¬ areL x y)  : ja_M l (mX7_meanPiece 1 6) [.ref (0), .int (x), .int (y)] Z D ja_r0 (ja_jx "java/lang/IndexOutOfBoundsException" Z D) := by
  refine ja_Mof (lv := [some (.ref (0)), some (.int (x)), some (.int (y)), none, none]) (by decide +kernel) rfl rfl (Nat.le_of_ble_eq_true rfl) rfl ?_
  refine ja_aload_n (i := 0) dX7_meanPiece_0 rfl rfl ?_
  refine ja_iload_n (i := 1) dX7_meanPiece_1 rfl rfl ?_
  refine ja_iload_n (i := 2) dX7_meanPiece_2 rfl rfl ?_
  refine ja_cVx (st := []) (c_needTwoLayers_x (D := D) l hx hal) (ce_X7_needTwoLayers 1 6) im_X7_needTwoLayers se_X7_needTwoLayers lk_X7_165 k_X7 (zX_o0 hx) ⟨(Nat.le_of_ble_eq_true rfl), (Nat.le_of_ble_eq_true rfl)⟩ dX7_meanPiece_3 rfl rfl (Nat.le_of_ble_eq_true rfl) (Nat.le_of_ble_eq_true rfl) (Nat.le_of_ble_eq_true rfl) ?_
  refine ja_out rfl (Nat.le_of_ble_eq_true rfl) (Nat.le_of_ble_eq_true rfl) ?_
  exact ⟨rfl, rfl, rfl⟩

set_option maxRecDepth 100000 in
set_option maxHeartbeats 4000000 in
theorem c_meanPiece_f2 (l : Launch) {Z : jZ} {D : jD} (hx : zX Z) (hw : wfX D) {l1 l2 : Nat} (h1 : l1 < 3) (h2 : l2 < 3) (h3 : l1 ≠ l2) (h0 : (pcs (rwX D l1 l2) 256).2 = 0) : ja_M l (mX7_meanPiece 1 6) [.ref (0), .int (nI (l1)), .int (nI (l2))] Z D ja_r0 (fun E2 Z2 D2 => E2 = "java/lang/ArithmeticException" ∧ Z2 = Z ∧ LAY D D2 (31 + 10 * l1) (31 + 10 * l2) (rwX D l1 l2) 256) := by
  refine ja_Mof (lv := [some (.ref (0)), some (.int (nI (l1))), some (.int (nI (l2))), none, none]) (by decide +kernel) rfl rfl (Nat.le_of_ble_eq_true rfl) rfl ?_
  refine ja_aload_n (i := 0) dX7_meanPiece_0 rfl rfl ?_
  refine ja_iload_n (i := 1) dX7_meanPiece_1 rfl rfl ?_
  refine ja_iload_n (i := 2) dX7_meanPiece_2 rfl rfl ?_
  refine ja_cVr0 (st := []) (c_needTwoLayers (D := D) l hx (a := l1) (b := l2) (by omega) (by omega) h3) rfl rfl (ce_X7_needTwoLayers 0 0) im_X7_needTwoLayers se_X7_needTwoLayers lk_X7_165 k_X7 (zX_o0 hx) ⟨(Nat.le_of_ble_eq_true rfl), (Nat.le_of_ble_eq_true rfl)⟩ dX7_meanPiece_3 rfl rfl (Nat.le_of_ble_eq_true rfl) (Nat.zero_le _) (Nat.zero_le _) ?_
  refine ja_aload_n (i := 0) dX7_meanPiece_6 rfl rfl ?_
  refine ja_iload_n (i := 1) dX7_meanPiece_7 rfl rfl ?_
  refine ja_iload_n (i := 2) dX7_meanPiece_8 rfl rfl ?_
  refine ja_cVd0 (st := []) (c_layOver (D := D) l hx hw (l1 := l1) (l2 := l2) (by omega) (by omega)) rfl rfl (ce_X7_layOver 0 0) im_X7_layOver se_X7_layOver lk_X7_261 k_X7 (zX_o0 hx) ⟨(Nat.le_of_ble_eq_true rfl), (Nat.le_of_ble_eq_true rfl)⟩ dX7_meanPiece_9 rfl rfl (Nat.le_of_ble_eq_true rfl) (Nat.zero_le _) (Nat.zero_le _) ?_
  intro E hE
  obtain ⟨np, hnp⟩ : ∃ np, np = (pcs (rwX D l1 l2) 256).2 := ⟨_, rfl⟩
  have hE3 : E 5 3 = nI np := by rw [hnp]; exact hE.2.1
  have hnp6 : np ≤ 256 := by rw [hnp]; exact pcs_le _ _
  refine ja_aload_n (i := 0) dX7_meanPiece_12 rfl rfl ?_
  refine ja_getR fl_X7_34 (zX_o0 hx) rfl (zX_p0_9 hx) dX7_meanPiece_13 ?_
  refine ja_getI fl_X7_248 (zX_o5 hx) rfl dX7_meanPiece_16 ?_
  refine ja_top (y := nI (0)) (by rw [hE3, hnp, h0]) ?_
  refine ja_ifN_ne (tgt := 33) dX7_meanPiece_19 (by decide) (by omega) (fun c19 => absurd c19 (by decide)) (fun c19 => ?_)
  refine ja_throwW ts_X7_310_312_314 rfl dX7_meanPiece_22 dX7_meanPiece_25 dX7_meanPiece_26 dX7_meanPiece_29 dX7_meanPiece_32 (Nat.le_of_ble_eq_true rfl) (Nat.le_of_ble_eq_true rfl) (Nat.le_of_ble_eq_true rfl) (Nat.le_of_ble_eq_true rfl) ?_
  exact ⟨rfl, rfl, hE⟩

set_option maxRecDepth 100000 in
set_option maxHeartbeats 4000000 in
theorem c_meanPiece_ok (l : Launch) {Z : jZ} {D : jD} (hx : zX Z) (hw : wfX D) {l1 l2 : Nat} (h1 : l1 < 3) (h2 : l2 < 3) (h3 : l1 ≠ l2) (h0 : ¬ (pcs (rwX D l1 l2) 256).2 = 0) (hnn : ∀ a b, a ≤ 256 → 0 < b → b ≤ 256 → vf_n64 (FP.ddiv (FP.i2d (nI a)) (FP.i2d (nI b)))) : ja_M l (mX7_meanPiece 0 0) [.ref (0), .int (nI (l1)), .int (nI (l2))] Z D (ja_jd (some (.double (FP.ddiv (FP.i2d (nI (fb_sm (pzs (rwX D l1 l2) 256) (pcs (rwX D l1 l2) 256).2))) (FP.i2d (nI (pcs (rwX D l1 l2) 256).2))))) Z (fun D2 => LAY D D2 (31 + 10 * l1) (31 + 10 * l2) (rwX D l1 l2) 256)) ja_x0 := by
  refine ja_Mof (lv := [some (.ref (0)), some (.int (nI (l1))), some (.int (nI (l2))), none, none]) (by decide +kernel) rfl rfl (Nat.le_of_ble_eq_true rfl) rfl ?_
  refine ja_aload_n (i := 0) dX7_meanPiece_0 rfl rfl ?_
  refine ja_iload_n (i := 1) dX7_meanPiece_1 rfl rfl ?_
  refine ja_iload_n (i := 2) dX7_meanPiece_2 rfl rfl ?_
  refine ja_cVr0 (st := []) (c_needTwoLayers (D := D) l hx (a := l1) (b := l2) (by omega) (by omega) h3) rfl rfl (ce_X7_needTwoLayers 0 0) im_X7_needTwoLayers se_X7_needTwoLayers lk_X7_165 k_X7 (zX_o0 hx) ⟨(Nat.le_of_ble_eq_true rfl), (Nat.le_of_ble_eq_true rfl)⟩ dX7_meanPiece_3 rfl rfl (Nat.le_of_ble_eq_true rfl) (Nat.zero_le _) (Nat.zero_le _) ?_
  refine ja_aload_n (i := 0) dX7_meanPiece_6 rfl rfl ?_
  refine ja_iload_n (i := 1) dX7_meanPiece_7 rfl rfl ?_
  refine ja_iload_n (i := 2) dX7_meanPiece_8 rfl rfl ?_
  refine ja_cVd0 (st := []) (c_layOver (D := D) l hx hw (l1 := l1) (l2 := l2) (by omega) (by omega)) rfl rfl (ce_X7_layOver 0 0) im_X7_layOver se_X7_layOver lk_X7_261 k_X7 (zX_o0 hx) ⟨(Nat.le_of_ble_eq_true rfl), (Nat.le_of_ble_eq_true rfl)⟩ dX7_meanPiece_9 rfl rfl (Nat.le_of_ble_eq_true rfl) (Nat.zero_le _) (Nat.zero_le _) ?_
  intro E hE
  obtain ⟨np, hnp⟩ : ∃ np, np = (pcs (rwX D l1 l2) 256).2 := ⟨_, rfl⟩
  have hE3 : E 5 3 = nI np := by rw [hnp]; exact hE.2.1
  have hnp6 : np ≤ 256 := by rw [hnp]; exact pcs_le _ _
  refine ja_aload_n (i := 0) dX7_meanPiece_12 rfl rfl ?_
  refine ja_getR fl_X7_34 (zX_o0 hx) rfl (zX_p0_9 hx) dX7_meanPiece_13 ?_
  refine ja_getI fl_X7_248 (zX_o5 hx) rfl dX7_meanPiece_16 ?_
  refine ja_top (y := nI (np)) hE3 ?_
  have hnp0 : ¬ np = 0 := by rw [hnp]; exact h0
  refine ja_ifN_ne (tgt := 33) dX7_meanPiece_19 (by decide) (by omega) (fun c19 => ?_) (fun c19 => (by exfalso; omega))
  refine ja_iconst (v := nI 0) dX7_meanPiece_33 (by decide +kernel) ?_
  refine ja_istore_n (i := 3) dX7_meanPiece_34 rfl rfl (Nat.le_of_ble_eq_true rfl) ?_
  refine ja_iconst (v := nI 0) dX7_meanPiece_35 (by decide +kernel) ?_
  refine ja_istore (i := 4) dX7_meanPiece_36 rfl (Nat.le_of_ble_eq_true rfl) ?_
  have lp38 : ∀ (f38 : Nat) (i m : Nat), (np < i + f38) → (i ≤ np) → (m = fb_sm (pzs (rwX D l1 l2) 256) i) → ja_A l (mX7_meanPiece 0 0) ja_sn (ja_Qf (mX7_meanPiece 0 0) (ja_jd (some (.double (FP.ddiv (FP.i2d (nI (fb_sm (pzs (rwX D l1 l2) 256) (pcs (rwX D l1 l2) 256).2))) (FP.i2d (nI (pcs (rwX D l1 l2) 256).2))))) Z (fun D2 => LAY D D2 (31 + 10 * l1) (31 + 10 * l2) (rwX D l1 l2) 256)) ja_x0) 38 [some (.ref (0)), some (.int (nI (l1))), some (.int (nI (l2))), some (.int (nI (m))), some (.int (nI (i)))] [] Z E 0 0 := by
    intro f38
    induction f38 with
    | zero => intro i m hf hi hm; exfalso; omega
    | succ f38 ih38 =>
      intro i m hf hi hm
      refine ja_iload (i := 4) dX7_meanPiece_38 rfl ?_
      refine ja_aload_n (i := 0) dX7_meanPiece_40 rfl rfl ?_
      refine ja_getR fl_X7_34 (zX_o0 hx) rfl (zX_p0_9 hx) dX7_meanPiece_41 ?_
      refine ja_getI fl_X7_248 (zX_o5 hx) rfl dX7_meanPiece_44 ?_
      refine ja_top (y := nI (np)) hE3 ?_
      refine ja_icmpN_ge (tgt := 69) dX7_meanPiece_47 (by decide) (by omega) (by omega) (fun c47 => ?_) (fun c47 => ?_)
      ·
        refine ja_iload_n (i := 3) dX7_meanPiece_69 rfl rfl ?_
        refine ja_i2d dX7_meanPiece_70 ?_
        refine ja_aload_n (i := 0) dX7_meanPiece_71 rfl rfl ?_
        refine ja_getR fl_X7_34 (zX_o0 hx) rfl (zX_p0_9 hx) dX7_meanPiece_72 ?_
        refine ja_getI fl_X7_248 (zX_o5 hx) rfl dX7_meanPiece_75 ?_
        refine ja_top (y := nI (np)) hE3 ?_
        refine ja_i2d dX7_meanPiece_78 ?_
        refine ja_ddiv dX7_meanPiece_79 (hnn _ _ (by rw [hm, show i = (pcs (rwX D l1 l2) 256).2 by omega, pz_all]; exact fb_ct_le _ _) (by omega) hnp6) ?_
        refine ja_dret rfl dX7_meanPiece_80 (Nat.zero_le _) (Nat.zero_le _) ?_
        exact ⟨by rw [hm, show i = np by omega, hnp], rfl, hE⟩
      ·
        refine ja_iload_n (i := 3) dX7_meanPiece_50 rfl rfl ?_
        refine ja_aload_n (i := 0) dX7_meanPiece_51 rfl rfl ?_
        refine ja_getR fl_X7_34 (zX_o0 hx) rfl (zX_p0_9 hx) dX7_meanPiece_52 ?_
        refine ja_getR fl_X7_267 (zX_o5 hx) rfl (zX_p5_0 hx) dX7_meanPiece_55 ?_
        refine ja_iload (i := 4) dX7_meanPiece_58 rfl ?_
        refine ja_iald (zX_o6 hx) rfl (by omega) (by decide) dX7_meanPiece_60 ?_
        refine ja_top (y := nI (pzs (rwX D l1 l2) 256 i)) (hE.2.2.2 i (by omega)).1 ?_
        refine ja_iaddN dX7_meanPiece_61 ?_
        refine ja_istore_n (i := 3) dX7_meanPiece_62 rfl rfl (Nat.le_of_ble_eq_true rfl) ?_
        refine ja_iincN dX7_meanPiece_63 rfl rfl (Nat.le_of_ble_eq_true rfl) ?_
        refine ja_goto (tgt := 38) dX7_meanPiece_66 (by decide) ?_
        exact ih38 (i + 1) _ (by omega) (by omega) (by rw [hm, fb_sm_succ])
  exact lp38 (np + 1) 0 0 (by omega) (by omega) rfl

theorem LAY_w {D E : jD} {i1 i2 : Nat} {r : Nat → Int32} {q : Nat} (h : LAY D E i1 i2 r q) : ∀ a b, ¬ (5 ≤ a ∧ a ≤ 10) → E a b = D a b := h.1

set_option maxRecDepth 100000 in
set_option maxHeartbeats 4000000 in
theorem c_addsUp (l : Launch) {Z : jZ} {D : jD} (hx : zX Z) (hw : wfX D) (hsz : ∀ ly, ly < 3 → ∀ a, a < 10 → D (32 + 10 * ly) a = nI (fb_ct (fun q => decide (D (31 + 10 * ly) q = nI a)) 256)) {l1 l2 : Nat} (h1 : l1 < 3) (h2 : l2 < 3) : ja_M l (mX7_addsUp 0 0) [.ref (0), .int (nI (l1)), .int (nI (l2))] Z D (ja_jd (some (.int (bI true))) Z (fun D2 => LAY D D2 (31 + 10 * l1) (31 + 10 * l2) (rwX D l1 l2) 256)) ja_x0 := by
  refine ja_Mof (lv := [some (.ref (0)), some (.int (nI (l1))), some (.int (nI (l2))), none]) (by decide +kernel) rfl rfl (Nat.le_of_ble_eq_true rfl) rfl ?_
  refine ja_aload_n (i := 0) dX7_addsUp_0 rfl rfl ?_
  refine ja_iload_n (i := 1) dX7_addsUp_1 rfl rfl ?_
  refine ja_iload_n (i := 2) dX7_addsUp_2 rfl rfl ?_
  refine ja_cVd0 (st := []) (c_layOver (D := D) l hx hw (l1 := l1) (l2 := l2) (by omega) (by omega)) rfl rfl (ce_X7_layOver 0 0) im_X7_layOver se_X7_layOver lk_X7_261 k_X7 (zX_o0 hx) ⟨(Nat.le_of_ble_eq_true rfl), (Nat.le_of_ble_eq_true rfl)⟩ dX7_addsUp_3 rfl rfl (Nat.le_of_ble_eq_true rfl) (Nat.zero_le _) (Nat.zero_le _) ?_
  intro E hE
  obtain ⟨np, hnp⟩ : ∃ np, np = (pcs (rwX D l1 l2) 256).2 := ⟨_, rfl⟩
  have hE3 : E 5 3 = nI np := by rw [hnp]; exact hE.2.1
  have hnp6 : np ≤ 256 := by rw [hnp]; exact pcs_le _ _
  refine ja_iconst (v := nI 0) dX7_addsUp_6 (by decide +kernel) ?_
  refine ja_istore_n (i := 3) dX7_addsUp_7 rfl rfl (Nat.le_of_ble_eq_true rfl) ?_
  have lp8 : ∀ (f8 : Nat) (a : Nat), (10 < a + f8) → (a ≤ 10) → ja_A l (mX7_addsUp 0 0) ja_sn (ja_Qf (mX7_addsUp 0 0) (ja_jd (some (.int (bI true))) Z (fun D2 => LAY D D2 (31 + 10 * l1) (31 + 10 * l2) (rwX D l1 l2) 256)) ja_x0) 8 [some (.ref (0)), some (.int (nI (l1))), some (.int (nI (l2))), some (.int (nI (a)))] [] Z E 0 0 := by
    intro f8
    induction f8 with
    | zero => intro a hf ha; exfalso; omega
    | succ f8 ih8 =>
      intro a hf ha
      refine ja_iload_n (i := 3) dX7_addsUp_8 rfl rfl ?_
      refine ja_bipush (v := nI 10) dX7_addsUp_9 (by decide +kernel) ?_
      refine ja_icmpN_ge (tgt := 78) dX7_addsUp_11 (by decide) (by omega) (by omega) (fun c11 => ?_) (fun c11 => ?_)
      ·
        refine ja_iconst (v := nI 1) dX7_addsUp_78 (by decide +kernel) ?_
        refine ja_iret rfl (by decide +kernel) dX7_addsUp_79 (Nat.zero_le _) (Nat.zero_le _) ?_
        exact ⟨rfl, rfl, hE⟩
      ·
        have s1 : fb_ct (fun q => decide (D (31 + 10 * l1) q = nI a)) 256 ≤ 256 := fb_ct_le _ _
        have s2 : fb_ct (fun q => decide (D (31 + 10 * l2) q = nI a)) 256 ≤ 256 := fb_ct_le _ _
        refine ja_aload_n (i := 0) dX7_addsUp_14 rfl rfl ?_
        refine ja_getR fl_X7_34 (zX_o0 hx) rfl (zX_p0_9 hx) dX7_addsUp_15 ?_
        refine ja_aload_n (i := 0) dX7_addsUp_18 rfl rfl ?_
        refine ja_getR fl_X7_34 (zX_o0 hx) rfl (zX_p0_9 hx) dX7_addsUp_19 ?_
        refine ja_getR fl_X7_271 (zX_o5 hx) rfl (zX_p5_1 hx) dX7_addsUp_22 ?_
        refine ja_iload_n (i := 3) dX7_addsUp_25 rfl rfl ?_
        refine ja_cVr (st := []) (c_sumOf (D := E) l hx (pi := 7) (zX_o7 hx) hE3 hnp6 (sz := pzs (rwX D l1 l2) 256) (fun i hi => (hE.2.2.2 i (by omega)).1) (nI a)) rfl rfl (ce_X3_sumOf 0 0) im_X3_sumOf se_X3_sumOf lk_X7_332 k_X3 (zX_o5 hx) ⟨(Nat.le_of_ble_eq_true rfl), (Nat.le_of_ble_eq_true rfl)⟩ dX7_addsUp_26 rfl rfl (Nat.le_of_ble_eq_true rfl) (Nat.zero_le _) (Nat.zero_le _) ?_
        refine ja_top (y := nI (fb_ct (fun q => decide (D (31 + 10 * l1) q = nI a)) 256)) (by rw [hnp, (LAY_sum (a := nI a) hE (nI_nm1 (by omega)) (rwX_w hw h1 h2).1 (rwX_w hw h1 h2).2).1]) ?_
        refine ja_aload_n (i := 0) dX7_addsUp_29 rfl rfl ?_
        refine ja_iload_n (i := 1) dX7_addsUp_30 rfl rfl ?_
        refine ja_cVr (st := [.int (nI (fb_ct (fun q => decide (D (31 + 10 * l1) q = nI a)) 256))]) (c_layerOf (D := E) l hx (ly := l1) (by omega)) rfl rfl (ce_X7_layerOf 0 0) im_X7_layerOf se_X7_layerOf lk_X7_93 k_X7 (zX_o0 hx) ⟨(Nat.le_of_ble_eq_true rfl), (Nat.le_of_ble_eq_true rfl)⟩ dX7_addsUp_31 rfl rfl (Nat.le_of_ble_eq_true rfl) (Nat.zero_le _) (Nat.zero_le _) ?_
        refine ja_getR fl_X7_127 (zL_o hx (l := l1) (by omega)) rfl (zL_p1 hx (l := l1) (by omega)) dX7_addsUp_34 ?_
        refine ja_iload_n (i := 3) dX7_addsUp_37 rfl rfl ?_
        refine ja_iald (zL_a1 hx (l := l1) (by omega)) rfl (by omega) (by decide) dX7_addsUp_38 ?_
        refine ja_top (y := nI (fb_ct (fun q => decide (D (31 + 10 * l1) q = nI a)) 256)) (by rw [hE.1 _ _ (by omega)]; exact hsz l1 h1 a (by omega)) ?_
        refine ja_icmpN_ne (tgt := 70) dX7_addsUp_39 (by decide) (by omega) (by omega) (fun c39 => (by exfalso; omega)) (fun c39 => ?_)
        refine ja_aload_n (i := 0) dX7_addsUp_42 rfl rfl ?_
        refine ja_getR fl_X7_34 (zX_o0 hx) rfl (zX_p0_9 hx) dX7_addsUp_43 ?_
        refine ja_aload_n (i := 0) dX7_addsUp_46 rfl rfl ?_
        refine ja_getR fl_X7_34 (zX_o0 hx) rfl (zX_p0_9 hx) dX7_addsUp_47 ?_
        refine ja_getR fl_X7_268 (zX_o5 hx) rfl (zX_p5_2 hx) dX7_addsUp_50 ?_
        refine ja_iload_n (i := 3) dX7_addsUp_53 rfl rfl ?_
        refine ja_cVr (st := []) (c_sumOf (D := E) l hx (pi := 8) (zX_o8 hx) hE3 hnp6 (sz := pzs (rwX D l1 l2) 256) (fun i hi => (hE.2.2.2 i (by omega)).1) (nI a)) rfl rfl (ce_X3_sumOf 0 0) im_X3_sumOf se_X3_sumOf lk_X7_332 k_X3 (zX_o5 hx) ⟨(Nat.le_of_ble_eq_true rfl), (Nat.le_of_ble_eq_true rfl)⟩ dX7_addsUp_54 rfl rfl (Nat.le_of_ble_eq_true rfl) (Nat.zero_le _) (Nat.zero_le _) ?_
        refine ja_top (y := nI (fb_ct (fun q => decide (D (31 + 10 * l2) q = nI a)) 256)) (by rw [hnp, (LAY_sum (a := nI a) hE (nI_nm1 (by omega)) (rwX_w hw h1 h2).1 (rwX_w hw h1 h2).2).2]) ?_
        refine ja_aload_n (i := 0) dX7_addsUp_57 rfl rfl ?_
        refine ja_iload_n (i := 2) dX7_addsUp_58 rfl rfl ?_
        refine ja_cVr (st := [.int (nI (fb_ct (fun q => decide (D (31 + 10 * l2) q = nI a)) 256))]) (c_layerOf (D := E) l hx (ly := l2) (by omega)) rfl rfl (ce_X7_layerOf 0 0) im_X7_layerOf se_X7_layerOf lk_X7_93 k_X7 (zX_o0 hx) ⟨(Nat.le_of_ble_eq_true rfl), (Nat.le_of_ble_eq_true rfl)⟩ dX7_addsUp_59 rfl rfl (Nat.le_of_ble_eq_true rfl) (Nat.zero_le _) (Nat.zero_le _) ?_
        refine ja_getR fl_X7_127 (zL_o hx (l := l2) (by omega)) rfl (zL_p1 hx (l := l2) (by omega)) dX7_addsUp_62 ?_
        refine ja_iload_n (i := 3) dX7_addsUp_65 rfl rfl ?_
        refine ja_iald (zL_a1 hx (l := l2) (by omega)) rfl (by omega) (by decide) dX7_addsUp_66 ?_
        refine ja_top (y := nI (fb_ct (fun q => decide (D (31 + 10 * l2) q = nI a)) 256)) (by rw [hE.1 _ _ (by omega)]; exact hsz l2 h2 a (by omega)) ?_
        refine ja_icmpN_eq (tgt := 72) dX7_addsUp_67 (by decide) (by omega) (by omega) (fun c67 => ?_) (fun c67 => (by exfalso; omega))
        refine ja_iincN dX7_addsUp_72 rfl rfl (Nat.le_of_ble_eq_true rfl) ?_
        refine ja_goto (tgt := 8) dX7_addsUp_75 (by decide) ?_
        exact ih8 (a + 1) (by omega) (by omega)
  exact lp8 11 0 (by omega) (by omega)
