/-! THE LAW'S LOOP (by wip/whole/x45.py) -/
def ja_All (l : Launch) (JI : Nat → jZ → jD → Prop) : Prop :=
  (∀ (p0 : Int32), ja_JC l JI mL_begin mX8_begin [.int p0] 200 ty_i eqv_i) ∧
  (∀ (p0 p1 p2 p3 p4 p5 : Int32), ja_JC l JI mL_paint mX8_paint [.int p0, .int p1, .int p2, .int p3, .int p4, .int p5] 200 ty_i eqv_i) ∧
  (∀ (p0 p1 p2 p3 p4 : Int32), ja_JC l JI mL_split mX8_split [.int p0, .int p1, .int p2, .int p3, .int p4] 200 ty_i eqv_i) ∧
  (∀ (p0 p1 p2 : Int32), ja_JC l JI mL_merge mX8_merge [.int p0, .int p1, .int p2] 200 ty_i eqv_i) ∧
  (∀ (p0 p1 p2 : Int32), ja_JC l JI mL_setValue mX8_setValue [.int p0, .int p1, .int p2] 200 ty_i eqv_i) ∧
  (∀ (p0 : Int32) (p1 : Bool), ja_JC l JI mL_setDivides mX8_setDivides [.int p0, .int (bI p1)] 200 ty_b eqv_b) ∧
  (∀ (p0 : Int32), ja_JC l JI mL_sign mX8_sign [.int p0] 200 ty_i eqv_i) ∧
  (ja_JC l JI mL_keep mX8_keep [] 200 ty_i eqv_i) ∧
  (ja_JC l JI mL_drop mX8_drop [] 200 ty_i eqv_i) ∧
  (∀ (p0 p1 p2 : Int32), ja_JC l JI mL_addRule mX8_addRule [.int p0, .int p1, .int p2] 200 ty_i eqv_i) ∧
  (∀ (p0 : Int32), ja_JC l JI mL_broken mX8_broken [.int p0] 200 ty_i eqv_i) ∧
  (ja_JC l JI mL_leastBroken mX8_leastBroken [] 200 ty_i eqv_i) ∧
  (∀ (p0 p1 : Int32), ja_JC l JI mL_areaAt mX8_areaAt [.int p0, .int p1] 200 ty_i eqv_i) ∧
  (∀ (p0 p1 p2 : Int32), ja_JC l JI mL_areaThen mX8_areaThen [.int p0, .int p1, .int p2] 200 ty_i eqv_i) ∧
  (∀ (p0 p1 p2 : Int32), ja_JC l JI mL_authorOf mX8_authorOf [.int p0, .int p1, .int p2] 200 ty_i eqv_i) ∧
  (∀ (p0 p1 : Int32), ja_JC l JI mL_size mX8_size [.int p0, .int p1] 200 ty_i eqv_i) ∧
  (∀ (p0 p1 : Int32), ja_JC l JI mL_value mX8_value [.int p0, .int p1] 200 ty_i eqv_i) ∧
  (∀ (p0 p1 : Int32), ja_JC l JI mL_rim mX8_rim [.int p0, .int p1] 200 ty_i eqv_i) ∧
  (∀ (p0 p1 p2 : Int32), ja_JC l JI mL_border mX8_border [.int p0, .int p1, .int p2] 200 ty_i eqv_i) ∧
  (∀ (p0 p1 p2 : Int32), ja_JC l JI mL_distance mX8_distance [.int p0, .int p1, .int p2] 200 ty_i eqv_i) ∧
  (∀ (p0 p1 : Int32), ja_JC l JI mL_nearest mX8_nearest [.int p0, .int p1] 200 ty_i eqv_i) ∧
  (∀ (p0 p1 p2 : Int32), ja_JC l JI mL_belt mX8_belt [.int p0, .int p1, .int p2] 200 ty_i eqv_i) ∧
  (∀ (p0 p1 p2 p3 p4 : Int32), ja_JC l JI mL_checkOut mX8_checkOut [.int p0, .int p1, .int p2, .int p3, .int p4] 200 ty_i eqv_i) ∧
  (∀ (p0 p1 p2 : Int32), ja_JC l JI mL_change mX8_change [.int p0, .int p1, .int p2] 200 ty_i eqv_i) ∧
  (∀ (p0 : Int32), ja_JC l JI mL_conflicts mX8_conflicts [.int p0] 200 ty_i eqv_i) ∧
  (∀ (p0 : Int32), ja_JC l JI mL_clashes mX8_clashes [.int p0] 200 ty_i eqv_i) ∧
  (∀ (p0 p1 : Int32), ja_JC l JI mL_reconcile mX8_reconcile [.int p0, .int p1] 200 ty_i eqv_i) ∧
  (∀ (p0 p1 : Int32), ja_JC l JI mL_pieces mX8_pieces [.int p0, .int p1] 200 ty_i eqv_i) ∧
  (∀ (p0 p1 p2 : Int32), ja_JC l JI mL_pieceSize mX8_pieceSize [.int p0, .int p1, .int p2] 200 ty_i eqv_i) ∧
  (∀ (p0 p1 p2 : Int32) (p3 : Bool), ja_JC l JI mL_parent mX8_parent [.int p0, .int p1, .int p2, .int (bI p3)] 200 ty_i eqv_i) ∧
  (∀ (p0 p1 p2 : Int32), ja_JC l JI mL_match mX8_match [.int p0, .int p1, .int p2] 200 ty_i eqv_i) ∧
  (∀ (p0 p1 p2 : Int32), ja_JC l JI mL_matchKind mX8_matchKind [.int p0, .int p1, .int p2] 200 ty_i eqv_i) ∧
  (∀ (p0 p1 p2 : Int32), ja_JC l JI mL_coarse mX8_coarse [.int p0, .int p1, .int p2] 200 ty_i eqv_i) ∧
  (∀ (p0 p1 : Int32), ja_JC l JI mL_coarseAreas mX8_coarseAreas [.int p0, .int p1] 200 ty_i eqv_i) ∧
  (∀ (p0 p1 p2 : Int32), ja_JC l JI mL_name mX8_name [.int p0, .int p1, .int p2] 200 ty_i eqv_i) ∧
  (∀ (p0 p1 : Int32), ja_JC l JI mL_placeOf mX8_placeOf [.int p0, .int p1] 200 ty_i eqv_i) ∧
  (∀ (p0 : Int32), ja_JC l JI mL_values mX8_values [.int p0] 200 ty_l eqv_l) ∧
  (∀ (p0 : Int32), ja_JC l JI mL_covered mX8_covered [.int p0] 201 ty_f eqv_f) ∧
  (∀ (p0 p1 : Int32), ja_JC l JI mL_meanPiece mX8_meanPiece [.int p0, .int p1] 201 ty_d eqv_d) ∧
  ja_JS l JI
theorem nI_and (x : Int32) : ∃ t, t < 64 ∧ x &&& nI 63 = nI t := by
  refine ⟨(x.toBitVec &&& 63#32).toNat, ?_, ?_⟩
  · rw [BitVec.toNat_and]
    exact Nat.lt_of_le_of_lt Nat.and_le_right (by decide)
  · apply Int32.toBitVec_inj.mp
    show x.toBitVec &&& (nI 63).toBitVec = (Int32.ofNat _).toBitVec
    rw [Int32.toBitVec_ofNat', BitVec.ofNat_toNat, BitVec.setWidth_eq]
    rfl
section LOOP
variable {nm : String} {tb : List (Nat × Nat × Nat × Nat)} {l : Launch} {JI : Nat → jZ → jD → Prop} {sc : Nat × (Nat → Int32)} {Qf : jQ} {L : Nat} {xs : Nat → Int32}
theorem la_case (hS : ∀ n Z D, JI n Z D → ja_SH Z) (hm : ∀ n Z D, JI n Z D → JI (n + 1) Z D) (A : ja_All l JI) (hsc : sc = (L + 1, xs)) (hL : L ≤ 3584) {n c9 s9 : Nat} {Z : jZ} {D : jD} (h7 : 7 * n + 7 ≤ L) (h4 : c9 + 4 ≤ 603072) (h5 : s9 + 776 ≤ 7211114) (hI : JI n Z D) (kk : ∀ Z2 D2, JI (n + 1) Z2 D2 → ja_A l (mL_law nm tb) sc Qf 28 (la_lv (7 * (n + 1))) [] Z2 D2 (c9 + 4) (s9 + 776)) {v : Int32} (hv : ∃ t, t < 64 ∧ v = nI t) : ja_A l (mL_law nm tb) sc Qf 45 (la_lv (7 * n)) [.int v] Z D c9 s9 := by
  obtain ⟨t, ht, rfl⟩ := hv
  obtain ⟨H_begin, H_paint, H_split, H_merge, H_setValue, H_setDivides, H_sign, H_keep, H_drop, H_addRule, H_broken, H_leastBroken, H_areaAt, H_areaThen, H_authorOf, H_size, H_value, H_rim, H_border, H_distance, H_nearest, H_belt, H_checkOut, H_change, H_conflicts, H_clashes, H_reconcile, H_pieces, H_pieceSize, H_parent, H_match, H_matchKind, H_coarse, H_coarseAreas, H_name, H_placeOf, H_values, H_covered, H_meanPiece, H_isSound⟩ := A
  by_cases h : t < 40
  · obtain rfl | rfl | rfl | rfl | rfl | rfl | rfl | rfl | rfl | rfl | rfl | rfl | rfl | rfl | rfl | rfl | rfl | rfl | rfl | rfl | rfl | rfl | rfl | rfl | rfl | rfl | rfl | rfl | rfl | rfl | rfl | rfl | rfl | rfl | rfl | rfl | rfl | rfl | rfl | rfl : t = 0 ∨ t = 1 ∨ t = 2 ∨ t = 3 ∨ t = 4 ∨ t = 5 ∨ t = 6 ∨ t = 7 ∨ t = 8 ∨ t = 9 ∨ t = 10 ∨ t = 11 ∨ t = 12 ∨ t = 13 ∨ t = 14 ∨ t = 15 ∨ t = 16 ∨ t = 17 ∨ t = 18 ∨ t = 19 ∨ t = 20 ∨ t = 21 ∨ t = 22 ∨ t = 23 ∨ t = 24 ∨ t = 25 ∨ t = 26 ∨ t = 27 ∨ t = 28 ∨ t = 29 ∨ t = 30 ∨ t = 31 ∨ t = 32 ∨ t = 33 ∨ t = 34 ∨ t = 35 ∨ t = 36 ∨ t = 37 ∨ t = 38 ∨ t = 39 := by omega
    · refine ja_swIn (off := 175) (tgt := 220) dL_law_45 (by decide) (by decide) (by decide) (by decide) ?_
      exact la_begin hS H_begin hsc hL h7 h4 h5 hI kk
    · refine ja_swIn (off := 231) (tgt := 276) dL_law_45 (by decide) (by decide) (by decide) (by decide) ?_
      exact la_paint hS H_paint hsc hL h7 h4 h5 hI kk
    · refine ja_swIn (off := 349) (tgt := 394) dL_law_45 (by decide) (by decide) (by decide) (by decide) ?_
      exact la_split hS H_split hsc hL h7 h4 h5 hI kk
    · refine ja_swIn (off := 455) (tgt := 500) dL_law_45 (by decide) (by decide) (by decide) (by decide) ?_
      exact la_merge hS H_merge hsc hL h7 h4 h5 hI kk
    · refine ja_swIn (off := 535) (tgt := 580) dL_law_45 (by decide) (by decide) (by decide) (by decide) ?_
      exact la_setValue hS H_setValue hsc hL h7 h4 h5 hI kk
    · refine ja_swIn (off := 615) (tgt := 660) dL_law_45 (by decide) (by decide) (by decide) (by decide) ?_
      exact la_setDivides hS H_setDivides hsc hL h7 h4 h5 hI kk
    · refine ja_swIn (off := 706) (tgt := 751) dL_law_45 (by decide) (by decide) (by decide) (by decide) ?_
      exact la_sign hS H_sign hsc hL h7 h4 h5 hI kk
    · refine ja_swIn (off := 762) (tgt := 807) dL_law_45 (by decide) (by decide) (by decide) (by decide) ?_
      exact la_keep hS H_keep hsc hL h7 h4 h5 hI kk
    · refine ja_swIn (off := 806) (tgt := 851) dL_law_45 (by decide) (by decide) (by decide) (by decide) ?_
      exact la_drop hS H_drop hsc hL h7 h4 h5 hI kk
    · refine ja_swIn (off := 850) (tgt := 895) dL_law_45 (by decide) (by decide) (by decide) (by decide) ?_
      exact la_addRule hS H_addRule hsc hL h7 h4 h5 hI kk
    · refine ja_swIn (off := 932) (tgt := 977) dL_law_45 (by decide) (by decide) (by decide) (by decide) ?_
      exact la_broken hS H_broken hsc hL h7 h4 h5 hI kk
    · refine ja_swIn (off := 988) (tgt := 1033) dL_law_45 (by decide) (by decide) (by decide) (by decide) ?_
      exact la_leastBroken hS H_leastBroken hsc hL h7 h4 h5 hI kk
    · refine ja_swIn (off := 1032) (tgt := 1077) dL_law_45 (by decide) (by decide) (by decide) (by decide) ?_
      exact la_areaAt hS H_areaAt hsc hL h7 h4 h5 hI kk
    · refine ja_swIn (off := 1100) (tgt := 1145) dL_law_45 (by decide) (by decide) (by decide) (by decide) ?_
      exact la_areaThen hS H_areaThen hsc hL h7 h4 h5 hI kk
    · refine ja_swIn (off := 1180) (tgt := 1225) dL_law_45 (by decide) (by decide) (by decide) (by decide) ?_
      exact la_authorOf hS H_authorOf hsc hL h7 h4 h5 hI kk
    · refine ja_swIn (off := 1260) (tgt := 1305) dL_law_45 (by decide) (by decide) (by decide) (by decide) ?_
      exact la_size hS H_size hsc hL h7 h4 h5 hI kk
    · refine ja_swIn (off := 1328) (tgt := 1373) dL_law_45 (by decide) (by decide) (by decide) (by decide) ?_
      exact la_value hS H_value hsc hL h7 h4 h5 hI kk
    · refine ja_swIn (off := 1396) (tgt := 1441) dL_law_45 (by decide) (by decide) (by decide) (by decide) ?_
      exact la_rim hS H_rim hsc hL h7 h4 h5 hI kk
    · refine ja_swIn (off := 1464) (tgt := 1509) dL_law_45 (by decide) (by decide) (by decide) (by decide) ?_
      exact la_border hS H_border hsc hL h7 h4 h5 hI kk
    · refine ja_swIn (off := 1544) (tgt := 1589) dL_law_45 (by decide) (by decide) (by decide) (by decide) ?_
      exact la_distance hS H_distance hsc hL h7 h4 h5 hI kk
    · refine ja_swIn (off := 1624) (tgt := 1669) dL_law_45 (by decide) (by decide) (by decide) (by decide) ?_
      exact la_nearest hS H_nearest hsc hL h7 h4 h5 hI kk
    · refine ja_swIn (off := 1692) (tgt := 1737) dL_law_45 (by decide) (by decide) (by decide) (by decide) ?_
      exact la_belt hS H_belt hsc hL h7 h4 h5 hI kk
    · refine ja_swIn (off := 1772) (tgt := 1817) dL_law_45 (by decide) (by decide) (by decide) (by decide) ?_
      exact la_checkOut hS H_checkOut hsc hL h7 h4 h5 hI kk
    · refine ja_swIn (off := 1876) (tgt := 1921) dL_law_45 (by decide) (by decide) (by decide) (by decide) ?_
      exact la_change hS H_change hsc hL h7 h4 h5 hI kk
    · refine ja_swIn (off := 1956) (tgt := 2001) dL_law_45 (by decide) (by decide) (by decide) (by decide) ?_
      exact la_conflicts hS H_conflicts hsc hL h7 h4 h5 hI kk
    · refine ja_swIn (off := 2012) (tgt := 2057) dL_law_45 (by decide) (by decide) (by decide) (by decide) ?_
      exact la_clashes hS H_clashes hsc hL h7 h4 h5 hI kk
    · refine ja_swIn (off := 2068) (tgt := 2113) dL_law_45 (by decide) (by decide) (by decide) (by decide) ?_
      exact la_reconcile hS H_reconcile hsc hL h7 h4 h5 hI kk
    · refine ja_swIn (off := 2138) (tgt := 2183) dL_law_45 (by decide) (by decide) (by decide) (by decide) ?_
      exact la_pieces hS H_pieces hsc hL h7 h4 h5 hI kk
    · refine ja_swIn (off := 2206) (tgt := 2251) dL_law_45 (by decide) (by decide) (by decide) (by decide) ?_
      exact la_pieceSize hS H_pieceSize hsc hL h7 h4 h5 hI kk
    · refine ja_swIn (off := 2286) (tgt := 2331) dL_law_45 (by decide) (by decide) (by decide) (by decide) ?_
      exact la_parent hS H_parent hsc hL h7 h4 h5 hI kk
    · refine ja_swIn (off := 2394) (tgt := 2439) dL_law_45 (by decide) (by decide) (by decide) (by decide) ?_
      exact la_match hS H_match hsc hL h7 h4 h5 hI kk
    · refine ja_swIn (off := 2474) (tgt := 2519) dL_law_45 (by decide) (by decide) (by decide) (by decide) ?_
      exact la_matchKind hS H_matchKind hsc hL h7 h4 h5 hI kk
    · refine ja_swIn (off := 2554) (tgt := 2599) dL_law_45 (by decide) (by decide) (by decide) (by decide) ?_
      exact la_coarse hS H_coarse hsc hL h7 h4 h5 hI kk
    · refine ja_swIn (off := 2634) (tgt := 2679) dL_law_45 (by decide) (by decide) (by decide) (by decide) ?_
      exact la_coarseAreas hS H_coarseAreas hsc hL h7 h4 h5 hI kk
    · refine ja_swIn (off := 2702) (tgt := 2747) dL_law_45 (by decide) (by decide) (by decide) (by decide) ?_
      exact la_name hS H_name hsc hL h7 h4 h5 hI kk
    · refine ja_swIn (off := 2782) (tgt := 2827) dL_law_45 (by decide) (by decide) (by decide) (by decide) ?_
      exact la_placeOf hS H_placeOf hsc hL h7 h4 h5 hI kk
    · refine ja_swIn (off := 2850) (tgt := 2895) dL_law_45 (by decide) (by decide) (by decide) (by decide) ?_
      exact la_values hS H_values hsc hL h7 h4 h5 hI kk
    · refine ja_swIn (off := 2905) (tgt := 2950) dL_law_45 (by decide) (by decide) (by decide) (by decide) ?_
      exact la_covered hS H_covered hsc hL h7 h4 h5 hI kk
    · refine ja_swIn (off := 2983) (tgt := 3028) dL_law_45 (by decide) (by decide) (by decide) (by decide) ?_
      exact la_meanPiece hS H_meanPiece hsc hL h7 h4 h5 hI kk
    · refine ja_swIn (off := 3072) (tgt := 3117) dL_law_45 (by decide) (by decide) (by decide) (by decide) ?_
      exact la_isSound hS H_isSound hL h7 h4 h5 hI kk
  · refine ja_swOut (tgt := 3130) dL_law_45 (Or.inr ?_) (by decide) ?_
    · rw [show (nI t).toInt = (t : Int) from Int32.toInt_ofNat_of_lt (by omega)]
      omega
    · exact la_tail (kk _ _ (hm _ _ _ hI)) (by omega) (by omega)
theorem la_loop (hS : ∀ n Z D, JI n Z D → ja_SH Z) (hm : ∀ n Z D, JI n Z D → JI (n + 1) Z D) (A : ja_All l JI) (hsc : sc = (L + 1, xs)) (hL : L ≤ 3584) {C9 S9 : Nat} (hC9 : C9 ≤ 600000) (hS9 : S9 ≤ 6800000) (he : ∀ i Z D c s, c ≤ 603072 → s ≤ 7211114 → ja_A l (mL_law nm tb) sc Qf 3136 (la_lv i) [] Z D c s) :
    ∀ (m n : Nat) (Z : jZ) (D : jD), L < 7 * (n + m) → 7 * n ≤ L → JI n Z D → ja_A l (mL_law nm tb) sc Qf 28 (la_lv (7 * n)) [] Z D (C9 + 4 * n) (S9 + 776 * n)
  | 0, n, Z, D, h1, h2, hI => absurd h2 (by omega)
  | m + 1, n, Z, D, h1, h2, hI => by
    refine ja_iload dL_law_28 rfl ?_
    refine ja_aload_n (i := 0) dL_law_30 rfl rfl ?_
    refine ja_slen hsc dL_law_31 ?_
    refine ja_bipush (v := nI 7) dL_law_32 (by decide) ?_
    refine ja_isub dL_law_34 ?_
    have e1 : (nI (7 * n)).toInt = (7 * n : Nat) := Int32.toInt_ofNat_of_lt (by omega)
    have e2 : (nI L - nI 7).toInt = (L : Int) - 7 := by
      rw [Int32.toInt_sub, show (nI L).toInt = (L : Int) from Int32.toInt_ofNat_of_lt (by omega), show (nI 7).toInt = (7 : Int) by decide]
      rw [Int.bmod_eq_of_le (by omega) (by omega)]
    refine ja_icmp_gt dL_law_35 (tgt := 3136) (by decide) (fun c0 => he _ _ _ _ _ (by omega) (by omega)) (fun c0 => ?_)
    rw [Int32.lt_iff_toInt_lt, e1, e2] at c0
    have h7 : 7 * n + 7 ≤ L := by omega
    refine ja_aload_n (i := 0) dL_law_38 rfl rfl ?_
    refine ja_iload dL_law_39 rfl ?_
    refine ja_sld (j := 7 * n) hsc rfl (by omega) (by omega) dL_law_41 ?_
    refine ja_bipush (v := nI 63) dL_law_42 (by decide) ?_
    refine ja_iand dL_law_44 ?_
    refine la_case hS hm A hsc hL h7 (by omega) (by omega) hI (fun Z2 D2 h => ?_) (nI_and _)
    have := la_loop hS hm A hsc hL hC9 hS9 he m (n + 1) Z2 D2 (by omega) (by omega) h
    rw [show C9 + 4 * (n + 1) = C9 + 4 * n + 4 by omega, show S9 + 776 * (n + 1) = S9 + 776 * n + 776 by omega] at this
    exact this
end LOOP
