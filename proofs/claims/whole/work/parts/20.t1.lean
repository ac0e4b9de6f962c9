def cSz (D : jD) (ly : Nat) (a : Int32) (n : Nat) : Nat := fb_ct (fun q => decide (D 105 (256 * ly + q) = a)) n
set_option maxRecDepth 100000 in
set_option maxHeartbeats 4000000 in
theorem s_in (l : Launch) {Z : jZ} {D : jD} (v a b : Int32) : ja_M l (mX8_in 0 0) [.int (v), .int (a), .int (b)] Z D (ja_jr (some (.int (bI (decide (a ≤ v ∧ v ≤ b))))) Z D) ja_x0 := by
  refine ja_Mof (lv := [some (.int (v)), some (.int (a)), some (.int (b))]) (by decide +kernel) rfl rfl (Nat.le_of_ble_eq_true rfl) rfl ?_
  refine ja_iload_n (i := 0) dX8_in_0 rfl rfl ?_
  refine ja_iload_n (i := 1) dX8_in_1 rfl rfl ?_
  refine ja_icmp_lt (tgt := 14) dX8_in_2 (by decide) (fun c2 => ?_) (fun c2 => ?_)
  ·
    refine ja_iconst (v := nI 0) dX8_in_14 (by decide +kernel) ?_
    refine ja_iret rfl (by decide +kernel) dX8_in_15 (Nat.zero_le _) (Nat.zero_le _) ?_
    exact ⟨congrArg (fun x => some (Value.int x)) (bI_F (by simp only [Int32.lt_iff_toInt_lt, Int32.le_iff_toInt_le] at *; omega)), rfl, rfl⟩
  ·
    refine ja_iload_n (i := 0) dX8_in_5 rfl rfl ?_
    refine ja_iload_n (i := 2) dX8_in_6 rfl rfl ?_
    refine ja_icmp_gt (tgt := 14) dX8_in_7 (by decide) (fun c7 => ?_) (fun c7 => ?_)
    ·
      refine ja_iconst (v := nI 0) dX8_in_14 (by decide +kernel) ?_
      refine ja_iret rfl (by decide +kernel) dX8_in_15 (Nat.zero_le _) (Nat.zero_le _) ?_
      exact ⟨congrArg (fun x => some (Value.int x)) (bI_F (by simp only [Int32.lt_iff_toInt_lt, Int32.le_iff_toInt_le] at *; omega)), rfl, rfl⟩
    ·
      refine ja_iconst (v := nI 1) dX8_in_10 (by decide +kernel) ?_
      refine ja_goto (tgt := 15) dX8_in_11 (by decide) ?_
      refine ja_iret rfl (by decide +kernel) dX8_in_15 (Nat.zero_le _) (Nat.zero_le _) ?_
      exact ⟨congrArg (fun x => some (Value.int x)) (bI_T (by simp only [Int32.lt_iff_toInt_lt, Int32.le_iff_toInt_le] at *; omega)), rfl, rfl⟩

set_option maxRecDepth 100000 in
set_option maxHeartbeats 4000000 in
theorem s_at (l : Launch) {Z : jZ} {D : jD} (hz : zM Z) {ly q : Nat} (h1 : ly < 3) (h2 : q < 256) : ja_M l (mX8_at 0 0) [.ref (100), .int (nI (ly)), .int (nI (q))] Z D (ja_jr (some (.int (D 105 (256 * ly + q)))) Z D) ja_x0 := by
  refine ja_Mof (lv := [some (.ref (100)), some (.int (nI (ly))), some (.int (nI (q)))]) (by decide +kernel) rfl rfl (Nat.le_of_ble_eq_true rfl) rfl ?_
  refine ja_aload_n (i := 0) dX8_at_0 rfl rfl ?_
  refine ja_getR fl_X8_17 (zM_s hz) rfl (zM_p4 hz) dX8_at_1 ?_
  refine ja_sipush (v := nI 256) dX8_at_4 (by decide +kernel) ?_
  refine ja_iload_n (i := 1) dX8_at_7 rfl rfl ?_
  refine ja_imulN dX8_at_8 ?_
  refine ja_iload_n (i := 2) dX8_at_9 rfl rfl ?_
  refine ja_iaddN dX8_at_10 ?_
  refine ja_iald (zM_a4 hz) rfl (by omega) (by decide) dX8_at_11 ?_
  refine ja_iret rfl rfl dX8_at_12 (Nat.zero_le _) (Nat.zero_le _) ?_
  exact ⟨rfl, rfl, rfl⟩

set_option maxRecDepth 100000 in
set_option maxHeartbeats 4000000 in
theorem s_sizeOf (l : Launch) {Z : jZ} {D : jD} (hz : zM Z) {ly : Nat} (h1 : ly < 3) (a : Int32) : ja_M l (mX8_sizeOf 0 0) [.ref (100), .int (nI (ly)), .int (a)] Z D (ja_jr (some (.int (nI (cSz D ly a 256)))) Z D) ja_x0 := by
  refine ja_Mof (lv := [some (.ref (100)), some (.int (nI (ly))), some (.int (a)), none, none]) (by decide +kernel) rfl rfl (Nat.le_of_ble_eq_true rfl) rfl ?_
  refine ja_iconst (v := nI 0) dX8_sizeOf_0 (by decide +kernel) ?_
  refine ja_istore_n (i := 3) dX8_sizeOf_1 rfl rfl (Nat.le_of_ble_eq_true rfl) ?_
  refine ja_iconst (v := nI 0) dX8_sizeOf_2 (by decide +kernel) ?_
  refine ja_istore (i := 4) dX8_sizeOf_3 rfl (Nat.le_of_ble_eq_true rfl) ?_
  have lp5 : ∀ (k5 : Nat) (q n : Nat), 256 < q + k5 → q ≤ 256 → n = cSz D ly a q → ja_A l (mX8_sizeOf 0 0) ja_sn (ja_Qf (mX8_sizeOf 0 0) (ja_jr (some (.int (nI (cSz D ly a 256)))) Z D) ja_x0) 5 [some (.ref (100)), some (.int (nI (ly))), some (.int (a)), some (.int (nI (n))), some (.int (nI (q)))] [] Z D 0 0 := by
    intro k5
    induction k5 with
    | zero => intro q n hk hq hn; exfalso; omega
    | succ k5 ih5 =>
      intro q n hk hq hn
      refine ja_iload (i := 4) dX8_sizeOf_5 rfl ?_
      refine ja_sipush (v := nI 256) dX8_sizeOf_7 (by decide +kernel) ?_
      refine ja_icmpN_ge (tgt := 38) dX8_sizeOf_10 (by decide) (by omega) (by omega) (fun c10 => ?_) (fun c10 => ?_)
      ·
        refine ja_iload_n (i := 3) dX8_sizeOf_38 rfl rfl ?_
        refine ja_iret rfl rfl dX8_sizeOf_39 (Nat.zero_le _) (Nat.zero_le _) ?_
        refine ⟨?_, rfl, rfl⟩
        rw [hn, show q = 256 by omega]
      ·
        refine ja_iload_n (i := 3) dX8_sizeOf_13 rfl rfl ?_
        refine ja_aload_n (i := 0) dX8_sizeOf_14 rfl rfl ?_
        refine ja_iload_n (i := 1) dX8_sizeOf_15 rfl rfl ?_
        refine ja_iload (i := 4) dX8_sizeOf_16 rfl ?_
        refine ja_cVr (st := [.int (nI (n))]) (s_at (D := D) l hz (ly := ly) (q := q) (by omega) (by omega)) rfl rfl (ce_X8_at 0 0) im_X8_at se_X8_at lk_X8_92 k_X8 (zM_s hz) ⟨(Nat.le_of_ble_eq_true rfl), (Nat.le_of_ble_eq_true rfl)⟩ dX8_sizeOf_18 rfl rfl (Nat.le_of_ble_eq_true rfl) (Nat.zero_le _) (Nat.zero_le _) ?_
        refine ja_iload_n (i := 2) dX8_sizeOf_21 rfl rfl ?_
        refine ja_icmp_ne (tgt := 29) dX8_sizeOf_22 (by decide) (fun c22 => ?_) (fun c22 => ?_)
        ·
          refine ja_iconst (v := nI 0) dX8_sizeOf_29 (by decide +kernel) ?_
          refine ja_iaddN dX8_sizeOf_30 ?_
          refine ja_istore_n (i := 3) dX8_sizeOf_31 rfl rfl (Nat.le_of_ble_eq_true rfl) ?_
          refine ja_iincN dX8_sizeOf_32 rfl rfl (Nat.le_of_ble_eq_true rfl) ?_
          refine ja_goto (tgt := 5) dX8_sizeOf_35 (by decide) ?_
          exact ih5 (q + 1) _ (by omega) (by omega) (by rw [hn, cSz, cSz, fb_ct_succ]; simp [c22])
        ·
          refine ja_iconst (v := nI 1) dX8_sizeOf_25 (by decide +kernel) ?_
          refine ja_goto (tgt := 30) dX8_sizeOf_26 (by decide) ?_
          refine ja_iaddN dX8_sizeOf_30 ?_
          refine ja_istore_n (i := 3) dX8_sizeOf_31 rfl rfl (Nat.le_of_ble_eq_true rfl) ?_
          refine ja_iincN dX8_sizeOf_32 rfl rfl (Nat.le_of_ble_eq_true rfl) ?_
          refine ja_goto (tgt := 5) dX8_sizeOf_35 (by decide) ?_
          exact ih5 (q + 1) _ (by omega) (by omega) (by rw [hn, cSz, cSz, fb_ct_succ]; simp [c22])
  exact lp5 257 0 0 (by omega) (by omega) rfl
