/-! THE REFERENCE: its small helpers -/
def cSz (f : Nat → Int32) (ly : Nat) (a : Int32) (n : Nat) : Nat := fb_ct (fun q => decide (f (256 * ly + q) = a)) n
def nR (q : Nat) : Option Nat := if q % 16 < 15 then some (q + 1) else none
def nLf (q : Nat) : Option Nat := if 0 < q % 16 then some (q - 1) else none
def nDn (q : Nat) : Option Nat := if q / 16 < 15 then some (q + 16) else none
def nUp (q : Nat) : Option Nat := if 0 < q / 16 then some (q - 16) else none
def nbM (side q : Nat) : Option Nat := if side = 0 then nR q else if side = 1 then nLf q else if side = 2 then nDn q else nUp q
def oI : Option Nat → Int32
  | none => -1
  | some j => nI j
theorem oI_n : oI none = -1 := rfl
theorem oI_s (j : Nat) : oI (some j) = nI j := rfl
theorem nbM_lt {side q j : Nat} (hq : q < 256) (h : nbM side q = some j) : j < 256 := by
  unfold nbM nR nLf nDn nUp at h
  split at h
  · split at h <;> simp at h; omega
  · split at h
    · split at h <;> simp at h; omega
    · split at h
      · split at h <;> simp at h; omega
      · split at h <;> simp at h; omega
theorem ii_neg1 {a : Nat} (h : 0 < a) : nI a + (-1) = nI (a - 1) := by
  have : a = (a - 1) + 1 := by omega
  rw [this, nI_succ]
  show nI (a - 1) + 1 + -1 = nI (a - 1 + 1 - 1)
  rw [Int32.add_assoc]
  show nI (a - 1) + 0 = _
  rw [Int32.add_zero]
  rfl

set_option maxRecDepth 100000 in
set_option maxHeartbeats 4000000 in
theorem s_in (l : Launch) {Z : jZ} {D : jD} (v a b : Int32) : ja_M l (mX8_in 0 0) [.int (v), .int (a), .int (b)] Z D (ja_jr (some (.int (bI (decide (a ≤ v ∧ v ≤ b))))) Z D) ja_x0 := by
  refine ja_Mof (lv := [some (.int (v)), some (.int (a)), some (.int (b))]) (by decide +kernel) rfl rfl (Nat.le_of_ble_eq_true rfl) rfl ?_
  refine ja_iload_n (i := 0) dX8_in_0 rfl rfl ?_
  refine ja_iload_n (i := 1) dX8_in_1 rfl rfl ?_
  refine ja_icmp_lt (tgt := 14) dX8_in_2 (by decide) (fun c2 => ?_) (fun c2 => ?_)
  ·
    refine ja_iconst (v := nI 0) dX8_in_14 (by decide +kernel) ?_
    refine ja_iret rfl (by decide +kernel) dX8_in_15 (Nat.zero_le _) (Nat.zero_le _) ?_
    exact ⟨congrArg (fun x => some (Value.int x)) (bI_F (by simp only [Int32.lt_iff_toInt_lt, Int32.le_iff_toInt_le] at *; omega)), rfl, rfl⟩
  ·
    refine ja_iload_n (i := 0) dX8_in_5 rfl rfl ?_
    refine ja_iload_n (i := 2) dX8_in_6 rfl rfl ?_
    refine ja_icmp_gt (tgt := 14) dX8_in_7 (by decide) (fun c7 => ?_) (fun c7 => ?_)
    ·
      refine ja_iconst (v := nI 0) dX8_in_14 (by decide +kernel) ?_
      refine ja_iret rfl (by decide +kernel) dX8_in_15 (Nat.zero_le _) (Nat.zero_le _) ?_
      exact ⟨congrArg (fun x => some (Value.int x)) (bI_F (by simp only [Int32.lt_iff_toInt_lt, Int32.le_iff_toInt_le] at *; omega)), rfl, rfl⟩
    ·
      refine ja_iconst (v := nI 1) dX8_in_10 (by decide +kernel) ?_
      refine ja_goto (tgt := 15) dX8_in_11 (by decide) ?_
      refine ja_iret rfl (by decide +kernel) dX8_in_15 (Nat.zero_le _) (Nat.zero_le _) ?_
      exact ⟨congrArg (fun x => some (Value.int x)) (bI_T (by simp only [Int32.lt_iff_toInt_lt, Int32.le_iff_toInt_le] at *; omega)), rfl, rfl⟩

set_option maxRecDepth 100000 in
set_option maxHeartbeats 4000000 in
theorem s_inN (l : Launch) {Z : jZ} {D : jD} (v a b : Nat) (h1 : v < 2 ^ 31) (h2 : a < 2 ^ 31) (h3 : b < 2 ^ 31) : ja_M l (mX8_in 0 0) [.int (nI (v)), .int (nI (a)), .int (nI (b))] Z D (ja_jr (some (.int (bI (decide (a ≤ v ∧ v ≤ b))))) Z D) ja_x0 := by
  refine ja_Mof (lv := [some (.int (nI (v))), some (.int (nI (a))), some (.int (nI (b)))]) (by decide +kernel) rfl rfl (Nat.le_of_ble_eq_true rfl) rfl ?_
  refine ja_iload_n (i := 0) dX8_in_0 rfl rfl ?_
  refine ja_iload_n (i := 1) dX8_in_1 rfl rfl ?_
  refine ja_icmpN_lt (tgt := 14) dX8_in_2 (by decide) (by omega) (by omega) (fun c2 => ?_) (fun c2 => ?_)
  ·
    refine ja_iconst (v := nI 0) dX8_in_14 (by decide +kernel) ?_
    refine ja_iret rfl (by decide +kernel) dX8_in_15 (Nat.zero_le _) (Nat.zero_le _) ?_
    exact ⟨congrArg (fun x => some (Value.int x)) (bI_F (by omega)), rfl, rfl⟩
  ·
    refine ja_iload_n (i := 0) dX8_in_5 rfl rfl ?_
    refine ja_iload_n (i := 2) dX8_in_6 rfl rfl ?_
    refine ja_icmpN_gt (tgt := 14) dX8_in_7 (by decide) (by omega) (by omega) (fun c7 => ?_) (fun c7 => ?_)
    ·
      refine ja_iconst (v := nI 0) dX8_in_14 (by decide +kernel) ?_
      refine ja_iret rfl (by decide +kernel) dX8_in_15 (Nat.zero_le _) (Nat.zero_le _) ?_
      exact ⟨congrArg (fun x => some (Value.int x)) (bI_F (by omega)), rfl, rfl⟩
    ·
      refine ja_iconst (v := nI 1) dX8_in_10 (by decide +kernel) ?_
      refine ja_goto (tgt := 15) dX8_in_11 (by decide) ?_
      refine ja_iret rfl (by decide +kernel) dX8_in_15 (Nat.zero_le _) (Nat.zero_le _) ?_
      exact ⟨congrArg (fun x => some (Value.int x)) (bI_T (by omega)), rfl, rfl⟩

theorem s_inT (l : Launch) {Z : jZ} {D : jD} (v a b : Nat) (h1 : b < 2 ^ 31) (h2 : a ≤ v) (h3 : v ≤ b) : ja_M l (mX8_in 0 0) [.int (nI v), .int (nI a), .int (nI b)] Z D (ja_jr (some (.int (bI true))) Z D) ja_x0 := by
  have h := s_inN l (Z := Z) (D := D) v a b (by omega) (by omega) h1
  rwa [decide_eq_true ⟨h2, h3⟩] at h
theorem s_inF (l : Launch) {Z : jZ} {D : jD} (v a b : Int32) (h : ¬ (a ≤ v ∧ v ≤ b)) : ja_M l (mX8_in 0 0) [.int v, .int a, .int b] Z D (ja_jr (some (.int (bI false))) Z D) ja_x0 := by
  have h2 := s_in l (Z := Z) (D := D) v a b
  rwa [decide_eq_false h] at h2

set_option maxRecDepth 100000 in
set_option maxHeartbeats 4000000 in
theorem s_isLayerT (l : Launch) {Z : jZ} {D : jD} {ly : Nat} (h : ly < 3) : ja_M l (mX8_isLayer 0 0) [.int (nI (ly))] Z D (ja_jr (some (.int (bI true))) Z D) ja_x0 := by
  refine ja_Mof (lv := [some (.int (nI (ly)))]) (by decide +kernel) rfl rfl (Nat.le_of_ble_eq_true rfl) rfl ?_
  refine ja_iload_n (i := 0) dX8_isLayer_0 rfl rfl ?_
  refine ja_iconst (v := nI 0) dX8_isLayer_1 (by decide +kernel) ?_
  refine ja_iconst (v := nI 2) dX8_isLayer_2 (by decide +kernel) ?_
  refine ja_cSr (st := []) (s_inT l (ly) 0 2 (by omega) (by omega) (by omega)) rfl rfl (ce_X8_in 0 0) st_X8_in lk_X8_88 ⟨(Nat.le_of_ble_eq_true rfl), (Nat.le_of_ble_eq_true rfl)⟩ dX8_isLayer_3 rfl rfl (Nat.le_of_ble_eq_true rfl) (Nat.zero_le _) (Nat.zero_le _) ?_
  refine ja_iret rfl (bI_nar _) dX8_isLayer_6 (Nat.zero_le _) (Nat.zero_le _) ?_
  exact ⟨rfl, rfl, rfl⟩

set_option maxRecDepth 100000 in
set_option maxHeartbeats 4000000 in
theorem s_isLayerF (l : Launch) {Z : jZ} {D : jD} {ly : Int32} (h : ¬ (nI 0 ≤ ly ∧ ly ≤ nI 2)) : ja_M l (mX8_isLayer 0 0) [.int (ly)] Z D (ja_jr (some (.int (bI false))) Z D) ja_x0 := by
  refine ja_Mof (lv := [some (.int (ly))]) (by decide +kernel) rfl rfl (Nat.le_of_ble_eq_true rfl) rfl ?_
  refine ja_iload_n (i := 0) dX8_isLayer_0 rfl rfl ?_
  refine ja_iconst (v := nI 0) dX8_isLayer_1 (by decide +kernel) ?_
  refine ja_iconst (v := nI 2) dX8_isLayer_2 (by decide +kernel) ?_
  refine ja_cSr (st := []) (s_inF l (ly) (nI (0)) (nI (2)) h) rfl rfl (ce_X8_in 0 0) st_X8_in lk_X8_88 ⟨(Nat.le_of_ble_eq_true rfl), (Nat.le_of_ble_eq_true rfl)⟩ dX8_isLayer_3 rfl rfl (Nat.le_of_ble_eq_true rfl) (Nat.zero_le _) (Nat.zero_le _) ?_
  refine ja_iret rfl (bI_nar _) dX8_isLayer_6 (Nat.zero_le _) (Nat.zero_le _) ?_
  exact ⟨rfl, rfl, rfl⟩

set_option maxRecDepth 100000 in
set_option maxHeartbeats 4000000 in
theorem s_isAreaT (l : Launch) {Z : jZ} {D : jD} {a : Nat} (h : a < 10) : ja_M l (mX8_isArea 0 0) [.int (nI (a))] Z D (ja_jr (some (.int (bI true))) Z D) ja_x0 := by
  refine ja_Mof (lv := [some (.int (nI (a)))]) (by decide +kernel) rfl rfl (Nat.le_of_ble_eq_true rfl) rfl ?_
  refine ja_iload_n (i := 0) dX8_isArea_0 rfl rfl ?_
  refine ja_iconst (v := nI 0) dX8_isArea_1 (by decide +kernel) ?_
  refine ja_bipush (v := nI 9) dX8_isArea_2 (by decide +kernel) ?_
  refine ja_cSr (st := []) (s_inT l (a) 0 9 (by omega) (by omega) (by omega)) rfl rfl (ce_X8_in 0 0) st_X8_in lk_X8_88 ⟨(Nat.le_of_ble_eq_true rfl), (Nat.le_of_ble_eq_true rfl)⟩ dX8_isArea_4 rfl rfl (Nat.le_of_ble_eq_true rfl) (Nat.zero_le _) (Nat.zero_le _) ?_
  refine ja_iret rfl (bI_nar _) dX8_isArea_7 (Nat.zero_le _) (Nat.zero_le _) ?_
  exact ⟨rfl, rfl, rfl⟩

set_option maxRecDepth 100000 in
set_option maxHeartbeats 4000000 in
theorem s_isAreaF (l : Launch) {Z : jZ} {D : jD} {a : Int32} (h : ¬ (nI 0 ≤ a ∧ a ≤ nI 9)) : ja_M l (mX8_isArea 0 0) [.int (a)] Z D (ja_jr (some (.int (bI false))) Z D) ja_x0 := by
  refine ja_Mof (lv := [some (.int (a))]) (by decide +kernel) rfl rfl (Nat.le_of_ble_eq_true rfl) rfl ?_
  refine ja_iload_n (i := 0) dX8_isArea_0 rfl rfl ?_
  refine ja_iconst (v := nI 0) dX8_isArea_1 (by decide +kernel) ?_
  refine ja_bipush (v := nI 9) dX8_isArea_2 (by decide +kernel) ?_
  refine ja_cSr (st := []) (s_inF l (a) (nI (0)) (nI (9)) h) rfl rfl (ce_X8_in 0 0) st_X8_in lk_X8_88 ⟨(Nat.le_of_ble_eq_true rfl), (Nat.le_of_ble_eq_true rfl)⟩ dX8_isArea_4 rfl rfl (Nat.le_of_ble_eq_true rfl) (Nat.zero_le _) (Nat.zero_le _) ?_
  refine ja_iret rfl (bI_nar _) dX8_isArea_7 (Nat.zero_le _) (Nat.zero_le _) ?_
  exact ⟨rfl, rfl, rfl⟩

set_option maxRecDepth 100000 in
set_option maxHeartbeats 4000000 in
theorem s_fails (l : Launch) {Z : jZ} {D : jD} (hz : zM Z) (k : Int32) : ja_M l (mX8_fails 0 0) [.ref (100), .int (k)] Z D (ja_jd (some (.int (nI 0))) Z (fun D2 => D2 = ja_up D 100 0 k)) ja_x0 := by
  refine ja_Mof (lv := [some (.ref (100)), some (.int (k))]) (by decide +kernel) rfl rfl (Nat.le_of_ble_eq_true rfl) rfl ?_
  refine ja_aload_n (i := 0) dX8_fails_0 rfl rfl ?_
  refine ja_iload_n (i := 1) dX8_fails_1 rfl rfl ?_
  refine ja_putI fl_X8_85 (zM_s hz) rfl rfl rfl dX8_fails_2 ?_
  refine ja_iconst (v := nI 0) dX8_fails_5 (by decide +kernel) ?_
  refine ja_iret rfl rfl dX8_fails_6 (Nat.zero_le _) (Nat.zero_le _) ?_
  exact ⟨rfl, rfl, rfl⟩

set_option maxRecDepth 100000 in
set_option maxHeartbeats 4000000 in
theorem s_at (l : Launch) {Z : jZ} {D : jD} (hz : zM Z) {ly q : Nat} (h1 : ly < 3) (h2 : q < 256) : ja_M l (mX8_at 0 0) [.ref (100), .int (nI (ly)), .int (nI (q))] Z D (ja_jr (some (.int (D 105 (256 * ly + q)))) Z D) ja_x0 := by
  refine ja_Mof (lv := [some (.ref (100)), some (.int (nI (ly))), some (.int (nI (q)))]) (by decide +kernel) rfl rfl (Nat.le_of_ble_eq_true rfl) rfl ?_
  refine ja_aload_n (i := 0) dX8_at_0 rfl rfl ?_
  refine ja_getR fl_X8_17 (zM_s hz) rfl (zM_p4 hz) dX8_at_1 ?_
  refine ja_sipush (v := nI 256) dX8_at_4 (by decide +kernel) ?_
  refine ja_iload_n (i := 1) dX8_at_7 rfl rfl ?_
  refine ja_imulN dX8_at_8 ?_
  refine ja_iload_n (i := 2) dX8_at_9 rfl rfl ?_
  refine ja_iaddN dX8_at_10 ?_
  refine ja_iald (zM_a4 hz) rfl (by omega) (by decide) dX8_at_11 ?_
  refine ja_iret rfl rfl dX8_at_12 (Nat.zero_le _) (Nat.zero_le _) ?_
  exact ⟨rfl, rfl, rfl⟩

set_option maxRecDepth 100000 in
set_option maxHeartbeats 4000000 in
theorem s_sizeOf (l : Launch) {Z : jZ} {D : jD} (hz : zM Z) {ly : Nat} (h1 : ly < 3) (a : Int32) : ja_M l (mX8_sizeOf 0 0) [.ref (100), .int (nI (ly)), .int (a)] Z D (ja_jr (some (.int (nI (cSz (D 105) ly a 256)))) Z D) ja_x0 := by
  refine ja_Mof (lv := [some (.ref (100)), some (.int (nI (ly))), some (.int (a)), none, none]) (by decide +kernel) rfl rfl (Nat.le_of_ble_eq_true rfl) rfl ?_
  refine ja_iconst (v := nI 0) dX8_sizeOf_0 (by decide +kernel) ?_
  refine ja_istore_n (i := 3) dX8_sizeOf_1 rfl rfl (Nat.le_of_ble_eq_true rfl) ?_
  refine ja_iconst (v := nI 0) dX8_sizeOf_2 (by decide +kernel) ?_
  refine ja_istore (i := 4) dX8_sizeOf_3 rfl (Nat.le_of_ble_eq_true rfl) ?_
  have lp5 : ∀ (k5 : Nat) (q n : Nat), 256 < q + k5 → q ≤ 256 → n = cSz (D 105) ly a q → ja_A l (mX8_sizeOf 0 0) ja_sn (ja_Qf (mX8_sizeOf 0 0) (ja_jr (some (.int (nI (cSz (D 105) ly a 256)))) Z D) ja_x0) 5 [some (.ref (100)), some (.int (nI (ly))), some (.int (a)), some (.int (nI (n))), some (.int (nI (q)))] [] Z D 0 0 := by
    intro k5
    induction k5 with
    | zero => intro q n hk hq hn; exfalso; omega
    | succ k5 ih5 =>
      intro q n hk hq hn
      refine ja_iload (i := 4) dX8_sizeOf_5 rfl ?_
      refine ja_sipush (v := nI 256) dX8_sizeOf_7 (by decide +kernel) ?_
      refine ja_icmpN_ge (tgt := 38) dX8_sizeOf_10 (by decide) (by omega) (by omega) (fun c10 => ?_) (fun c10 => ?_)
      ·
        refine ja_iload_n (i := 3) dX8_sizeOf_38 rfl rfl ?_
        refine ja_iret rfl rfl dX8_sizeOf_39 (Nat.zero_le _) (Nat.zero_le _) ?_
        refine ⟨?_, rfl, rfl⟩
        rw [hn, show q = 256 by omega]
      ·
        refine ja_iload_n (i := 3) dX8_sizeOf_13 rfl rfl ?_
        refine ja_aload_n (i := 0) dX8_sizeOf_14 rfl rfl ?_
        refine ja_iload_n (i := 1) dX8_sizeOf_15 rfl rfl ?_
        refine ja_iload (i := 4) dX8_sizeOf_16 rfl ?_
        refine ja_cVr (st := [.int (nI (n))]) (s_at (D := D) l hz (ly := ly) (q := q) (by omega) (by omega)) rfl rfl (ce_X8_at 0 0) im_X8_at se_X8_at lk_X8_92 k_X8 (zM_s hz) ⟨(Nat.le_of_ble_eq_true rfl), (Nat.le_of_ble_eq_true rfl)⟩ dX8_sizeOf_18 rfl rfl (Nat.le_of_ble_eq_true rfl) (Nat.zero_le _) (Nat.zero_le _) ?_
        refine ja_iload_n (i := 2) dX8_sizeOf_21 rfl rfl ?_
        refine ja_icmp_ne (tgt := 29) dX8_sizeOf_22 (by decide) (fun c22 => ?_) (fun c22 => ?_)
        ·
          refine ja_iconst (v := nI 0) dX8_sizeOf_29 (by decide +kernel) ?_
          refine ja_iaddN dX8_sizeOf_30 ?_
          refine ja_istore_n (i := 3) dX8_sizeOf_31 rfl rfl (Nat.le_of_ble_eq_true rfl) ?_
          refine ja_iincN dX8_sizeOf_32 rfl rfl (Nat.le_of_ble_eq_true rfl) ?_
          refine ja_goto (tgt := 5) dX8_sizeOf_35 (by decide) ?_
          exact ih5 (q + 1) _ (by omega) (by omega) (by rw [hn, cSz, cSz, fb_ct_succ]; simp [c22])
        ·
          refine ja_iconst (v := nI 1) dX8_sizeOf_25 (by decide +kernel) ?_
          refine ja_goto (tgt := 30) dX8_sizeOf_26 (by decide) ?_
          refine ja_iaddN dX8_sizeOf_30 ?_
          refine ja_istore_n (i := 3) dX8_sizeOf_31 rfl rfl (Nat.le_of_ble_eq_true rfl) ?_
          refine ja_iincN dX8_sizeOf_32 rfl rfl (Nat.le_of_ble_eq_true rfl) ?_
          refine ja_goto (tgt := 5) dX8_sizeOf_35 (by decide) ?_
          exact ih5 (q + 1) _ (by omega) (by omega) (by rw [hn, cSz, cSz, fb_ct_succ]; simp [c22])
  exact lp5 257 0 0 (by omega) (by omega) rfl

set_option maxRecDepth 100000 in
set_option maxHeartbeats 4000000 in
theorem s_beside0i (l : Launch) {Z : jZ} {D : jD} {q : Nat} (hq : q < 256) (h : q % 16 < 15) : ja_M l (mX8_beside 0 0) [.int (nI (q)), .int (nI (0))] Z D (ja_jr (some (.int (nI (q + 1)))) Z D) ja_x0 := by
  refine ja_Mof (lv := [some (.int (nI (q))), some (.int (nI (0))), none, none]) (by decide +kernel) rfl rfl (Nat.le_of_ble_eq_true rfl) rfl ?_
  refine ja_iload_n (i := 0) dX8_beside_0 rfl rfl ?_
  refine ja_bipush (v := nI 16) dX8_beside_1 (by decide +kernel) ?_
  refine ja_iremN dX8_beside_3 (by omega) (by omega) (by omega) ?_
  refine ja_iload_n (i := 1) dX8_beside_4 rfl rfl ?_
  refine ja_ifN_ne (tgt := 12) dX8_beside_5 (by decide) (by omega) (fun c5 => absurd c5 (by decide)) (fun c5 => ?_)
  refine ja_iconst (v := nI 1) dX8_beside_8 (by decide +kernel) ?_
  refine ja_goto (tgt := 22) dX8_beside_9 (by decide) ?_
  refine ja_iaddN dX8_beside_22 ?_
  refine ja_istore_n (i := 2) dX8_beside_23 rfl rfl (Nat.le_of_ble_eq_true rfl) ?_
  refine ja_iload_n (i := 0) dX8_beside_24 rfl rfl ?_
  refine ja_bipush (v := nI 16) dX8_beside_25 (by decide +kernel) ?_
  refine ja_idivN dX8_beside_27 (by omega) (by omega) (by omega) ?_
  refine ja_iload_n (i := 1) dX8_beside_28 rfl rfl ?_
  refine ja_iconst (v := nI 2) dX8_beside_29 (by decide +kernel) ?_
  refine ja_icmpN_ne (tgt := 37) dX8_beside_30 (by decide) (by omega) (by omega) (fun c30 => ?_) (fun c30 => absurd c30 (by decide))
  refine ja_iload_n (i := 1) dX8_beside_37 rfl rfl ?_
  refine ja_iconst (v := nI 3) dX8_beside_38 (by decide +kernel) ?_
  refine ja_icmpN_ne (tgt := 46) dX8_beside_39 (by decide) (by omega) (by omega) (fun c39 => ?_) (fun c39 => absurd c39 (by decide))
  refine ja_iconst (v := nI 0) dX8_beside_46 (by decide +kernel) ?_
  refine ja_iaddN dX8_beside_47 ?_
  refine ja_istore_n (i := 3) dX8_beside_48 rfl rfl (Nat.le_of_ble_eq_true rfl) ?_
  refine ja_iload_n (i := 2) dX8_beside_49 rfl rfl ?_
  refine ja_iconst (v := nI 0) dX8_beside_50 (by decide +kernel) ?_
  refine ja_bipush (v := nI 15) dX8_beside_51 (by decide +kernel) ?_
  refine ja_cSr (st := []) (s_inT l ((q % 16) + (1)) 0 15 (by omega) (by omega) (by omega)) rfl rfl (ce_X8_in 0 0) st_X8_in lk_X8_88 ⟨(Nat.le_of_ble_eq_true rfl), (Nat.le_of_ble_eq_true rfl)⟩ dX8_beside_53 rfl rfl (Nat.le_of_ble_eq_true rfl) (Nat.zero_le _) (Nat.zero_le _) ?_
  refine ja_ifB_eq (tgt := 78) dX8_beside_56 (by decide) (fun c56 => absurd c56 (by decide)) (fun c56 => ?_)
  refine ja_iload_n (i := 3) dX8_beside_59 rfl rfl ?_
  refine ja_iconst (v := nI 0) dX8_beside_60 (by decide +kernel) ?_
  refine ja_bipush (v := nI 15) dX8_beside_61 (by decide +kernel) ?_
  refine ja_cSr (st := []) (s_inT l ((q / 16) + (0)) 0 15 (by omega) (by omega) (by omega)) rfl rfl (ce_X8_in 0 0) st_X8_in lk_X8_88 ⟨(Nat.le_of_ble_eq_true rfl), (Nat.le_of_ble_eq_true rfl)⟩ dX8_beside_63 rfl rfl (Nat.le_of_ble_eq_true rfl) (Nat.zero_le _) (Nat.zero_le _) ?_
  refine ja_ifB_eq (tgt := 78) dX8_beside_66 (by decide) (fun c66 => absurd c66 (by decide)) (fun c66 => ?_)
  refine ja_bipush (v := nI 16) dX8_beside_69 (by decide +kernel) ?_
  refine ja_iload_n (i := 3) dX8_beside_71 rfl rfl ?_
  refine ja_imulN dX8_beside_72 ?_
  refine ja_iload_n (i := 2) dX8_beside_73 rfl rfl ?_
  refine ja_iaddN dX8_beside_74 ?_
  refine ja_goto (tgt := 79) dX8_beside_75 (by decide) ?_
  refine ja_iret rfl rfl dX8_beside_79 (Nat.zero_le _) (Nat.zero_le _) ?_
  refine ⟨?_, rfl, rfl⟩
  congr 2; apply congrArg nI; omega

set_option maxRecDepth 100000 in
set_option maxHeartbeats 4000000 in
theorem s_beside0o (l : Launch) {Z : jZ} {D : jD} {q : Nat} (hq : q < 256) (h : ¬ q % 16 < 15) : ja_M l (mX8_beside 0 0) [.int (nI (q)), .int (nI (0))] Z D (ja_jr (some (.int ((-1)))) Z D) ja_x0 := by
  refine ja_Mof (lv := [some (.int (nI (q))), some (.int (nI (0))), none, none]) (by decide +kernel) rfl rfl (Nat.le_of_ble_eq_true rfl) rfl ?_
  refine ja_iload_n (i := 0) dX8_beside_0 rfl rfl ?_
  refine ja_bipush (v := nI 16) dX8_beside_1 (by decide +kernel) ?_
  refine ja_iremN dX8_beside_3 (by omega) (by omega) (by omega) ?_
  refine ja_iload_n (i := 1) dX8_beside_4 rfl rfl ?_
  refine ja_ifN_ne (tgt := 12) dX8_beside_5 (by decide) (by omega) (fun c5 => absurd c5 (by decide)) (fun c5 => ?_)
  refine ja_iconst (v := nI 1) dX8_beside_8 (by decide +kernel) ?_
  refine ja_goto (tgt := 22) dX8_beside_9 (by decide) ?_
  refine ja_iaddN dX8_beside_22 ?_
  refine ja_istore_n (i := 2) dX8_beside_23 rfl rfl (Nat.le_of_ble_eq_true rfl) ?_
  refine ja_iload_n (i := 0) dX8_beside_24 rfl rfl ?_
  refine ja_bipush (v := nI 16) dX8_beside_25 (by decide +kernel) ?_
  refine ja_idivN dX8_beside_27 (by omega) (by omega) (by omega) ?_
  refine ja_iload_n (i := 1) dX8_beside_28 rfl rfl ?_
  refine ja_iconst (v := nI 2) dX8_beside_29 (by decide +kernel) ?_
  refine ja_icmpN_ne (tgt := 37) dX8_beside_30 (by decide) (by omega) (by omega) (fun c30 => ?_) (fun c30 => absurd c30 (by decide))
  refine ja_iload_n (i := 1) dX8_beside_37 rfl rfl ?_
  refine ja_iconst (v := nI 3) dX8_beside_38 (by decide +kernel) ?_
  refine ja_icmpN_ne (tgt := 46) dX8_beside_39 (by decide) (by omega) (by omega) (fun c39 => ?_) (fun c39 => absurd c39 (by decide))
  refine ja_iconst (v := nI 0) dX8_beside_46 (by decide +kernel) ?_
  refine ja_iaddN dX8_beside_47 ?_
  refine ja_istore_n (i := 3) dX8_beside_48 rfl rfl (Nat.le_of_ble_eq_true rfl) ?_
  refine ja_iload_n (i := 2) dX8_beside_49 rfl rfl ?_
  refine ja_iconst (v := nI 0) dX8_beside_50 (by decide +kernel) ?_
  refine ja_bipush (v := nI 15) dX8_beside_51 (by decide +kernel) ?_
  refine ja_cSr (st := []) (s_inF l (nI ((q % 16) + (1))) (nI (0)) (nI (15)) (by rw [nI_leI (by omega) (by omega)]; rw [nI_leI (by omega) (by omega)]; omega)) rfl rfl (ce_X8_in 0 0) st_X8_in lk_X8_88 ⟨(Nat.le_of_ble_eq_true rfl), (Nat.le_of_ble_eq_true rfl)⟩ dX8_beside_53 rfl rfl (Nat.le_of_ble_eq_true rfl) (Nat.zero_le _) (Nat.zero_le _) ?_
  refine ja_ifB_eq (tgt := 78) dX8_beside_56 (by decide) (fun c56 => ?_) (fun c56 => absurd c56 (by decide))
  refine ja_iconst (v := (-1)) dX8_beside_78 (by decide +kernel) ?_
  refine ja_iret rfl rfl dX8_beside_79 (Nat.zero_le _) (Nat.zero_le _) ?_
  refine ⟨?_, rfl, rfl⟩
  rfl

set_option maxRecDepth 100000 in
set_option maxHeartbeats 4000000 in
theorem s_beside1i (l : Launch) {Z : jZ} {D : jD} {q : Nat} (hq : q < 256) (h : 0 < q % 16) : ja_M l (mX8_beside 0 0) [.int (nI (q)), .int (nI (1))] Z D (ja_jr (some (.int (nI (q - 1)))) Z D) ja_x0 := by
  refine ja_Mof (lv := [some (.int (nI (q))), some (.int (nI (1))), none, none]) (by decide +kernel) rfl rfl (Nat.le_of_ble_eq_true rfl) rfl ?_
  refine ja_iload_n (i := 0) dX8_beside_0 rfl rfl ?_
  refine ja_bipush (v := nI 16) dX8_beside_1 (by decide +kernel) ?_
  refine ja_iremN dX8_beside_3 (by omega) (by omega) (by omega) ?_
  refine ja_iload_n (i := 1) dX8_beside_4 rfl rfl ?_
  refine ja_ifN_ne (tgt := 12) dX8_beside_5 (by decide) (by omega) (fun c5 => ?_) (fun c5 => absurd c5 (by decide))
  refine ja_iload_n (i := 1) dX8_beside_12 rfl rfl ?_
  refine ja_iconst (v := nI 1) dX8_beside_13 (by decide +kernel) ?_
  refine ja_icmpN_ne (tgt := 21) dX8_beside_14 (by decide) (by omega) (by omega) (fun c14 => absurd c14 (by decide)) (fun c14 => ?_)
  refine ja_iconst (v := (-1)) dX8_beside_17 (by decide +kernel) ?_
  refine ja_goto (tgt := 22) dX8_beside_18 (by decide) ?_
  refine ja_iadd dX8_beside_22 ?_
  refine ja_top (ii_neg1 h) ?_
  refine ja_istore_n (i := 2) dX8_beside_23 rfl rfl (Nat.le_of_ble_eq_true rfl) ?_
  refine ja_iload_n (i := 0) dX8_beside_24 rfl rfl ?_
  refine ja_bipush (v := nI 16) dX8_beside_25 (by decide +kernel) ?_
  refine ja_idivN dX8_beside_27 (by omega) (by omega) (by omega) ?_
  refine ja_iload_n (i := 1) dX8_beside_28 rfl rfl ?_
  refine ja_iconst (v := nI 2) dX8_beside_29 (by decide +kernel) ?_
  refine ja_icmpN_ne (tgt := 37) dX8_beside_30 (by decide) (by omega) (by omega) (fun c30 => ?_) (fun c30 => absurd c30 (by decide))
  refine ja_iload_n (i := 1) dX8_beside_37 rfl rfl ?_
  refine ja_iconst (v := nI 3) dX8_beside_38 (by decide +kernel) ?_
  refine ja_icmpN_ne (tgt := 46) dX8_beside_39 (by decide) (by omega) (by omega) (fun c39 => ?_) (fun c39 => absurd c39 (by decide))
  refine ja_iconst (v := nI 0) dX8_beside_46 (by decide +kernel) ?_
  refine ja_iaddN dX8_beside_47 ?_
  refine ja_istore_n (i := 3) dX8_beside_48 rfl rfl (Nat.le_of_ble_eq_true rfl) ?_
  refine ja_iload_n (i := 2) dX8_beside_49 rfl rfl ?_
  refine ja_iconst (v := nI 0) dX8_beside_50 (by decide +kernel) ?_
  refine ja_bipush (v := nI 15) dX8_beside_51 (by decide +kernel) ?_
  refine ja_cSr (st := []) (s_inT l (q % 16 - 1) 0 15 (by omega) (by omega) (by omega)) rfl rfl (ce_X8_in 0 0) st_X8_in lk_X8_88 ⟨(Nat.le_of_ble_eq_true rfl), (Nat.le_of_ble_eq_true rfl)⟩ dX8_beside_53 rfl rfl (Nat.le_of_ble_eq_true rfl) (Nat.zero_le _) (Nat.zero_le _) ?_
  refine ja_ifB_eq (tgt := 78) dX8_beside_56 (by decide) (fun c56 => absurd c56 (by decide)) (fun c56 => ?_)
  refine ja_iload_n (i := 3) dX8_beside_59 rfl rfl ?_
  refine ja_iconst (v := nI 0) dX8_beside_60 (by decide +kernel) ?_
  refine ja_bipush (v := nI 15) dX8_beside_61 (by decide +kernel) ?_
  refine ja_cSr (st := []) (s_inT l ((q / 16) + (0)) 0 15 (by omega) (by omega) (by omega)) rfl rfl (ce_X8_in 0 0) st_X8_in lk_X8_88 ⟨(Nat.le_of_ble_eq_true rfl), (Nat.le_of_ble_eq_true rfl)⟩ dX8_beside_63 rfl rfl (Nat.le_of_ble_eq_true rfl) (Nat.zero_le _) (Nat.zero_le _) ?_
  refine ja_ifB_eq (tgt := 78) dX8_beside_66 (by decide) (fun c66 => absurd c66 (by decide)) (fun c66 => ?_)
  refine ja_bipush (v := nI 16) dX8_beside_69 (by decide +kernel) ?_
  refine ja_iload_n (i := 3) dX8_beside_71 rfl rfl ?_
  refine ja_imulN dX8_beside_72 ?_
  refine ja_iload_n (i := 2) dX8_beside_73 rfl rfl ?_
  refine ja_iaddN dX8_beside_74 ?_
  refine ja_goto (tgt := 79) dX8_beside_75 (by decide) ?_
  refine ja_iret rfl rfl dX8_beside_79 (Nat.zero_le _) (Nat.zero_le _) ?_
  refine ⟨?_, rfl, rfl⟩
  congr 2; apply congrArg nI; omega

set_option maxRecDepth 100000 in
set_option maxHeartbeats 4000000 in
theorem s_beside1o (l : Launch) {Z : jZ} {D : jD} {q : Nat} (hq : q < 256) (h : ¬ 0 < q % 16) : ja_M l (mX8_beside 0 0) [.int (nI (q)), .int (nI (1))] Z D (ja_jr (some (.int ((-1)))) Z D) ja_x0 := by
  refine ja_Mof (lv := [some (.int (nI (q))), some (.int (nI (1))), none, none]) (by decide +kernel) rfl rfl (Nat.le_of_ble_eq_true rfl) rfl ?_
  refine ja_iload_n (i := 0) dX8_beside_0 rfl rfl ?_
  refine ja_bipush (v := nI 16) dX8_beside_1 (by decide +kernel) ?_
  refine ja_iremN dX8_beside_3 (by omega) (by omega) (by omega) ?_
  refine ja_iload_n (i := 1) dX8_beside_4 rfl rfl ?_
  refine ja_ifN_ne (tgt := 12) dX8_beside_5 (by decide) (by omega) (fun c5 => ?_) (fun c5 => absurd c5 (by decide))
  refine ja_iload_n (i := 1) dX8_beside_12 rfl rfl ?_
  refine ja_iconst (v := nI 1) dX8_beside_13 (by decide +kernel) ?_
  refine ja_icmpN_ne (tgt := 21) dX8_beside_14 (by decide) (by omega) (by omega) (fun c14 => absurd c14 (by decide)) (fun c14 => ?_)
  refine ja_iconst (v := (-1)) dX8_beside_17 (by decide +kernel) ?_
  refine ja_goto (tgt := 22) dX8_beside_18 (by decide) ?_
  refine ja_iadd dX8_beside_22 ?_
  refine ja_top (by rw [show q % 16 = 0 by omega]) ?_
  refine ja_istore_n (i := 2) dX8_beside_23 rfl rfl (Nat.le_of_ble_eq_true rfl) ?_
  refine ja_iload_n (i := 0) dX8_beside_24 rfl rfl ?_
  refine ja_bipush (v := nI 16) dX8_beside_25 (by decide +kernel) ?_
  refine ja_idivN dX8_beside_27 (by omega) (by omega) (by omega) ?_
  refine ja_iload_n (i := 1) dX8_beside_28 rfl rfl ?_
  refine ja_iconst (v := nI 2) dX8_beside_29 (by decide +kernel) ?_
  refine ja_icmpN_ne (tgt := 37) dX8_beside_30 (by decide) (by omega) (by omega) (fun c30 => ?_) (fun c30 => absurd c30 (by decide))
  refine ja_iload_n (i := 1) dX8_beside_37 rfl rfl ?_
  refine ja_iconst (v := nI 3) dX8_beside_38 (by decide +kernel) ?_
  refine ja_icmpN_ne (tgt := 46) dX8_beside_39 (by decide) (by omega) (by omega) (fun c39 => ?_) (fun c39 => absurd c39 (by decide))
  refine ja_iconst (v := nI 0) dX8_beside_46 (by decide +kernel) ?_
  refine ja_iaddN dX8_beside_47 ?_
  refine ja_istore_n (i := 3) dX8_beside_48 rfl rfl (Nat.le_of_ble_eq_true rfl) ?_
  refine ja_iload_n (i := 2) dX8_beside_49 rfl rfl ?_
  refine ja_iconst (v := nI 0) dX8_beside_50 (by decide +kernel) ?_
  refine ja_bipush (v := nI 15) dX8_beside_51 (by decide +kernel) ?_
  refine ja_cSr (st := []) (s_inF l ((-1)) (nI (0)) (nI (15)) (by decide +kernel)) rfl rfl (ce_X8_in 0 0) st_X8_in lk_X8_88 ⟨(Nat.le_of_ble_eq_true rfl), (Nat.le_of_ble_eq_true rfl)⟩ dX8_beside_53 rfl rfl (Nat.le_of_ble_eq_true rfl) (Nat.zero_le _) (Nat.zero_le _) ?_
  refine ja_ifB_eq (tgt := 78) dX8_beside_56 (by decide) (fun c56 => ?_) (fun c56 => absurd c56 (by decide))
  refine ja_iconst (v := (-1)) dX8_beside_78 (by decide +kernel) ?_
  refine ja_iret rfl rfl dX8_beside_79 (Nat.zero_le _) (Nat.zero_le _) ?_
  refine ⟨?_, rfl, rfl⟩
  rfl

set_option maxRecDepth 100000 in
set_option maxHeartbeats 4000000 in
theorem s_beside2i (l : Launch) {Z : jZ} {D : jD} {q : Nat} (hq : q < 256) (h : q / 16 < 15) : ja_M l (mX8_beside 0 0) [.int (nI (q)), .int (nI (2))] Z D (ja_jr (some (.int (nI (q + 16)))) Z D) ja_x0 := by
  refine ja_Mof (lv := [some (.int (nI (q))), some (.int (nI (2))), none, none]) (by decide +kernel) rfl rfl (Nat.le_of_ble_eq_true rfl) rfl ?_
  refine ja_iload_n (i := 0) dX8_beside_0 rfl rfl ?_
  refine ja_bipush (v := nI 16) dX8_beside_1 (by decide +kernel) ?_
  refine ja_iremN dX8_beside_3 (by omega) (by omega) (by omega) ?_
  refine ja_iload_n (i := 1) dX8_beside_4 rfl rfl ?_
  refine ja_ifN_ne (tgt := 12) dX8_beside_5 (by decide) (by omega) (fun c5 => ?_) (fun c5 => absurd c5 (by decide))
  refine ja_iload_n (i := 1) dX8_beside_12 rfl rfl ?_
  refine ja_iconst (v := nI 1) dX8_beside_13 (by decide +kernel) ?_
  refine ja_icmpN_ne (tgt := 21) dX8_beside_14 (by decide) (by omega) (by omega) (fun c14 => ?_) (fun c14 => absurd c14 (by decide))
  refine ja_iconst (v := nI 0) dX8_beside_21 (by decide +kernel) ?_
  refine ja_iaddN dX8_beside_22 ?_
  refine ja_istore_n (i := 2) dX8_beside_23 rfl rfl (Nat.le_of_ble_eq_true rfl) ?_
  refine ja_iload_n (i := 0) dX8_beside_24 rfl rfl ?_
  refine ja_bipush (v := nI 16) dX8_beside_25 (by decide +kernel) ?_
  refine ja_idivN dX8_beside_27 (by omega) (by omega) (by omega) ?_
  refine ja_iload_n (i := 1) dX8_beside_28 rfl rfl ?_
  refine ja_iconst (v := nI 2) dX8_beside_29 (by decide +kernel) ?_
  refine ja_icmpN_ne (tgt := 37) dX8_beside_30 (by decide) (by omega) (by omega) (fun c30 => absurd c30 (by decide)) (fun c30 => ?_)
  refine ja_iconst (v := nI 1) dX8_beside_33 (by decide +kernel) ?_
  refine ja_goto (tgt := 47) dX8_beside_34 (by decide) ?_
  refine ja_iaddN dX8_beside_47 ?_
  refine ja_istore_n (i := 3) dX8_beside_48 rfl rfl (Nat.le_of_ble_eq_true rfl) ?_
  refine ja_iload_n (i := 2) dX8_beside_49 rfl rfl ?_
  refine ja_iconst (v := nI 0) dX8_beside_50 (by decide +kernel) ?_
  refine ja_bipush (v := nI 15) dX8_beside_51 (by decide +kernel) ?_
  refine ja_cSr (st := []) (s_inT l ((q % 16) + (0)) 0 15 (by omega) (by omega) (by omega)) rfl rfl (ce_X8_in 0 0) st_X8_in lk_X8_88 ⟨(Nat.le_of_ble_eq_true rfl), (Nat.le_of_ble_eq_true rfl)⟩ dX8_beside_53 rfl rfl (Nat.le_of_ble_eq_true rfl) (Nat.zero_le _) (Nat.zero_le _) ?_
  refine ja_ifB_eq (tgt := 78) dX8_beside_56 (by decide) (fun c56 => absurd c56 (by decide)) (fun c56 => ?_)
  refine ja_iload_n (i := 3) dX8_beside_59 rfl rfl ?_
  refine ja_iconst (v := nI 0) dX8_beside_60 (by decide +kernel) ?_
  refine ja_bipush (v := nI 15) dX8_beside_61 (by decide +kernel) ?_
  refine ja_cSr (st := []) (s_inT l ((q / 16) + (1)) 0 15 (by omega) (by omega) (by omega)) rfl rfl (ce_X8_in 0 0) st_X8_in lk_X8_88 ⟨(Nat.le_of_ble_eq_true rfl), (Nat.le_of_ble_eq_true rfl)⟩ dX8_beside_63 rfl rfl (Nat.le_of_ble_eq_true rfl) (Nat.zero_le _) (Nat.zero_le _) ?_
  refine ja_ifB_eq (tgt := 78) dX8_beside_66 (by decide) (fun c66 => absurd c66 (by decide)) (fun c66 => ?_)
  refine ja_bipush (v := nI 16) dX8_beside_69 (by decide +kernel) ?_
  refine ja_iload_n (i := 3) dX8_beside_71 rfl rfl ?_
  refine ja_imulN dX8_beside_72 ?_
  refine ja_iload_n (i := 2) dX8_beside_73 rfl rfl ?_
  refine ja_iaddN dX8_beside_74 ?_
  refine ja_goto (tgt := 79) dX8_beside_75 (by decide) ?_
  refine ja_iret rfl rfl dX8_beside_79 (Nat.zero_le _) (Nat.zero_le _) ?_
  refine ⟨?_, rfl, rfl⟩
  congr 2; apply congrArg nI; omega

set_option maxRecDepth 100000 in
set_option maxHeartbeats 4000000 in
theorem s_beside2o (l : Launch) {Z : jZ} {D : jD} {q : Nat} (hq : q < 256) (h : ¬ q / 16 < 15) : ja_M l (mX8_beside 0 0) [.int (nI (q)), .int (nI (2))] Z D (ja_jr (some (.int ((-1)))) Z D) ja_x0 := by
  refine ja_Mof (lv := [some (.int (nI (q))), some (.int (nI (2))), none, none]) (by decide +kernel) rfl rfl (Nat.le_of_ble_eq_true rfl) rfl ?_
  refine ja_iload_n (i := 0) dX8_beside_0 rfl rfl ?_
  refine ja_bipush (v := nI 16) dX8_beside_1 (by decide +kernel) ?_
  refine ja_iremN dX8_beside_3 (by omega) (by omega) (by omega) ?_
  refine ja_iload_n (i := 1) dX8_beside_4 rfl rfl ?_
  refine ja_ifN_ne (tgt := 12) dX8_beside_5 (by decide) (by omega) (fun c5 => ?_) (fun c5 => absurd c5 (by decide))
  refine ja_iload_n (i := 1) dX8_beside_12 rfl rfl ?_
  refine ja_iconst (v := nI 1) dX8_beside_13 (by decide +kernel) ?_
  refine ja_icmpN_ne (tgt := 21) dX8_beside_14 (by decide) (by omega) (by omega) (fun c14 => ?_) (fun c14 => absurd c14 (by decide))
  refine ja_iconst (v := nI 0) dX8_beside_21 (by decide +kernel) ?_
  refine ja_iaddN dX8_beside_22 ?_
  refine ja_istore_n (i := 2) dX8_beside_23 rfl rfl (Nat.le_of_ble_eq_true rfl) ?_
  refine ja_iload_n (i := 0) dX8_beside_24 rfl rfl ?_
  refine ja_bipush (v := nI 16) dX8_beside_25 (by decide +kernel) ?_
  refine ja_idivN dX8_beside_27 (by omega) (by omega) (by omega) ?_
  refine ja_iload_n (i := 1) dX8_beside_28 rfl rfl ?_
  refine ja_iconst (v := nI 2) dX8_beside_29 (by decide +kernel) ?_
  refine ja_icmpN_ne (tgt := 37) dX8_beside_30 (by decide) (by omega) (by omega) (fun c30 => absurd c30 (by decide)) (fun c30 => ?_)
  refine ja_iconst (v := nI 1) dX8_beside_33 (by decide +kernel) ?_
  refine ja_goto (tgt := 47) dX8_beside_34 (by decide) ?_
  refine ja_iaddN dX8_beside_47 ?_
  refine ja_istore_n (i := 3) dX8_beside_48 rfl rfl (Nat.le_of_ble_eq_true rfl) ?_
  refine ja_iload_n (i := 2) dX8_beside_49 rfl rfl ?_
  refine ja_iconst (v := nI 0) dX8_beside_50 (by decide +kernel) ?_
  refine ja_bipush (v := nI 15) dX8_beside_51 (by decide +kernel) ?_
  refine ja_cSr (st := []) (s_inT l ((q % 16) + (0)) 0 15 (by omega) (by omega) (by omega)) rfl rfl (ce_X8_in 0 0) st_X8_in lk_X8_88 ⟨(Nat.le_of_ble_eq_true rfl), (Nat.le_of_ble_eq_true rfl)⟩ dX8_beside_53 rfl rfl (Nat.le_of_ble_eq_true rfl) (Nat.zero_le _) (Nat.zero_le _) ?_
  refine ja_ifB_eq (tgt := 78) dX8_beside_56 (by decide) (fun c56 => absurd c56 (by decide)) (fun c56 => ?_)
  refine ja_iload_n (i := 3) dX8_beside_59 rfl rfl ?_
  refine ja_iconst (v := nI 0) dX8_beside_60 (by decide +kernel) ?_
  refine ja_bipush (v := nI 15) dX8_beside_61 (by decide +kernel) ?_
  refine ja_cSr (st := []) (s_inF l (nI ((q / 16) + (1))) (nI (0)) (nI (15)) (by rw [nI_leI (by omega) (by omega)]; rw [nI_leI (by omega) (by omega)]; omega)) rfl rfl (ce_X8_in 0 0) st_X8_in lk_X8_88 ⟨(Nat.le_of_ble_eq_true rfl), (Nat.le_of_ble_eq_true rfl)⟩ dX8_beside_63 rfl rfl (Nat.le_of_ble_eq_true rfl) (Nat.zero_le _) (Nat.zero_le _) ?_
  refine ja_ifB_eq (tgt := 78) dX8_beside_66 (by decide) (fun c66 => ?_) (fun c66 => absurd c66 (by decide))
  refine ja_iconst (v := (-1)) dX8_beside_78 (by decide +kernel) ?_
  refine ja_iret rfl rfl dX8_beside_79 (Nat.zero_le _) (Nat.zero_le _) ?_
  refine ⟨?_, rfl, rfl⟩
  rfl

set_option maxRecDepth 100000 in
set_option maxHeartbeats 4000000 in
theorem s_beside3i (l : Launch) {Z : jZ} {D : jD} {q : Nat} (hq : q < 256) (h : 0 < q / 16) : ja_M l (mX8_beside 0 0) [.int (nI (q)), .int (nI (3))] Z D (ja_jr (some (.int (nI (q - 16)))) Z D) ja_x0 := by
  refine ja_Mof (lv := [some (.int (nI (q))), some (.int (nI (3))), none, none]) (by decide +kernel) rfl rfl (Nat.le_of_ble_eq_true rfl) rfl ?_
  refine ja_iload_n (i := 0) dX8_beside_0 rfl rfl ?_
  refine ja_bipush (v := nI 16) dX8_beside_1 (by decide +kernel) ?_
  refine ja_iremN dX8_beside_3 (by omega) (by omega) (by omega) ?_
  refine ja_iload_n (i := 1) dX8_beside_4 rfl rfl ?_
  refine ja_ifN_ne (tgt := 12) dX8_beside_5 (by decide) (by omega) (fun c5 => ?_) (fun c5 => absurd c5 (by decide))
  refine ja_iload_n (i := 1) dX8_beside_12 rfl rfl ?_
  refine ja_iconst (v := nI 1) dX8_beside_13 (by decide +kernel) ?_
  refine ja_icmpN_ne (tgt := 21) dX8_beside_14 (by decide) (by omega) (by omega) (fun c14 => ?_) (fun c14 => absurd c14 (by decide))
  refine ja_iconst (v := nI 0) dX8_beside_21 (by decide +kernel) ?_
  refine ja_iaddN dX8_beside_22 ?_
  refine ja_istore_n (i := 2) dX8_beside_23 rfl rfl (Nat.le_of_ble_eq_true rfl) ?_
  refine ja_iload_n (i := 0) dX8_beside_24 rfl rfl ?_
  refine ja_bipush (v := nI 16) dX8_beside_25 (by decide +kernel) ?_
  refine ja_idivN dX8_beside_27 (by omega) (by omega) (by omega) ?_
  refine ja_iload_n (i := 1) dX8_beside_28 rfl rfl ?_
  refine ja_iconst (v := nI 2) dX8_beside_29 (by decide +kernel) ?_
  refine ja_icmpN_ne (tgt := 37) dX8_beside_30 (by decide) (by omega) (by omega) (fun c30 => ?_) (fun c30 => absurd c30 (by decide))
  refine ja_iload_n (i := 1) dX8_beside_37 rfl rfl ?_
  refine ja_iconst (v := nI 3) dX8_beside_38 (by decide +kernel) ?_
  refine ja_icmpN_ne (tgt := 46) dX8_beside_39 (by decide) (by omega) (by omega) (fun c39 => absurd c39 (by decide)) (fun c39 => ?_)
  refine ja_iconst (v := (-1)) dX8_beside_42 (by decide +kernel) ?_
  refine ja_goto (tgt := 47) dX8_beside_43 (by decide) ?_
  refine ja_iadd dX8_beside_47 ?_
  refine ja_top (ii_neg1 h) ?_
  refine ja_istore_n (i := 3) dX8_beside_48 rfl rfl (Nat.le_of_ble_eq_true rfl) ?_
  refine ja_iload_n (i := 2) dX8_beside_49 rfl rfl ?_
  refine ja_iconst (v := nI 0) dX8_beside_50 (by decide +kernel) ?_
  refine ja_bipush (v := nI 15) dX8_beside_51 (by decide +kernel) ?_
  refine ja_cSr (st := []) (s_inT l ((q % 16) + (0)) 0 15 (by omega) (by omega) (by omega)) rfl rfl (ce_X8_in 0 0) st_X8_in lk_X8_88 ⟨(Nat.le_of_ble_eq_true rfl), (Nat.le_of_ble_eq_true rfl)⟩ dX8_beside_53 rfl rfl (Nat.le_of_ble_eq_true rfl) (Nat.zero_le _) (Nat.zero_le _) ?_
  refine ja_ifB_eq (tgt := 78) dX8_beside_56 (by decide) (fun c56 => absurd c56 (by decide)) (fun c56 => ?_)
  refine ja_iload_n (i := 3) dX8_beside_59 rfl rfl ?_
  refine ja_iconst (v := nI 0) dX8_beside_60 (by decide +kernel) ?_
  refine ja_bipush (v := nI 15) dX8_beside_61 (by decide +kernel) ?_
  refine ja_cSr (st := []) (s_inT l (q / 16 - 1) 0 15 (by omega) (by omega) (by omega)) rfl rfl (ce_X8_in 0 0) st_X8_in lk_X8_88 ⟨(Nat.le_of_ble_eq_true rfl), (Nat.le_of_ble_eq_true rfl)⟩ dX8_beside_63 rfl rfl (Nat.le_of_ble_eq_true rfl) (Nat.zero_le _) (Nat.zero_le _) ?_
  refine ja_ifB_eq (tgt := 78) dX8_beside_66 (by decide) (fun c66 => absurd c66 (by decide)) (fun c66 => ?_)
  refine ja_bipush (v := nI 16) dX8_beside_69 (by decide +kernel) ?_
  refine ja_iload_n (i := 3) dX8_beside_71 rfl rfl ?_
  refine ja_imulN dX8_beside_72 ?_
  refine ja_iload_n (i := 2) dX8_beside_73 rfl rfl ?_
  refine ja_iaddN dX8_beside_74 ?_
  refine ja_goto (tgt := 79) dX8_beside_75 (by decide) ?_
  refine ja_iret rfl rfl dX8_beside_79 (Nat.zero_le _) (Nat.zero_le _) ?_
  refine ⟨?_, rfl, rfl⟩
  congr 2; apply congrArg nI; omega

set_option maxRecDepth 100000 in
set_option maxHeartbeats 4000000 in
theorem s_beside3o (l : Launch) {Z : jZ} {D : jD} {q : Nat} (hq : q < 256) (h : ¬ 0 < q / 16) : ja_M l (mX8_beside 0 0) [.int (nI (q)), .int (nI (3))] Z D (ja_jr (some (.int ((-1)))) Z D) ja_x0 := by
  refine ja_Mof (lv := [some (.int (nI (q))), some (.int (nI (3))), none, none]) (by decide +kernel) rfl rfl (Nat.le_of_ble_eq_true rfl) rfl ?_
  refine ja_iload_n (i := 0) dX8_beside_0 rfl rfl ?_
  refine ja_bipush (v := nI 16) dX8_beside_1 (by decide +kernel) ?_
  refine ja_iremN dX8_beside_3 (by omega) (by omega) (by omega) ?_
  refine ja_iload_n (i := 1) dX8_beside_4 rfl rfl ?_
  refine ja_ifN_ne (tgt := 12) dX8_beside_5 (by decide) (by omega) (fun c5 => ?_) (fun c5 => absurd c5 (by decide))
  refine ja_iload_n (i := 1) dX8_beside_12 rfl rfl ?_
  refine ja_iconst (v := nI 1) dX8_beside_13 (by decide +kernel) ?_
  refine ja_icmpN_ne (tgt := 21) dX8_beside_14 (by decide) (by omega) (by omega) (fun c14 => ?_) (fun c14 => absurd c14 (by decide))
  refine ja_iconst (v := nI 0) dX8_beside_21 (by decide +kernel) ?_
  refine ja_iaddN dX8_beside_22 ?_
  refine ja_istore_n (i := 2) dX8_beside_23 rfl rfl (Nat.le_of_ble_eq_true rfl) ?_
  refine ja_iload_n (i := 0) dX8_beside_24 rfl rfl ?_
  refine ja_bipush (v := nI 16) dX8_beside_25 (by decide +kernel) ?_
  refine ja_idivN dX8_beside_27 (by omega) (by omega) (by omega) ?_
  refine ja_iload_n (i := 1) dX8_beside_28 rfl rfl ?_
  refine ja_iconst (v := nI 2) dX8_beside_29 (by decide +kernel) ?_
  refine ja_icmpN_ne (tgt := 37) dX8_beside_30 (by decide) (by omega) (by omega) (fun c30 => ?_) (fun c30 => absurd c30 (by decide))
  refine ja_iload_n (i := 1) dX8_beside_37 rfl rfl ?_
  refine ja_iconst (v := nI 3) dX8_beside_38 (by decide +kernel) ?_
  refine ja_icmpN_ne (tgt := 46) dX8_beside_39 (by decide) (by omega) (by omega) (fun c39 => absurd c39 (by decide)) (fun c39 => ?_)
  refine ja_iconst (v := (-1)) dX8_beside_42 (by decide +kernel) ?_
  refine ja_goto (tgt := 47) dX8_beside_43 (by decide) ?_
  refine ja_iadd dX8_beside_47 ?_
  refine ja_top (by rw [show q / 16 = 0 by omega]) ?_
  refine ja_istore_n (i := 3) dX8_beside_48 rfl rfl (Nat.le_of_ble_eq_true rfl) ?_
  refine ja_iload_n (i := 2) dX8_beside_49 rfl rfl ?_
  refine ja_iconst (v := nI 0) dX8_beside_50 (by decide +kernel) ?_
  refine ja_bipush (v := nI 15) dX8_beside_51 (by decide +kernel) ?_
  refine ja_cSr (st := []) (s_inT l ((q % 16) + (0)) 0 15 (by omega) (by omega) (by omega)) rfl rfl (ce_X8_in 0 0) st_X8_in lk_X8_88 ⟨(Nat.le_of_ble_eq_true rfl), (Nat.le_of_ble_eq_true rfl)⟩ dX8_beside_53 rfl rfl (Nat.le_of_ble_eq_true rfl) (Nat.zero_le _) (Nat.zero_le _) ?_
  refine ja_ifB_eq (tgt := 78) dX8_beside_56 (by decide) (fun c56 => absurd c56 (by decide)) (fun c56 => ?_)
  refine ja_iload_n (i := 3) dX8_beside_59 rfl rfl ?_
  refine ja_iconst (v := nI 0) dX8_beside_60 (by decide +kernel) ?_
  refine ja_bipush (v := nI 15) dX8_beside_61 (by decide +kernel) ?_
  refine ja_cSr (st := []) (s_inF l ((-1)) (nI (0)) (nI (15)) (by decide +kernel)) rfl rfl (ce_X8_in 0 0) st_X8_in lk_X8_88 ⟨(Nat.le_of_ble_eq_true rfl), (Nat.le_of_ble_eq_true rfl)⟩ dX8_beside_63 rfl rfl (Nat.le_of_ble_eq_true rfl) (Nat.zero_le _) (Nat.zero_le _) ?_
  refine ja_ifB_eq (tgt := 78) dX8_beside_66 (by decide) (fun c66 => ?_) (fun c66 => absurd c66 (by decide))
  refine ja_iconst (v := (-1)) dX8_beside_78 (by decide +kernel) ?_
  refine ja_iret rfl rfl dX8_beside_79 (Nat.zero_le _) (Nat.zero_le _) ?_
  refine ⟨?_, rfl, rfl⟩
  rfl

theorem s_beside (l : Launch) {Z : jZ} {D : jD} {q side : Nat} (hq : q < 256) (hs : side < 4) : ja_M l (mX8_beside 0 0) [.int (nI q), .int (nI side)] Z D (ja_jr (some (.int (oI (nbM side q)))) Z D) ja_x0 := by
  rcases (show side = 0 ∨ side = 1 ∨ side = 2 ∨ side = 3 by omega) with rfl | rfl | rfl | rfl
  · unfold nbM nR
    by_cases h : q % 16 < 15
    · simpa [h, oI] using s_beside0i l (Z := Z) (D := D) hq h
    · simpa [h, oI] using s_beside0o l (Z := Z) (D := D) hq h
  · unfold nbM nLf
    by_cases h : 0 < q % 16
    · simpa [h, oI] using s_beside1i l (Z := Z) (D := D) hq h
    · simpa [h, oI] using s_beside1o l (Z := Z) (D := D) hq h
  · unfold nbM nDn
    by_cases h : q / 16 < 15
    · simpa [h, oI] using s_beside2i l (Z := Z) (D := D) hq h
    · simpa [h, oI] using s_beside2o l (Z := Z) (D := D) hq h
  · unfold nbM nUp
    by_cases h : 0 < q / 16
    · simpa [h, oI] using s_beside3i l (Z := Z) (D := D) hq h
    · simpa [h, oI] using s_beside3o l (Z := Z) (D := D) hq h
