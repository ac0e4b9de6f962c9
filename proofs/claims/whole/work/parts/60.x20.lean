/-! THE CLASS: helpers that may not find; two layers laid over another -/
theorem int_in {k : Int32} {n m : Nat} (hm : m + 1 < 2 ^ 31) (h : nI 0 ≤ k ∧ k ≤ nI m) (hk : ¬ (0 ≤ k.toInt ∧ k.toInt < n)) : ∃ r, n ≤ r ∧ r < m + 1 ∧ k = nI r := by
  obtain ⟨h1, h2⟩ := h
  rw [Int32.le_iff_toInt_le, nI_toInt (by omega)] at h1
  rw [Int32.le_iff_toInt_le, nI_toInt (by omega)] at h2
  refine ⟨k.toInt.toNat, by omega, by omega, Int32.toInt_inj.mp ?_⟩
  rw [nI_toInt (by omega)]
  omega

set_option maxRecDepth 100000 in
set_option maxHeartbeats 4000000 in
theorem c_ruleOf (l : Launch) {Z : jZ} {D : jD} (hx : zX Z) {n : Nat} {fl sl : Nat → Nat} (hr : zXr Z n fl sl) (hn : n ≤ 6) {r : Nat} (hrn : r < n) : ja_M l (mX7_ruleOf 0 0) [.ref (0), .int (nI (r))] Z D (ja_jr (some (.ref (60 + r))) Z D) ja_x0 := by
  refine ja_Mof (lv := [some (.ref (0)), some (.int (nI (r))), none]) (by decide +kernel) rfl rfl (Nat.le_of_ble_eq_true rfl) rfl ?_
  refine ja_iload_n (i := 1) dX7_ruleOf_0 rfl rfl ?_
  refine ja_ifN_lt dX7_ruleOf_1 (tgt := 19) (by decide) (by omega) ?_
  refine ja_iload_n (i := 1) dX7_ruleOf_4 rfl rfl ?_
  refine ja_bipush (v := nI 6) dX7_ruleOf_5 (by decide +kernel) ?_
  refine ja_icmpN_ge (tgt := 19) dX7_ruleOf_7 (by decide) (by omega) (by omega) (fun c7 => (by exfalso; omega)) (fun c7 => ?_)
  refine ja_aload_n (i := 0) dX7_ruleOf_10 rfl rfl ?_
  refine ja_getR fl_X7_17 (zX_o0 hx) rfl (zX_p0_1 hx) dX7_ruleOf_11 ?_
  refine ja_iload_n (i := 1) dX7_ruleOf_14 rfl rfl ?_
  refine ja_aald (zX_o2 hx) (by decide) rfl (by omega) (by decide) (zR_e hr (r := r) (by omega)) dX7_ruleOf_15 ?_
  refine ja_goto (tgt := 20) dX7_ruleOf_16 (by decide) ?_
  refine ja_astore_n (i := 2) dX7_ruleOf_20 rfl rfl (Nat.le_of_ble_eq_true rfl) ?_
  refine ja_aload_n (i := 2) dX7_ruleOf_21 rfl rfl ?_
  refine ja_ifnn (tgt := 36) dX7_ruleOf_22 (by decide) ?_
  refine ja_aload_n (i := 2) dX7_ruleOf_36 rfl rfl ?_
  refine ja_aret rfl (Or.inl ⟨_, rfl⟩) dX7_ruleOf_37 (Nat.zero_le _) (Nat.zero_le _) ?_
  exact ⟨rfl, rfl, rfl⟩

set_option maxRecDepth 100000 in
set_option maxHeartbeats 4000000 in
theorem c_ruleOf_xa (l : Launch) {Z : jZ} {D : jD} (hx : zX Z) {k : Int32} (hk : ¬ (nI 0 ≤ k ∧ k ≤ nI 5)) : ja_M l (mX7_ruleOf 1 6) [.ref (0), .int (k)] Z D ja_r0 (ja_jx "java/util/NoSuchElementException" Z D) := by
  refine ja_Mof (lv := [some (.ref (0)), some (.int (k)), none]) (by decide +kernel) rfl rfl (Nat.le_of_ble_eq_true rfl) rfl ?_
  refine ja_iload_n (i := 1) dX7_ruleOf_0 rfl rfl ?_
  refine ja_if_lt (tgt := 19) dX7_ruleOf_1 (by decide) (fun c1 => ?_) (fun c1 => ?_)
  ·
    refine ja_null dX7_ruleOf_19 ?_
    refine ja_astore_nN (i := 2) dX7_ruleOf_20 rfl rfl (Nat.le_of_ble_eq_true rfl) ?_
    refine ja_aload_nN (i := 2) dX7_ruleOf_21 rfl rfl ?_
    refine ja_ifnnN dX7_ruleOf_22 ?_
    refine ja_throwEW ts_X7_173_328_177 rfl dX7_ruleOf_25 dX7_ruleOf_28 dX7_ruleOf_29 dX7_ruleOf_32 dX7_ruleOf_35 (Nat.le_of_ble_eq_true rfl) (Nat.le_of_ble_eq_true rfl) (Nat.le_of_ble_eq_true rfl) (Nat.le_of_ble_eq_true rfl) ?_
    exact ⟨rfl, rfl, rfl⟩
  ·
    refine ja_iload_n (i := 1) dX7_ruleOf_4 rfl rfl ?_
    refine ja_bipush (v := nI 6) dX7_ruleOf_5 (by decide +kernel) ?_
    refine ja_icmp_ge (tgt := 19) dX7_ruleOf_7 (by decide) (fun c7 => ?_) (fun c7 => ?_)
    ·
      refine ja_null dX7_ruleOf_19 ?_
      refine ja_astore_nN (i := 2) dX7_ruleOf_20 rfl rfl (Nat.le_of_ble_eq_true rfl) ?_
      refine ja_aload_nN (i := 2) dX7_ruleOf_21 rfl rfl ?_
      refine ja_ifnnN dX7_ruleOf_22 ?_
      refine ja_throwEW ts_X7_173_328_177 rfl dX7_ruleOf_25 dX7_ruleOf_28 dX7_ruleOf_29 dX7_ruleOf_32 dX7_ruleOf_35 (Nat.le_of_ble_eq_true rfl) (Nat.le_of_ble_eq_true rfl) (Nat.le_of_ble_eq_true rfl) (Nat.le_of_ble_eq_true rfl) ?_
      exact ⟨rfl, rfl, rfl⟩
    ·
      exact absurd (bnd (by decide) c1 c7) hk

set_option maxRecDepth 100000 in
set_option maxHeartbeats 4000000 in
theorem c_ruleOf_xb (l : Launch) {Z : jZ} {D : jD} (hx : zX Z) {n : Nat} {fl sl : Nat → Nat} (hr : zXr Z n fl sl) {r : Nat} (hr1 : n ≤ r) (hr2 : r < 6) : ja_M l (mX7_ruleOf 1 6) [.ref (0), .int (nI (r))] Z D ja_r0 (ja_jx "java/util/NoSuchElementException" Z D) := by
  refine ja_Mof (lv := [some (.ref (0)), some (.int (nI (r))), none]) (by decide +kernel) rfl rfl (Nat.le_of_ble_eq_true rfl) rfl ?_
  refine ja_iload_n (i := 1) dX7_ruleOf_0 rfl rfl ?_
  refine ja_ifN_lt dX7_ruleOf_1 (tgt := 19) (by decide) (by omega) ?_
  refine ja_iload_n (i := 1) dX7_ruleOf_4 rfl rfl ?_
  refine ja_bipush (v := nI 6) dX7_ruleOf_5 (by decide +kernel) ?_
  refine ja_icmpN_ge (tgt := 19) dX7_ruleOf_7 (by decide) (by omega) (by omega) (fun c7 => (by exfalso; omega)) (fun c7 => ?_)
  refine ja_aload_n (i := 0) dX7_ruleOf_10 rfl rfl ?_
  refine ja_getR fl_X7_17 (zX_o0 hx) rfl (zX_p0_1 hx) dX7_ruleOf_11 ?_
  refine ja_iload_n (i := 1) dX7_ruleOf_14 rfl rfl ?_
  refine ja_aaldN (zX_o2 hx) (by decide) rfl (by omega) (by decide) (hr.2 _ (by omega) (by omega)) dX7_ruleOf_15 ?_
  refine ja_goto (tgt := 20) dX7_ruleOf_16 (by decide) ?_
  refine ja_astore_nN (i := 2) dX7_ruleOf_20 rfl rfl (Nat.le_of_ble_eq_true rfl) ?_
  refine ja_aload_nN (i := 2) dX7_ruleOf_21 rfl rfl ?_
  refine ja_ifnnN dX7_ruleOf_22 ?_
  refine ja_throwEW ts_X7_173_328_177 rfl dX7_ruleOf_25 dX7_ruleOf_28 dX7_ruleOf_29 dX7_ruleOf_32 dX7_ruleOf_35 (Nat.le_of_ble_eq_true rfl) (Nat.le_of_ble_eq_true rfl) (Nat.le_of_ble_eq_true rfl) (Nat.le_of_ble_eq_true rfl) ?_
  exact ⟨rfl, rfl, rfl⟩

theorem c_ruleOf_x (l : Launch) {Z : jZ} {D : jD} (hx : zX Z) {n : Nat} {fl sl : Nat → Nat} (hr : zXr Z n fl sl) {k : Int32} (hk : ¬ (0 ≤ k.toInt ∧ k.toInt < n)) : ja_M l (mX7_ruleOf 1 6) [.ref 0, .int k] Z D ja_r0 (ja_jx "java/util/NoSuchElementException" Z D) := by
  by_cases h : nI 0 ≤ k ∧ k ≤ nI 5
  · obtain ⟨r, h1, h2, rfl⟩ := int_in (by decide) h hk
    exact c_ruleOf_xb l hx hr h1 h2
  · exact c_ruleOf_xa l hx h

set_option maxRecDepth 100000 in
set_option maxHeartbeats 4000000 in
theorem c_versionOf (l : Launch) {Z : jZ} {D : jD} (hx : zX Z) {vn : Nat} {vl : Nat → Nat} (hv : zXv Z vn vl) (hn : vn ≤ 3) {r : Nat} (hrn : r < vn) : ja_M l (mX7_versionOf 0 0) [.ref (0), .int (nI (r))] Z D (ja_jr (some (.ref (70 + 4 * r))) Z D) ja_x0 := by
  refine ja_Mof (lv := [some (.ref (0)), some (.int (nI (r))), none]) (by decide +kernel) rfl rfl (Nat.le_of_ble_eq_true rfl) rfl ?_
  refine ja_iload_n (i := 1) dX7_versionOf_0 rfl rfl ?_
  refine ja_ifN_lt dX7_versionOf_1 (tgt := 18) (by decide) (by omega) ?_
  refine ja_iload_n (i := 1) dX7_versionOf_4 rfl rfl ?_
  refine ja_iconst (v := nI 3) dX7_versionOf_5 (by decide +kernel) ?_
  refine ja_icmpN_ge (tgt := 18) dX7_versionOf_6 (by decide) (by omega) (by omega) (fun c6 => (by exfalso; omega)) (fun c6 => ?_)
  refine ja_aload_n (i := 0) dX7_versionOf_9 rfl rfl ?_
  refine ja_getR fl_X7_23 (zX_o0 hx) rfl (zX_p0_2 hx) dX7_versionOf_10 ?_
  refine ja_iload_n (i := 1) dX7_versionOf_13 rfl rfl ?_
  refine ja_aald (zX_o3 hx) (by decide) rfl (by omega) (by decide) (zV_e hv (v := r) (by omega)) dX7_versionOf_14 ?_
  refine ja_goto (tgt := 19) dX7_versionOf_15 (by decide) ?_
  refine ja_astore_n (i := 2) dX7_versionOf_19 rfl rfl (Nat.le_of_ble_eq_true rfl) ?_
  refine ja_aload_n (i := 2) dX7_versionOf_20 rfl rfl ?_
  refine ja_ifnn (tgt := 35) dX7_versionOf_21 (by decide) ?_
  refine ja_aload_n (i := 2) dX7_versionOf_35 rfl rfl ?_
  refine ja_aret rfl (Or.inl ⟨_, rfl⟩) dX7_versionOf_36 (Nat.zero_le _) (Nat.zero_le _) ?_
  exact ⟨rfl, rfl, rfl⟩

set_option maxRecDepth 100000 in
set_option maxHeartbeats 4000000 in
theorem c_versionOf_xa (l : Launch) {Z : jZ} {D : jD} (hx : zX Z) {k : Int32} (hk : ¬ (nI 0 ≤ k ∧ k ≤ nI 2)) : ja_M l (mX7_versionOf 1 6) [.ref (0), .int (k)] Z D ja_r0 (ja_jx "java/util/NoSuchElementException" Z D) := by
  refine ja_Mof (lv := [some (.ref (0)), some (.int (k)), none]) (by decide +kernel) rfl rfl (Nat.le_of_ble_eq_true rfl) rfl ?_
  refine ja_iload_n (i := 1) dX7_versionOf_0 rfl rfl ?_
  refine ja_if_lt (tgt := 18) dX7_versionOf_1 (by decide) (fun c1 => ?_) (fun c1 => ?_)
  ·
    refine ja_null dX7_versionOf_18 ?_
    refine ja_astore_nN (i := 2) dX7_versionOf_19 rfl rfl (Nat.le_of_ble_eq_true rfl) ?_
    refine ja_aload_nN (i := 2) dX7_versionOf_20 rfl rfl ?_
    refine ja_ifnnN dX7_versionOf_21 ?_
    refine ja_throwEW ts_X7_173_330_177 rfl dX7_versionOf_24 dX7_versionOf_27 dX7_versionOf_28 dX7_versionOf_31 dX7_versionOf_34 (Nat.le_of_ble_eq_true rfl) (Nat.le_of_ble_eq_true rfl) (Nat.le_of_ble_eq_true rfl) (Nat.le_of_ble_eq_true rfl) ?_
    exact ⟨rfl, rfl, rfl⟩
  ·
    refine ja_iload_n (i := 1) dX7_versionOf_4 rfl rfl ?_
    refine ja_iconst (v := nI 3) dX7_versionOf_5 (by decide +kernel) ?_
    refine ja_icmp_ge (tgt := 18) dX7_versionOf_6 (by decide) (fun c6 => ?_) (fun c6 => ?_)
    ·
      refine ja_null dX7_versionOf_18 ?_
      refine ja_astore_nN (i := 2) dX7_versionOf_19 rfl rfl (Nat.le_of_ble_eq_true rfl) ?_
      refine ja_aload_nN (i := 2) dX7_versionOf_20 rfl rfl ?_
      refine ja_ifnnN dX7_versionOf_21 ?_
      refine ja_throwEW ts_X7_173_330_177 rfl dX7_versionOf_24 dX7_versionOf_27 dX7_versionOf_28 dX7_versionOf_31 dX7_versionOf_34 (Nat.le_of_ble_eq_true rfl) (Nat.le_of_ble_eq_true rfl) (Nat.le_of_ble_eq_true rfl) (Nat.le_of_ble_eq_true rfl) ?_
      exact ⟨rfl, rfl, rfl⟩
    ·
      exact absurd (bnd (by decide) c1 c6) hk

set_option maxRecDepth 100000 in
set_option maxHeartbeats 4000000 in
theorem c_versionOf_xb (l : Launch) {Z : jZ} {D : jD} (hx : zX Z) {vn : Nat} {vl : Nat → Nat} (hv : zXv Z vn vl) {r : Nat} (hr1 : vn ≤ r) (hr2 : r < 3) : ja_M l (mX7_versionOf 1 6) [.ref (0), .int (nI (r))] Z D ja_r0 (ja_jx "java/util/NoSuchElementException" Z D) := by
  refine ja_Mof (lv := [some (.ref (0)), some (.int (nI (r))), none]) (by decide +kernel) rfl rfl (Nat.le_of_ble_eq_true rfl) rfl ?_
  refine ja_iload_n (i := 1) dX7_versionOf_0 rfl rfl ?_
  refine ja_ifN_lt dX7_versionOf_1 (tgt := 18) (by decide) (by omega) ?_
  refine ja_iload_n (i := 1) dX7_versionOf_4 rfl rfl ?_
  refine ja_iconst (v := nI 3) dX7_versionOf_5 (by decide +kernel) ?_
  refine ja_icmpN_ge (tgt := 18) dX7_versionOf_6 (by decide) (by omega) (by omega) (fun c6 => (by exfalso; omega)) (fun c6 => ?_)
  refine ja_aload_n (i := 0) dX7_versionOf_9 rfl rfl ?_
  refine ja_getR fl_X7_23 (zX_o0 hx) rfl (zX_p0_2 hx) dX7_versionOf_10 ?_
  refine ja_iload_n (i := 1) dX7_versionOf_13 rfl rfl ?_
  refine ja_aaldN (zX_o3 hx) (by decide) rfl (by omega) (by decide) (hv.2 _ (by omega) (by omega)) dX7_versionOf_14 ?_
  refine ja_goto (tgt := 19) dX7_versionOf_15 (by decide) ?_
  refine ja_astore_nN (i := 2) dX7_versionOf_19 rfl rfl (Nat.le_of_ble_eq_true rfl) ?_
  refine ja_aload_nN (i := 2) dX7_versionOf_20 rfl rfl ?_
  refine ja_ifnnN dX7_versionOf_21 ?_
  refine ja_throwEW ts_X7_173_330_177 rfl dX7_versionOf_24 dX7_versionOf_27 dX7_versionOf_28 dX7_versionOf_31 dX7_versionOf_34 (Nat.le_of_ble_eq_true rfl) (Nat.le_of_ble_eq_true rfl) (Nat.le_of_ble_eq_true rfl) (Nat.le_of_ble_eq_true rfl) ?_
  exact ⟨rfl, rfl, rfl⟩

theorem c_versionOf_x (l : Launch) {Z : jZ} {D : jD} (hx : zX Z) {vn : Nat} {vl : Nat → Nat} (hv : zXv Z vn vl) {k : Int32} (hk : ¬ (0 ≤ k.toInt ∧ k.toInt < vn)) : ja_M l (mX7_versionOf 1 6) [.ref 0, .int k] Z D ja_r0 (ja_jx "java/util/NoSuchElementException" Z D) := by
  by_cases h : nI 0 ≤ k ∧ k ≤ nI 2
  · obtain ⟨r, h1, h2, rfl⟩ := int_in (by decide) h hk
    exact c_versionOf_xb l hx hv h1 h2
  · exact c_versionOf_xa l hx h

set_option maxRecDepth 100000 in
set_option maxHeartbeats 4000000 in
theorem c_needPiece (l : Launch) {Z : jZ} {D : jD} (hx : zX Z) {n p : Nat} (h3 : D 5 3 = nI n) (hn : n ≤ 256) (hp : p < n) : ja_M l (mX7_needPiece 0 0) [.ref (0), .int (nI (p))] Z D (ja_jr none Z D) ja_x0 := by
  refine ja_Mof (lv := [some (.ref (0)), some (.int (nI (p)))]) (by decide +kernel) rfl rfl (Nat.le_of_ble_eq_true rfl) rfl ?_
  refine ja_iload_n (i := 1) dX7_needPiece_0 rfl rfl ?_
  refine ja_ifN_lt dX7_needPiece_1 (tgt := 15) (by decide) (by omega) ?_
  refine ja_iload_n (i := 1) dX7_needPiece_4 rfl rfl ?_
  refine ja_aload_n (i := 0) dX7_needPiece_5 rfl rfl ?_
  refine ja_getR fl_X7_34 (zX_o0 hx) rfl (zX_p0_9 hx) dX7_needPiece_6 ?_
  refine ja_getI fl_X7_248 (zX_o5 hx) rfl dX7_needPiece_9 ?_
  refine ja_top (y := nI (n)) h3 ?_
  refine ja_icmpN_lt (tgt := 26) dX7_needPiece_12 (by decide) (by omega) (by omega) (fun c12 => ?_) (fun c12 => (by exfalso; omega))
  refine ja_vret rfl dX7_needPiece_26 (Nat.zero_le _) (Nat.zero_le _) ?_
  exact ⟨rfl, rfl, rfl⟩

theorem pc_in {k : Int32} {n : Nat} (hn : n < 2 ^ 31) (h1 : ¬ k < 0) (h2 : k < nI n) : 0 ≤ k.toInt ∧ k.toInt < n := by
  rw [Int32.lt_iff_toInt_lt] at h1
  rw [Int32.lt_iff_toInt_lt, nI_toInt hn] at h2
  have e : (0 : Int32).toInt = 0 := by decide
  rw [e] at h1
  omega

set_option maxRecDepth 100000 in
set_option maxHeartbeats 4000000 in
theorem c_needPiece_x (l : Launch) {Z : jZ} {D : jD} (hx : zX Z) {n : Nat} {k : Int32} (h3 : D 5 3 = nI n) (hn : n ≤ 256) (hk : ¬ (0 ≤ k.toInt ∧ k.toInt < n)) : ja_M l (mX7_needPiece 1 6) [.ref (0), .int (k)] Z D ja_r0 (ja_jx "java/util/NoSuchElementException" Z D) := by
  refine ja_Mof (lv := [some (.ref (0)), some (.int (k))]) (by decide +kernel) rfl rfl (Nat.le_of_ble_eq_true rfl) rfl ?_
  refine ja_iload_n (i := 1) dX7_needPiece_0 rfl rfl ?_
  refine ja_if_lt (tgt := 15) dX7_needPiece_1 (by decide) (fun c1 => ?_) (fun c1 => ?_)
  ·
    refine ja_throwEW ts_X7_173_340_177 rfl dX7_needPiece_15 dX7_needPiece_18 dX7_needPiece_19 dX7_needPiece_22 dX7_needPiece_25 (Nat.le_of_ble_eq_true rfl) (Nat.le_of_ble_eq_true rfl) (Nat.le_of_ble_eq_true rfl) (Nat.le_of_ble_eq_true rfl) ?_
    exact ⟨rfl, rfl, rfl⟩
  ·
    refine ja_iload_n (i := 1) dX7_needPiece_4 rfl rfl ?_
    refine ja_aload_n (i := 0) dX7_needPiece_5 rfl rfl ?_
    refine ja_getR fl_X7_34 (zX_o0 hx) rfl (zX_p0_9 hx) dX7_needPiece_6 ?_
    refine ja_getI fl_X7_248 (zX_o5 hx) rfl dX7_needPiece_9 ?_
    refine ja_top (y := nI n) h3 ?_
    refine ja_icmp_lt (tgt := 26) dX7_needPiece_12 (by decide) (fun c12 => ?_) (fun c12 => ?_)
    ·
      exact absurd (pc_in (by omega) c1 c12) hk
    ·
      refine ja_throwEW ts_X7_173_340_177 rfl dX7_needPiece_15 dX7_needPiece_18 dX7_needPiece_19 dX7_needPiece_22 dX7_needPiece_25 (Nat.le_of_ble_eq_true rfl) (Nat.le_of_ble_eq_true rfl) (Nat.le_of_ble_eq_true rfl) (Nat.le_of_ble_eq_true rfl) ?_
      exact ⟨rfl, rfl, rfl⟩

/-- the row of numbers of two layers -/
def rwX (D : jD) (l1 l2 q : Nat) : Int32 := if D (31 + 10 * l1) q = -1 ∧ D (31 + 10 * l2) q = -1 then -1 else nI 11 * (D (31 + 10 * l1) q + nI 1) + D (31 + 10 * l2) q + nI 1
def mo : Option Nat → Nat
  | none => 0
  | some a => a + 1
theorem oI_11 {x y : Option Nat} (hx : ∀ a, x = some a → a < 10) (hy : ∀ a, y = some a → a < 10) : nI 11 * (oI x + nI 1) + oI y + nI 1 = nI (11 * mo (x) + mo (y)) := by
  have e : ∀ z : Option Nat, oI z + nI 1 = nI (mo z) := fun z => by
    cases z with
    | none => decide
    | some a => exact nI_add a 1
  rw [e x, Int32.add_assoc, e y, pk_mul, nI_add]
theorem rwX_o {D : jD} {l1 l2 : Nat} {c1 c2 : Nat → Option Nat} (h1 : ∀ q, q < 256 → D (31 + 10 * l1) q = oI (c1 q)) (h2 : ∀ q, q < 256 → D (31 + 10 * l2) q = oI (c2 q)) (w1 : ∀ q a, c1 q = some a → a < 10) (w2 : ∀ q a, c2 q = some a → a < 10) {q : Nat} (hq : q < 256) :
    rwX D l1 l2 q = if c1 q = none ∧ c2 q = none then -1 else nI (11 * mo (c1 q) + mo (c2 q)) := by
  have e : ∀ z : Option Nat, (∀ a, z = some a → a < 10) → (oI z = -1 ↔ z = none) := fun z hz => by
    cases z with
    | none => exact ⟨fun _ => rfl, fun _ => rfl⟩
    | some a => exact ⟨fun h => absurd h (nI_nm1 (by have := hz a rfl; omega)), fun h => by cases h⟩
  rw [rwX, h1 q hq, h2 q hq, oI_11 (w1 q) (w2 q)]
  by_cases h : c1 q = none ∧ c2 q = none
  · rw [if_pos h, if_pos ⟨(e _ (w1 q)).mpr h.1, (e _ (w2 q)).mpr h.2⟩]
  · rw [if_neg h, if_neg (fun x => h ⟨(e _ (w1 q)).mp x.1, (e _ (w2 q)).mp x.2⟩)]
theorem mo_lt {z : Option Nat} (hz : ∀ a, z = some a → a < 10) : mo (z) < 11 := by
  cases z with
  | none => show 0 < 11; omega
  | some a => have := hz a rfl; show a + 1 < 11; omega
theorem mo_in {x y : Option Nat} (h : mo (x) = mo (y)) : x = y := by
  cases x <;> cases y
  · rfl
  · exact absurd h (by show ¬ 0 = _ + 1; omega)
  · exact absurd h (by show ¬ _ + 1 = 0; omega)
  · exact congrArg some (Nat.succ.inj h)
theorem mo_0 {x : Option Nat} (h : mo (x) = 0) : x = none := mo_in (y := none) h
theorem rwX_s {D : jD} {l1 l2 : Nat} {c1 c2 : Nat → Option Nat} (h1 : ∀ q, q < 256 → D (31 + 10 * l1) q = oI (c1 q)) (h2 : ∀ q, q < 256 → D (31 + 10 * l2) q = oI (c2 q)) (w1 : ∀ q a, c1 q = some a → a < 10) (w2 : ∀ q a, c2 q = some a → a < 10) :
    (∀ q k, q < 256 → k < 256 → ((D (31 + 10 * l1) k = D (31 + 10 * l1) q ∧ D (31 + 10 * l2) k = D (31 + 10 * l2) q) ↔ rwX D l1 l2 k = rwX D l1 l2 q)) ∧ ∀ q, q < 256 → ((D (31 + 10 * l1) q = -1 ∧ D (31 + 10 * l2) q = -1) ↔ rwX D l1 l2 q = -1) := by
  have lt : ∀ q, 11 * mo (c1 q) + mo (c2 q) < 121 := fun q => by
    have a1 := mo_lt (w1 q)
    have a2 := mo_lt (w2 q)
    omega
  refine ⟨fun q k hq hk => ⟨fun h => by unfold rwX; rw [h.1, h.2], fun h => ?_⟩, fun q hq => ⟨fun h => if_pos h, fun h => ?_⟩⟩
  · rw [rwX_o h1 h2 w1 w2 hq, rwX_o h1 h2 w1 w2 hk] at h
    rw [h1 q hq, h1 k hk, h2 q hq, h2 k hk]
    have g1 := lt q
    have g2 := lt k
    by_cases e1 : c1 q = none ∧ c2 q = none
    · by_cases e2 : c1 k = none ∧ c2 k = none
      · rw [e1.1, e1.2, e2.1, e2.2]; exact ⟨rfl, rfl⟩
      · rw [if_pos e1, if_neg e2] at h
        exact absurd h (nI_nm1 (by omega))
    · by_cases e2 : c1 k = none ∧ c2 k = none
      · rw [if_neg e1, if_pos e2] at h
        exact absurd h.symm (nI_nm1 (by omega))
      · rw [if_neg e1, if_neg e2] at h
        have e := nI_j (by omega) (by omega) h
        have b1 := mo_lt (w2 q)
        have b2 := mo_lt (w2 k)
        have m1 : mo (c1 k) = mo (c1 q) := by omega
        have m2 : mo (c2 k) = mo (c2 q) := by omega
        rw [mo_in m1, mo_in m2]
        exact ⟨rfl, rfl⟩
  · rw [rwX_o h1 h2 w1 w2 hq] at h
    have g1 := lt q
    by_cases e1 : c1 q = none ∧ c2 q = none
    · rw [h1 q hq, h2 q hq, e1.1, e1.2]; exact ⟨rfl, rfl⟩
    · rw [if_neg e1] at h
      exact absurd h (nI_nm1 (by omega))
/-- every layer's squares are areas' or none's -/
def wfX (D : jD) : Prop := ∀ ly, ly < 3 → ∃ c : Nat → Option Nat, (∀ q, q < 256 → D (31 + 10 * ly) q = oI (c q)) ∧ ∀ q a, c q = some a → a < 10
theorem rwX_w {D : jD} (hw : wfX D) {l1 l2 : Nat} (h1 : l1 < 3) (h2 : l2 < 3) : (∀ q k, q < 256 → k < 256 → ((D (31 + 10 * l1) k = D (31 + 10 * l1) q ∧ D (31 + 10 * l2) k = D (31 + 10 * l2) q) ↔ rwX D l1 l2 k = rwX D l1 l2 q)) ∧ ∀ q, q < 256 → ((D (31 + 10 * l1) q = -1 ∧ D (31 + 10 * l2) q = -1) ↔ rwX D l1 l2 q = -1) := by
  obtain ⟨c1, a1, a2⟩ := hw l1 h1
  obtain ⟨c2, b1, b2⟩ := hw l2 h2
  exact rwX_s a1 b1 a2 b2

set_option maxRecDepth 100000 in
set_option maxHeartbeats 4000000 in
theorem c_layOver (l : Launch) {Z : jZ} {D : jD} (hx : zX Z) (hw : wfX D) {l1 l2 : Nat} (h1 : l1 < 3) (h2 : l2 < 3) : ja_M l (mX7_layOver 0 0) [.ref (0), .int (nI (l1)), .int (nI (l2))] Z D (ja_jd none Z (fun D2 => LAY D D2 (31 + 10 * l1) (31 + 10 * l2) (rwX D l1 l2) 256)) ja_x0 := by
  refine ja_Mof (lv := [some (.ref (0)), some (.int (nI (l1))), some (.int (nI (l2)))]) (by decide +kernel) rfl rfl (Nat.le_of_ble_eq_true rfl) rfl ?_
  refine ja_aload_n (i := 0) dX7_layOver_0 rfl rfl ?_
  refine ja_getR fl_X7_34 (zX_o0 hx) rfl (zX_p0_9 hx) dX7_layOver_1 ?_
  refine ja_aload_n (i := 0) dX7_layOver_4 rfl rfl ?_
  refine ja_iload_n (i := 1) dX7_layOver_5 rfl rfl ?_
  refine ja_cVr (st := [.ref (5)]) (c_layerOf (D := D) l hx (ly := l1) (by omega)) rfl rfl (ce_X7_layerOf 0 0) im_X7_layerOf se_X7_layerOf lk_X7_93 k_X7 (zX_o0 hx) ⟨(Nat.le_of_ble_eq_true rfl), (Nat.le_of_ble_eq_true rfl)⟩ dX7_layOver_6 rfl rfl (Nat.le_of_ble_eq_true rfl) (Nat.zero_le _) (Nat.zero_le _) ?_
  refine ja_getR fl_X7_135 (zL_o hx (l := l1) (by omega)) rfl (zL_p0 hx (l := l1) (by omega)) dX7_layOver_9 ?_
  refine ja_aload_n (i := 0) dX7_layOver_12 rfl rfl ?_
  refine ja_iload_n (i := 2) dX7_layOver_13 rfl rfl ?_
  refine ja_cVr (st := [.ref (31 + 10 * l1), .ref (5)]) (c_layerOf (D := D) l hx (ly := l2) (by omega)) rfl rfl (ce_X7_layerOf 0 0) im_X7_layerOf se_X7_layerOf lk_X7_93 k_X7 (zX_o0 hx) ⟨(Nat.le_of_ble_eq_true rfl), (Nat.le_of_ble_eq_true rfl)⟩ dX7_layOver_14 rfl rfl (Nat.le_of_ble_eq_true rfl) (Nat.zero_le _) (Nat.zero_le _) ?_
  refine ja_getR fl_X7_135 (zL_o hx (l := l2) (by omega)) rfl (zL_p0 hx (l := l2) (by omega)) dX7_layOver_17 ?_
  refine ja_cVd0 (st := []) (c_lay (D := D) l hx (i1 := 31 + 10 * l1) (i2 := 31 + 10 * l2) (zL_a0 hx h1) (zL_a0 hx h2) (by omega) (by omega) (r := rwX D l1 l2) (rwX_w hw h1 h2).1 (rwX_w hw h1 h2).2) rfl rfl (ce_X3_lay 0 0) im_X3_lay se_X3_lay lk_X7_244 k_X3 (zX_o5 hx) ⟨(Nat.le_of_ble_eq_true rfl), (Nat.le_of_ble_eq_true rfl)⟩ dX7_layOver_20 rfl rfl (Nat.le_of_ble_eq_true rfl) (Nat.zero_le _) (Nat.zero_le _) ?_
  intro E hE
  refine ja_vret rfl dX7_layOver_23 (Nat.zero_le _) (Nat.zero_le _) ?_
  exact ⟨rfl, rfl, hE⟩
