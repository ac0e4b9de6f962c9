/-! THE CLASS: helpers -/
def ja_r0 : Option Value → jZ → jD → Prop := fun _ _ _ => False
/-- a number that is neither below 0 nor above k -/
theorem bnd {x : Int32} {k : Nat} (hk : k + 1 < 2 ^ 31) (h1 : ¬ x < 0) (h2 : ¬ nI (k + 1) ≤ x) : nI 0 ≤ x ∧ x ≤ nI k := by
  rw [Int32.lt_iff_toInt_lt] at h1
  rw [Int32.le_iff_toInt_le, nI_toInt (by omega)] at h2
  rw [Int32.le_iff_toInt_le, Int32.le_iff_toInt_le, nI_toInt (by omega), nI_toInt (by omega)]
  have e : (0 : Int32).toInt = 0 := by decide
  rw [e] at h1
  omega
/-- the class's sides: right, down, left, up -/
def nbX (s q : Nat) : Option Nat := if s = 0 then nR q else if s = 1 then nDn q else if s = 2 then nLf q else nUp q
theorem nbX_lt {s q j : Nat} (hq : q < 256) (h : nbX s q = some j) : j < 256 := by
  unfold nbX at h
  split at h
  · exact nbM_lt (side := 0) hq h
  · split at h
    · exact nbM_lt (side := 2) hq h
    · split at h
      · exact nbM_lt (side := 1) hq h
      · exact nbM_lt (side := 3) hq h

set_option maxRecDepth 100000 in
set_option maxHeartbeats 4000000 in
theorem c_isAreaT (l : Launch) {Z : jZ} {D : jD} {a : Nat} (h : a < 10) : ja_M l (mX7_isArea 0 0) [.int (nI (a))] Z D (ja_jr (some (.int (bI true))) Z D) ja_x0 := by
  refine ja_Mof (lv := [some (.int (nI (a)))]) (by decide +kernel) rfl rfl (Nat.le_of_ble_eq_true rfl) rfl ?_
  refine ja_iload_n (i := 0) dX7_isArea_0 rfl rfl ?_
  refine ja_ifN_lt dX7_isArea_1 (tgt := 14) (by decide) (by omega) ?_
  refine ja_iload_n (i := 0) dX7_isArea_4 rfl rfl ?_
  refine ja_bipush (v := nI 10) dX7_isArea_5 (by decide +kernel) ?_
  refine ja_icmpN_ge (tgt := 14) dX7_isArea_7 (by decide) (by omega) (by omega) (fun c7 => (by exfalso; omega)) (fun c7 => ?_)
  refine ja_iconst (v := nI 1) dX7_isArea_10 (by decide +kernel) ?_
  refine ja_goto (tgt := 15) dX7_isArea_11 (by decide) ?_
  refine ja_iret rfl (by decide +kernel) dX7_isArea_15 (Nat.zero_le _) (Nat.zero_le _) ?_
  exact ⟨rfl, rfl, rfl⟩

set_option maxRecDepth 100000 in
set_option maxHeartbeats 4000000 in
theorem c_isAreaN (l : Launch) {Z : jZ} {D : jD}  : ja_M l (mX7_isArea 0 0) [.int ((-1))] Z D (ja_jr (some (.int (bI false))) Z D) ja_x0 := by
  refine ja_Mof (lv := [some (.int ((-1)))]) (by decide +kernel) rfl rfl (Nat.le_of_ble_eq_true rfl) rfl ?_
  refine ja_iload_n (i := 0) dX7_isArea_0 rfl rfl ?_
  refine ja_if_lt (tgt := 14) dX7_isArea_1 (by decide) (fun c1 => ?_) (fun c1 => absurd (show (-1 : Int32) < 0 by decide) c1)
  refine ja_iconst (v := nI 0) dX7_isArea_14 (by decide +kernel) ?_
  refine ja_iret rfl (by decide +kernel) dX7_isArea_15 (Nat.zero_le _) (Nat.zero_le _) ?_
  exact ⟨rfl, rfl, rfl⟩

set_option maxRecDepth 100000 in
set_option maxHeartbeats 4000000 in
theorem c_isAreaF (l : Launch) {Z : jZ} {D : jD} {a : Int32} (h : ¬ (nI 0 ≤ a ∧ a ≤ nI 9)) : ja_M l (mX7_isArea 0 0) [.int (a)] Z D (ja_jr (some (.int (bI false))) Z D) ja_x0 := by
  refine ja_Mof (lv := [some (.int (a))]) (by decide +kernel) rfl rfl (Nat.le_of_ble_eq_true rfl) rfl ?_
  refine ja_iload_n (i := 0) dX7_isArea_0 rfl rfl ?_
  refine ja_if_lt (tgt := 14) dX7_isArea_1 (by decide) (fun c1 => ?_) (fun c1 => ?_)
  ·
    refine ja_iconst (v := nI 0) dX7_isArea_14 (by decide +kernel) ?_
    refine ja_iret rfl (by decide +kernel) dX7_isArea_15 (Nat.zero_le _) (Nat.zero_le _) ?_
    exact ⟨rfl, rfl, rfl⟩
  ·
    refine ja_iload_n (i := 0) dX7_isArea_4 rfl rfl ?_
    refine ja_bipush (v := nI 10) dX7_isArea_5 (by decide +kernel) ?_
    refine ja_icmp_ge (tgt := 14) dX7_isArea_7 (by decide) (fun c7 => ?_) (fun c7 => ?_)
    ·
      refine ja_iconst (v := nI 0) dX7_isArea_14 (by decide +kernel) ?_
      refine ja_iret rfl (by decide +kernel) dX7_isArea_15 (Nat.zero_le _) (Nat.zero_le _) ?_
      exact ⟨rfl, rfl, rfl⟩
    ·
      exact absurd (bnd (by decide) c1 c7) h

set_option maxRecDepth 100000 in
set_option maxHeartbeats 4000000 in
theorem c_nb0 (l : Launch) {Z : jZ} {D : jD} {q : Nat} (h : q < 256) : ja_M l (mX7_neighbour 0 0) [.int (nI (q)), .int (nI (0))] Z D (ja_jr (some (.int (oI (nR q)))) Z D) ja_x0 := by
  refine ja_Mof (lv := [some (.int (nI (q))), some (.int (nI (0))), none, none]) (by decide +kernel) rfl rfl (Nat.le_of_ble_eq_true rfl) rfl ?_
  refine ja_iload_n (i := 0) dX7_neighbour_0 rfl rfl ?_
  refine ja_bipush (v := nI 16) dX7_neighbour_1 (by decide +kernel) ?_
  refine ja_iremN dX7_neighbour_3 (by omega) (by omega) (by omega) ?_
  refine ja_istore_n (i := 2) dX7_neighbour_4 rfl rfl (Nat.le_of_ble_eq_true rfl) ?_
  refine ja_iload_n (i := 0) dX7_neighbour_5 rfl rfl ?_
  refine ja_bipush (v := nI 16) dX7_neighbour_6 (by decide +kernel) ?_
  refine ja_idivN dX7_neighbour_8 (by omega) (by omega) (by omega) ?_
  refine ja_istore_n (i := 3) dX7_neighbour_9 rfl rfl (Nat.le_of_ble_eq_true rfl) ?_
  refine ja_iload_n (i := 1) dX7_neighbour_10 rfl rfl ?_
  refine ja_swIn (off := 29) (tgt := 40) dX7_neighbour_11 (by decide +kernel) (by decide +kernel) (by decide +kernel) (by decide) ?_
  refine ja_iload_n (i := 2) dX7_neighbour_40 rfl rfl ?_
  refine ja_bipush (v := nI 15) dX7_neighbour_41 (by decide +kernel) ?_
  refine ja_icmpN_ge (tgt := 52) dX7_neighbour_43 (by decide) (by omega) (by omega) (fun c43 => ?_) (fun c43 => ?_)
  ·
    refine ja_iconst (v := (-1)) dX7_neighbour_52 (by decide +kernel) ?_
    refine ja_iret rfl rfl dX7_neighbour_53 (Nat.zero_le _) (Nat.zero_le _) ?_
    exact ⟨by rw [nR]; first | (rw [if_pos (by omega)]; done) | (rw [if_neg (by omega)]; done) | (rw [if_pos (by omega)]; rfl) | (rw [if_neg (by omega)]; rfl), rfl, rfl⟩
  ·
    refine ja_iload_n (i := 0) dX7_neighbour_46 rfl rfl ?_
    refine ja_iconst (v := nI 1) dX7_neighbour_47 (by decide +kernel) ?_
    refine ja_iaddN dX7_neighbour_48 ?_
    refine ja_goto (tgt := 53) dX7_neighbour_49 (by decide) ?_
    refine ja_iret rfl rfl dX7_neighbour_53 (Nat.zero_le _) (Nat.zero_le _) ?_
    exact ⟨by rw [nR]; first | (rw [if_pos (by omega)]; done) | (rw [if_neg (by omega)]; done) | (rw [if_pos (by omega)]; rfl) | (rw [if_neg (by omega)]; rfl), rfl, rfl⟩

set_option maxRecDepth 100000 in
set_option maxHeartbeats 4000000 in
theorem c_nb1 (l : Launch) {Z : jZ} {D : jD} {q : Nat} (h : q < 256) : ja_M l (mX7_neighbour 0 0) [.int (nI (q)), .int (nI (1))] Z D (ja_jr (some (.int (oI (nDn q)))) Z D) ja_x0 := by
  refine ja_Mof (lv := [some (.int (nI (q))), some (.int (nI (1))), none, none]) (by decide +kernel) rfl rfl (Nat.le_of_ble_eq_true rfl) rfl ?_
  refine ja_iload_n (i := 0) dX7_neighbour_0 rfl rfl ?_
  refine ja_bipush (v := nI 16) dX7_neighbour_1 (by decide +kernel) ?_
  refine ja_iremN dX7_neighbour_3 (by omega) (by omega) (by omega) ?_
  refine ja_istore_n (i := 2) dX7_neighbour_4 rfl rfl (Nat.le_of_ble_eq_true rfl) ?_
  refine ja_iload_n (i := 0) dX7_neighbour_5 rfl rfl ?_
  refine ja_bipush (v := nI 16) dX7_neighbour_6 (by decide +kernel) ?_
  refine ja_idivN dX7_neighbour_8 (by omega) (by omega) (by omega) ?_
  refine ja_istore_n (i := 3) dX7_neighbour_9 rfl rfl (Nat.le_of_ble_eq_true rfl) ?_
  refine ja_iload_n (i := 1) dX7_neighbour_10 rfl rfl ?_
  refine ja_swIn (off := 43) (tgt := 54) dX7_neighbour_11 (by decide +kernel) (by decide +kernel) (by decide +kernel) (by decide) ?_
  refine ja_iload_n (i := 3) dX7_neighbour_54 rfl rfl ?_
  refine ja_bipush (v := nI 15) dX7_neighbour_55 (by decide +kernel) ?_
  refine ja_icmpN_ge (tgt := 67) dX7_neighbour_57 (by decide) (by omega) (by omega) (fun c57 => ?_) (fun c57 => ?_)
  ·
    refine ja_iconst (v := (-1)) dX7_neighbour_67 (by decide +kernel) ?_
    refine ja_iret rfl rfl dX7_neighbour_68 (Nat.zero_le _) (Nat.zero_le _) ?_
    exact ⟨by rw [nDn]; first | (rw [if_pos (by omega)]; done) | (rw [if_neg (by omega)]; done) | (rw [if_pos (by omega)]; rfl) | (rw [if_neg (by omega)]; rfl), rfl, rfl⟩
  ·
    refine ja_iload_n (i := 0) dX7_neighbour_60 rfl rfl ?_
    refine ja_bipush (v := nI 16) dX7_neighbour_61 (by decide +kernel) ?_
    refine ja_iaddN dX7_neighbour_63 ?_
    refine ja_goto (tgt := 68) dX7_neighbour_64 (by decide) ?_
    refine ja_iret rfl rfl dX7_neighbour_68 (Nat.zero_le _) (Nat.zero_le _) ?_
    exact ⟨by rw [nDn]; first | (rw [if_pos (by omega)]; done) | (rw [if_neg (by omega)]; done) | (rw [if_pos (by omega)]; rfl) | (rw [if_neg (by omega)]; rfl), rfl, rfl⟩

set_option maxRecDepth 100000 in
set_option maxHeartbeats 4000000 in
theorem c_nb2 (l : Launch) {Z : jZ} {D : jD} {q : Nat} (h : q < 256) : ja_M l (mX7_neighbour 0 0) [.int (nI (q)), .int (nI (2))] Z D (ja_jr (some (.int (oI (nLf q)))) Z D) ja_x0 := by
  refine ja_Mof (lv := [some (.int (nI (q))), some (.int (nI (2))), none, none]) (by decide +kernel) rfl rfl (Nat.le_of_ble_eq_true rfl) rfl ?_
  refine ja_iload_n (i := 0) dX7_neighbour_0 rfl rfl ?_
  refine ja_bipush (v := nI 16) dX7_neighbour_1 (by decide +kernel) ?_
  refine ja_iremN dX7_neighbour_3 (by omega) (by omega) (by omega) ?_
  refine ja_istore_n (i := 2) dX7_neighbour_4 rfl rfl (Nat.le_of_ble_eq_true rfl) ?_
  refine ja_iload_n (i := 0) dX7_neighbour_5 rfl rfl ?_
  refine ja_bipush (v := nI 16) dX7_neighbour_6 (by decide +kernel) ?_
  refine ja_idivN dX7_neighbour_8 (by omega) (by omega) (by omega) ?_
  refine ja_istore_n (i := 3) dX7_neighbour_9 rfl rfl (Nat.le_of_ble_eq_true rfl) ?_
  refine ja_iload_n (i := 1) dX7_neighbour_10 rfl rfl ?_
  refine ja_swIn (off := 58) (tgt := 69) dX7_neighbour_11 (by decide +kernel) (by decide +kernel) (by decide +kernel) (by decide) ?_
  refine ja_iload_n (i := 2) dX7_neighbour_69 rfl rfl ?_
  refine ja_ifN_le (tgt := 79) dX7_neighbour_70 (by decide) (by omega) (fun c70 => ?_) (fun c70 => ?_)
  ·
    refine ja_iconst (v := (-1)) dX7_neighbour_79 (by decide +kernel) ?_
    refine ja_iret rfl rfl dX7_neighbour_80 (Nat.zero_le _) (Nat.zero_le _) ?_
    exact ⟨by rw [nLf]; first | (rw [if_pos (by omega)]; done) | (rw [if_neg (by omega)]; done) | (rw [if_pos (by omega)]; rfl) | (rw [if_neg (by omega)]; rfl), rfl, rfl⟩
  ·
    refine ja_iload_n (i := 0) dX7_neighbour_73 rfl rfl ?_
    refine ja_iconst (v := nI 1) dX7_neighbour_74 (by decide +kernel) ?_
    refine ja_isubN dX7_neighbour_75 (by omega) ?_
    refine ja_goto (tgt := 80) dX7_neighbour_76 (by decide) ?_
    refine ja_iret rfl rfl dX7_neighbour_80 (Nat.zero_le _) (Nat.zero_le _) ?_
    exact ⟨by rw [nLf]; first | (rw [if_pos (by omega)]; done) | (rw [if_neg (by omega)]; done) | (rw [if_pos (by omega)]; rfl) | (rw [if_neg (by omega)]; rfl), rfl, rfl⟩

set_option maxRecDepth 100000 in
set_option maxHeartbeats 4000000 in
theorem c_nb3 (l : Launch) {Z : jZ} {D : jD} {q : Nat} (h : q < 256) : ja_M l (mX7_neighbour 0 0) [.int (nI (q)), .int (nI (3))] Z D (ja_jr (some (.int (oI (nUp q)))) Z D) ja_x0 := by
  refine ja_Mof (lv := [some (.int (nI (q))), some (.int (nI (3))), none, none]) (by decide +kernel) rfl rfl (Nat.le_of_ble_eq_true rfl) rfl ?_
  refine ja_iload_n (i := 0) dX7_neighbour_0 rfl rfl ?_
  refine ja_bipush (v := nI 16) dX7_neighbour_1 (by decide +kernel) ?_
  refine ja_iremN dX7_neighbour_3 (by omega) (by omega) (by omega) ?_
  refine ja_istore_n (i := 2) dX7_neighbour_4 rfl rfl (Nat.le_of_ble_eq_true rfl) ?_
  refine ja_iload_n (i := 0) dX7_neighbour_5 rfl rfl ?_
  refine ja_bipush (v := nI 16) dX7_neighbour_6 (by decide +kernel) ?_
  refine ja_idivN dX7_neighbour_8 (by omega) (by omega) (by omega) ?_
  refine ja_istore_n (i := 3) dX7_neighbour_9 rfl rfl (Nat.le_of_ble_eq_true rfl) ?_
  refine ja_iload_n (i := 1) dX7_neighbour_10 rfl rfl ?_
  refine ja_swIn (off := 70) (tgt := 81) dX7_neighbour_11 (by decide +kernel) (by decide +kernel) (by decide +kernel) (by decide) ?_
  refine ja_iload_n (i := 3) dX7_neighbour_81 rfl rfl ?_
  refine ja_ifN_le (tgt := 92) dX7_neighbour_82 (by decide) (by omega) (fun c82 => ?_) (fun c82 => ?_)
  ·
    refine ja_iconst (v := (-1)) dX7_neighbour_92 (by decide +kernel) ?_
    refine ja_iret rfl rfl dX7_neighbour_93 (Nat.zero_le _) (Nat.zero_le _) ?_
    exact ⟨by rw [nUp]; first | (rw [if_pos (by omega)]; done) | (rw [if_neg (by omega)]; done) | (rw [if_pos (by omega)]; rfl) | (rw [if_neg (by omega)]; rfl), rfl, rfl⟩
  ·
    refine ja_iload_n (i := 0) dX7_neighbour_85 rfl rfl ?_
    refine ja_bipush (v := nI 16) dX7_neighbour_86 (by decide +kernel) ?_
    refine ja_isubN dX7_neighbour_88 (by omega) ?_
    refine ja_goto (tgt := 93) dX7_neighbour_89 (by decide) ?_
    refine ja_iret rfl rfl dX7_neighbour_93 (Nat.zero_le _) (Nat.zero_le _) ?_
    exact ⟨by rw [nUp]; first | (rw [if_pos (by omega)]; done) | (rw [if_neg (by omega)]; done) | (rw [if_pos (by omega)]; rfl) | (rw [if_neg (by omega)]; rfl), rfl, rfl⟩

theorem c_nb (l : Launch) {Z : jZ} {D : jD} {q s : Nat} (h : q < 256) (hs : s < 4) : ja_M l (mX7_neighbour 0 0) [.int (nI q), .int (nI s)] Z D (ja_jr (some (.int (oI (nbX s q)))) Z D) ja_x0 := by
  rcases (show s = 0 ∨ s = 1 ∨ s = 2 ∨ s = 3 by omega) with rfl | rfl | rfl | rfl
  · exact c_nb0 l h
  · exact c_nb1 l h
  · exact c_nb2 l h
  · exact c_nb3 l h

set_option maxRecDepth 100000 in
set_option maxHeartbeats 4000000 in
theorem c_layerOf (l : Launch) {Z : jZ} {D : jD} (hx : zX Z) {ly : Nat} (h1 : ly < 3) : ja_M l (mX7_layerOf 0 0) [.ref (0), .int (nI (ly))] Z D (ja_jr (some (.ref (30 + 10 * ly))) Z D) ja_x0 := by
  refine ja_Mof (lv := [some (.ref (0)), some (.int (nI (ly))), none]) (by decide +kernel) rfl rfl (Nat.le_of_ble_eq_true rfl) rfl ?_
  refine ja_iload_n (i := 1) dX7_layerOf_0 rfl rfl ?_
  refine ja_ifN_lt dX7_layerOf_1 (tgt := 18) (by decide) (by omega) ?_
  refine ja_iload_n (i := 1) dX7_layerOf_4 rfl rfl ?_
  refine ja_iconst (v := nI 3) dX7_layerOf_5 (by decide +kernel) ?_
  refine ja_icmpN_ge (tgt := 18) dX7_layerOf_6 (by decide) (by omega) (by omega) (fun c6 => (by exfalso; omega)) (fun c6 => ?_)
  refine ja_aload_n (i := 0) dX7_layerOf_9 rfl rfl ?_
  refine ja_getR fl_X7_11 (zX_o0 hx) rfl (zX_p0_0 hx) dX7_layerOf_10 ?_
  refine ja_iload_n (i := 1) dX7_layerOf_13 rfl rfl ?_
  refine ja_aald (zX_o1 hx) (by decide) rfl (by omega) (by decide) (zL_e hx (l := ly) (by omega)) dX7_layerOf_14 ?_
  refine ja_goto (tgt := 19) dX7_layerOf_15 (by decide) ?_
  refine ja_astore_n (i := 2) dX7_layerOf_19 rfl rfl (Nat.le_of_ble_eq_true rfl) ?_
  refine ja_aload_n (i := 2) dX7_layerOf_20 rfl rfl ?_
  refine ja_ifnn (tgt := 35) dX7_layerOf_21 (by decide) ?_
  refine ja_aload_n (i := 2) dX7_layerOf_35 rfl rfl ?_
  refine ja_aret rfl (Or.inl ⟨_, rfl⟩) dX7_layerOf_36 (Nat.zero_le _) (Nat.zero_le _) ?_
  exact ⟨rfl, rfl, rfl⟩

set_option maxRecDepth 100000 in
set_option maxHeartbeats 4000000 in
theorem c_layerOf_x (l : Launch) {Z : jZ} {D : jD} (hx : zX Z) {ly : Int32} (hl : ¬ (nI 0 ≤ ly ∧ ly ≤ nI 2)) : ja_M l (mX7_layerOf 1 6) [.ref (0), .int (ly)] Z D ja_r0 (ja_jx "java/lang/IndexOutOfBoundsException" Z D) := by
  refine ja_Mof (lv := [some (.ref (0)), some (.int (ly)), none]) (by decide +kernel) rfl rfl (Nat.le_of_ble_eq_true rfl) rfl ?_
  refine ja_iload_n (i := 1) dX7_layerOf_0 rfl rfl ?_
  refine ja_if_lt (tgt := 18) dX7_layerOf_1 (by decide) (fun c1 => ?_) (fun c1 => ?_)
  ·
    refine ja_null dX7_layerOf_18 ?_
    refine ja_astore_nN (i := 2) dX7_layerOf_19 rfl rfl (Nat.le_of_ble_eq_true rfl) ?_
    refine ja_aload_nN (i := 2) dX7_layerOf_20 rfl rfl ?_
    refine ja_ifnnN dX7_layerOf_21 ?_
    refine ja_throwW ts_X7_232_326_236 rfl dX7_layerOf_24 dX7_layerOf_27 dX7_layerOf_28 dX7_layerOf_31 dX7_layerOf_34 (Nat.le_of_ble_eq_true rfl) (Nat.le_of_ble_eq_true rfl) (Nat.le_of_ble_eq_true rfl) (Nat.le_of_ble_eq_true rfl) ?_
    exact ⟨rfl, rfl, rfl⟩
  ·
    refine ja_iload_n (i := 1) dX7_layerOf_4 rfl rfl ?_
    refine ja_iconst (v := nI 3) dX7_layerOf_5 (by decide +kernel) ?_
    refine ja_icmp_ge (tgt := 18) dX7_layerOf_6 (by decide) (fun c6 => ?_) (fun c6 => ?_)
    ·
      refine ja_null dX7_layerOf_18 ?_
      refine ja_astore_nN (i := 2) dX7_layerOf_19 rfl rfl (Nat.le_of_ble_eq_true rfl) ?_
      refine ja_aload_nN (i := 2) dX7_layerOf_20 rfl rfl ?_
      refine ja_ifnnN dX7_layerOf_21 ?_
      refine ja_throwW ts_X7_232_326_236 rfl dX7_layerOf_24 dX7_layerOf_27 dX7_layerOf_28 dX7_layerOf_31 dX7_layerOf_34 (Nat.le_of_ble_eq_true rfl) (Nat.le_of_ble_eq_true rfl) (Nat.le_of_ble_eq_true rfl) (Nat.le_of_ble_eq_true rfl) ?_
      exact ⟨rfl, rfl, rfl⟩
    ·
      exact absurd (bnd (by decide) c1 c6) hl

set_option maxRecDepth 100000 in
set_option maxHeartbeats 4000000 in
theorem c_needSession (l : Launch) {Z : jZ} {D : jD} (hx : zX Z) (hin : D 0 7 = bI true)  : ja_M l (mX7_needSession 0 0) [.ref (0)] Z D (ja_jr none Z D) ja_x0 := by
  refine ja_Mof (lv := [some (.ref (0))]) (by decide +kernel) rfl rfl (Nat.le_of_ble_eq_true rfl) rfl ?_
  refine ja_aload_n (i := 0) dX7_needSession_0 rfl rfl ?_
  refine ja_getI fl_X7_67 (zX_o0 hx) rfl dX7_needSession_1 ?_
  refine ja_top (y := bI (true)) hin ?_
  refine ja_ifB_ne (tgt := 18) dX7_needSession_4 (by decide) (fun c4 => ?_) (fun c4 => absurd c4 (by decide))
  refine ja_vret rfl dX7_needSession_18 (Nat.zero_le _) (Nat.zero_le _) ?_
  exact ⟨rfl, rfl, rfl⟩

set_option maxRecDepth 100000 in
set_option maxHeartbeats 4000000 in
theorem c_needSession_x (l : Launch) {Z : jZ} {D : jD} (hx : zX Z) (hin : D 0 7 = bI false)  : ja_M l (mX7_needSession 1 6) [.ref (0)] Z D ja_r0 (ja_jx "java/lang/IllegalStateException" Z D) := by
  refine ja_Mof (lv := [some (.ref (0))]) (by decide +kernel) rfl rfl (Nat.le_of_ble_eq_true rfl) rfl ?_
  refine ja_aload_n (i := 0) dX7_needSession_0 rfl rfl ?_
  refine ja_getI fl_X7_67 (zX_o0 hx) rfl dX7_needSession_1 ?_
  refine ja_top (y := bI (false)) hin ?_
  refine ja_ifB_ne (tgt := 18) dX7_needSession_4 (by decide) (fun c4 => absurd c4 (by decide)) (fun c4 => ?_)
  refine ja_throwW ts_X7_75_336_79 rfl dX7_needSession_7 dX7_needSession_10 dX7_needSession_11 dX7_needSession_14 dX7_needSession_17 (Nat.le_of_ble_eq_true rfl) (Nat.le_of_ble_eq_true rfl) (Nat.le_of_ble_eq_true rfl) (Nat.le_of_ble_eq_true rfl) ?_
  exact ⟨rfl, rfl, rfl⟩

set_option maxRecDepth 100000 in
set_option maxHeartbeats 4000000 in
theorem c_needArea (l : Launch) {Z : jZ} {D : jD} {a : Nat} (h : a < 10) : ja_M l (mX7_needArea 0 0) [.int (nI (a))] Z D (ja_jr none Z D) ja_x0 := by
  refine ja_Mof (lv := [some (.int (nI (a)))]) (by decide +kernel) rfl rfl (Nat.le_of_ble_eq_true rfl) rfl ?_
  refine ja_iload_n (i := 0) dX7_needArea_0 rfl rfl ?_
  refine ja_cSr (st := []) (c_isAreaT l (by omega)) rfl rfl (ce_X7_isArea 0 0) st_X7_isArea lk_X7_280 ⟨(Nat.le_of_ble_eq_true rfl), (Nat.le_of_ble_eq_true rfl)⟩ dX7_needArea_1 rfl rfl (Nat.le_of_ble_eq_true rfl) (Nat.zero_le _) (Nat.zero_le _) ?_
  refine ja_ifB_ne (tgt := 18) dX7_needArea_4 (by decide) (fun c4 => ?_) (fun c4 => absurd c4 (by decide))
  refine ja_vret rfl dX7_needArea_18 (Nat.zero_le _) (Nat.zero_le _) ?_
  exact ⟨rfl, rfl, rfl⟩

set_option maxRecDepth 100000 in
set_option maxHeartbeats 4000000 in
theorem c_needArea_x (l : Launch) {Z : jZ} {D : jD} {a : Int32} (ha : ¬ (nI 0 ≤ a ∧ a ≤ nI 9)) : ja_M l (mX7_needArea 1 6) [.int (a)] Z D ja_r0 (ja_jx "java/lang/IllegalArgumentException" Z D) := by
  refine ja_Mof (lv := [some (.int (a))]) (by decide +kernel) rfl rfl (Nat.le_of_ble_eq_true rfl) rfl ?_
  refine ja_iload_n (i := 0) dX7_needArea_0 rfl rfl ?_
  refine ja_cSr (st := []) (c_isAreaF l ha) rfl rfl (ce_X7_isArea 0 0) st_X7_isArea lk_X7_280 ⟨(Nat.le_of_ble_eq_true rfl), (Nat.le_of_ble_eq_true rfl)⟩ dX7_needArea_1 rfl rfl (Nat.le_of_ble_eq_true rfl) (Nat.zero_le _) (Nat.zero_le _) ?_
  refine ja_ifB_ne (tgt := 18) dX7_needArea_4 (by decide) (fun c4 => absurd c4 (by decide)) (fun c4 => ?_)
  refine ja_throwW ts_X7_60_346_64 rfl dX7_needArea_7 dX7_needArea_10 dX7_needArea_11 dX7_needArea_14 dX7_needArea_17 (Nat.le_of_ble_eq_true rfl) (Nat.le_of_ble_eq_true rfl) (Nat.le_of_ble_eq_true rfl) (Nat.le_of_ble_eq_true rfl) ?_
  exact ⟨rfl, rfl, rfl⟩
