/-! CONSTRUCTORS -/
def zO3 (Z : jZ) : jZ := (ja_uq (ja_zn (ja_uq (ja_zn (ja_uq (ja_zn (ja_uq (ja_zn (ja_uq (ja_zn Z 6 10 256) 5 0 (some 6)) 7 10 256) 5 1 (some 7)) 8 10 256) 5 2 (some 8)) 9 10 256) 5 4 (some 9)) 10 10 256) 5 5 (some 10))

def dO3 (D : jD) : jD := (ja_dn (ja_dn (ja_dn (ja_dn (ja_dn D 6) 7) 8) 9) 10)

set_option maxRecDepth 100000 in
set_option maxHeartbeats 4000000 in
theorem c_init3 (l : Launch) {Z : jZ} {D : jD} (hS : Z.2.1 5 = (3, 6)) (f0 : 6 ∉ Z.1) (f1 : 7 ∉ Z.1) (f2 : 8 ∉ Z.1) (f3 : 9 ∉ Z.1) (f4 : 10 ∉ Z.1) : ja_M l (mX3_init 5 1280) [.ref (5)] Z D (fun v2 Z2 D2 => v2 = none ∧ Z2 = zO3 Z ∧ D2 = dO3 D) ja_x0 := by
  refine ja_Mof (lv := [some (.ref (5))]) (by decide +kernel) rfl rfl (Nat.le_of_ble_eq_true rfl) rfl ?_
  refine ja_aload_n (i := 0) dX3_init_0 rfl rfl ?_
  refine ja_obj lk_X3_3 oi_im oi_co (Nat.le_of_ble_eq_true rfl) (Nat.le_of_ble_eq_true rfl) dX3_init_1 ?_
  refine ja_aload_n (i := 0) dX3_init_4 rfl rfl ?_
  refine ja_sipush (v := nI 256) dX3_init_5 (by decide +kernel) ?_
  refine ja_newa (id := 6) (n := 256) (t0 := 0) (k := 10) (at0 := .int) rfl (by decide) rfl (by decide) rfl ac_int rfl (by decide) (by simp [ja_zn, ja_uq, ja_zm, ja_nf, hS, f0, f1, f2, f3, f4]) (by omega) (Nat.le_of_ble_eq_true rfl) (Nat.le_of_ble_eq_true rfl) dX3_init_8 ?_
  refine ja_putFR rfl rfl fl_X3_9 (by simp [ja_zn, ja_uq, ja_zm, ja_nf, hS, f0, f1, f2, f3, f4]) rfl (by omega) (fun _ => rfl) (fun _ => rfl) dX3_init_10 ?_
  refine ja_aload_n (i := 0) dX3_init_13 rfl rfl ?_
  refine ja_sipush (v := nI 256) dX3_init_14 (by decide +kernel) ?_
  refine ja_newa (id := 7) (n := 256) (t0 := 0) (k := 10) (at0 := .int) rfl (by decide) rfl (by decide) rfl ac_int rfl (by decide) (by simp [ja_zn, ja_uq, ja_zm, ja_nf, hS, f0, f1, f2, f3, f4]) (by omega) (Nat.le_of_ble_eq_true rfl) (Nat.le_of_ble_eq_true rfl) dX3_init_17 ?_
  refine ja_putFR rfl rfl fl_X3_15 (by simp [ja_zn, ja_uq, ja_zm, ja_nf, hS, f0, f1, f2, f3, f4]) rfl (by omega) (fun _ => rfl) (fun _ => rfl) dX3_init_19 ?_
  refine ja_aload_n (i := 0) dX3_init_22 rfl rfl ?_
  refine ja_sipush (v := nI 256) dX3_init_23 (by decide +kernel) ?_
  refine ja_newa (id := 8) (n := 256) (t0 := 0) (k := 10) (at0 := .int) rfl (by decide) rfl (by decide) rfl ac_int rfl (by decide) (by simp [ja_zn, ja_uq, ja_zm, ja_nf, hS, f0, f1, f2, f3, f4]) (by omega) (Nat.le_of_ble_eq_true rfl) (Nat.le_of_ble_eq_true rfl) dX3_init_26 ?_
  refine ja_putFR rfl rfl fl_X3_18 (by simp [ja_zn, ja_uq, ja_zm, ja_nf, hS, f0, f1, f2, f3, f4]) rfl (by omega) (fun _ => rfl) (fun _ => rfl) dX3_init_28 ?_
  refine ja_aload_n (i := 0) dX3_init_31 rfl rfl ?_
  refine ja_sipush (v := nI 256) dX3_init_32 (by decide +kernel) ?_
  refine ja_newa (id := 9) (n := 256) (t0 := 0) (k := 10) (at0 := .int) rfl (by decide) rfl (by decide) rfl ac_int rfl (by decide) (by simp [ja_zn, ja_uq, ja_zm, ja_nf, hS, f0, f1, f2, f3, f4]) (by omega) (Nat.le_of_ble_eq_true rfl) (Nat.le_of_ble_eq_true rfl) dX3_init_35 ?_
  refine ja_putFR rfl rfl fl_X3_21 (by simp [ja_zn, ja_uq, ja_zm, ja_nf, hS, f0, f1, f2, f3, f4]) rfl (by omega) (fun _ => rfl) (fun _ => rfl) dX3_init_37 ?_
  refine ja_aload_n (i := 0) dX3_init_40 rfl rfl ?_
  refine ja_sipush (v := nI 256) dX3_init_41 (by decide +kernel) ?_
  refine ja_newa (id := 10) (n := 256) (t0 := 0) (k := 10) (at0 := .int) rfl (by decide) rfl (by decide) rfl ac_int rfl (by decide) (by simp [ja_zn, ja_uq, ja_zm, ja_nf, hS, f0, f1, f2, f3, f4]) (by omega) (Nat.le_of_ble_eq_true rfl) (Nat.le_of_ble_eq_true rfl) dX3_init_44 ?_
  refine ja_putFR rfl rfl fl_X3_24 (by simp [ja_zn, ja_uq, ja_zm, ja_nf, hS, f0, f1, f2, f3, f4]) rfl (by omega) (fun _ => rfl) (fun _ => rfl) dX3_init_46 ?_
  refine ja_vret rfl dX3_init_49 (Nat.le_of_ble_eq_true rfl) (Nat.le_of_ble_eq_true rfl) ?_
  exact ⟨rfl, rfl, rfl⟩

def zO5 (Z : jZ) : jZ := (ja_uq (ja_zn Z 12 10 256) 11 0 (some 12))

def dO5 (D : jD) : jD := (ja_dn D 12)

set_option maxRecDepth 100000 in
set_option maxHeartbeats 4000000 in
theorem c_init5 (l : Launch) {Z : jZ} {D : jD} (hS : Z.2.1 11 = (5, 1)) (f0 : 12 ∉ Z.1) : ja_M l (mX5_init 1 256) [.ref (11)] Z D (fun v2 Z2 D2 => v2 = none ∧ Z2 = zO5 Z ∧ D2 = dO5 D) ja_x0 := by
  refine ja_Mof (lv := [some (.ref (11))]) (by decide +kernel) rfl rfl (Nat.le_of_ble_eq_true rfl) rfl ?_
  refine ja_aload_n (i := 0) dX5_init_0 rfl rfl ?_
  refine ja_obj lk_X5_3 oi_im oi_co (Nat.le_of_ble_eq_true rfl) (Nat.le_of_ble_eq_true rfl) dX5_init_1 ?_
  refine ja_aload_n (i := 0) dX5_init_4 rfl rfl ?_
  refine ja_sipush (v := nI 256) dX5_init_5 (by decide +kernel) ?_
  refine ja_newa (id := 12) (n := 256) (t0 := 0) (k := 10) (at0 := .int) rfl (by decide) rfl (by decide) rfl ac_int rfl (by decide) (by simp [ja_zn, ja_uq, ja_zm, ja_nf, hS, f0]) (by omega) (Nat.le_of_ble_eq_true rfl) (Nat.le_of_ble_eq_true rfl) dX5_init_8 ?_
  refine ja_putFR rfl rfl fl_X5_9 (by simp [ja_zn, ja_uq, ja_zm, ja_nf, hS, f0]) rfl (by omega) (fun _ => rfl) (fun _ => rfl) dX5_init_10 ?_
  refine ja_vret rfl dX5_init_13 (Nat.le_of_ble_eq_true rfl) (Nat.le_of_ble_eq_true rfl) ?_
  exact ⟨rfl, rfl, rfl⟩

def zO0 (Z : jZ) : jZ := (ja_uq (ja_zm (ja_uq (ja_zn (ja_uq (ja_zn Z 14 10 10) 13 0 (some 14)) 15 10 10) 13 1 (some 15)) 16 20 10 10) 13 2 (some 16))

def dO0 (D : jD) : jD := (ja_dm (ja_dn (ja_dn D 14) 15) 16 20 10)

set_option maxRecDepth 100000 in
set_option maxHeartbeats 4000000 in
theorem c_init0 (l : Launch) {Z : jZ} {D : jD} (f3 : ∀ i, i < 10 → 20 + i ∉ Z.1) (hS : Z.2.1 13 = (0, 3)) (f0 : 14 ∉ Z.1) (f1 : 15 ∉ Z.1) (f2 : 16 ∉ Z.1) : ja_M l (mX0_init 13 130) [.ref (13)] Z D (fun v2 Z2 D2 => v2 = none ∧ Z2 = zO0 Z ∧ D2 = dO0 D) ja_x0 := by
  refine ja_Mof (lv := [some (.ref (13))]) (by decide +kernel) rfl rfl (Nat.le_of_ble_eq_true rfl) rfl ?_
  refine ja_aload_n (i := 0) dX0_init_0 rfl rfl ?_
  refine ja_obj lk_X0_3 oi_im oi_co (Nat.le_of_ble_eq_true rfl) (Nat.le_of_ble_eq_true rfl) dX0_init_1 ?_
  refine ja_aload_n (i := 0) dX0_init_4 rfl rfl ?_
  refine ja_bipush (v := nI 10) dX0_init_5 (by decide +kernel) ?_
  refine ja_newa (id := 14) (n := 10) (t0 := 0) (k := 10) (at0 := .int) rfl (by decide) rfl (by decide) rfl ac_int rfl (by decide) (by simp [ja_zn, ja_uq, ja_zm, ja_nf, hS, f0, f1, f2]) (by omega) (Nat.le_of_ble_eq_true rfl) (Nat.le_of_ble_eq_true rfl) dX0_init_7 ?_
  refine ja_putFR rfl rfl fl_X0_9 (by simp [ja_zn, ja_uq, ja_zm, ja_nf, hS, f0, f1, f2]) rfl (by omega) (fun _ => rfl) (fun _ => rfl) dX0_init_9 ?_
  refine ja_aload_n (i := 0) dX0_init_12 rfl rfl ?_
  refine ja_bipush (v := nI 10) dX0_init_13 (by decide +kernel) ?_
  refine ja_newa (id := 15) (n := 10) (t0 := 0) (k := 10) (at0 := .int) rfl (by decide) rfl (by decide) rfl ac_int rfl (by decide) (by simp [ja_zn, ja_uq, ja_zm, ja_nf, hS, f0, f1, f2]) (by omega) (Nat.le_of_ble_eq_true rfl) (Nat.le_of_ble_eq_true rfl) dX0_init_15 ?_
  refine ja_putFR rfl rfl fl_X0_15 (by simp [ja_zn, ja_uq, ja_zm, ja_nf, hS, f0, f1, f2]) rfl (by omega) (fun _ => rfl) (fun _ => rfl) dX0_init_17 ?_
  refine ja_aload_n (i := 0) dX0_init_20 rfl rfl ?_
  refine ja_bipush (v := nI 10) dX0_init_21 (by decide +kernel) ?_
  refine ja_bipush (v := nI 10) dX0_init_23 (by decide +kernel) ?_
  refine ja_mna (id := 16) (rid := 20) (n := 10) (k := 10) rfl rfl (by decide) (by decide) cl_X0_18 (by simp [ja_zn, ja_uq, ja_zm, ja_nf, hS, f0, f1, f2]) (fun i hi => by have := f3 i hi; simp [ja_zn, ja_uq]; exact ⟨this, by omega, by omega⟩) (by omega) (by omega) (by omega) (Nat.le_of_ble_eq_true rfl) (Nat.le_of_ble_eq_true rfl) dX0_init_25 ?_
  refine ja_putFR rfl rfl fl_X0_20 (by simp [ja_zn, ja_uq, ja_zm, ja_nf, hS, f0, f1, f2]) rfl (by omega) (fun _ => rfl) (fun _ => rfl) dX0_init_29 ?_
  refine ja_vret rfl dX0_init_32 (Nat.le_of_ble_eq_true rfl) (Nat.le_of_ble_eq_true rfl) ?_
  exact ⟨rfl, rfl, rfl⟩

def zO2 (Z : jZ) : jZ := (ja_uq (ja_zn Z 18 10 256) 17 0 (some 18))

def dO2 (D : jD) : jD := (ja_dn D 18)

set_option maxRecDepth 100000 in
set_option maxHeartbeats 4000000 in
theorem c_init2 (l : Launch) {Z : jZ} {D : jD} (hS : Z.2.1 17 = (2, 1)) (f0 : 18 ∉ Z.1) : ja_M l (mX2_init 1 256) [.ref (17)] Z D (fun v2 Z2 D2 => v2 = none ∧ Z2 = zO2 Z ∧ D2 = dO2 D) ja_x0 := by
  refine ja_Mof (lv := [some (.ref (17))]) (by decide +kernel) rfl rfl (Nat.le_of_ble_eq_true rfl) rfl ?_
  refine ja_aload_n (i := 0) dX2_init_0 rfl rfl ?_
  refine ja_obj lk_X2_3 oi_im oi_co (Nat.le_of_ble_eq_true rfl) (Nat.le_of_ble_eq_true rfl) dX2_init_1 ?_
  refine ja_aload_n (i := 0) dX2_init_4 rfl rfl ?_
  refine ja_sipush (v := nI 256) dX2_init_5 (by decide +kernel) ?_
  refine ja_newa (id := 18) (n := 256) (t0 := 0) (k := 10) (at0 := .int) rfl (by decide) rfl (by decide) rfl ac_int rfl (by decide) (by simp [ja_zn, ja_uq, ja_zm, ja_nf, hS, f0]) (by omega) (Nat.le_of_ble_eq_true rfl) (Nat.le_of_ble_eq_true rfl) dX2_init_8 ?_
  refine ja_putFR rfl rfl fl_X2_9 (by simp [ja_zn, ja_uq, ja_zm, ja_nf, hS, f0]) rfl (by omega) (fun _ => rfl) (fun _ => rfl) dX2_init_10 ?_
  refine ja_vret rfl dX2_init_13 (Nat.le_of_ble_eq_true rfl) (Nat.le_of_ble_eq_true rfl) ?_
  exact ⟨rfl, rfl, rfl⟩
