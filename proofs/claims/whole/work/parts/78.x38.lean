/-! CONSTRUCTORS: layers, rules, versions -/
def li1 (E : jD) (a b k : Nat) : jD := fun x j => if (x = a ∨ x = b) ∧ j < k then -1 else E x j
theorem li1_0 {E : jD} {a b : Nat} : E = li1 E a b 0 := by
  funext x j
  rw [li1, if_neg (by omega)]
theorem li1_s {E : jD} {a b k : Nat} : ja_up (ja_up (li1 E a b k) a k (-1)) b k (-1) = li1 E a b (k + 1) := by
  funext x j
  simp only [ja_up, li1]
  grind
theorem li1_s1 {E : jD} {a k : Nat} : ja_up (li1 E a a k) a k (-1) = li1 E a a (k + 1) := by
  funext x j
  simp only [ja_up, li1]
  grind

def zO1_0 (Z : jZ) : jZ := (ja_uq (ja_zn (ja_uq (ja_zn (ja_uq (ja_zn (ja_uq (ja_zn (ja_uq (ja_zn (ja_uq (ja_zn (ja_uq (ja_zn Z 31 10 256) 30 0 (some 31)) 32 10 10) 30 1 (some 32)) 33 10 10) 30 2 (some 33)) 34 10 10) 30 3 (some 34)) 35 10 10) 30 5 (some 35)) 36 10 10496) 30 6 (some 36)) 37 10 10) 30 7 (some 37))

def dO1_0 (D : jD) : jD := li1 (ja_dn (ja_dn (ja_dn (ja_up (ja_dn (ja_dn (ja_dn (ja_dn D 31) 32) 33) 34) 30 4 (nI (1))) 35) 36) 37) 31 36 256

set_option maxRecDepth 100000 in
set_option maxHeartbeats 4000000 in
theorem c_init1_0 (l : Launch) {Z : jZ} {D : jD} (hS : Z.2.1 30 = (1, 9)) (f0 : 31 ∉ Z.1) (f1 : 32 ∉ Z.1) (f2 : 33 ∉ Z.1) (f3 : 34 ∉ Z.1) (f4 : 35 ∉ Z.1) (f5 : 36 ∉ Z.1) (f6 : 37 ∉ Z.1) : ja_M l (mX1_init 7 10802) [.ref (30)] Z D (fun v2 Z2 D2 => v2 = none ∧ Z2 = zO1_0 Z ∧ D2 = dO1_0 D) ja_x0 := by
  refine ja_Mof (lv := [some (.ref (30)), none]) (by decide +kernel) rfl rfl (Nat.le_of_ble_eq_true rfl) rfl ?_
  refine ja_aload_n (i := 0) dX1_init_0 rfl rfl ?_
  refine ja_obj lk_X1_3 oi_im oi_co (Nat.le_of_ble_eq_true rfl) (Nat.le_of_ble_eq_true rfl) dX1_init_1 ?_
  refine ja_aload_n (i := 0) dX1_init_4 rfl rfl ?_
  refine ja_sipush (v := nI 256) dX1_init_5 (by decide +kernel) ?_
  refine ja_newa (id := 31) (n := 256) (t0 := 0) (k := 10) (at0 := .int) rfl (by decide) rfl (by decide) rfl ac_int rfl (by decide) (by simp [ja_zn, ja_uq, ja_zm, ja_nf, hS, f0, f1, f2, f3, f4, f5, f6]) (by omega) (Nat.le_of_ble_eq_true rfl) (Nat.le_of_ble_eq_true rfl) dX1_init_8 ?_
  refine ja_putFR rfl rfl fl_X1_9 (by simp [ja_zn, ja_uq, ja_zm, ja_nf, hS, f0, f1, f2, f3, f4, f5, f6]) rfl (by omega) (fun _ => rfl) (fun _ => rfl) dX1_init_10 ?_
  refine ja_aload_n (i := 0) dX1_init_13 rfl rfl ?_
  refine ja_bipush (v := nI 10) dX1_init_14 (by decide +kernel) ?_
  refine ja_newa (id := 32) (n := 10) (t0 := 0) (k := 10) (at0 := .int) rfl (by decide) rfl (by decide) rfl ac_int rfl (by decide) (by simp [ja_zn, ja_uq, ja_zm, ja_nf, hS, f0, f1, f2, f3, f4, f5, f6]) (by omega) (Nat.le_of_ble_eq_true rfl) (Nat.le_of_ble_eq_true rfl) dX1_init_16 ?_
  refine ja_putFR rfl rfl fl_X1_15 (by simp [ja_zn, ja_uq, ja_zm, ja_nf, hS, f0, f1, f2, f3, f4, f5, f6]) rfl (by omega) (fun _ => rfl) (fun _ => rfl) dX1_init_18 ?_
  refine ja_aload_n (i := 0) dX1_init_21 rfl rfl ?_
  refine ja_bipush (v := nI 10) dX1_init_22 (by decide +kernel) ?_
  refine ja_newa (id := 33) (n := 10) (t0 := 0) (k := 10) (at0 := .int) rfl (by decide) rfl (by decide) rfl ac_int rfl (by decide) (by simp [ja_zn, ja_uq, ja_zm, ja_nf, hS, f0, f1, f2, f3, f4, f5, f6]) (by omega) (Nat.le_of_ble_eq_true rfl) (Nat.le_of_ble_eq_true rfl) dX1_init_24 ?_
  refine ja_putFR rfl rfl fl_X1_18 (by simp [ja_zn, ja_uq, ja_zm, ja_nf, hS, f0, f1, f2, f3, f4, f5, f6]) rfl (by omega) (fun _ => rfl) (fun _ => rfl) dX1_init_26 ?_
  refine ja_aload_n (i := 0) dX1_init_29 rfl rfl ?_
  refine ja_bipush (v := nI 10) dX1_init_30 (by decide +kernel) ?_
  refine ja_newa (id := 34) (n := 10) (t0 := 0) (k := 10) (at0 := .int) rfl (by decide) rfl (by decide) rfl ac_int rfl (by decide) (by simp [ja_zn, ja_uq, ja_zm, ja_nf, hS, f0, f1, f2, f3, f4, f5, f6]) (by omega) (Nat.le_of_ble_eq_true rfl) (Nat.le_of_ble_eq_true rfl) dX1_init_32 ?_
  refine ja_putFR rfl rfl fl_X1_21 (by simp [ja_zn, ja_uq, ja_zm, ja_nf, hS, f0, f1, f2, f3, f4, f5, f6]) rfl (by omega) (fun _ => rfl) (fun _ => rfl) dX1_init_34 ?_
  refine ja_aload_n (i := 0) dX1_init_37 rfl rfl ?_
  refine ja_iconst (v := nI 1) dX1_init_38 (by decide +kernel) ?_
  refine ja_putI fl_X1_24 (by simp [ja_zn, ja_uq, ja_zm, ja_nf, hS, f0, f1, f2, f3, f4, f5, f6]) rfl (by decide +kernel) (by decide +kernel) dX1_init_39 ?_
  refine ja_aload_n (i := 0) dX1_init_42 rfl rfl ?_
  refine ja_bipush (v := nI 10) dX1_init_43 (by decide +kernel) ?_
  refine ja_newa (id := 35) (n := 10) (t0 := 0) (k := 10) (at0 := .int) rfl (by decide) rfl (by decide) rfl ac_int rfl (by decide) (by simp [ja_zn, ja_uq, ja_zm, ja_nf, hS, f0, f1, f2, f3, f4, f5, f6]) (by omega) (Nat.le_of_ble_eq_true rfl) (Nat.le_of_ble_eq_true rfl) dX1_init_45 ?_
  refine ja_putFR rfl rfl fl_X1_28 (by simp [ja_zn, ja_uq, ja_zm, ja_nf, hS, f0, f1, f2, f3, f4, f5, f6]) rfl (by omega) (fun _ => rfl) (fun _ => rfl) dX1_init_47 ?_
  refine ja_aload_n (i := 0) dX1_init_50 rfl rfl ?_
  refine ja_sipush (v := nI 10496) dX1_init_51 (by decide +kernel) ?_
  refine ja_newa (id := 36) (n := 10496) (t0 := 0) (k := 10) (at0 := .int) rfl (by decide) rfl (by decide) rfl ac_int rfl (by decide) (by simp [ja_zn, ja_uq, ja_zm, ja_nf, hS, f0, f1, f2, f3, f4, f5, f6]) (by omega) (Nat.le_of_ble_eq_true rfl) (Nat.le_of_ble_eq_true rfl) dX1_init_54 ?_
  refine ja_putFR rfl rfl fl_X1_31 (by simp [ja_zn, ja_uq, ja_zm, ja_nf, hS, f0, f1, f2, f3, f4, f5, f6]) rfl (by omega) (fun _ => rfl) (fun _ => rfl) dX1_init_56 ?_
  refine ja_aload_n (i := 0) dX1_init_59 rfl rfl ?_
  refine ja_bipush (v := nI 10) dX1_init_60 (by decide +kernel) ?_
  refine ja_newa (id := 37) (n := 10) (t0 := 0) (k := 10) (at0 := .int) rfl (by decide) rfl (by decide) rfl ac_int rfl (by decide) (by simp [ja_zn, ja_uq, ja_zm, ja_nf, hS, f0, f1, f2, f3, f4, f5, f6]) (by omega) (Nat.le_of_ble_eq_true rfl) (Nat.le_of_ble_eq_true rfl) dX1_init_62 ?_
  refine ja_putFR rfl rfl fl_X1_34 (by simp [ja_zn, ja_uq, ja_zm, ja_nf, hS, f0, f1, f2, f3, f4, f5, f6]) rfl (by omega) (fun _ => rfl) (fun _ => rfl) dX1_init_64 ?_
  refine ja_iconst (v := nI 0) dX1_init_67 (by decide +kernel) ?_
  refine ja_istore_n (i := 1) dX1_init_68 rfl rfl (Nat.le_of_ble_eq_true rfl) ?_
  have lp69 : ∀ (f69 : Nat) (q : Nat) (E : jD), (256 < q + f69) → (q ≤ 256) → (E = li1 (ja_dn (ja_dn (ja_dn (ja_up (ja_dn (ja_dn (ja_dn (ja_dn D 31) 32) 33) 34) 30 4 (nI (1))) 35) 36) 37) 31 36 q) → ja_A l (mX1_init 7 10802) ja_sn (ja_Qf (mX1_init 7 10802) (fun v2 Z2 D2 => v2 = none ∧ Z2 = zO1_0 Z ∧ D2 = dO1_0 D) ja_x0) 69 [some (.ref (30)), some (.int (nI (q)))] [] (ja_uq (ja_zn (ja_uq (ja_zn (ja_uq (ja_zn (ja_uq (ja_zn (ja_uq (ja_zn (ja_uq (ja_zn (ja_uq (ja_zn Z 31 10 256) 30 0 (some 31)) 32 10 10) 30 1 (some 32)) 33 10 10) 30 2 (some 33)) 34 10 10) 30 3 (some 34)) 35 10 10) 30 5 (some 35)) 36 10 10496) 30 6 (some 36)) 37 10 10) 30 7 (some 37)) E 7 10802 := by
    intro f69
    induction f69 with
    | zero => intro q E hf hq hE; exfalso; omega
    | succ f69 ih69 =>
      intro q E hf hq hE
      refine ja_iload_n (i := 1) dX1_init_69 rfl rfl ?_
      refine ja_sipush (v := nI 256) dX1_init_70 (by decide +kernel) ?_
      refine ja_icmpN_ge (tgt := 96) dX1_init_73 (by decide) (by omega) (by omega) (fun c73 => ?_) (fun c73 => ?_)
      ·
        refine ja_vret rfl dX1_init_96 (Nat.le_of_ble_eq_true rfl) (Nat.le_of_ble_eq_true rfl) ?_
        exact ⟨rfl, rfl, by rw [hE, show q = 256 by omega]; rfl⟩
      ·
        refine ja_aload_n (i := 0) dX1_init_76 rfl rfl ?_
        refine ja_getR fl_X1_9 (by simp [ja_zn, ja_uq, ja_zm, ja_nf, hS, f0, f1, f2, f3, f4, f5, f6]) rfl (show _ = some (31) from (by simp [ja_zn, ja_uq, ja_zm, ja_nf, hS, f0, f1, f2, f3, f4, f5, f6])) dX1_init_77 ?_
        refine ja_iload_n (i := 1) dX1_init_80 rfl rfl ?_
        refine ja_iconst (v := (-1)) dX1_init_81 (by decide +kernel) ?_
        refine ja_iast (show _ = (10, 256) from (by simp [ja_zn, ja_uq, ja_zm, ja_nf, hS, f0, f1, f2, f3, f4, f5, f6])) rfl (by omega) (by decide) dX1_init_82 ?_
        refine ja_aload_n (i := 0) dX1_init_83 rfl rfl ?_
        refine ja_getR fl_X1_31 (by simp [ja_zn, ja_uq, ja_zm, ja_nf, hS, f0, f1, f2, f3, f4, f5, f6]) rfl (show _ = some (36) from (by simp [ja_zn, ja_uq, ja_zm, ja_nf, hS, f0, f1, f2, f3, f4, f5, f6])) dX1_init_84 ?_
        refine ja_iload_n (i := 1) dX1_init_87 rfl rfl ?_
        refine ja_iconst (v := (-1)) dX1_init_88 (by decide +kernel) ?_
        refine ja_iast (show _ = (10, 10496) from (by simp [ja_zn, ja_uq, ja_zm, ja_nf, hS, f0, f1, f2, f3, f4, f5, f6])) rfl (by omega) (by decide) dX1_init_89 ?_
        refine ja_iincN dX1_init_90 rfl rfl (Nat.le_of_ble_eq_true rfl) ?_
        refine ja_goto (tgt := 69) dX1_init_93 (by decide) ?_
        exact ih69 (q + 1) _ (by omega) (by omega) (by rw [hE]; exact li1_s)
  exact lp69 257 0 _ (by omega) (by omega) li1_0

def zO1_1 (Z : jZ) : jZ := (ja_uq (ja_zn (ja_uq (ja_zn (ja_uq (ja_zn (ja_uq (ja_zn (ja_uq (ja_zn (ja_uq (ja_zn (ja_uq (ja_zn Z 41 10 256) 40 0 (some 41)) 42 10 10) 40 1 (some 42)) 43 10 10) 40 2 (some 43)) 44 10 10) 40 3 (some 44)) 45 10 10) 40 5 (some 45)) 46 10 10496) 40 6 (some 46)) 47 10 10) 40 7 (some 47))

def dO1_1 (D : jD) : jD := li1 (ja_dn (ja_dn (ja_dn (ja_up (ja_dn (ja_dn (ja_dn (ja_dn D 41) 42) 43) 44) 40 4 (nI (1))) 45) 46) 47) 41 46 256

set_option maxRecDepth 100000 in
set_option maxHeartbeats 4000000 in
theorem c_init1_1 (l : Launch) {Z : jZ} {D : jD} (hS : Z.2.1 40 = (1, 9)) (f0 : 41 ∉ Z.1) (f1 : 42 ∉ Z.1) (f2 : 43 ∉ Z.1) (f3 : 44 ∉ Z.1) (f4 : 45 ∉ Z.1) (f5 : 46 ∉ Z.1) (f6 : 47 ∉ Z.1) : ja_M l (mX1_init 7 10802) [.ref (40)] Z D (fun v2 Z2 D2 => v2 = none ∧ Z2 = zO1_1 Z ∧ D2 = dO1_1 D) ja_x0 := by
  refine ja_Mof (lv := [some (.ref (40)), none]) (by decide +kernel) rfl rfl (Nat.le_of_ble_eq_true rfl) rfl ?_
  refine ja_aload_n (i := 0) dX1_init_0 rfl rfl ?_
  refine ja_obj lk_X1_3 oi_im oi_co (Nat.le_of_ble_eq_true rfl) (Nat.le_of_ble_eq_true rfl) dX1_init_1 ?_
  refine ja_aload_n (i := 0) dX1_init_4 rfl rfl ?_
  refine ja_sipush (v := nI 256) dX1_init_5 (by decide +kernel) ?_
  refine ja_newa (id := 41) (n := 256) (t0 := 0) (k := 10) (at0 := .int) rfl (by decide) rfl (by decide) rfl ac_int rfl (by decide) (by simp [ja_zn, ja_uq, ja_zm, ja_nf, hS, f0, f1, f2, f3, f4, f5, f6]) (by omega) (Nat.le_of_ble_eq_true rfl) (Nat.le_of_ble_eq_true rfl) dX1_init_8 ?_
  refine ja_putFR rfl rfl fl_X1_9 (by simp [ja_zn, ja_uq, ja_zm, ja_nf, hS, f0, f1, f2, f3, f4, f5, f6]) rfl (by omega) (fun _ => rfl) (fun _ => rfl) dX1_init_10 ?_
  refine ja_aload_n (i := 0) dX1_init_13 rfl rfl ?_
  refine ja_bipush (v := nI 10) dX1_init_14 (by decide +kernel) ?_
  refine ja_newa (id := 42) (n := 10) (t0 := 0) (k := 10) (at0 := .int) rfl (by decide) rfl (by decide) rfl ac_int rfl (by decide) (by simp [ja_zn, ja_uq, ja_zm, ja_nf, hS, f0, f1, f2, f3, f4, f5, f6]) (by omega) (Nat.le_of_ble_eq_true rfl) (Nat.le_of_ble_eq_true rfl) dX1_init_16 ?_
  refine ja_putFR rfl rfl fl_X1_15 (by simp [ja_zn, ja_uq, ja_zm, ja_nf, hS, f0, f1, f2, f3, f4, f5, f6]) rfl (by omega) (fun _ => rfl) (fun _ => rfl) dX1_init_18 ?_
  refine ja_aload_n (i := 0) dX1_init_21 rfl rfl ?_
  refine ja_bipush (v := nI 10) dX1_init_22 (by decide +kernel) ?_
  refine ja_newa (id := 43) (n := 10) (t0 := 0) (k := 10) (at0 := .int) rfl (by decide) rfl (by decide) rfl ac_int rfl (by decide) (by simp [ja_zn, ja_uq, ja_zm, ja_nf, hS, f0, f1, f2, f3, f4, f5, f6]) (by omega) (Nat.le_of_ble_eq_true rfl) (Nat.le_of_ble_eq_true rfl) dX1_init_24 ?_
  refine ja_putFR rfl rfl fl_X1_18 (by simp [ja_zn, ja_uq, ja_zm, ja_nf, hS, f0, f1, f2, f3, f4, f5, f6]) rfl (by omega) (fun _ => rfl) (fun _ => rfl) dX1_init_26 ?_
  refine ja_aload_n (i := 0) dX1_init_29 rfl rfl ?_
  refine ja_bipush (v := nI 10) dX1_init_30 (by decide +kernel) ?_
  refine ja_newa (id := 44) (n := 10) (t0 := 0) (k := 10) (at0 := .int) rfl (by decide) rfl (by decide) rfl ac_int rfl (by decide) (by simp [ja_zn, ja_uq, ja_zm, ja_nf, hS, f0, f1, f2, f3, f4, f5, f6]) (by omega) (Nat.le_of_ble_eq_true rfl) (Nat.le_of_ble_eq_true rfl) dX1_init_32 ?_
  refine ja_putFR rfl rfl fl_X1_21 (by simp [ja_zn, ja_uq, ja_zm, ja_nf, hS, f0, f1, f2, f3, f4, f5, f6]) rfl (by omega) (fun _ => rfl) (fun _ => rfl) dX1_init_34 ?_
  refine ja_aload_n (i := 0) dX1_init_37 rfl rfl ?_
  refine ja_iconst (v := nI 1) dX1_init_38 (by decide +kernel) ?_
  refine ja_putI fl_X1_24 (by simp [ja_zn, ja_uq, ja_zm, ja_nf, hS, f0, f1, f2, f3, f4, f5, f6]) rfl (by decide +kernel) (by decide +kernel) dX1_init_39 ?_
  refine ja_aload_n (i := 0) dX1_init_42 rfl rfl ?_
  refine ja_bipush (v := nI 10) dX1_init_43 (by decide +kernel) ?_
  refine ja_newa (id := 45) (n := 10) (t0 := 0) (k := 10) (at0 := .int) rfl (by decide) rfl (by decide) rfl ac_int rfl (by decide) (by simp [ja_zn, ja_uq, ja_zm, ja_nf, hS, f0, f1, f2, f3, f4, f5, f6]) (by omega) (Nat.le_of_ble_eq_true rfl) (Nat.le_of_ble_eq_true rfl) dX1_init_45 ?_
  refine ja_putFR rfl rfl fl_X1_28 (by simp [ja_zn, ja_uq, ja_zm, ja_nf, hS, f0, f1, f2, f3, f4, f5, f6]) rfl (by omega) (fun _ => rfl) (fun _ => rfl) dX1_init_47 ?_
  refine ja_aload_n (i := 0) dX1_init_50 rfl rfl ?_
  refine ja_sipush (v := nI 10496) dX1_init_51 (by decide +kernel) ?_
  refine ja_newa (id := 46) (n := 10496) (t0 := 0) (k := 10) (at0 := .int) rfl (by decide) rfl (by decide) rfl ac_int rfl (by decide) (by simp [ja_zn, ja_uq, ja_zm, ja_nf, hS, f0, f1, f2, f3, f4, f5, f6]) (by omega) (Nat.le_of_ble_eq_true rfl) (Nat.le_of_ble_eq_true rfl) dX1_init_54 ?_
  refine ja_putFR rfl rfl fl_X1_31 (by simp [ja_zn, ja_uq, ja_zm, ja_nf, hS, f0, f1, f2, f3, f4, f5, f6]) rfl (by omega) (fun _ => rfl) (fun _ => rfl) dX1_init_56 ?_
  refine ja_aload_n (i := 0) dX1_init_59 rfl rfl ?_
  refine ja_bipush (v := nI 10) dX1_init_60 (by decide +kernel) ?_
  refine ja_newa (id := 47) (n := 10) (t0 := 0) (k := 10) (at0 := .int) rfl (by decide) rfl (by decide) rfl ac_int rfl (by decide) (by simp [ja_zn, ja_uq, ja_zm, ja_nf, hS, f0, f1, f2, f3, f4, f5, f6]) (by omega) (Nat.le_of_ble_eq_true rfl) (Nat.le_of_ble_eq_true rfl) dX1_init_62 ?_
  refine ja_putFR rfl rfl fl_X1_34 (by simp [ja_zn, ja_uq, ja_zm, ja_nf, hS, f0, f1, f2, f3, f4, f5, f6]) rfl (by omega) (fun _ => rfl) (fun _ => rfl) dX1_init_64 ?_
  refine ja_iconst (v := nI 0) dX1_init_67 (by decide +kernel) ?_
  refine ja_istore_n (i := 1) dX1_init_68 rfl rfl (Nat.le_of_ble_eq_true rfl) ?_
  have lp69 : ∀ (f69 : Nat) (q : Nat) (E : jD), (256 < q + f69) → (q ≤ 256) → (E = li1 (ja_dn (ja_dn (ja_dn (ja_up (ja_dn (ja_dn (ja_dn (ja_dn D 41) 42) 43) 44) 40 4 (nI (1))) 45) 46) 47) 41 46 q) → ja_A l (mX1_init 7 10802) ja_sn (ja_Qf (mX1_init 7 10802) (fun v2 Z2 D2 => v2 = none ∧ Z2 = zO1_1 Z ∧ D2 = dO1_1 D) ja_x0) 69 [some (.ref (40)), some (.int (nI (q)))] [] (ja_uq (ja_zn (ja_uq (ja_zn (ja_uq (ja_zn (ja_uq (ja_zn (ja_uq (ja_zn (ja_uq (ja_zn (ja_uq (ja_zn Z 41 10 256) 40 0 (some 41)) 42 10 10) 40 1 (some 42)) 43 10 10) 40 2 (some 43)) 44 10 10) 40 3 (some 44)) 45 10 10) 40 5 (some 45)) 46 10 10496) 40 6 (some 46)) 47 10 10) 40 7 (some 47)) E 7 10802 := by
    intro f69
    induction f69 with
    | zero => intro q E hf hq hE; exfalso; omega
    | succ f69 ih69 =>
      intro q E hf hq hE
      refine ja_iload_n (i := 1) dX1_init_69 rfl rfl ?_
      refine ja_sipush (v := nI 256) dX1_init_70 (by decide +kernel) ?_
      refine ja_icmpN_ge (tgt := 96) dX1_init_73 (by decide) (by omega) (by omega) (fun c73 => ?_) (fun c73 => ?_)
      ·
        refine ja_vret rfl dX1_init_96 (Nat.le_of_ble_eq_true rfl) (Nat.le_of_ble_eq_true rfl) ?_
        exact ⟨rfl, rfl, by rw [hE, show q = 256 by omega]; rfl⟩
      ·
        refine ja_aload_n (i := 0) dX1_init_76 rfl rfl ?_
        refine ja_getR fl_X1_9 (by simp [ja_zn, ja_uq, ja_zm, ja_nf, hS, f0, f1, f2, f3, f4, f5, f6]) rfl (show _ = some (41) from (by simp [ja_zn, ja_uq, ja_zm, ja_nf, hS, f0, f1, f2, f3, f4, f5, f6])) dX1_init_77 ?_
        refine ja_iload_n (i := 1) dX1_init_80 rfl rfl ?_
        refine ja_iconst (v := (-1)) dX1_init_81 (by decide +kernel) ?_
        refine ja_iast (show _ = (10, 256) from (by simp [ja_zn, ja_uq, ja_zm, ja_nf, hS, f0, f1, f2, f3, f4, f5, f6])) rfl (by omega) (by decide) dX1_init_82 ?_
        refine ja_aload_n (i := 0) dX1_init_83 rfl rfl ?_
        refine ja_getR fl_X1_31 (by simp [ja_zn, ja_uq, ja_zm, ja_nf, hS, f0, f1, f2, f3, f4, f5, f6]) rfl (show _ = some (46) from (by simp [ja_zn, ja_uq, ja_zm, ja_nf, hS, f0, f1, f2, f3, f4, f5, f6])) dX1_init_84 ?_
        refine ja_iload_n (i := 1) dX1_init_87 rfl rfl ?_
        refine ja_iconst (v := (-1)) dX1_init_88 (by decide +kernel) ?_
        refine ja_iast (show _ = (10, 10496) from (by simp [ja_zn, ja_uq, ja_zm, ja_nf, hS, f0, f1, f2, f3, f4, f5, f6])) rfl (by omega) (by decide) dX1_init_89 ?_
        refine ja_iincN dX1_init_90 rfl rfl (Nat.le_of_ble_eq_true rfl) ?_
        refine ja_goto (tgt := 69) dX1_init_93 (by decide) ?_
        exact ih69 (q + 1) _ (by omega) (by omega) (by rw [hE]; exact li1_s)
  exact lp69 257 0 _ (by omega) (by omega) li1_0

def zO1_2 (Z : jZ) : jZ := (ja_uq (ja_zn (ja_uq (ja_zn (ja_uq (ja_zn (ja_uq (ja_zn (ja_uq (ja_zn (ja_uq (ja_zn (ja_uq (ja_zn Z 51 10 256) 50 0 (some 51)) 52 10 10) 50 1 (some 52)) 53 10 10) 50 2 (some 53)) 54 10 10) 50 3 (some 54)) 55 10 10) 50 5 (some 55)) 56 10 10496) 50 6 (some 56)) 57 10 10) 50 7 (some 57))

def dO1_2 (D : jD) : jD := li1 (ja_dn (ja_dn (ja_dn (ja_up (ja_dn (ja_dn (ja_dn (ja_dn D 51) 52) 53) 54) 50 4 (nI (1))) 55) 56) 57) 51 56 256

set_option maxRecDepth 100000 in
set_option maxHeartbeats 4000000 in
theorem c_init1_2 (l : Launch) {Z : jZ} {D : jD} (hS : Z.2.1 50 = (1, 9)) (f0 : 51 ∉ Z.1) (f1 : 52 ∉ Z.1) (f2 : 53 ∉ Z.1) (f3 : 54 ∉ Z.1) (f4 : 55 ∉ Z.1) (f5 : 56 ∉ Z.1) (f6 : 57 ∉ Z.1) : ja_M l (mX1_init 7 10802) [.ref (50)] Z D (fun v2 Z2 D2 => v2 = none ∧ Z2 = zO1_2 Z ∧ D2 = dO1_2 D) ja_x0 := by
  refine ja_Mof (lv := [some (.ref (50)), none]) (by decide +kernel) rfl rfl (Nat.le_of_ble_eq_true rfl) rfl ?_
  refine ja_aload_n (i := 0) dX1_init_0 rfl rfl ?_
  refine ja_obj lk_X1_3 oi_im oi_co (Nat.le_of_ble_eq_true rfl) (Nat.le_of_ble_eq_true rfl) dX1_init_1 ?_
  refine ja_aload_n (i := 0) dX1_init_4 rfl rfl ?_
  refine ja_sipush (v := nI 256) dX1_init_5 (by decide +kernel) ?_
  refine ja_newa (id := 51) (n := 256) (t0 := 0) (k := 10) (at0 := .int) rfl (by decide) rfl (by decide) rfl ac_int rfl (by decide) (by simp [ja_zn, ja_uq, ja_zm, ja_nf, hS, f0, f1, f2, f3, f4, f5, f6]) (by omega) (Nat.le_of_ble_eq_true rfl) (Nat.le_of_ble_eq_true rfl) dX1_init_8 ?_
  refine ja_putFR rfl rfl fl_X1_9 (by simp [ja_zn, ja_uq, ja_zm, ja_nf, hS, f0, f1, f2, f3, f4, f5, f6]) rfl (by omega) (fun _ => rfl) (fun _ => rfl) dX1_init_10 ?_
  refine ja_aload_n (i := 0) dX1_init_13 rfl rfl ?_
  refine ja_bipush (v := nI 10) dX1_init_14 (by decide +kernel) ?_
  refine ja_newa (id := 52) (n := 10) (t0 := 0) (k := 10) (at0 := .int) rfl (by decide) rfl (by decide) rfl ac_int rfl (by decide) (by simp [ja_zn, ja_uq, ja_zm, ja_nf, hS, f0, f1, f2, f3, f4, f5, f6]) (by omega) (Nat.le_of_ble_eq_true rfl) (Nat.le_of_ble_eq_true rfl) dX1_init_16 ?_
  refine ja_putFR rfl rfl fl_X1_15 (by simp [ja_zn, ja_uq, ja_zm, ja_nf, hS, f0, f1, f2, f3, f4, f5, f6]) rfl (by omega) (fun _ => rfl) (fun _ => rfl) dX1_init_18 ?_
  refine ja_aload_n (i := 0) dX1_init_21 rfl rfl ?_
  refine ja_bipush (v := nI 10) dX1_init_22 (by decide +kernel) ?_
  refine ja_newa (id := 53) (n := 10) (t0 := 0) (k := 10) (at0 := .int) rfl (by decide) rfl (by decide) rfl ac_int rfl (by decide) (by simp [ja_zn, ja_uq, ja_zm, ja_nf, hS, f0, f1, f2, f3, f4, f5, f6]) (by omega) (Nat.le_of_ble_eq_true rfl) (Nat.le_of_ble_eq_true rfl) dX1_init_24 ?_
  refine ja_putFR rfl rfl fl_X1_18 (by simp [ja_zn, ja_uq, ja_zm, ja_nf, hS, f0, f1, f2, f3, f4, f5, f6]) rfl (by omega) (fun _ => rfl) (fun _ => rfl) dX1_init_26 ?_
  refine ja_aload_n (i := 0) dX1_init_29 rfl rfl ?_
  refine ja_bipush (v := nI 10) dX1_init_30 (by decide +kernel) ?_
  refine ja_newa (id := 54) (n := 10) (t0 := 0) (k := 10) (at0 := .int) rfl (by decide) rfl (by decide) rfl ac_int rfl (by decide) (by simp [ja_zn, ja_uq, ja_zm, ja_nf, hS, f0, f1, f2, f3, f4, f5, f6]) (by omega) (Nat.le_of_ble_eq_true rfl) (Nat.le_of_ble_eq_true rfl) dX1_init_32 ?_
  refine ja_putFR rfl rfl fl_X1_21 (by simp [ja_zn, ja_uq, ja_zm, ja_nf, hS, f0, f1, f2, f3, f4, f5, f6]) rfl (by omega) (fun _ => rfl) (fun _ => rfl) dX1_init_34 ?_
  refine ja_aload_n (i := 0) dX1_init_37 rfl rfl ?_
  refine ja_iconst (v := nI 1) dX1_init_38 (by decide +kernel) ?_
  refine ja_putI fl_X1_24 (by simp [ja_zn, ja_uq, ja_zm, ja_nf, hS, f0, f1, f2, f3, f4, f5, f6]) rfl (by decide +kernel) (by decide +kernel) dX1_init_39 ?_
  refine ja_aload_n (i := 0) dX1_init_42 rfl rfl ?_
  refine ja_bipush (v := nI 10) dX1_init_43 (by decide +kernel) ?_
  refine ja_newa (id := 55) (n := 10) (t0 := 0) (k := 10) (at0 := .int) rfl (by decide) rfl (by decide) rfl ac_int rfl (by decide) (by simp [ja_zn, ja_uq, ja_zm, ja_nf, hS, f0, f1, f2, f3, f4, f5, f6]) (by omega) (Nat.le_of_ble_eq_true rfl) (Nat.le_of_ble_eq_true rfl) dX1_init_45 ?_
  refine ja_putFR rfl rfl fl_X1_28 (by simp [ja_zn, ja_uq, ja_zm, ja_nf, hS, f0, f1, f2, f3, f4, f5, f6]) rfl (by omega) (fun _ => rfl) (fun _ => rfl) dX1_init_47 ?_
  refine ja_aload_n (i := 0) dX1_init_50 rfl rfl ?_
  refine ja_sipush (v := nI 10496) dX1_init_51 (by decide +kernel) ?_
  refine ja_newa (id := 56) (n := 10496) (t0 := 0) (k := 10) (at0 := .int) rfl (by decide) rfl (by decide) rfl ac_int rfl (by decide) (by simp [ja_zn, ja_uq, ja_zm, ja_nf, hS, f0, f1, f2, f3, f4, f5, f6]) (by omega) (Nat.le_of_ble_eq_true rfl) (Nat.le_of_ble_eq_true rfl) dX1_init_54 ?_
  refine ja_putFR rfl rfl fl_X1_31 (by simp [ja_zn, ja_uq, ja_zm, ja_nf, hS, f0, f1, f2, f3, f4, f5, f6]) rfl (by omega) (fun _ => rfl) (fun _ => rfl) dX1_init_56 ?_
  refine ja_aload_n (i := 0) dX1_init_59 rfl rfl ?_
  refine ja_bipush (v := nI 10) dX1_init_60 (by decide +kernel) ?_
  refine ja_newa (id := 57) (n := 10) (t0 := 0) (k := 10) (at0 := .int) rfl (by decide) rfl (by decide) rfl ac_int rfl (by decide) (by simp [ja_zn, ja_uq, ja_zm, ja_nf, hS, f0, f1, f2, f3, f4, f5, f6]) (by omega) (Nat.le_of_ble_eq_true rfl) (Nat.le_of_ble_eq_true rfl) dX1_init_62 ?_
  refine ja_putFR rfl rfl fl_X1_34 (by simp [ja_zn, ja_uq, ja_zm, ja_nf, hS, f0, f1, f2, f3, f4, f5, f6]) rfl (by omega) (fun _ => rfl) (fun _ => rfl) dX1_init_64 ?_
  refine ja_iconst (v := nI 0) dX1_init_67 (by decide +kernel) ?_
  refine ja_istore_n (i := 1) dX1_init_68 rfl rfl (Nat.le_of_ble_eq_true rfl) ?_
  have lp69 : ∀ (f69 : Nat) (q : Nat) (E : jD), (256 < q + f69) → (q ≤ 256) → (E = li1 (ja_dn (ja_dn (ja_dn (ja_up (ja_dn (ja_dn (ja_dn (ja_dn D 51) 52) 53) 54) 50 4 (nI (1))) 55) 56) 57) 51 56 q) → ja_A l (mX1_init 7 10802) ja_sn (ja_Qf (mX1_init 7 10802) (fun v2 Z2 D2 => v2 = none ∧ Z2 = zO1_2 Z ∧ D2 = dO1_2 D) ja_x0) 69 [some (.ref (50)), some (.int (nI (q)))] [] (ja_uq (ja_zn (ja_uq (ja_zn (ja_uq (ja_zn (ja_uq (ja_zn (ja_uq (ja_zn (ja_uq (ja_zn (ja_uq (ja_zn Z 51 10 256) 50 0 (some 51)) 52 10 10) 50 1 (some 52)) 53 10 10) 50 2 (some 53)) 54 10 10) 50 3 (some 54)) 55 10 10) 50 5 (some 55)) 56 10 10496) 50 6 (some 56)) 57 10 10) 50 7 (some 57)) E 7 10802 := by
    intro f69
    induction f69 with
    | zero => intro q E hf hq hE; exfalso; omega
    | succ f69 ih69 =>
      intro q E hf hq hE
      refine ja_iload_n (i := 1) dX1_init_69 rfl rfl ?_
      refine ja_sipush (v := nI 256) dX1_init_70 (by decide +kernel) ?_
      refine ja_icmpN_ge (tgt := 96) dX1_init_73 (by decide) (by omega) (by omega) (fun c73 => ?_) (fun c73 => ?_)
      ·
        refine ja_vret rfl dX1_init_96 (Nat.le_of_ble_eq_true rfl) (Nat.le_of_ble_eq_true rfl) ?_
        exact ⟨rfl, rfl, by rw [hE, show q = 256 by omega]; rfl⟩
      ·
        refine ja_aload_n (i := 0) dX1_init_76 rfl rfl ?_
        refine ja_getR fl_X1_9 (by simp [ja_zn, ja_uq, ja_zm, ja_nf, hS, f0, f1, f2, f3, f4, f5, f6]) rfl (show _ = some (51) from (by simp [ja_zn, ja_uq, ja_zm, ja_nf, hS, f0, f1, f2, f3, f4, f5, f6])) dX1_init_77 ?_
        refine ja_iload_n (i := 1) dX1_init_80 rfl rfl ?_
        refine ja_iconst (v := (-1)) dX1_init_81 (by decide +kernel) ?_
        refine ja_iast (show _ = (10, 256) from (by simp [ja_zn, ja_uq, ja_zm, ja_nf, hS, f0, f1, f2, f3, f4, f5, f6])) rfl (by omega) (by decide) dX1_init_82 ?_
        refine ja_aload_n (i := 0) dX1_init_83 rfl rfl ?_
        refine ja_getR fl_X1_31 (by simp [ja_zn, ja_uq, ja_zm, ja_nf, hS, f0, f1, f2, f3, f4, f5, f6]) rfl (show _ = some (56) from (by simp [ja_zn, ja_uq, ja_zm, ja_nf, hS, f0, f1, f2, f3, f4, f5, f6])) dX1_init_84 ?_
        refine ja_iload_n (i := 1) dX1_init_87 rfl rfl ?_
        refine ja_iconst (v := (-1)) dX1_init_88 (by decide +kernel) ?_
        refine ja_iast (show _ = (10, 10496) from (by simp [ja_zn, ja_uq, ja_zm, ja_nf, hS, f0, f1, f2, f3, f4, f5, f6])) rfl (by omega) (by decide) dX1_init_89 ?_
        refine ja_iincN dX1_init_90 rfl rfl (Nat.le_of_ble_eq_true rfl) ?_
        refine ja_goto (tgt := 69) dX1_init_93 (by decide) ?_
        exact ih69 (q + 1) _ (by omega) (by omega) (by rw [hE]; exact li1_s)
  exact lp69 257 0 _ (by omega) (by omega) li1_0

def zO4 (Z : jZ) (r i1 i2 : Nat) : jZ := (ja_uq (ja_uq Z (60 + r) 1 (some i1)) (60 + r) 2 (some i2))

def dO4 (D : jD) (r : Nat) (kd : Int32) : jD := (ja_up D (60 + r) 0 (kd))

set_option maxRecDepth 100000 in
set_option maxHeartbeats 4000000 in
theorem c_init4 (l : Launch) {Z : jZ} {D : jD} {r i1 i2 : Nat} {kd : Int32} (hr6 : r < 6) (hi1 : i1 < 60) (hi2 : i2 < 60) (hkn : narrow .char (.int kd) = .int kd) (hkf : fits .char (.int kd) = true) (hS : Z.2.1 (60 + r) = (4, 4))  : ja_M l (mX4_init 0 0) [.ref (60 + r), .int (kd), .ref (i1), .ref (i2)] Z D (fun v2 Z2 D2 => v2 = none ∧ Z2 = zO4 Z r i1 i2 ∧ D2 = dO4 D r kd) ja_x0 := by
  refine ja_Mof (lv := [some (.ref (60 + r)), some (.int (kd)), some (.ref (i1)), some (.ref (i2))]) (by decide +kernel) rfl rfl (Nat.le_of_ble_eq_true rfl) rfl ?_
  refine ja_aload_n (i := 0) dX4_init_0 rfl rfl ?_
  refine ja_obj lk_X4_3 oi_im oi_co (Nat.le_of_ble_eq_true rfl) (Nat.le_of_ble_eq_true rfl) dX4_init_1 ?_
  refine ja_aload_n (i := 0) dX4_init_4 rfl rfl ?_
  refine ja_iload_n (i := 1) dX4_init_5 rfl rfl ?_
  refine ja_putFI rfl rfl fl_X4_9 (by simp [ja_zn, ja_uq, ja_zm, ja_nf, hS]) rfl hkn hkf dX4_init_6 ?_
  refine ja_aload_n (i := 0) dX4_init_9 rfl rfl ?_
  refine ja_aload_n (i := 2) dX4_init_10 rfl rfl ?_
  refine ja_putFR rfl rfl fl_X4_15 (by simp [ja_zn, ja_uq, ja_zm, ja_nf, hS]) rfl (by omega) (fun _ => rfl) (fun _ => rfl) dX4_init_11 ?_
  refine ja_aload_n (i := 0) dX4_init_14 rfl rfl ?_
  refine ja_aload_n (i := 3) dX4_init_15 rfl rfl ?_
  refine ja_putFR rfl rfl fl_X4_19 (by simp [ja_zn, ja_uq, ja_zm, ja_nf, hS]) rfl (by omega) (fun _ => rfl) (fun _ => rfl) dX4_init_16 ?_
  refine ja_vret rfl dX4_init_19 (Nat.zero_le _) (Nat.zero_le _) ?_
  exact ⟨rfl, rfl, rfl⟩

def zO6_0 (Z : jZ) (i1 : Nat) : jZ := (ja_uq (ja_uq (ja_zn (ja_uq (ja_zn (ja_uq (ja_zn Z 71 10 256) 70 1 (some 71)) 72 10 256) 70 2 (some 72)) 73 10 256) 70 3 (some 73)) 70 0 (some i1))

def dO6_0 (D : jD) (a1 a2 a3 a4 : Nat) : jD := (ja_up (ja_up (ja_up (ja_up (ja_dn (ja_dn (ja_dn D 71) 72) 73) 70 4 (nI a1)) 70 5 (nI a2)) 70 6 (nI a3)) 70 7 (nI a4))

set_option maxRecDepth 100000 in
set_option maxHeartbeats 4000000 in
theorem c_init6_0 (l : Launch) {Z : jZ} {D : jD} {i1 x y xw yh : Nat} (hi1 : i1 < 60) (hS : Z.2.1 70 = (6, 8)) (f0 : 71 ∉ Z.1) (f1 : 72 ∉ Z.1) (f2 : 73 ∉ Z.1) : ja_M l (mX6_init 3 768) [.ref (70), .ref (i1), .int (nI (x)), .int (nI (y)), .int (nI (xw)), .int (nI (yh))] Z D (fun v2 Z2 D2 => v2 = none ∧ Z2 = zO6_0 Z i1 ∧ D2 = dO6_0 D x y xw yh) ja_x0 := by
  refine ja_Mof (lv := [some (.ref (70)), some (.ref (i1)), some (.int (nI (x))), some (.int (nI (y))), some (.int (nI (xw))), some (.int (nI (yh)))]) (by decide +kernel) rfl rfl (Nat.le_of_ble_eq_true rfl) rfl ?_
  refine ja_aload_n (i := 0) dX6_init_0 rfl rfl ?_
  refine ja_obj lk_X6_3 oi_im oi_co (Nat.le_of_ble_eq_true rfl) (Nat.le_of_ble_eq_true rfl) dX6_init_1 ?_
  refine ja_aload_n (i := 0) dX6_init_4 rfl rfl ?_
  refine ja_sipush (v := nI 256) dX6_init_5 (by decide +kernel) ?_
  refine ja_newa (id := 71) (n := 256) (t0 := 0) (k := 10) (at0 := .int) rfl (by decide) rfl (by decide) rfl ac_int rfl (by decide) (by simp [ja_zn, ja_uq, ja_zm, ja_nf, hS, f0, f1, f2]) (by omega) (Nat.le_of_ble_eq_true rfl) (Nat.le_of_ble_eq_true rfl) dX6_init_8 ?_
  refine ja_putFR rfl rfl fl_X6_9 (by simp [ja_zn, ja_uq, ja_zm, ja_nf, hS, f0, f1, f2]) rfl (by omega) (fun _ => rfl) (fun _ => rfl) dX6_init_10 ?_
  refine ja_aload_n (i := 0) dX6_init_13 rfl rfl ?_
  refine ja_sipush (v := nI 256) dX6_init_14 (by decide +kernel) ?_
  refine ja_newa (id := 72) (n := 256) (t0 := 0) (k := 10) (at0 := .int) rfl (by decide) rfl (by decide) rfl ac_int rfl (by decide) (by simp [ja_zn, ja_uq, ja_zm, ja_nf, hS, f0, f1, f2]) (by omega) (Nat.le_of_ble_eq_true rfl) (Nat.le_of_ble_eq_true rfl) dX6_init_17 ?_
  refine ja_putFR rfl rfl fl_X6_15 (by simp [ja_zn, ja_uq, ja_zm, ja_nf, hS, f0, f1, f2]) rfl (by omega) (fun _ => rfl) (fun _ => rfl) dX6_init_19 ?_
  refine ja_aload_n (i := 0) dX6_init_22 rfl rfl ?_
  refine ja_sipush (v := nI 256) dX6_init_23 (by decide +kernel) ?_
  refine ja_newa (id := 73) (n := 256) (t0 := 0) (k := 10) (at0 := .int) rfl (by decide) rfl (by decide) rfl ac_int rfl (by decide) (by simp [ja_zn, ja_uq, ja_zm, ja_nf, hS, f0, f1, f2]) (by omega) (Nat.le_of_ble_eq_true rfl) (Nat.le_of_ble_eq_true rfl) dX6_init_26 ?_
  refine ja_putFR rfl rfl fl_X6_18 (by simp [ja_zn, ja_uq, ja_zm, ja_nf, hS, f0, f1, f2]) rfl (by omega) (fun _ => rfl) (fun _ => rfl) dX6_init_28 ?_
  refine ja_aload_n (i := 0) dX6_init_31 rfl rfl ?_
  refine ja_aload_n (i := 1) dX6_init_32 rfl rfl ?_
  refine ja_putFR rfl rfl fl_X6_21 (by simp [ja_zn, ja_uq, ja_zm, ja_nf, hS, f0, f1, f2]) rfl (by omega) (fun _ => rfl) (fun _ => rfl) dX6_init_33 ?_
  refine ja_aload_n (i := 0) dX6_init_36 rfl rfl ?_
  refine ja_iload_n (i := 2) dX6_init_37 rfl rfl ?_
  refine ja_putFI rfl rfl fl_X6_25 (by simp [ja_zn, ja_uq, ja_zm, ja_nf, hS, f0, f1, f2]) rfl rfl rfl dX6_init_38 ?_
  refine ja_aload_n (i := 0) dX6_init_41 rfl rfl ?_
  refine ja_iload_n (i := 3) dX6_init_42 rfl rfl ?_
  refine ja_putFI rfl rfl fl_X6_29 (by simp [ja_zn, ja_uq, ja_zm, ja_nf, hS, f0, f1, f2]) rfl rfl rfl dX6_init_43 ?_
  refine ja_aload_n (i := 0) dX6_init_46 rfl rfl ?_
  refine ja_iload (i := 4) dX6_init_47 rfl ?_
  refine ja_putFI rfl rfl fl_X6_32 (by simp [ja_zn, ja_uq, ja_zm, ja_nf, hS, f0, f1, f2]) rfl rfl rfl dX6_init_49 ?_
  refine ja_aload_n (i := 0) dX6_init_52 rfl rfl ?_
  refine ja_iload (i := 5) dX6_init_53 rfl ?_
  refine ja_putFI rfl rfl fl_X6_35 (by simp [ja_zn, ja_uq, ja_zm, ja_nf, hS, f0, f1, f2]) rfl rfl rfl dX6_init_55 ?_
  refine ja_vret rfl dX6_init_58 (Nat.le_of_ble_eq_true rfl) (Nat.le_of_ble_eq_true rfl) ?_
  exact ⟨rfl, rfl, rfl⟩

def zO6_1 (Z : jZ) (i1 : Nat) : jZ := (ja_uq (ja_uq (ja_zn (ja_uq (ja_zn (ja_uq (ja_zn Z 75 10 256) 74 1 (some 75)) 76 10 256) 74 2 (some 76)) 77 10 256) 74 3 (some 77)) 74 0 (some i1))

def dO6_1 (D : jD) (a1 a2 a3 a4 : Nat) : jD := (ja_up (ja_up (ja_up (ja_up (ja_dn (ja_dn (ja_dn D 75) 76) 77) 74 4 (nI a1)) 74 5 (nI a2)) 74 6 (nI a3)) 74 7 (nI a4))

set_option maxRecDepth 100000 in
set_option maxHeartbeats 4000000 in
theorem c_init6_1 (l : Launch) {Z : jZ} {D : jD} {i1 x y xw yh : Nat} (hi1 : i1 < 60) (hS : Z.2.1 74 = (6, 8)) (f0 : 75 ∉ Z.1) (f1 : 76 ∉ Z.1) (f2 : 77 ∉ Z.1) : ja_M l (mX6_init 3 768) [.ref (74), .ref (i1), .int (nI (x)), .int (nI (y)), .int (nI (xw)), .int (nI (yh))] Z D (fun v2 Z2 D2 => v2 = none ∧ Z2 = zO6_1 Z i1 ∧ D2 = dO6_1 D x y xw yh) ja_x0 := by
  refine ja_Mof (lv := [some (.ref (74)), some (.ref (i1)), some (.int (nI (x))), some (.int (nI (y))), some (.int (nI (xw))), some (.int (nI (yh)))]) (by decide +kernel) rfl rfl (Nat.le_of_ble_eq_true rfl) rfl ?_
  refine ja_aload_n (i := 0) dX6_init_0 rfl rfl ?_
  refine ja_obj lk_X6_3 oi_im oi_co (Nat.le_of_ble_eq_true rfl) (Nat.le_of_ble_eq_true rfl) dX6_init_1 ?_
  refine ja_aload_n (i := 0) dX6_init_4 rfl rfl ?_
  refine ja_sipush (v := nI 256) dX6_init_5 (by decide +kernel) ?_
  refine ja_newa (id := 75) (n := 256) (t0 := 0) (k := 10) (at0 := .int) rfl (by decide) rfl (by decide) rfl ac_int rfl (by decide) (by simp [ja_zn, ja_uq, ja_zm, ja_nf, hS, f0, f1, f2]) (by omega) (Nat.le_of_ble_eq_true rfl) (Nat.le_of_ble_eq_true rfl) dX6_init_8 ?_
  refine ja_putFR rfl rfl fl_X6_9 (by simp [ja_zn, ja_uq, ja_zm, ja_nf, hS, f0, f1, f2]) rfl (by omega) (fun _ => rfl) (fun _ => rfl) dX6_init_10 ?_
  refine ja_aload_n (i := 0) dX6_init_13 rfl rfl ?_
  refine ja_sipush (v := nI 256) dX6_init_14 (by decide +kernel) ?_
  refine ja_newa (id := 76) (n := 256) (t0 := 0) (k := 10) (at0 := .int) rfl (by decide) rfl (by decide) rfl ac_int rfl (by decide) (by simp [ja_zn, ja_uq, ja_zm, ja_nf, hS, f0, f1, f2]) (by omega) (Nat.le_of_ble_eq_true rfl) (Nat.le_of_ble_eq_true rfl) dX6_init_17 ?_
  refine ja_putFR rfl rfl fl_X6_15 (by simp [ja_zn, ja_uq, ja_zm, ja_nf, hS, f0, f1, f2]) rfl (by omega) (fun _ => rfl) (fun _ => rfl) dX6_init_19 ?_
  refine ja_aload_n (i := 0) dX6_init_22 rfl rfl ?_
  refine ja_sipush (v := nI 256) dX6_init_23 (by decide +kernel) ?_
  refine ja_newa (id := 77) (n := 256) (t0 := 0) (k := 10) (at0 := .int) rfl (by decide) rfl (by decide) rfl ac_int rfl (by decide) (by simp [ja_zn, ja_uq, ja_zm, ja_nf, hS, f0, f1, f2]) (by omega) (Nat.le_of_ble_eq_true rfl) (Nat.le_of_ble_eq_true rfl) dX6_init_26 ?_
  refine ja_putFR rfl rfl fl_X6_18 (by simp [ja_zn, ja_uq, ja_zm, ja_nf, hS, f0, f1, f2]) rfl (by omega) (fun _ => rfl) (fun _ => rfl) dX6_init_28 ?_
  refine ja_aload_n (i := 0) dX6_init_31 rfl rfl ?_
  refine ja_aload_n (i := 1) dX6_init_32 rfl rfl ?_
  refine ja_putFR rfl rfl fl_X6_21 (by simp [ja_zn, ja_uq, ja_zm, ja_nf, hS, f0, f1, f2]) rfl (by omega) (fun _ => rfl) (fun _ => rfl) dX6_init_33 ?_
  refine ja_aload_n (i := 0) dX6_init_36 rfl rfl ?_
  refine ja_iload_n (i := 2) dX6_init_37 rfl rfl ?_
  refine ja_putFI rfl rfl fl_X6_25 (by simp [ja_zn, ja_uq, ja_zm, ja_nf, hS, f0, f1, f2]) rfl rfl rfl dX6_init_38 ?_
  refine ja_aload_n (i := 0) dX6_init_41 rfl rfl ?_
  refine ja_iload_n (i := 3) dX6_init_42 rfl rfl ?_
  refine ja_putFI rfl rfl fl_X6_29 (by simp [ja_zn, ja_uq, ja_zm, ja_nf, hS, f0, f1, f2]) rfl rfl rfl dX6_init_43 ?_
  refine ja_aload_n (i := 0) dX6_init_46 rfl rfl ?_
  refine ja_iload (i := 4) dX6_init_47 rfl ?_
  refine ja_putFI rfl rfl fl_X6_32 (by simp [ja_zn, ja_uq, ja_zm, ja_nf, hS, f0, f1, f2]) rfl rfl rfl dX6_init_49 ?_
  refine ja_aload_n (i := 0) dX6_init_52 rfl rfl ?_
  refine ja_iload (i := 5) dX6_init_53 rfl ?_
  refine ja_putFI rfl rfl fl_X6_35 (by simp [ja_zn, ja_uq, ja_zm, ja_nf, hS, f0, f1, f2]) rfl rfl rfl dX6_init_55 ?_
  refine ja_vret rfl dX6_init_58 (Nat.le_of_ble_eq_true rfl) (Nat.le_of_ble_eq_true rfl) ?_
  exact ⟨rfl, rfl, rfl⟩

def zO6_2 (Z : jZ) (i1 : Nat) : jZ := (ja_uq (ja_uq (ja_zn (ja_uq (ja_zn (ja_uq (ja_zn Z 79 10 256) 78 1 (some 79)) 80 10 256) 78 2 (some 80)) 81 10 256) 78 3 (some 81)) 78 0 (some i1))

def dO6_2 (D : jD) (a1 a2 a3 a4 : Nat) : jD := (ja_up (ja_up (ja_up (ja_up (ja_dn (ja_dn (ja_dn D 79) 80) 81) 78 4 (nI a1)) 78 5 (nI a2)) 78 6 (nI a3)) 78 7 (nI a4))

set_option maxRecDepth 100000 in
set_option maxHeartbeats 4000000 in
theorem c_init6_2 (l : Launch) {Z : jZ} {D : jD} {i1 x y xw yh : Nat} (hi1 : i1 < 60) (hS : Z.2.1 78 = (6, 8)) (f0 : 79 ∉ Z.1) (f1 : 80 ∉ Z.1) (f2 : 81 ∉ Z.1) : ja_M l (mX6_init 3 768) [.ref (78), .ref (i1), .int (nI (x)), .int (nI (y)), .int (nI (xw)), .int (nI (yh))] Z D (fun v2 Z2 D2 => v2 = none ∧ Z2 = zO6_2 Z i1 ∧ D2 = dO6_2 D x y xw yh) ja_x0 := by
  refine ja_Mof (lv := [some (.ref (78)), some (.ref (i1)), some (.int (nI (x))), some (.int (nI (y))), some (.int (nI (xw))), some (.int (nI (yh)))]) (by decide +kernel) rfl rfl (Nat.le_of_ble_eq_true rfl) rfl ?_
  refine ja_aload_n (i := 0) dX6_init_0 rfl rfl ?_
  refine ja_obj lk_X6_3 oi_im oi_co (Nat.le_of_ble_eq_true rfl) (Nat.le_of_ble_eq_true rfl) dX6_init_1 ?_
  refine ja_aload_n (i := 0) dX6_init_4 rfl rfl ?_
  refine ja_sipush (v := nI 256) dX6_init_5 (by decide +kernel) ?_
  refine ja_newa (id := 79) (n := 256) (t0 := 0) (k := 10) (at0 := .int) rfl (by decide) rfl (by decide) rfl ac_int rfl (by decide) (by simp [ja_zn, ja_uq, ja_zm, ja_nf, hS, f0, f1, f2]) (by omega) (Nat.le_of_ble_eq_true rfl) (Nat.le_of_ble_eq_true rfl) dX6_init_8 ?_
  refine ja_putFR rfl rfl fl_X6_9 (by simp [ja_zn, ja_uq, ja_zm, ja_nf, hS, f0, f1, f2]) rfl (by omega) (fun _ => rfl) (fun _ => rfl) dX6_init_10 ?_
  refine ja_aload_n (i := 0) dX6_init_13 rfl rfl ?_
  refine ja_sipush (v := nI 256) dX6_init_14 (by decide +kernel) ?_
  refine ja_newa (id := 80) (n := 256) (t0 := 0) (k := 10) (at0 := .int) rfl (by decide) rfl (by decide) rfl ac_int rfl (by decide) (by simp [ja_zn, ja_uq, ja_zm, ja_nf, hS, f0, f1, f2]) (by omega) (Nat.le_of_ble_eq_true rfl) (Nat.le_of_ble_eq_true rfl) dX6_init_17 ?_
  refine ja_putFR rfl rfl fl_X6_15 (by simp [ja_zn, ja_uq, ja_zm, ja_nf, hS, f0, f1, f2]) rfl (by omega) (fun _ => rfl) (fun _ => rfl) dX6_init_19 ?_
  refine ja_aload_n (i := 0) dX6_init_22 rfl rfl ?_
  refine ja_sipush (v := nI 256) dX6_init_23 (by decide +kernel) ?_
  refine ja_newa (id := 81) (n := 256) (t0 := 0) (k := 10) (at0 := .int) rfl (by decide) rfl (by decide) rfl ac_int rfl (by decide) (by simp [ja_zn, ja_uq, ja_zm, ja_nf, hS, f0, f1, f2]) (by omega) (Nat.le_of_ble_eq_true rfl) (Nat.le_of_ble_eq_true rfl) dX6_init_26 ?_
  refine ja_putFR rfl rfl fl_X6_18 (by simp [ja_zn, ja_uq, ja_zm, ja_nf, hS, f0, f1, f2]) rfl (by omega) (fun _ => rfl) (fun _ => rfl) dX6_init_28 ?_
  refine ja_aload_n (i := 0) dX6_init_31 rfl rfl ?_
  refine ja_aload_n (i := 1) dX6_init_32 rfl rfl ?_
  refine ja_putFR rfl rfl fl_X6_21 (by simp [ja_zn, ja_uq, ja_zm, ja_nf, hS, f0, f1, f2]) rfl (by omega) (fun _ => rfl) (fun _ => rfl) dX6_init_33 ?_
  refine ja_aload_n (i := 0) dX6_init_36 rfl rfl ?_
  refine ja_iload_n (i := 2) dX6_init_37 rfl rfl ?_
  refine ja_putFI rfl rfl fl_X6_25 (by simp [ja_zn, ja_uq, ja_zm, ja_nf, hS, f0, f1, f2]) rfl rfl rfl dX6_init_38 ?_
  refine ja_aload_n (i := 0) dX6_init_41 rfl rfl ?_
  refine ja_iload_n (i := 3) dX6_init_42 rfl rfl ?_
  refine ja_putFI rfl rfl fl_X6_29 (by simp [ja_zn, ja_uq, ja_zm, ja_nf, hS, f0, f1, f2]) rfl rfl rfl dX6_init_43 ?_
  refine ja_aload_n (i := 0) dX6_init_46 rfl rfl ?_
  refine ja_iload (i := 4) dX6_init_47 rfl ?_
  refine ja_putFI rfl rfl fl_X6_32 (by simp [ja_zn, ja_uq, ja_zm, ja_nf, hS, f0, f1, f2]) rfl rfl rfl dX6_init_49 ?_
  refine ja_aload_n (i := 0) dX6_init_52 rfl rfl ?_
  refine ja_iload (i := 5) dX6_init_53 rfl ?_
  refine ja_putFI rfl rfl fl_X6_35 (by simp [ja_zn, ja_uq, ja_zm, ja_nf, hS, f0, f1, f2]) rfl rfl rfl dX6_init_55 ?_
  refine ja_vret rfl dX6_init_58 (Nat.le_of_ble_eq_true rfl) (Nat.le_of_ble_eq_true rfl) ?_
  exact ⟨rfl, rfl, rfl⟩
