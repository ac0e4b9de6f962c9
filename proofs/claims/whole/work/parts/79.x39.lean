/-! CONSTRUCTORS: the model, the house -/
theorem ja_nin {L : List Nat} {i a : Nat} (h : i ∉ L) (hne : ¬ i = a) : i ∉ L ++ [a] := fun x => (List.mem_append.mp x).elim h (fun y => hne (by simpa using y))
theorem li1_p {E : jD} {a k : Nat} : ja_up (li1 E a a k) a k (-1) = li1 E a a (k + 1) := by
  funext x j
  simp only [ja_up, li1]
  grind

def zO8 (Z : jZ) : jZ := (ja_uq (ja_zn (ja_uq (ja_zn (ja_uq (ja_zn (ja_uq (ja_zn (ja_uq (ja_zn (ja_uq (ja_zn (ja_uq (ja_zn (ja_uq (ja_zn (ja_uq (ja_zn (ja_uq (ja_zn (ja_uq (ja_zn (ja_uq (ja_zn (ja_uq (ja_zn (ja_uq (ja_zn (ja_uq (ja_zn (ja_uq (ja_zn (ja_uq (ja_zn (ja_uq (ja_zn (ja_uq (ja_zn (ja_uq (ja_zn (ja_uq (ja_zn (ja_uq (ja_zn (ja_uq (ja_zn Z 104 11 3) 100 3 (some 104)) 105 10 768) 100 4 (some 105)) 106 10 30) 100 5 (some 106)) 107 10 30) 100 6 (some 107)) 108 10 768) 100 7 (some 108)) 109 10 30) 100 8 (some 109)) 110 11 6) 100 9 (some 110)) 111 10 31488) 100 10 (some 111)) 112 10 41) 100 11 (some 112)) 114 12 6) 100 13 (some 114)) 115 10 6) 100 14 (some 115)) 116 10 6) 100 15 (some 116)) 118 10 3) 100 17 (some 118)) 119 11 768) 100 18 (some 119)) 120 10 768) 100 19 (some 120)) 121 10 768) 100 20 (some 121)) 122 10 256) 100 21 (some 122)) 123 10 256) 100 22 (some 123)) 124 10 10) 100 23 (some 124)) 125 11 256) 100 24 (some 125)) 126 10 10) 100 25 (some 126)) 127 10 10) 100 26 (some 127)) 128 11 256) 100 27 (some 128))

def dO8 (D : jD) : jD := li1 (li1 (ja_dn (ja_dn (ja_dn (ja_dn (ja_dn (ja_dn (ja_dn (ja_dn (ja_dn (ja_dn (ja_dn (ja_dn (ja_dn (ja_dn (ja_dn (ja_dn (ja_dn (ja_dn (ja_dn (ja_dn (ja_dn (ja_dn (ja_dn (ja_up D 100 2 ((-1))) 104) 105) 106) 107) 108) 109) 110) 111) 112) 114) 115) 116) 118) 119) 120) 121) 122) 123) 124) 125) 126) 127) 128) 105 105 768) 111 111 768

set_option maxRecDepth 100000 in
set_option maxHeartbeats 4000000 in
theorem c_init8 (l : Launch) {Z : jZ} {D : jD} (hS : Z.2.1 100 = (8, 28)) (f0 : 104 ∉ Z.1) (f1 : 105 ∉ Z.1) (f2 : 106 ∉ Z.1) (f3 : 107 ∉ Z.1) (f4 : 108 ∉ Z.1) (f5 : 109 ∉ Z.1) (f6 : 110 ∉ Z.1) (f7 : 111 ∉ Z.1) (f8 : 112 ∉ Z.1) (f9 : 114 ∉ Z.1) (f10 : 115 ∉ Z.1) (f11 : 116 ∉ Z.1) (f12 : 118 ∉ Z.1) (f13 : 119 ∉ Z.1) (f14 : 120 ∉ Z.1) (f15 : 121 ∉ Z.1) (f16 : 122 ∉ Z.1) (f17 : 123 ∉ Z.1) (f18 : 124 ∉ Z.1) (f19 : 125 ∉ Z.1) (f20 : 126 ∉ Z.1) (f21 : 127 ∉ Z.1) (f22 : 128 ∉ Z.1) : ja_M l (mX8_init 23 36543) [.ref (100)] Z D (fun v2 Z2 D2 => v2 = none ∧ Z2 = zO8 Z ∧ D2 = dO8 D) ja_x0 := by
  refine ja_Mof (lv := [some (.ref (100)), none]) (by decide +kernel) rfl rfl (Nat.le_of_ble_eq_true rfl) rfl ?_
  refine ja_aload_n (i := 0) dX8_init_0 rfl rfl ?_
  refine ja_obj lk_X8_1 oi_im oi_co (Nat.le_of_ble_eq_true rfl) (Nat.le_of_ble_eq_true rfl) dX8_init_1 ?_
  refine ja_aload_n (i := 0) dX8_init_4 rfl rfl ?_
  refine ja_iconst (v := (-1)) dX8_init_5 (by decide +kernel) ?_
  refine ja_putI fl_X8_9 hS rfl rfl rfl dX8_init_6 ?_
  refine ja_aload_n (i := 0) dX8_init_9 rfl rfl ?_
  refine ja_iconst (v := nI 3) dX8_init_10 (by decide +kernel) ?_
  refine ja_newa (id := 104) (n := 3) (t0 := 1) (k := 11) (at0 := .boolean) rfl (by decide) rfl (by decide) rfl ac_boolean rfl (by decide) f0 (by omega) (Nat.le_of_ble_eq_true rfl) (Nat.le_of_ble_eq_true rfl) dX8_init_11 ?_
  refine ja_putFR rfl rfl fl_X8_13 hS rfl (by omega) (fun _ => rfl) (fun _ => rfl) dX8_init_13 ?_
  refine ja_aload_n (i := 0) dX8_init_16 rfl rfl ?_
  refine ja_sipush (v := nI 768) dX8_init_17 (by decide +kernel) ?_
  refine ja_newa (id := 105) (n := 768) (t0 := 0) (k := 10) (at0 := .int) rfl (by decide) rfl (by decide) rfl ac_int rfl (by decide) (ja_nin f1 (by decide)) (by omega) (Nat.le_of_ble_eq_true rfl) (Nat.le_of_ble_eq_true rfl) dX8_init_20 ?_
  refine ja_putFR rfl rfl fl_X8_17 hS rfl (by omega) (fun _ => rfl) (fun _ => rfl) dX8_init_22 ?_
  refine ja_aload_n (i := 0) dX8_init_25 rfl rfl ?_
  refine ja_bipush (v := nI 30) dX8_init_26 (by decide +kernel) ?_
  refine ja_newa (id := 106) (n := 30) (t0 := 0) (k := 10) (at0 := .int) rfl (by decide) rfl (by decide) rfl ac_int rfl (by decide) (ja_nin (ja_nin f2 (by decide)) (by decide)) (by omega) (Nat.le_of_ble_eq_true rfl) (Nat.le_of_ble_eq_true rfl) dX8_init_28 ?_
  refine ja_putFR rfl rfl fl_X8_21 hS rfl (by omega) (fun _ => rfl) (fun _ => rfl) dX8_init_30 ?_
  refine ja_aload_n (i := 0) dX8_init_33 rfl rfl ?_
  refine ja_bipush (v := nI 30) dX8_init_34 (by decide +kernel) ?_
  refine ja_newa (id := 107) (n := 30) (t0 := 0) (k := 10) (at0 := .int) rfl (by decide) rfl (by decide) rfl ac_int rfl (by decide) (ja_nin (ja_nin (ja_nin f3 (by decide)) (by decide)) (by decide)) (by omega) (Nat.le_of_ble_eq_true rfl) (Nat.le_of_ble_eq_true rfl) dX8_init_36 ?_
  refine ja_putFR rfl rfl fl_X8_24 hS rfl (by omega) (fun _ => rfl) (fun _ => rfl) dX8_init_38 ?_
  refine ja_aload_n (i := 0) dX8_init_41 rfl rfl ?_
  refine ja_sipush (v := nI 768) dX8_init_42 (by decide +kernel) ?_
  refine ja_newa (id := 108) (n := 768) (t0 := 0) (k := 10) (at0 := .int) rfl (by decide) rfl (by decide) rfl ac_int rfl (by decide) (ja_nin (ja_nin (ja_nin (ja_nin f4 (by decide)) (by decide)) (by decide)) (by decide)) (by omega) (Nat.le_of_ble_eq_true rfl) (Nat.le_of_ble_eq_true rfl) dX8_init_45 ?_
  refine ja_putFR rfl rfl fl_X8_27 hS rfl (by omega) (fun _ => rfl) (fun _ => rfl) dX8_init_47 ?_
  refine ja_aload_n (i := 0) dX8_init_50 rfl rfl ?_
  refine ja_bipush (v := nI 30) dX8_init_51 (by decide +kernel) ?_
  refine ja_newa (id := 109) (n := 30) (t0 := 0) (k := 10) (at0 := .int) rfl (by decide) rfl (by decide) rfl ac_int rfl (by decide) (ja_nin (ja_nin (ja_nin (ja_nin (ja_nin f5 (by decide)) (by decide)) (by decide)) (by decide)) (by decide)) (by omega) (Nat.le_of_ble_eq_true rfl) (Nat.le_of_ble_eq_true rfl) dX8_init_53 ?_
  refine ja_putFR rfl rfl fl_X8_30 hS rfl (by omega) (fun _ => rfl) (fun _ => rfl) dX8_init_55 ?_
  refine ja_aload_n (i := 0) dX8_init_58 rfl rfl ?_
  refine ja_bipush (v := nI 6) dX8_init_59 (by decide +kernel) ?_
  refine ja_newa (id := 110) (n := 6) (t0 := 1) (k := 11) (at0 := .boolean) rfl (by decide) rfl (by decide) rfl ac_boolean rfl (by decide) (ja_nin (ja_nin (ja_nin (ja_nin (ja_nin (ja_nin f6 (by decide)) (by decide)) (by decide)) (by decide)) (by decide)) (by decide)) (by omega) (Nat.le_of_ble_eq_true rfl) (Nat.le_of_ble_eq_true rfl) dX8_init_61 ?_
  refine ja_putFR rfl rfl fl_X8_33 hS rfl (by omega) (fun _ => rfl) (fun _ => rfl) dX8_init_63 ?_
  refine ja_aload_n (i := 0) dX8_init_66 rfl rfl ?_
  refine ja_sipush (v := nI 31488) dX8_init_67 (by decide +kernel) ?_
  refine ja_newa (id := 111) (n := 31488) (t0 := 0) (k := 10) (at0 := .int) rfl (by decide) rfl (by decide) rfl ac_int rfl (by decide) (ja_nin (ja_nin (ja_nin (ja_nin (ja_nin (ja_nin (ja_nin f7 (by decide)) (by decide)) (by decide)) (by decide)) (by decide)) (by decide)) (by decide)) (by omega) (Nat.le_of_ble_eq_true rfl) (Nat.le_of_ble_eq_true rfl) dX8_init_70 ?_
  refine ja_putFR rfl rfl fl_X8_36 hS rfl (by omega) (fun _ => rfl) (fun _ => rfl) dX8_init_72 ?_
  refine ja_aload_n (i := 0) dX8_init_75 rfl rfl ?_
  refine ja_bipush (v := nI 41) dX8_init_76 (by decide +kernel) ?_
  refine ja_newa (id := 112) (n := 41) (t0 := 0) (k := 10) (at0 := .int) rfl (by decide) rfl (by decide) rfl ac_int rfl (by decide) (ja_nin (ja_nin (ja_nin (ja_nin (ja_nin (ja_nin (ja_nin (ja_nin f8 (by decide)) (by decide)) (by decide)) (by decide)) (by decide)) (by decide)) (by decide)) (by decide)) (by omega) (Nat.le_of_ble_eq_true rfl) (Nat.le_of_ble_eq_true rfl) dX8_init_78 ?_
  refine ja_putFR rfl rfl fl_X8_39 hS rfl (by omega) (fun _ => rfl) (fun _ => rfl) dX8_init_80 ?_
  refine ja_aload_n (i := 0) dX8_init_83 rfl rfl ?_
  refine ja_bipush (v := nI 6) dX8_init_84 (by decide +kernel) ?_
  refine ja_newa (id := 114) (n := 6) (t0 := 2) (k := 12) (at0 := .char) rfl (by decide) rfl (by decide) rfl ac_char rfl (by decide) (ja_nin (ja_nin (ja_nin (ja_nin (ja_nin (ja_nin (ja_nin (ja_nin (ja_nin f9 (by decide)) (by decide)) (by decide)) (by decide)) (by decide)) (by decide)) (by decide)) (by decide)) (by decide)) (by omega) (Nat.le_of_ble_eq_true rfl) (Nat.le_of_ble_eq_true rfl) dX8_init_86 ?_
  refine ja_putFR rfl rfl fl_X8_42 hS rfl (by omega) (fun _ => rfl) (fun _ => rfl) dX8_init_88 ?_
  refine ja_aload_n (i := 0) dX8_init_91 rfl rfl ?_
  refine ja_bipush (v := nI 6) dX8_init_92 (by decide +kernel) ?_
  refine ja_newa (id := 115) (n := 6) (t0 := 0) (k := 10) (at0 := .int) rfl (by decide) rfl (by decide) rfl ac_int rfl (by decide) (ja_nin (ja_nin (ja_nin (ja_nin (ja_nin (ja_nin (ja_nin (ja_nin (ja_nin (ja_nin f10 (by decide)) (by decide)) (by decide)) (by decide)) (by decide)) (by decide)) (by decide)) (by decide)) (by decide)) (by decide)) (by omega) (Nat.le_of_ble_eq_true rfl) (Nat.le_of_ble_eq_true rfl) dX8_init_94 ?_
  refine ja_putFR rfl rfl fl_X8_46 hS rfl (by omega) (fun _ => rfl) (fun _ => rfl) dX8_init_96 ?_
  refine ja_aload_n (i := 0) dX8_init_99 rfl rfl ?_
  refine ja_bipush (v := nI 6) dX8_init_100 (by decide +kernel) ?_
  refine ja_newa (id := 116) (n := 6) (t0 := 0) (k := 10) (at0 := .int) rfl (by decide) rfl (by decide) rfl ac_int rfl (by decide) (ja_nin (ja_nin (ja_nin (ja_nin (ja_nin (ja_nin (ja_nin (ja_nin (ja_nin (ja_nin (ja_nin f11 (by decide)) (by decide)) (by decide)) (by decide)) (by decide)) (by decide)) (by decide)) (by decide)) (by decide)) (by decide)) (by decide)) (by omega) (Nat.le_of_ble_eq_true rfl) (Nat.le_of_ble_eq_true rfl) dX8_init_102 ?_
  refine ja_putFR rfl rfl fl_X8_49 hS rfl (by omega) (fun _ => rfl) (fun _ => rfl) dX8_init_104 ?_
  refine ja_aload_n (i := 0) dX8_init_107 rfl rfl ?_
  refine ja_iconst (v := nI 3) dX8_init_108 (by decide +kernel) ?_
  refine ja_newa (id := 118) (n := 3) (t0 := 0) (k := 10) (at0 := .int) rfl (by decide) rfl (by decide) rfl ac_int rfl (by decide) (ja_nin (ja_nin (ja_nin (ja_nin (ja_nin (ja_nin (ja_nin (ja_nin (ja_nin (ja_nin (ja_nin (ja_nin f12 (by decide)) (by decide)) (by decide)) (by decide)) (by decide)) (by decide)) (by decide)) (by decide)) (by decide)) (by decide)) (by decide)) (by decide)) (by omega) (Nat.le_of_ble_eq_true rfl) (Nat.le_of_ble_eq_true rfl) dX8_init_109 ?_
  refine ja_putFR rfl rfl fl_X8_52 hS rfl (by omega) (fun _ => rfl) (fun _ => rfl) dX8_init_111 ?_
  refine ja_aload_n (i := 0) dX8_init_114 rfl rfl ?_
  refine ja_sipush (v := nI 768) dX8_init_115 (by decide +kernel) ?_
  refine ja_newa (id := 119) (n := 768) (t0 := 1) (k := 11) (at0 := .boolean) rfl (by decide) rfl (by decide) rfl ac_boolean rfl (by decide) (ja_nin (ja_nin (ja_nin (ja_nin (ja_nin (ja_nin (ja_nin (ja_nin (ja_nin (ja_nin (ja_nin (ja_nin (ja_nin f13 (by decide)) (by decide)) (by decide)) (by decide)) (by decide)) (by decide)) (by decide)) (by decide)) (by decide)) (by decide)) (by decide)) (by decide)) (by decide)) (by omega) (Nat.le_of_ble_eq_true rfl) (Nat.le_of_ble_eq_true rfl) dX8_init_118 ?_
  refine ja_putFR rfl rfl fl_X8_55 hS rfl (by omega) (fun _ => rfl) (fun _ => rfl) dX8_init_120 ?_
  refine ja_aload_n (i := 0) dX8_init_123 rfl rfl ?_
  refine ja_sipush (v := nI 768) dX8_init_124 (by decide +kernel) ?_
  refine ja_newa (id := 120) (n := 768) (t0 := 0) (k := 10) (at0 := .int) rfl (by decide) rfl (by decide) rfl ac_int rfl (by decide) (ja_nin (ja_nin (ja_nin (ja_nin (ja_nin (ja_nin (ja_nin (ja_nin (ja_nin (ja_nin (ja_nin (ja_nin (ja_nin (ja_nin f14 (by decide)) (by decide)) (by decide)) (by decide)) (by decide)) (by decide)) (by decide)) (by decide)) (by decide)) (by decide)) (by decide)) (by decide)) (by decide)) (by decide)) (by omega) (Nat.le_of_ble_eq_true rfl) (Nat.le_of_ble_eq_true rfl) dX8_init_127 ?_
  refine ja_putFR rfl rfl fl_X8_58 hS rfl (by omega) (fun _ => rfl) (fun _ => rfl) dX8_init_129 ?_
  refine ja_aload_n (i := 0) dX8_init_132 rfl rfl ?_
  refine ja_sipush (v := nI 768) dX8_init_133 (by decide +kernel) ?_
  refine ja_newa (id := 121) (n := 768) (t0 := 0) (k := 10) (at0 := .int) rfl (by decide) rfl (by decide) rfl ac_int rfl (by decide) (ja_nin (ja_nin (ja_nin (ja_nin (ja_nin (ja_nin (ja_nin (ja_nin (ja_nin (ja_nin (ja_nin (ja_nin (ja_nin (ja_nin (ja_nin f15 (by decide)) (by decide)) (by decide)) (by decide)) (by decide)) (by decide)) (by decide)) (by decide)) (by decide)) (by decide)) (by decide)) (by decide)) (by decide)) (by decide)) (by decide)) (by omega) (Nat.le_of_ble_eq_true rfl) (Nat.le_of_ble_eq_true rfl) dX8_init_136 ?_
  refine ja_putFR rfl rfl fl_X8_61 hS rfl (by omega) (fun _ => rfl) (fun _ => rfl) dX8_init_138 ?_
  refine ja_aload_n (i := 0) dX8_init_141 rfl rfl ?_
  refine ja_sipush (v := nI 256) dX8_init_142 (by decide +kernel) ?_
  refine ja_newa (id := 122) (n := 256) (t0 := 0) (k := 10) (at0 := .int) rfl (by decide) rfl (by decide) rfl ac_int rfl (by decide) (ja_nin (ja_nin (ja_nin (ja_nin (ja_nin (ja_nin (ja_nin (ja_nin (ja_nin (ja_nin (ja_nin (ja_nin (ja_nin (ja_nin (ja_nin (ja_nin f16 (by decide)) (by decide)) (by decide)) (by decide)) (by decide)) (by decide)) (by decide)) (by decide)) (by decide)) (by decide)) (by decide)) (by decide)) (by decide)) (by decide)) (by decide)) (by decide)) (by omega) (Nat.le_of_ble_eq_true rfl) (Nat.le_of_ble_eq_true rfl) dX8_init_145 ?_
  refine ja_putFR rfl rfl fl_X8_64 hS rfl (by omega) (fun _ => rfl) (fun _ => rfl) dX8_init_147 ?_
  refine ja_aload_n (i := 0) dX8_init_150 rfl rfl ?_
  refine ja_sipush (v := nI 256) dX8_init_151 (by decide +kernel) ?_
  refine ja_newa (id := 123) (n := 256) (t0 := 0) (k := 10) (at0 := .int) rfl (by decide) rfl (by decide) rfl ac_int rfl (by decide) (ja_nin (ja_nin (ja_nin (ja_nin (ja_nin (ja_nin (ja_nin (ja_nin (ja_nin (ja_nin (ja_nin (ja_nin (ja_nin (ja_nin (ja_nin (ja_nin (ja_nin f17 (by decide)) (by decide)) (by decide)) (by decide)) (by decide)) (by decide)) (by decide)) (by decide)) (by decide)) (by decide)) (by decide)) (by decide)) (by decide)) (by decide)) (by decide)) (by decide)) (by decide)) (by omega) (Nat.le_of_ble_eq_true rfl) (Nat.le_of_ble_eq_true rfl) dX8_init_154 ?_
  refine ja_putFR rfl rfl fl_X8_67 hS rfl (by omega) (fun _ => rfl) (fun _ => rfl) dX8_init_156 ?_
  refine ja_aload_n (i := 0) dX8_init_159 rfl rfl ?_
  refine ja_bipush (v := nI 10) dX8_init_160 (by decide +kernel) ?_
  refine ja_newa (id := 124) (n := 10) (t0 := 0) (k := 10) (at0 := .int) rfl (by decide) rfl (by decide) rfl ac_int rfl (by decide) (ja_nin (ja_nin (ja_nin (ja_nin (ja_nin (ja_nin (ja_nin (ja_nin (ja_nin (ja_nin (ja_nin (ja_nin (ja_nin (ja_nin (ja_nin (ja_nin (ja_nin (ja_nin f18 (by decide)) (by decide)) (by decide)) (by decide)) (by decide)) (by decide)) (by decide)) (by decide)) (by decide)) (by decide)) (by decide)) (by decide)) (by decide)) (by decide)) (by decide)) (by decide)) (by decide)) (by decide)) (by omega) (Nat.le_of_ble_eq_true rfl) (Nat.le_of_ble_eq_true rfl) dX8_init_162 ?_
  refine ja_putFR rfl rfl fl_X8_70 hS rfl (by omega) (fun _ => rfl) (fun _ => rfl) dX8_init_164 ?_
  refine ja_aload_n (i := 0) dX8_init_167 rfl rfl ?_
  refine ja_sipush (v := nI 256) dX8_init_168 (by decide +kernel) ?_
  refine ja_newa (id := 125) (n := 256) (t0 := 1) (k := 11) (at0 := .boolean) rfl (by decide) rfl (by decide) rfl ac_boolean rfl (by decide) (ja_nin (ja_nin (ja_nin (ja_nin (ja_nin (ja_nin (ja_nin (ja_nin (ja_nin (ja_nin (ja_nin (ja_nin (ja_nin (ja_nin (ja_nin (ja_nin (ja_nin (ja_nin (ja_nin f19 (by decide)) (by decide)) (by decide)) (by decide)) (by decide)) (by decide)) (by decide)) (by decide)) (by decide)) (by decide)) (by decide)) (by decide)) (by decide)) (by decide)) (by decide)) (by decide)) (by decide)) (by decide)) (by decide)) (by omega) (Nat.le_of_ble_eq_true rfl) (Nat.le_of_ble_eq_true rfl) dX8_init_171 ?_
  refine ja_putFR rfl rfl fl_X8_73 hS rfl (by omega) (fun _ => rfl) (fun _ => rfl) dX8_init_173 ?_
  refine ja_aload_n (i := 0) dX8_init_176 rfl rfl ?_
  refine ja_bipush (v := nI 10) dX8_init_177 (by decide +kernel) ?_
  refine ja_newa (id := 126) (n := 10) (t0 := 0) (k := 10) (at0 := .int) rfl (by decide) rfl (by decide) rfl ac_int rfl (by decide) (ja_nin (ja_nin (ja_nin (ja_nin (ja_nin (ja_nin (ja_nin (ja_nin (ja_nin (ja_nin (ja_nin (ja_nin (ja_nin (ja_nin (ja_nin (ja_nin (ja_nin (ja_nin (ja_nin (ja_nin f20 (by decide)) (by decide)) (by decide)) (by decide)) (by decide)) (by decide)) (by decide)) (by decide)) (by decide)) (by decide)) (by decide)) (by decide)) (by decide)) (by decide)) (by decide)) (by decide)) (by decide)) (by decide)) (by decide)) (by decide)) (by omega) (Nat.le_of_ble_eq_true rfl) (Nat.le_of_ble_eq_true rfl) dX8_init_179 ?_
  refine ja_putFR rfl rfl fl_X8_76 hS rfl (by omega) (fun _ => rfl) (fun _ => rfl) dX8_init_181 ?_
  refine ja_aload_n (i := 0) dX8_init_184 rfl rfl ?_
  refine ja_bipush (v := nI 10) dX8_init_185 (by decide +kernel) ?_
  refine ja_newa (id := 127) (n := 10) (t0 := 0) (k := 10) (at0 := .int) rfl (by decide) rfl (by decide) rfl ac_int rfl (by decide) (ja_nin (ja_nin (ja_nin (ja_nin (ja_nin (ja_nin (ja_nin (ja_nin (ja_nin (ja_nin (ja_nin (ja_nin (ja_nin (ja_nin (ja_nin (ja_nin (ja_nin (ja_nin (ja_nin (ja_nin (ja_nin f21 (by decide)) (by decide)) (by decide)) (by decide)) (by decide)) (by decide)) (by decide)) (by decide)) (by decide)) (by decide)) (by decide)) (by decide)) (by decide)) (by decide)) (by decide)) (by decide)) (by decide)) (by decide)) (by decide)) (by decide)) (by decide)) (by omega) (Nat.le_of_ble_eq_true rfl) (Nat.le_of_ble_eq_true rfl) dX8_init_187 ?_
  refine ja_putFR rfl rfl fl_X8_79 hS rfl (by omega) (fun _ => rfl) (fun _ => rfl) dX8_init_189 ?_
  refine ja_aload_n (i := 0) dX8_init_192 rfl rfl ?_
  refine ja_sipush (v := nI 256) dX8_init_193 (by decide +kernel) ?_
  refine ja_newa (id := 128) (n := 256) (t0 := 1) (k := 11) (at0 := .boolean) rfl (by decide) rfl (by decide) rfl ac_boolean rfl (by decide) (ja_nin (ja_nin (ja_nin (ja_nin (ja_nin (ja_nin (ja_nin (ja_nin (ja_nin (ja_nin (ja_nin (ja_nin (ja_nin (ja_nin (ja_nin (ja_nin (ja_nin (ja_nin (ja_nin (ja_nin (ja_nin (ja_nin f22 (by decide)) (by decide)) (by decide)) (by decide)) (by decide)) (by decide)) (by decide)) (by decide)) (by decide)) (by decide)) (by decide)) (by decide)) (by decide)) (by decide)) (by decide)) (by decide)) (by decide)) (by decide)) (by decide)) (by decide)) (by decide)) (by decide)) (by omega) (Nat.le_of_ble_eq_true rfl) (Nat.le_of_ble_eq_true rfl) dX8_init_196 ?_
  refine ja_putFR rfl rfl fl_X8_82 hS rfl (by omega) (fun _ => rfl) (fun _ => rfl) dX8_init_198 ?_
  refine ja_iconst (v := nI 0) dX8_init_201 (by decide +kernel) ?_
  refine ja_istore_n (i := 1) dX8_init_202 rfl rfl (Nat.le_of_ble_eq_true rfl) ?_
  have lp203 : ∀ (f203 : Nat) (q : Nat) (E : jD), (768 < q + f203) → (q ≤ 768) → (E = li1 (ja_dn (ja_dn (ja_dn (ja_dn (ja_dn (ja_dn (ja_dn (ja_dn (ja_dn (ja_dn (ja_dn (ja_dn (ja_dn (ja_dn (ja_dn (ja_dn (ja_dn (ja_dn (ja_dn (ja_dn (ja_dn (ja_dn (ja_dn (ja_up D 100 2 ((-1))) 104) 105) 106) 107) 108) 109) 110) 111) 112) 114) 115) 116) 118) 119) 120) 121) 122) 123) 124) 125) 126) 127) 128) 105 105 q) → ja_A l (mX8_init 23 36543) ja_sn (ja_Qf (mX8_init 23 36543) (fun v2 Z2 D2 => v2 = none ∧ Z2 = zO8 Z ∧ D2 = dO8 D) ja_x0) 203 [some (.ref (100)), some (.int (nI (q)))] [] (ja_uq (ja_zn (ja_uq (ja_zn (ja_uq (ja_zn (ja_uq (ja_zn (ja_uq (ja_zn (ja_uq (ja_zn (ja_uq (ja_zn (ja_uq (ja_zn (ja_uq (ja_zn (ja_uq (ja_zn (ja_uq (ja_zn (ja_uq (ja_zn (ja_uq (ja_zn (ja_uq (ja_zn (ja_uq (ja_zn (ja_uq (ja_zn (ja_uq (ja_zn (ja_uq (ja_zn (ja_uq (ja_zn (ja_uq (ja_zn (ja_uq (ja_zn (ja_uq (ja_zn (ja_uq (ja_zn Z 104 11 3) 100 3 (some 104)) 105 10 768) 100 4 (some 105)) 106 10 30) 100 5 (some 106)) 107 10 30) 100 6 (some 107)) 108 10 768) 100 7 (some 108)) 109 10 30) 100 8 (some 109)) 110 11 6) 100 9 (some 110)) 111 10 31488) 100 10 (some 111)) 112 10 41) 100 11 (some 112)) 114 12 6) 100 13 (some 114)) 115 10 6) 100 14 (some 115)) 116 10 6) 100 15 (some 116)) 118 10 3) 100 17 (some 118)) 119 11 768) 100 18 (some 119)) 120 10 768) 100 19 (some 120)) 121 10 768) 100 20 (some 121)) 122 10 256) 100 21 (some 122)) 123 10 256) 100 22 (some 123)) 124 10 10) 100 23 (some 124)) 125 11 256) 100 24 (some 125)) 126 10 10) 100 25 (some 126)) 127 10 10) 100 26 (some 127)) 128 11 256) 100 27 (some 128)) E 23 36543 := by
    intro f203
    induction f203 with
    | zero => intro q E hf hq hE; exfalso; omega
    | succ f203 ih203 =>
      intro q E hf hq hE
      refine ja_iload_n (i := 1) dX8_init_203 rfl rfl ?_
      refine ja_sipush (v := nI 768) dX8_init_204 (by decide +kernel) ?_
      refine ja_icmpN_ge (tgt := 223) dX8_init_207 (by decide) (by omega) (by omega) (fun c207 => ?_) (fun c207 => ?_)
      ·
        refine ja_iconst (v := nI 0) dX8_init_223 (by decide +kernel) ?_
        refine ja_istore_n (i := 1) dX8_init_224 rfl rfl (Nat.le_of_ble_eq_true rfl) ?_
        have lp225 : ∀ (f225 : Nat) (q : Nat) (E2 : jD), (768 < q + f225) → (q ≤ 768) → (E2 = li1 (li1 (ja_dn (ja_dn (ja_dn (ja_dn (ja_dn (ja_dn (ja_dn (ja_dn (ja_dn (ja_dn (ja_dn (ja_dn (ja_dn (ja_dn (ja_dn (ja_dn (ja_dn (ja_dn (ja_dn (ja_dn (ja_dn (ja_dn (ja_dn (ja_up D 100 2 ((-1))) 104) 105) 106) 107) 108) 109) 110) 111) 112) 114) 115) 116) 118) 119) 120) 121) 122) 123) 124) 125) 126) 127) 128) 105 105 768) 111 111 q) → ja_A l (mX8_init 23 36543) ja_sn (ja_Qf (mX8_init 23 36543) (fun v2 Z2 D2 => v2 = none ∧ Z2 = zO8 Z ∧ D2 = dO8 D) ja_x0) 225 [some (.ref (100)), some (.int (nI (q)))] [] (ja_uq (ja_zn (ja_uq (ja_zn (ja_uq (ja_zn (ja_uq (ja_zn (ja_uq (ja_zn (ja_uq (ja_zn (ja_uq (ja_zn (ja_uq (ja_zn (ja_uq (ja_zn (ja_uq (ja_zn (ja_uq (ja_zn (ja_uq (ja_zn (ja_uq (ja_zn (ja_uq (ja_zn (ja_uq (ja_zn (ja_uq (ja_zn (ja_uq (ja_zn (ja_uq (ja_zn (ja_uq (ja_zn (ja_uq (ja_zn (ja_uq (ja_zn (ja_uq (ja_zn (ja_uq (ja_zn Z 104 11 3) 100 3 (some 104)) 105 10 768) 100 4 (some 105)) 106 10 30) 100 5 (some 106)) 107 10 30) 100 6 (some 107)) 108 10 768) 100 7 (some 108)) 109 10 30) 100 8 (some 109)) 110 11 6) 100 9 (some 110)) 111 10 31488) 100 10 (some 111)) 112 10 41) 100 11 (some 112)) 114 12 6) 100 13 (some 114)) 115 10 6) 100 14 (some 115)) 116 10 6) 100 15 (some 116)) 118 10 3) 100 17 (some 118)) 119 11 768) 100 18 (some 119)) 120 10 768) 100 19 (some 120)) 121 10 768) 100 20 (some 121)) 122 10 256) 100 21 (some 122)) 123 10 256) 100 22 (some 123)) 124 10 10) 100 23 (some 124)) 125 11 256) 100 24 (some 125)) 126 10 10) 100 25 (some 126)) 127 10 10) 100 26 (some 127)) 128 11 256) 100 27 (some 128)) E2 23 36543 := by
          intro f225
          induction f225 with
          | zero => intro q E2 hf hq hE2; exfalso; omega
          | succ f225 ih225 =>
            intro q E2 hf hq hE2
            refine ja_iload_n (i := 1) dX8_init_225 rfl rfl ?_
            refine ja_sipush (v := nI 768) dX8_init_226 (by decide +kernel) ?_
            refine ja_icmpN_ge (tgt := 245) dX8_init_229 (by decide) (by omega) (by omega) (fun c229 => ?_) (fun c229 => ?_)
            ·
              refine ja_vret rfl dX8_init_245 (Nat.le_of_ble_eq_true rfl) (Nat.le_of_ble_eq_true rfl) ?_
              exact ⟨rfl, rfl, by rw [hE2, show q = 768 by omega]; rfl⟩
            ·
              refine ja_aload_n (i := 0) dX8_init_232 rfl rfl ?_
              refine ja_getR fl_X8_36 hS rfl (show _ = some (111) from rfl) dX8_init_233 ?_
              refine ja_iload_n (i := 1) dX8_init_236 rfl rfl ?_
              refine ja_iconst (v := (-1)) dX8_init_237 (by decide +kernel) ?_
              refine ja_iast (show _ = (10, 31488) from rfl) rfl (by omega) (by decide) dX8_init_238 ?_
              refine ja_iincN dX8_init_239 rfl rfl (Nat.le_of_ble_eq_true rfl) ?_
              refine ja_goto (tgt := 225) dX8_init_242 (by decide) ?_
              exact ih225 (q + 1) _ (by omega) (by omega) (by rw [hE2]; exact li1_p)
        exact lp225 769 0 _ (by omega) (by omega) (by rw [hE, show q = 768 by omega]; exact li1_0)
      ·
        refine ja_aload_n (i := 0) dX8_init_210 rfl rfl ?_
        refine ja_getR fl_X8_17 hS rfl (show _ = some (105) from rfl) dX8_init_211 ?_
        refine ja_iload_n (i := 1) dX8_init_214 rfl rfl ?_
        refine ja_iconst (v := (-1)) dX8_init_215 (by decide +kernel) ?_
        refine ja_iast (show _ = (10, 768) from rfl) rfl (by omega) (by decide) dX8_init_216 ?_
        refine ja_iincN dX8_init_217 rfl rfl (Nat.le_of_ble_eq_true rfl) ?_
        refine ja_goto (tgt := 203) dX8_init_220 (by decide) ?_
        exact ih203 (q + 1) _ (by omega) (by omega) (by rw [hE]; exact li1_p)
  exact lp203 769 0 _ (by omega) (by omega) li1_0
