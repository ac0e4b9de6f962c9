/-! THE CLASS: addRule, checkOut -/
theorem zX_cg {Z Z2 : jZ} (h1 : ∀ a, a < 60 → Z2.2.1 a = Z.2.1 a) (h2 : ∀ a b, a < 60 → ¬ a = 2 → ¬ a = 3 → Z2.2.2.1 a b = Z.2.2.1 a b) (h : zX Z) : zX Z2 := by
  obtain ⟨a1, a2, a3⟩ := h
  refine ⟨?_, fun l hl => ?_, fun c hc => ?_⟩
  · unfold zXf at a1 ⊢
    simp only [h1 _ (show 0 < 60 by omega), h1 _ (show 1 < 60 by omega), h1 _ (show 2 < 60 by omega), h1 _ (show 3 < 60 by omega), h1 _ (show 4 < 60 by omega), h1 _ (show 5 < 60 by omega), h1 _ (show 6 < 60 by omega), h1 _ (show 7 < 60 by omega), h1 _ (show 8 < 60 by omega), h1 _ (show 9 < 60 by omega), h1 _ (show 10 < 60 by omega), h1 _ (show 11 < 60 by omega), h1 _ (show 12 < 60 by omega), h1 _ (show 13 < 60 by omega), h1 _ (show 14 < 60 by omega), h1 _ (show 15 < 60 by omega), h1 _ (show 16 < 60 by omega), h1 _ (show 17 < 60 by omega), h1 _ (show 18 < 60 by omega), h2 0 _ (by omega) (by omega) (by omega), h2 5 _ (by omega) (by omega) (by omega), h2 11 _ (by omega) (by omega) (by omega), h2 13 _ (by omega) (by omega) (by omega), h2 17 _ (by omega) (by omega) (by omega)]
    exact a1
  · have := a2 l hl
    simp only [h2 1 _ (by omega) (by omega) (by omega), h1 (30 + 10 * l) (by omega), h2 (30 + 10 * l) _ (by omega) (by omega) (by omega), h1 (31 + 10 * l) (by omega), h1 (32 + 10 * l) (by omega), h1 (33 + 10 * l) (by omega), h1 (34 + 10 * l) (by omega), h1 (35 + 10 * l) (by omega), h1 (36 + 10 * l) (by omega), h1 (37 + 10 * l) (by omega)]
    exact this
  · have := a3 c hc
    simp only [h2 16 _ (by omega) (by omega) (by omega), h1 (20 + c) (by omega)]
    exact this
theorem zX_zn {Z : jZ} {id k n : Nat} (h : 60 ≤ id) (hx : zX Z) : zX (ja_zn Z id k n) := zX_cg (Z := Z) (fun a ha => if_neg (by omega)) (fun a b ha _ _ => if_neg (by omega)) hx
theorem zX_uq {Z : jZ} {id j : Nat} {x : Option Nat} (h : id = 2 ∨ id = 3 ∨ 60 ≤ id) (hx : zX Z) : zX (ja_uq Z id j x) := zX_cg (Z := Z) (fun a ha => rfl) (fun a b ha h2 h3 => if_neg (by omega)) hx
theorem zX_O4 {Z : jZ} {r i1 i2 : Nat} (hx : zX Z) : zX (zO4 Z r i1 i2) := zX_uq (by omega) (zX_uq (by omega) hx)

theorem zX_O6_0 {Z : jZ} {i1 : Nat} (hx : zX Z) : zX (zO6_0 Z i1) := by
  unfold zO6_0
  repeat (first | refine zX_uq (by omega) ?_ | refine zX_zn (by omega) ?_)
  exact hx

theorem zX_O6_1 {Z : jZ} {i1 : Nat} (hx : zX Z) : zX (zO6_1 Z i1) := by
  unfold zO6_1
  repeat (first | refine zX_uq (by omega) ?_ | refine zX_zn (by omega) ?_)
  exact hx

theorem zX_O6_2 {Z : jZ} {i1 : Nat} (hx : zX Z) : zX (zO6_2 Z i1) := by
  unfold zO6_2
  repeat (first | refine zX_uq (by omega) ?_ | refine zX_zn (by omega) ?_)
  exact hx

set_option maxRecDepth 100000 in
set_option maxHeartbeats 4000000 in
theorem c_addRule_f1 (l : Launch) {Z : jZ} {D : jD} (hx : zX Z) {kd : Int32} (a b : Int32) (hkd : ¬ (kd = nI 105 ∨ kd = nI 110 ∨ kd = nI 97)) : ja_M l (mX7_addRule 1 6) [.ref (0), .int (kd), .int (a), .int (b)] Z D ja_r0 (ja_jx "java/lang/IllegalArgumentException" Z D) := by
  refine ja_Mof (lv := [some (.ref (0)), some (.int (kd)), some (.int (a)), some (.int (b))]) (by decide +kernel) rfl rfl (Nat.le_of_ble_eq_true rfl) rfl ?_
  refine ja_iload_n (i := 1) dX7_addRule_0 rfl rfl ?_
  refine ja_bipush (v := nI 105) dX7_addRule_1 (by decide +kernel) ?_
  refine ja_icmp_eq (tgt := 28) dX7_addRule_3 (by decide) (fun c3 => ?_) (fun c3 => ?_)
  ·
    exfalso; first | exact hkd (Or.inl c3) | exact hkd (Or.inr (Or.inl c9)) | exact hkd (Or.inr (Or.inr c15))
  ·
    refine ja_iload_n (i := 1) dX7_addRule_6 rfl rfl ?_
    refine ja_bipush (v := nI 110) dX7_addRule_7 (by decide +kernel) ?_
    refine ja_icmp_eq (tgt := 28) dX7_addRule_9 (by decide) (fun c9 => ?_) (fun c9 => ?_)
    ·
      exfalso; first | exact hkd (Or.inl c3) | exact hkd (Or.inr (Or.inl c9)) | exact hkd (Or.inr (Or.inr c15))
    ·
      refine ja_iload_n (i := 1) dX7_addRule_12 rfl rfl ?_
      refine ja_bipush (v := nI 97) dX7_addRule_13 (by decide +kernel) ?_
      refine ja_icmp_eq (tgt := 28) dX7_addRule_15 (by decide) (fun c15 => ?_) (fun c15 => ?_)
      ·
        exfalso; first | exact hkd (Or.inl c3) | exact hkd (Or.inr (Or.inl c9)) | exact hkd (Or.inr (Or.inr c15))
      ·
        refine ja_throw ts_X7_60_163_64 rfl dX7_addRule_18 dX7_addRule_21 dX7_addRule_22 dX7_addRule_24 dX7_addRule_27 (Nat.le_of_ble_eq_true rfl) (Nat.le_of_ble_eq_true rfl) (Nat.le_of_ble_eq_true rfl) (Nat.le_of_ble_eq_true rfl) ?_
        exact ⟨rfl, rfl, rfl⟩

set_option maxRecDepth 100000 in
set_option maxHeartbeats 4000000 in
theorem c_addRule_f2 (l : Launch) {Z : jZ} {D : jD} (hx : zX Z) {kd : Int32} (hkd : kd = nI 105 ∨ kd = nI 110 ∨ kd = nI 97) {x y : Int32} (hal : ¬ areL x y) : ja_M l (mX7_addRule 1 6) [.ref (0), .int (kd), .int (x), .int (y)] Z D ja_r0 (ja_jx "java/lang/IndexOutOfBoundsException" Z D) := by
  refine ja_Mof (lv := [some (.ref (0)), some (.int (kd)), some (.int (x)), some (.int (y))]) (by decide +kernel) rfl rfl (Nat.le_of_ble_eq_true rfl) rfl ?_
  refine ja_iload_n (i := 1) dX7_addRule_0 rfl rfl ?_
  refine ja_bipush (v := nI 105) dX7_addRule_1 (by decide +kernel) ?_
  refine ja_icmp_eq (tgt := 28) dX7_addRule_3 (by decide) (fun c3 => ?_) (fun c3 => ?_)
  ·
    refine ja_aload_n (i := 0) dX7_addRule_28 rfl rfl ?_
    refine ja_iload_n (i := 2) dX7_addRule_29 rfl rfl ?_
    refine ja_iload_n (i := 3) dX7_addRule_30 rfl rfl ?_
    refine ja_cVx (st := []) (c_needTwoLayers_x (D := D) l hx hal) (ce_X7_needTwoLayers 1 6) im_X7_needTwoLayers se_X7_needTwoLayers lk_X7_165 k_X7 (zX_o0 hx) ⟨(Nat.le_of_ble_eq_true rfl), (Nat.le_of_ble_eq_true rfl)⟩ dX7_addRule_31 rfl rfl (Nat.le_of_ble_eq_true rfl) (Nat.le_of_ble_eq_true rfl) (Nat.le_of_ble_eq_true rfl) ?_
    refine ja_out rfl (Nat.le_of_ble_eq_true rfl) (Nat.le_of_ble_eq_true rfl) ?_
    exact ⟨rfl, rfl, rfl⟩
  ·
    refine ja_iload_n (i := 1) dX7_addRule_6 rfl rfl ?_
    refine ja_bipush (v := nI 110) dX7_addRule_7 (by decide +kernel) ?_
    refine ja_icmp_eq (tgt := 28) dX7_addRule_9 (by decide) (fun c9 => ?_) (fun c9 => ?_)
    ·
      refine ja_aload_n (i := 0) dX7_addRule_28 rfl rfl ?_
      refine ja_iload_n (i := 2) dX7_addRule_29 rfl rfl ?_
      refine ja_iload_n (i := 3) dX7_addRule_30 rfl rfl ?_
      refine ja_cVx (st := []) (c_needTwoLayers_x (D := D) l hx hal) (ce_X7_needTwoLayers 1 6) im_X7_needTwoLayers se_X7_needTwoLayers lk_X7_165 k_X7 (zX_o0 hx) ⟨(Nat.le_of_ble_eq_true rfl), (Nat.le_of_ble_eq_true rfl)⟩ dX7_addRule_31 rfl rfl (Nat.le_of_ble_eq_true rfl) (Nat.le_of_ble_eq_true rfl) (Nat.le_of_ble_eq_true rfl) ?_
      refine ja_out rfl (Nat.le_of_ble_eq_true rfl) (Nat.le_of_ble_eq_true rfl) ?_
      exact ⟨rfl, rfl, rfl⟩
    ·
      refine ja_iload_n (i := 1) dX7_addRule_12 rfl rfl ?_
      refine ja_bipush (v := nI 97) dX7_addRule_13 (by decide +kernel) ?_
      refine ja_icmp_eq (tgt := 28) dX7_addRule_15 (by decide) (fun c15 => ?_) (fun c15 => (hkd.elim c3 (fun z => z.elim c9 c15)).elim)
      refine ja_aload_n (i := 0) dX7_addRule_28 rfl rfl ?_
      refine ja_iload_n (i := 2) dX7_addRule_29 rfl rfl ?_
      refine ja_iload_n (i := 3) dX7_addRule_30 rfl rfl ?_
      refine ja_cVx (st := []) (c_needTwoLayers_x (D := D) l hx hal) (ce_X7_needTwoLayers 1 6) im_X7_needTwoLayers se_X7_needTwoLayers lk_X7_165 k_X7 (zX_o0 hx) ⟨(Nat.le_of_ble_eq_true rfl), (Nat.le_of_ble_eq_true rfl)⟩ dX7_addRule_31 rfl rfl (Nat.le_of_ble_eq_true rfl) (Nat.le_of_ble_eq_true rfl) (Nat.le_of_ble_eq_true rfl) ?_
      refine ja_out rfl (Nat.le_of_ble_eq_true rfl) (Nat.le_of_ble_eq_true rfl) ?_
      exact ⟨rfl, rfl, rfl⟩

set_option maxRecDepth 100000 in
set_option maxHeartbeats 4000000 in
theorem c_addRule_f3 (l : Launch) {Z : jZ} {D : jD} (hx : zX Z) {kd : Int32} (hkd : kd = nI 105 ∨ kd = nI 110 ∨ kd = nI 97) {l1 l2 : Nat} (h1 : l1 < 3) (h2 : l2 < 3) (h3 : l1 ≠ l2) {b : Bool} (hin : D 0 7 = bI b) {n : Nat} (hrn : D 0 4 = nI n) (hn6 : n ≤ 6) (hbad : b = true ∨ n = 6) : ja_M l (mX7_addRule 1 6) [.ref (0), .int (kd), .int (nI (l1)), .int (nI (l2))] Z D ja_r0 (ja_jx "java/lang/IllegalStateException" Z D) := by
  refine ja_Mof (lv := [some (.ref (0)), some (.int (kd)), some (.int (nI (l1))), some (.int (nI (l2)))]) (by decide +kernel) rfl rfl (Nat.le_of_ble_eq_true rfl) rfl ?_
  refine ja_iload_n (i := 1) dX7_addRule_0 rfl rfl ?_
  refine ja_bipush (v := nI 105) dX7_addRule_1 (by decide +kernel) ?_
  refine ja_icmp_eq (tgt := 28) dX7_addRule_3 (by decide) (fun c3 => ?_) (fun c3 => ?_)
  ·
    refine ja_aload_n (i := 0) dX7_addRule_28 rfl rfl ?_
    refine ja_iload_n (i := 2) dX7_addRule_29 rfl rfl ?_
    refine ja_iload_n (i := 3) dX7_addRule_30 rfl rfl ?_
    refine ja_cVr0 (st := []) (c_needTwoLayers (D := D) l hx (a := l1) (b := l2) (by omega) (by omega) h3) rfl rfl (ce_X7_needTwoLayers 0 0) im_X7_needTwoLayers se_X7_needTwoLayers lk_X7_165 k_X7 (zX_o0 hx) ⟨(Nat.le_of_ble_eq_true rfl), (Nat.le_of_ble_eq_true rfl)⟩ dX7_addRule_31 rfl rfl (Nat.le_of_ble_eq_true rfl) (Nat.zero_le _) (Nat.zero_le _) ?_
    refine ja_aload_n (i := 0) dX7_addRule_34 rfl rfl ?_
    refine ja_getI fl_X7_67 (zX_o0 hx) rfl dX7_addRule_35 ?_
    refine ja_top (y := bI (b)) hin ?_
    refine ja_ifB_ne (tgt := 50) dX7_addRule_38 (by decide) (fun c38 => ?_) (fun c38 => ?_)
    ·
      refine ja_throw ts_X7_75_168_79 rfl dX7_addRule_50 dX7_addRule_53 dX7_addRule_54 dX7_addRule_56 dX7_addRule_59 (Nat.le_of_ble_eq_true rfl) (Nat.le_of_ble_eq_true rfl) (Nat.le_of_ble_eq_true rfl) (Nat.le_of_ble_eq_true rfl) ?_
      exact ⟨rfl, rfl, rfl⟩
    ·
      refine ja_aload_n (i := 0) dX7_addRule_41 rfl rfl ?_
      refine ja_getI fl_X7_83 (zX_o0 hx) rfl dX7_addRule_42 ?_
      refine ja_top (y := nI (n)) hrn ?_
      refine ja_bipush (v := nI 6) dX7_addRule_45 (by decide +kernel) ?_
      refine ja_icmpN_lt (tgt := 60) dX7_addRule_47 (by decide) (by omega) (by omega) (fun c47 => ?_) (fun c47 => ?_)
      ·
        exfalso
        rcases hbad with e | e
        · rw [e] at c38; cases c38
        · omega
      ·
        refine ja_throw ts_X7_75_168_79 rfl dX7_addRule_50 dX7_addRule_53 dX7_addRule_54 dX7_addRule_56 dX7_addRule_59 (Nat.le_of_ble_eq_true rfl) (Nat.le_of_ble_eq_true rfl) (Nat.le_of_ble_eq_true rfl) (Nat.le_of_ble_eq_true rfl) ?_
        exact ⟨rfl, rfl, rfl⟩
  ·
    refine ja_iload_n (i := 1) dX7_addRule_6 rfl rfl ?_
    refine ja_bipush (v := nI 110) dX7_addRule_7 (by decide +kernel) ?_
    refine ja_icmp_eq (tgt := 28) dX7_addRule_9 (by decide) (fun c9 => ?_) (fun c9 => ?_)
    ·
      refine ja_aload_n (i := 0) dX7_addRule_28 rfl rfl ?_
      refine ja_iload_n (i := 2) dX7_addRule_29 rfl rfl ?_
      refine ja_iload_n (i := 3) dX7_addRule_30 rfl rfl ?_
      refine ja_cVr0 (st := []) (c_needTwoLayers (D := D) l hx (a := l1) (b := l2) (by omega) (by omega) h3) rfl rfl (ce_X7_needTwoLayers 0 0) im_X7_needTwoLayers se_X7_needTwoLayers lk_X7_165 k_X7 (zX_o0 hx) ⟨(Nat.le_of_ble_eq_true rfl), (Nat.le_of_ble_eq_true rfl)⟩ dX7_addRule_31 rfl rfl (Nat.le_of_ble_eq_true rfl) (Nat.zero_le _) (Nat.zero_le _) ?_
      refine ja_aload_n (i := 0) dX7_addRule_34 rfl rfl ?_
      refine ja_getI fl_X7_67 (zX_o0 hx) rfl dX7_addRule_35 ?_
      refine ja_top (y := bI (b)) hin ?_
      refine ja_ifB_ne (tgt := 50) dX7_addRule_38 (by decide) (fun c38 => ?_) (fun c38 => ?_)
      ·
        refine ja_throw ts_X7_75_168_79 rfl dX7_addRule_50 dX7_addRule_53 dX7_addRule_54 dX7_addRule_56 dX7_addRule_59 (Nat.le_of_ble_eq_true rfl) (Nat.le_of_ble_eq_true rfl) (Nat.le_of_ble_eq_true rfl) (Nat.le_of_ble_eq_true rfl) ?_
        exact ⟨rfl, rfl, rfl⟩
      ·
        refine ja_aload_n (i := 0) dX7_addRule_41 rfl rfl ?_
        refine ja_getI fl_X7_83 (zX_o0 hx) rfl dX7_addRule_42 ?_
        refine ja_top (y := nI (n)) hrn ?_
        refine ja_bipush (v := nI 6) dX7_addRule_45 (by decide +kernel) ?_
        refine ja_icmpN_lt (tgt := 60) dX7_addRule_47 (by decide) (by omega) (by omega) (fun c47 => ?_) (fun c47 => ?_)
        ·
          exfalso
          rcases hbad with e | e
          · rw [e] at c38; cases c38
          · omega
        ·
          refine ja_throw ts_X7_75_168_79 rfl dX7_addRule_50 dX7_addRule_53 dX7_addRule_54 dX7_addRule_56 dX7_addRule_59 (Nat.le_of_ble_eq_true rfl) (Nat.le_of_ble_eq_true rfl) (Nat.le_of_ble_eq_true rfl) (Nat.le_of_ble_eq_true rfl) ?_
          exact ⟨rfl, rfl, rfl⟩
    ·
      refine ja_iload_n (i := 1) dX7_addRule_12 rfl rfl ?_
      refine ja_bipush (v := nI 97) dX7_addRule_13 (by decide +kernel) ?_
      refine ja_icmp_eq (tgt := 28) dX7_addRule_15 (by decide) (fun c15 => ?_) (fun c15 => (hkd.elim c3 (fun z => z.elim c9 c15)).elim)
      refine ja_aload_n (i := 0) dX7_addRule_28 rfl rfl ?_
      refine ja_iload_n (i := 2) dX7_addRule_29 rfl rfl ?_
      refine ja_iload_n (i := 3) dX7_addRule_30 rfl rfl ?_
      refine ja_cVr0 (st := []) (c_needTwoLayers (D := D) l hx (a := l1) (b := l2) (by omega) (by omega) h3) rfl rfl (ce_X7_needTwoLayers 0 0) im_X7_needTwoLayers se_X7_needTwoLayers lk_X7_165 k_X7 (zX_o0 hx) ⟨(Nat.le_of_ble_eq_true rfl), (Nat.le_of_ble_eq_true rfl)⟩ dX7_addRule_31 rfl rfl (Nat.le_of_ble_eq_true rfl) (Nat.zero_le _) (Nat.zero_le _) ?_
      refine ja_aload_n (i := 0) dX7_addRule_34 rfl rfl ?_
      refine ja_getI fl_X7_67 (zX_o0 hx) rfl dX7_addRule_35 ?_
      refine ja_top (y := bI (b)) hin ?_
      refine ja_ifB_ne (tgt := 50) dX7_addRule_38 (by decide) (fun c38 => ?_) (fun c38 => ?_)
      ·
        refine ja_throw ts_X7_75_168_79 rfl dX7_addRule_50 dX7_addRule_53 dX7_addRule_54 dX7_addRule_56 dX7_addRule_59 (Nat.le_of_ble_eq_true rfl) (Nat.le_of_ble_eq_true rfl) (Nat.le_of_ble_eq_true rfl) (Nat.le_of_ble_eq_true rfl) ?_
        exact ⟨rfl, rfl, rfl⟩
      ·
        refine ja_aload_n (i := 0) dX7_addRule_41 rfl rfl ?_
        refine ja_getI fl_X7_83 (zX_o0 hx) rfl dX7_addRule_42 ?_
        refine ja_top (y := nI (n)) hrn ?_
        refine ja_bipush (v := nI 6) dX7_addRule_45 (by decide +kernel) ?_
        refine ja_icmpN_lt (tgt := 60) dX7_addRule_47 (by decide) (by omega) (by omega) (fun c47 => ?_) (fun c47 => ?_)
        ·
          exfalso
          rcases hbad with e | e
          · rw [e] at c38; cases c38
          · omega
        ·
          refine ja_throw ts_X7_75_168_79 rfl dX7_addRule_50 dX7_addRule_53 dX7_addRule_54 dX7_addRule_56 dX7_addRule_59 (Nat.le_of_ble_eq_true rfl) (Nat.le_of_ble_eq_true rfl) (Nat.le_of_ble_eq_true rfl) (Nat.le_of_ble_eq_true rfl) ?_
          exact ⟨rfl, rfl, rfl⟩

set_option maxRecDepth 100000 in
set_option maxHeartbeats 4000000 in
theorem c_addRule_ok (l : Launch) {Z : jZ} {D : jD} (hx : zX Z) {kd : Int32} (hkd : kd = nI 105 ∨ kd = nI 110 ∨ kd = nI 97) {l1 l2 : Nat} (h1 : l1 < 3) (h2 : l2 < 3) (h3 : l1 ≠ l2) (hin : D 0 7 = bI false) {n : Nat} (hrn : D 0 4 = nI n) (hn6 : n < 6) (hfr : 60 + n ∉ Z.1) : ja_M l (mX7_addRule 1 4) [.ref (0), .int (kd), .int (nI (l1)), .int (nI (l2))] Z D (fun v2 Z2 D2 => v2 = some (.int (nI n)) ∧ Z2 = (ja_uq (zO4 (ja_zn Z (60 + n) 4 4) n (30 + 10 * l1) (30 + 10 * l2)) 2 n (some (60 + n))) ∧ D2 = ja_up (dO4 (ja_dn D (60 + n)) n kd) 0 4 (nI (n + 1))) ja_x0 := by
  have hkn : narrow .char (.int kd) = .int kd := by rcases hkd with rfl | rfl | rfl <;> rfl
  have hkf : fits .char (.int kd) = true := by rcases hkd with rfl | rfl | rfl <;> rfl
  refine ja_Mof (lv := [some (.ref (0)), some (.int (kd)), some (.int (nI (l1))), some (.int (nI (l2)))]) (by decide +kernel) rfl rfl (Nat.le_of_ble_eq_true rfl) rfl ?_
  refine ja_iload_n (i := 1) dX7_addRule_0 rfl rfl ?_
  refine ja_bipush (v := nI 105) dX7_addRule_1 (by decide +kernel) ?_
  refine ja_icmp_eq (tgt := 28) dX7_addRule_3 (by decide) (fun c3 => ?_) (fun c3 => ?_)
  ·
    refine ja_aload_n (i := 0) dX7_addRule_28 rfl rfl ?_
    refine ja_iload_n (i := 2) dX7_addRule_29 rfl rfl ?_
    refine ja_iload_n (i := 3) dX7_addRule_30 rfl rfl ?_
    refine ja_cVr0 (st := []) (c_needTwoLayers (D := D) l hx (a := l1) (b := l2) (by omega) (by omega) h3) rfl rfl (ce_X7_needTwoLayers 0 0) im_X7_needTwoLayers se_X7_needTwoLayers lk_X7_165 k_X7 (zX_o0 hx) ⟨(Nat.le_of_ble_eq_true rfl), (Nat.le_of_ble_eq_true rfl)⟩ dX7_addRule_31 rfl rfl (Nat.le_of_ble_eq_true rfl) (Nat.zero_le _) (Nat.zero_le _) ?_
    refine ja_aload_n (i := 0) dX7_addRule_34 rfl rfl ?_
    refine ja_getI fl_X7_67 (zX_o0 hx) rfl dX7_addRule_35 ?_
    refine ja_top (y := bI (false)) hin ?_
    refine ja_ifB_ne (tgt := 50) dX7_addRule_38 (by decide) (fun c38 => absurd c38 (by decide)) (fun c38 => ?_)
    refine ja_aload_n (i := 0) dX7_addRule_41 rfl rfl ?_
    refine ja_getI fl_X7_83 (zX_o0 hx) rfl dX7_addRule_42 ?_
    refine ja_top (y := nI (n)) hrn ?_
    refine ja_bipush (v := nI 6) dX7_addRule_45 (by decide +kernel) ?_
    refine ja_icmpN_lt (tgt := 60) dX7_addRule_47 (by decide) (by omega) (by omega) (fun c47 => ?_) (fun c47 => (by exfalso; omega))
    refine ja_aload_n (i := 0) dX7_addRule_60 rfl rfl ?_
    refine ja_getR fl_X7_17 (zX_o0 hx) rfl (zX_p0_1 hx) dX7_addRule_61 ?_
    refine ja_aload_n (i := 0) dX7_addRule_64 rfl rfl ?_
    refine ja_getI fl_X7_83 (zX_o0 hx) rfl dX7_addRule_65 ?_
    refine ja_top (y := nI (n)) hrn ?_
    refine ja_new (id := 60 + n) k_X4 cl_X7_15 in_X4 it_X4 (by simp [ja_zn, ja_uq, ja_zm, ja_nf, zO4, hfr]) (by omega) (Nat.le_of_ble_eq_true rfl) (Nat.le_of_ble_eq_true rfl) dX7_addRule_68 ?_
    have hx : zX (ja_zn Z (60 + n) 4 4) := zX_zn (by omega) hx
    refine ja_dup dX7_addRule_71 rfl ?_
    refine ja_iload_n (i := 1) dX7_addRule_72 rfl rfl ?_
    refine ja_aload_n (i := 0) dX7_addRule_73 rfl rfl ?_
    refine ja_iload_n (i := 2) dX7_addRule_74 rfl rfl ?_
    refine ja_cVr (st := [.int (kd), .ref (60 + n), .ref (60 + n), .int (nI (n)), .ref (2)]) (c_layerOf (D := (ja_dn D (60 + n))) l hx (ly := l1) (by omega)) rfl rfl (ce_X7_layerOf 0 0) im_X7_layerOf se_X7_layerOf lk_X7_93 k_X7 (zX_o0 hx) ⟨(Nat.le_of_ble_eq_true rfl), (Nat.le_of_ble_eq_true rfl)⟩ dX7_addRule_75 rfl rfl (Nat.le_of_ble_eq_true rfl) (Nat.le_of_ble_eq_true rfl) (Nat.le_of_ble_eq_true rfl) ?_
    refine ja_aload_n (i := 0) dX7_addRule_78 rfl rfl ?_
    refine ja_iload_n (i := 3) dX7_addRule_79 rfl rfl ?_
    refine ja_cVr (st := [.ref (30 + 10 * l1), .int (kd), .ref (60 + n), .ref (60 + n), .int (nI (n)), .ref (2)]) (c_layerOf (D := (ja_dn D (60 + n))) l hx (ly := l2) (by omega)) rfl rfl (ce_X7_layerOf 0 0) im_X7_layerOf se_X7_layerOf lk_X7_93 k_X7 (zX_o0 hx) ⟨(Nat.le_of_ble_eq_true rfl), (Nat.le_of_ble_eq_true rfl)⟩ dX7_addRule_80 rfl rfl (Nat.le_of_ble_eq_true rfl) (Nat.le_of_ble_eq_true rfl) (Nat.le_of_ble_eq_true rfl) ?_
    refine ja_callI (st := [.ref (60 + n), .int (nI (n)), .ref (2)]) (c_init4 l (Z := (ja_zn Z (60 + n) 4 4)) (D := (ja_dn D (60 + n))) (r := n) (i1 := 30 + 10 * l1) (i2 := 30 + 10 * l2) (kd := kd) (by omega) (by omega) (by omega) hkn hkf (by simp [ja_zn])) (ce_X4_init 0 0) im_X4_init rfl lk_X7_170 ⟨(Nat.le_of_ble_eq_true rfl), (Nat.le_of_ble_eq_true rfl)⟩ rfl dX7_addRule_83 rfl rfl (Nat.le_of_ble_eq_true rfl) (Nat.le_of_ble_eq_true rfl) (Nat.le_of_ble_eq_true rfl) (fun _ _ _ h => h.elim) ?_
    rintro _ _ _ ⟨rfl, rfl, rfl⟩
    have hx : zX (zO4 (ja_zn Z (60 + n) 4 4) n (30 + 10 * l1) (30 + 10 * l2)) := zX_O4 hx
    refine ja_astq (t0 := 6) (ci := 4) (zX_o2 hx) rfl (by decide) (fun _ => rfl) rfl (by simp [ja_zn, ja_uq, ja_zm, ja_nf, zO4, hfr]) (by decide) (by omega) rfl (by omega) (by decide) dX7_addRule_86 ?_
    have hx : zX (ja_uq (zO4 (ja_zn Z (60 + n) 4 4) n (30 + 10 * l1) (30 + 10 * l2)) 2 n (some (60 + n))) := zX_uq (by omega) hx
    refine ja_aload_n (i := 0) dX7_addRule_87 rfl rfl ?_
    refine ja_dup dX7_addRule_88 rfl ?_
    refine ja_getI fl_X7_83 (zX_o0 hx) rfl dX7_addRule_89 ?_
    refine ja_top (y := nI (n)) (by simp only [dO4, ja_dn, ja_up]; rw [if_neg (by omega), if_neg (by omega)]; exact hrn) ?_
    refine ja_iconst (v := nI 1) dX7_addRule_92 (by decide +kernel) ?_
    refine ja_iaddN dX7_addRule_93 ?_
    refine ja_putI fl_X7_83 (zX_o0 hx) rfl rfl rfl dX7_addRule_94 ?_
    refine ja_aload_n (i := 0) dX7_addRule_97 rfl rfl ?_
    refine ja_getI fl_X7_83 (zX_o0 hx) rfl dX7_addRule_98 ?_
    refine ja_top (y := nI (n + 1)) up_s ?_
    refine ja_iconst (v := nI 1) dX7_addRule_101 (by decide +kernel) ?_
    refine ja_isubN dX7_addRule_102 (by omega) ?_
    refine ja_iret rfl rfl dX7_addRule_103 (Nat.le_of_ble_eq_true rfl) (Nat.le_of_ble_eq_true rfl) ?_
    exact ⟨rfl, rfl, rfl⟩
  ·
    refine ja_iload_n (i := 1) dX7_addRule_6 rfl rfl ?_
    refine ja_bipush (v := nI 110) dX7_addRule_7 (by decide +kernel) ?_
    refine ja_icmp_eq (tgt := 28) dX7_addRule_9 (by decide) (fun c9 => ?_) (fun c9 => ?_)
    ·
      refine ja_aload_n (i := 0) dX7_addRule_28 rfl rfl ?_
      refine ja_iload_n (i := 2) dX7_addRule_29 rfl rfl ?_
      refine ja_iload_n (i := 3) dX7_addRule_30 rfl rfl ?_
      refine ja_cVr0 (st := []) (c_needTwoLayers (D := D) l hx (a := l1) (b := l2) (by omega) (by omega) h3) rfl rfl (ce_X7_needTwoLayers 0 0) im_X7_needTwoLayers se_X7_needTwoLayers lk_X7_165 k_X7 (zX_o0 hx) ⟨(Nat.le_of_ble_eq_true rfl), (Nat.le_of_ble_eq_true rfl)⟩ dX7_addRule_31 rfl rfl (Nat.le_of_ble_eq_true rfl) (Nat.zero_le _) (Nat.zero_le _) ?_
      refine ja_aload_n (i := 0) dX7_addRule_34 rfl rfl ?_
      refine ja_getI fl_X7_67 (zX_o0 hx) rfl dX7_addRule_35 ?_
      refine ja_top (y := bI (false)) hin ?_
      refine ja_ifB_ne (tgt := 50) dX7_addRule_38 (by decide) (fun c38 => absurd c38 (by decide)) (fun c38 => ?_)
      refine ja_aload_n (i := 0) dX7_addRule_41 rfl rfl ?_
      refine ja_getI fl_X7_83 (zX_o0 hx) rfl dX7_addRule_42 ?_
      refine ja_top (y := nI (n)) hrn ?_
      refine ja_bipush (v := nI 6) dX7_addRule_45 (by decide +kernel) ?_
      refine ja_icmpN_lt (tgt := 60) dX7_addRule_47 (by decide) (by omega) (by omega) (fun c47 => ?_) (fun c47 => (by exfalso; omega))
      refine ja_aload_n (i := 0) dX7_addRule_60 rfl rfl ?_
      refine ja_getR fl_X7_17 (zX_o0 hx) rfl (zX_p0_1 hx) dX7_addRule_61 ?_
      refine ja_aload_n (i := 0) dX7_addRule_64 rfl rfl ?_
      refine ja_getI fl_X7_83 (zX_o0 hx) rfl dX7_addRule_65 ?_
      refine ja_top (y := nI (n)) hrn ?_
      refine ja_new (id := 60 + n) k_X4 cl_X7_15 in_X4 it_X4 (by simp [ja_zn, ja_uq, ja_zm, ja_nf, zO4, hfr]) (by omega) (Nat.le_of_ble_eq_true rfl) (Nat.le_of_ble_eq_true rfl) dX7_addRule_68 ?_
      have hx : zX (ja_zn Z (60 + n) 4 4) := zX_zn (by omega) hx
      refine ja_dup dX7_addRule_71 rfl ?_
      refine ja_iload_n (i := 1) dX7_addRule_72 rfl rfl ?_
      refine ja_aload_n (i := 0) dX7_addRule_73 rfl rfl ?_
      refine ja_iload_n (i := 2) dX7_addRule_74 rfl rfl ?_
      refine ja_cVr (st := [.int (kd), .ref (60 + n), .ref (60 + n), .int (nI (n)), .ref (2)]) (c_layerOf (D := (ja_dn D (60 + n))) l hx (ly := l1) (by omega)) rfl rfl (ce_X7_layerOf 0 0) im_X7_layerOf se_X7_layerOf lk_X7_93 k_X7 (zX_o0 hx) ⟨(Nat.le_of_ble_eq_true rfl), (Nat.le_of_ble_eq_true rfl)⟩ dX7_addRule_75 rfl rfl (Nat.le_of_ble_eq_true rfl) (Nat.le_of_ble_eq_true rfl) (Nat.le_of_ble_eq_true rfl) ?_
      refine ja_aload_n (i := 0) dX7_addRule_78 rfl rfl ?_
      refine ja_iload_n (i := 3) dX7_addRule_79 rfl rfl ?_
      refine ja_cVr (st := [.ref (30 + 10 * l1), .int (kd), .ref (60 + n), .ref (60 + n), .int (nI (n)), .ref (2)]) (c_layerOf (D := (ja_dn D (60 + n))) l hx (ly := l2) (by omega)) rfl rfl (ce_X7_layerOf 0 0) im_X7_layerOf se_X7_layerOf lk_X7_93 k_X7 (zX_o0 hx) ⟨(Nat.le_of_ble_eq_true rfl), (Nat.le_of_ble_eq_true rfl)⟩ dX7_addRule_80 rfl rfl (Nat.le_of_ble_eq_true rfl) (Nat.le_of_ble_eq_true rfl) (Nat.le_of_ble_eq_true rfl) ?_
      refine ja_callI (st := [.ref (60 + n), .int (nI (n)), .ref (2)]) (c_init4 l (Z := (ja_zn Z (60 + n) 4 4)) (D := (ja_dn D (60 + n))) (r := n) (i1 := 30 + 10 * l1) (i2 := 30 + 10 * l2) (kd := kd) (by omega) (by omega) (by omega) hkn hkf (by simp [ja_zn])) (ce_X4_init 0 0) im_X4_init rfl lk_X7_170 ⟨(Nat.le_of_ble_eq_true rfl), (Nat.le_of_ble_eq_true rfl)⟩ rfl dX7_addRule_83 rfl rfl (Nat.le_of_ble_eq_true rfl) (Nat.le_of_ble_eq_true rfl) (Nat.le_of_ble_eq_true rfl) (fun _ _ _ h => h.elim) ?_
      rintro _ _ _ ⟨rfl, rfl, rfl⟩
      have hx : zX (zO4 (ja_zn Z (60 + n) 4 4) n (30 + 10 * l1) (30 + 10 * l2)) := zX_O4 hx
      refine ja_astq (t0 := 6) (ci := 4) (zX_o2 hx) rfl (by decide) (fun _ => rfl) rfl (by simp [ja_zn, ja_uq, ja_zm, ja_nf, zO4, hfr]) (by decide) (by omega) rfl (by omega) (by decide) dX7_addRule_86 ?_
      have hx : zX (ja_uq (zO4 (ja_zn Z (60 + n) 4 4) n (30 + 10 * l1) (30 + 10 * l2)) 2 n (some (60 + n))) := zX_uq (by omega) hx
      refine ja_aload_n (i := 0) dX7_addRule_87 rfl rfl ?_
      refine ja_dup dX7_addRule_88 rfl ?_
      refine ja_getI fl_X7_83 (zX_o0 hx) rfl dX7_addRule_89 ?_
      refine ja_top (y := nI (n)) (by simp only [dO4, ja_dn, ja_up]; rw [if_neg (by omega), if_neg (by omega)]; exact hrn) ?_
      refine ja_iconst (v := nI 1) dX7_addRule_92 (by decide +kernel) ?_
      refine ja_iaddN dX7_addRule_93 ?_
      refine ja_putI fl_X7_83 (zX_o0 hx) rfl rfl rfl dX7_addRule_94 ?_
      refine ja_aload_n (i := 0) dX7_addRule_97 rfl rfl ?_
      refine ja_getI fl_X7_83 (zX_o0 hx) rfl dX7_addRule_98 ?_
      refine ja_top (y := nI (n + 1)) up_s ?_
      refine ja_iconst (v := nI 1) dX7_addRule_101 (by decide +kernel) ?_
      refine ja_isubN dX7_addRule_102 (by omega) ?_
      refine ja_iret rfl rfl dX7_addRule_103 (Nat.le_of_ble_eq_true rfl) (Nat.le_of_ble_eq_true rfl) ?_
      exact ⟨rfl, rfl, rfl⟩
    ·
      refine ja_iload_n (i := 1) dX7_addRule_12 rfl rfl ?_
      refine ja_bipush (v := nI 97) dX7_addRule_13 (by decide +kernel) ?_
      refine ja_icmp_eq (tgt := 28) dX7_addRule_15 (by decide) (fun c15 => ?_) (fun c15 => (hkd.elim c3 (fun z => z.elim c9 c15)).elim)
      refine ja_aload_n (i := 0) dX7_addRule_28 rfl rfl ?_
      refine ja_iload_n (i := 2) dX7_addRule_29 rfl rfl ?_
      refine ja_iload_n (i := 3) dX7_addRule_30 rfl rfl ?_
      refine ja_cVr0 (st := []) (c_needTwoLayers (D := D) l hx (a := l1) (b := l2) (by omega) (by omega) h3) rfl rfl (ce_X7_needTwoLayers 0 0) im_X7_needTwoLayers se_X7_needTwoLayers lk_X7_165 k_X7 (zX_o0 hx) ⟨(Nat.le_of_ble_eq_true rfl), (Nat.le_of_ble_eq_true rfl)⟩ dX7_addRule_31 rfl rfl (Nat.le_of_ble_eq_true rfl) (Nat.zero_le _) (Nat.zero_le _) ?_
      refine ja_aload_n (i := 0) dX7_addRule_34 rfl rfl ?_
      refine ja_getI fl_X7_67 (zX_o0 hx) rfl dX7_addRule_35 ?_
      refine ja_top (y := bI (false)) hin ?_
      refine ja_ifB_ne (tgt := 50) dX7_addRule_38 (by decide) (fun c38 => absurd c38 (by decide)) (fun c38 => ?_)
      refine ja_aload_n (i := 0) dX7_addRule_41 rfl rfl ?_
      refine ja_getI fl_X7_83 (zX_o0 hx) rfl dX7_addRule_42 ?_
      refine ja_top (y := nI (n)) hrn ?_
      refine ja_bipush (v := nI 6) dX7_addRule_45 (by decide +kernel) ?_
      refine ja_icmpN_lt (tgt := 60) dX7_addRule_47 (by decide) (by omega) (by omega) (fun c47 => ?_) (fun c47 => (by exfalso; omega))
      refine ja_aload_n (i := 0) dX7_addRule_60 rfl rfl ?_
      refine ja_getR fl_X7_17 (zX_o0 hx) rfl (zX_p0_1 hx) dX7_addRule_61 ?_
      refine ja_aload_n (i := 0) dX7_addRule_64 rfl rfl ?_
      refine ja_getI fl_X7_83 (zX_o0 hx) rfl dX7_addRule_65 ?_
      refine ja_top (y := nI (n)) hrn ?_
      refine ja_new (id := 60 + n) k_X4 cl_X7_15 in_X4 it_X4 (by simp [ja_zn, ja_uq, ja_zm, ja_nf, zO4, hfr]) (by omega) (Nat.le_of_ble_eq_true rfl) (Nat.le_of_ble_eq_true rfl) dX7_addRule_68 ?_
      have hx : zX (ja_zn Z (60 + n) 4 4) := zX_zn (by omega) hx
      refine ja_dup dX7_addRule_71 rfl ?_
      refine ja_iload_n (i := 1) dX7_addRule_72 rfl rfl ?_
      refine ja_aload_n (i := 0) dX7_addRule_73 rfl rfl ?_
      refine ja_iload_n (i := 2) dX7_addRule_74 rfl rfl ?_
      refine ja_cVr (st := [.int (kd), .ref (60 + n), .ref (60 + n), .int (nI (n)), .ref (2)]) (c_layerOf (D := (ja_dn D (60 + n))) l hx (ly := l1) (by omega)) rfl rfl (ce_X7_layerOf 0 0) im_X7_layerOf se_X7_layerOf lk_X7_93 k_X7 (zX_o0 hx) ⟨(Nat.le_of_ble_eq_true rfl), (Nat.le_of_ble_eq_true rfl)⟩ dX7_addRule_75 rfl rfl (Nat.le_of_ble_eq_true rfl) (Nat.le_of_ble_eq_true rfl) (Nat.le_of_ble_eq_true rfl) ?_
      refine ja_aload_n (i := 0) dX7_addRule_78 rfl rfl ?_
      refine ja_iload_n (i := 3) dX7_addRule_79 rfl rfl ?_
      refine ja_cVr (st := [.ref (30 + 10 * l1), .int (kd), .ref (60 + n), .ref (60 + n), .int (nI (n)), .ref (2)]) (c_layerOf (D := (ja_dn D (60 + n))) l hx (ly := l2) (by omega)) rfl rfl (ce_X7_layerOf 0 0) im_X7_layerOf se_X7_layerOf lk_X7_93 k_X7 (zX_o0 hx) ⟨(Nat.le_of_ble_eq_true rfl), (Nat.le_of_ble_eq_true rfl)⟩ dX7_addRule_80 rfl rfl (Nat.le_of_ble_eq_true rfl) (Nat.le_of_ble_eq_true rfl) (Nat.le_of_ble_eq_true rfl) ?_
      refine ja_callI (st := [.ref (60 + n), .int (nI (n)), .ref (2)]) (c_init4 l (Z := (ja_zn Z (60 + n) 4 4)) (D := (ja_dn D (60 + n))) (r := n) (i1 := 30 + 10 * l1) (i2 := 30 + 10 * l2) (kd := kd) (by omega) (by omega) (by omega) hkn hkf (by simp [ja_zn])) (ce_X4_init 0 0) im_X4_init rfl lk_X7_170 ⟨(Nat.le_of_ble_eq_true rfl), (Nat.le_of_ble_eq_true rfl)⟩ rfl dX7_addRule_83 rfl rfl (Nat.le_of_ble_eq_true rfl) (Nat.le_of_ble_eq_true rfl) (Nat.le_of_ble_eq_true rfl) (fun _ _ _ h => h.elim) ?_
      rintro _ _ _ ⟨rfl, rfl, rfl⟩
      have hx : zX (zO4 (ja_zn Z (60 + n) 4 4) n (30 + 10 * l1) (30 + 10 * l2)) := zX_O4 hx
      refine ja_astq (t0 := 6) (ci := 4) (zX_o2 hx) rfl (by decide) (fun _ => rfl) rfl (by simp [ja_zn, ja_uq, ja_zm, ja_nf, zO4, hfr]) (by decide) (by omega) rfl (by omega) (by decide) dX7_addRule_86 ?_
      have hx : zX (ja_uq (zO4 (ja_zn Z (60 + n) 4 4) n (30 + 10 * l1) (30 + 10 * l2)) 2 n (some (60 + n))) := zX_uq (by omega) hx
      refine ja_aload_n (i := 0) dX7_addRule_87 rfl rfl ?_
      refine ja_dup dX7_addRule_88 rfl ?_
      refine ja_getI fl_X7_83 (zX_o0 hx) rfl dX7_addRule_89 ?_
      refine ja_top (y := nI (n)) (by simp only [dO4, ja_dn, ja_up]; rw [if_neg (by omega), if_neg (by omega)]; exact hrn) ?_
      refine ja_iconst (v := nI 1) dX7_addRule_92 (by decide +kernel) ?_
      refine ja_iaddN dX7_addRule_93 ?_
      refine ja_putI fl_X7_83 (zX_o0 hx) rfl rfl rfl dX7_addRule_94 ?_
      refine ja_aload_n (i := 0) dX7_addRule_97 rfl rfl ?_
      refine ja_getI fl_X7_83 (zX_o0 hx) rfl dX7_addRule_98 ?_
      refine ja_top (y := nI (n + 1)) up_s ?_
      refine ja_iconst (v := nI 1) dX7_addRule_101 (by decide +kernel) ?_
      refine ja_isubN dX7_addRule_102 (by omega) ?_
      refine ja_iret rfl rfl dX7_addRule_103 (Nat.le_of_ble_eq_true rfl) (Nat.le_of_ble_eq_true rfl) ?_
      exact ⟨rfl, rfl, rfl⟩

set_option maxRecDepth 100000 in
set_option maxHeartbeats 4000000 in
theorem c_checkOut_f1 (l : Launch) {Z : jZ} {D : jD} (hx : zX Z) {ly : Int32} (x y w h : Int32) (hl : ¬ (nI 0 ≤ ly ∧ ly ≤ nI 2))  : ja_M l (mX7_checkOut 1 6) [.ref (0), .int (ly), .int (x), .int (y), .int (w), .int (h)] Z D ja_r0 (ja_jx "java/lang/IndexOutOfBoundsException" Z D) := by
  refine ja_Mof (lv := [some (.ref (0)), some (.int (ly)), some (.int (x)), some (.int (y)), some (.int (w)), some (.int (h)), none, none]) (by decide +kernel) rfl rfl (Nat.le_of_ble_eq_true rfl) rfl ?_
  refine ja_aload_n (i := 0) dX7_checkOut_0 rfl rfl ?_
  refine ja_iload_n (i := 1) dX7_checkOut_1 rfl rfl ?_
  refine ja_cVx (st := []) (c_layerOf_x (D := D) l hx hl) (ce_X7_layerOf 1 6) im_X7_layerOf se_X7_layerOf lk_X7_93 k_X7 (zX_o0 hx) ⟨(Nat.le_of_ble_eq_true rfl), (Nat.le_of_ble_eq_true rfl)⟩ dX7_checkOut_2 rfl rfl (Nat.le_of_ble_eq_true rfl) (Nat.le_of_ble_eq_true rfl) (Nat.le_of_ble_eq_true rfl) ?_
  refine ja_out rfl (Nat.le_of_ble_eq_true rfl) (Nat.le_of_ble_eq_true rfl) ?_
  exact ⟨rfl, rfl, rfl⟩

set_option maxRecDepth 100000 in
set_option maxHeartbeats 4000000 in
theorem c_checkOut_f2 (l : Launch) {Z : jZ} {D : jD} (hx : zX Z) {ly : Nat} (h1 : ly < 3) {x y w h : Int32} (hb : ¬ bxOK x y w h) : ja_M l (mX7_checkOut 1 6) [.ref (0), .int (nI (ly)), .int (x), .int (y), .int (w), .int (h)] Z D ja_r0 (ja_jx "java/lang/IllegalArgumentException" Z D) := by
  refine ja_Mof (lv := [some (.ref (0)), some (.int (nI (ly))), some (.int (x)), some (.int (y)), some (.int (w)), some (.int (h)), none, none]) (by decide +kernel) rfl rfl (Nat.le_of_ble_eq_true rfl) rfl ?_
  refine ja_aload_n (i := 0) dX7_checkOut_0 rfl rfl ?_
  refine ja_iload_n (i := 1) dX7_checkOut_1 rfl rfl ?_
  refine ja_cVr (st := []) (c_layerOf (D := D) l hx (ly := ly) (by omega)) rfl rfl (ce_X7_layerOf 0 0) im_X7_layerOf se_X7_layerOf lk_X7_93 k_X7 (zX_o0 hx) ⟨(Nat.le_of_ble_eq_true rfl), (Nat.le_of_ble_eq_true rfl)⟩ dX7_checkOut_2 rfl rfl (Nat.le_of_ble_eq_true rfl) (Nat.zero_le _) (Nat.zero_le _) ?_
  refine ja_astore (i := 6) dX7_checkOut_5 rfl (Nat.le_of_ble_eq_true rfl) ?_
  refine ja_iload_n (i := 2) dX7_checkOut_7 rfl rfl ?_
  refine ja_iload_n (i := 3) dX7_checkOut_8 rfl rfl ?_
  refine ja_iload (i := 4) dX7_checkOut_9 rfl ?_
  refine ja_iload (i := 5) dX7_checkOut_11 rfl ?_
  refine ja_cSx (st := []) (c_needBox_x (D := D) l hb) (ce_X7_needBox 1 6) st_X7_needBox lk_X7_104 ⟨(Nat.le_of_ble_eq_true rfl), (Nat.le_of_ble_eq_true rfl)⟩ dX7_checkOut_13 rfl rfl (Nat.le_of_ble_eq_true rfl) (Nat.le_of_ble_eq_true rfl) (Nat.le_of_ble_eq_true rfl) ?_
  refine ja_out rfl (Nat.le_of_ble_eq_true rfl) (Nat.le_of_ble_eq_true rfl) ?_
  exact ⟨rfl, rfl, rfl⟩

set_option maxRecDepth 100000 in
set_option maxHeartbeats 4000000 in
theorem c_checkOut_f3 (l : Launch) {Z : jZ} {D : jD} (hx : zX Z) {ly : Nat} (h1 : ly < 3) {x y w h : Nat} (hx0 : x < 16) (hy0 : y < 16) (hw1 : 1 ≤ w) (hw2 : x + w ≤ 16) (hh1 : 1 ≤ h) (hh2 : y + h ≤ 16) {b : Bool} (hin : D 0 7 = bI b) {vn : Nat} (hvn : D 0 5 = nI vn) (hv3 : vn ≤ 3) (hbad : b = true ∨ vn = 3) : ja_M l (mX7_checkOut 1 6) [.ref (0), .int (nI (ly)), .int (nI (x)), .int (nI (y)), .int (nI (w)), .int (nI (h))] Z D ja_r0 (ja_jx "java/lang/IllegalStateException" Z D) := by
  refine ja_Mof (lv := [some (.ref (0)), some (.int (nI (ly))), some (.int (nI (x))), some (.int (nI (y))), some (.int (nI (w))), some (.int (nI (h))), none, none]) (by decide +kernel) rfl rfl (Nat.le_of_ble_eq_true rfl) rfl ?_
  refine ja_aload_n (i := 0) dX7_checkOut_0 rfl rfl ?_
  refine ja_iload_n (i := 1) dX7_checkOut_1 rfl rfl ?_
  refine ja_cVr (st := []) (c_layerOf (D := D) l hx (ly := ly) (by omega)) rfl rfl (ce_X7_layerOf 0 0) im_X7_layerOf se_X7_layerOf lk_X7_93 k_X7 (zX_o0 hx) ⟨(Nat.le_of_ble_eq_true rfl), (Nat.le_of_ble_eq_true rfl)⟩ dX7_checkOut_2 rfl rfl (Nat.le_of_ble_eq_true rfl) (Nat.zero_le _) (Nat.zero_le _) ?_
  refine ja_astore (i := 6) dX7_checkOut_5 rfl (Nat.le_of_ble_eq_true rfl) ?_
  refine ja_iload_n (i := 2) dX7_checkOut_7 rfl rfl ?_
  refine ja_iload_n (i := 3) dX7_checkOut_8 rfl rfl ?_
  refine ja_iload (i := 4) dX7_checkOut_9 rfl ?_
  refine ja_iload (i := 5) dX7_checkOut_11 rfl ?_
  refine ja_cSr0 (st := []) (c_needBox (D := D) l (x := x) (y := y) (w := w) (h := h) (by omega) (by omega) (by omega) (by omega) (by omega) (by omega)) rfl rfl (ce_X7_needBox 0 0) st_X7_needBox lk_X7_104 ⟨(Nat.le_of_ble_eq_true rfl), (Nat.le_of_ble_eq_true rfl)⟩ dX7_checkOut_13 rfl rfl (Nat.le_of_ble_eq_true rfl) (Nat.zero_le _) (Nat.zero_le _) ?_
  refine ja_aload_n (i := 0) dX7_checkOut_16 rfl rfl ?_
  refine ja_getI fl_X7_67 (zX_o0 hx) rfl dX7_checkOut_17 ?_
  refine ja_top (y := bI (b)) hin ?_
  refine ja_ifB_ne (tgt := 31) dX7_checkOut_20 (by decide) (fun c20 => ?_) (fun c20 => ?_)
  ·
    refine ja_throw ts_X7_75_216_79 rfl dX7_checkOut_31 dX7_checkOut_34 dX7_checkOut_35 dX7_checkOut_37 dX7_checkOut_40 (Nat.le_of_ble_eq_true rfl) (Nat.le_of_ble_eq_true rfl) (Nat.le_of_ble_eq_true rfl) (Nat.le_of_ble_eq_true rfl) ?_
    exact ⟨rfl, rfl, rfl⟩
  ·
    refine ja_aload_n (i := 0) dX7_checkOut_23 rfl rfl ?_
    refine ja_getI fl_X7_213 (zX_o0 hx) rfl dX7_checkOut_24 ?_
    refine ja_top (y := nI (vn)) hvn ?_
    refine ja_iconst (v := nI 3) dX7_checkOut_27 (by decide +kernel) ?_
    refine ja_icmpN_lt (tgt := 41) dX7_checkOut_28 (by decide) (by omega) (by omega) (fun c28 => ?_) (fun c28 => ?_)
    ·
      exfalso
      rcases hbad with e | e
      · rw [e] at c20; cases c20
      · omega
    ·
      refine ja_throw ts_X7_75_216_79 rfl dX7_checkOut_31 dX7_checkOut_34 dX7_checkOut_35 dX7_checkOut_37 dX7_checkOut_40 (Nat.le_of_ble_eq_true rfl) (Nat.le_of_ble_eq_true rfl) (Nat.le_of_ble_eq_true rfl) (Nat.le_of_ble_eq_true rfl) ?_
      exact ⟨rfl, rfl, rfl⟩

set_option maxRecDepth 100000 in
set_option maxHeartbeats 4000000 in
theorem c_rebase9 (l : Launch) {Z : jZ} {D : jD} {i ly sq : Nat} (hSi : Z.2.1 i = (6, ja_nf 6)) (hp0 : Z.2.2.1 i 0 = some ly) (hp1 : Z.2.2.1 i 1 = some (i + 1)) (ha1 : Z.2.1 (i + 1) = (10, 256)) (hp3 : Z.2.2.1 i 3 = some (i + 3)) (ha3 : Z.2.1 (i + 3) = (10, 256)) (hSl : Z.2.1 ly = (1, ja_nf 1)) (hps : Z.2.2.1 ly 0 = some sq) (has : Z.2.1 sq = (10, 256)) : ja_M l (mX6_rebase 0 0) [.ref (i)] Z D (ja_jd none Z (fun D2 => D2 = ja_cp (ja_cp D sq 0 (i + 3) 0 256) sq 0 (i + 1) 0 256)) ja_x0 := by
  refine ja_Mof (lv := [some (.ref (i))]) (by decide +kernel) rfl rfl (Nat.le_of_ble_eq_true rfl) rfl ?_
  refine ja_aload_n (i := 0) dX6_rebase_0 rfl rfl ?_
  refine ja_getR fl_X6_21 hSi rfl hp0 dX6_rebase_1 ?_
  refine ja_getR fl_X6_38 hSl rfl hps dX6_rebase_4 ?_
  refine ja_iconst (v := nI 0) dX6_rebase_7 (by decide +kernel) ?_
  refine ja_aload_n (i := 0) dX6_rebase_8 rfl rfl ?_
  refine ja_getR fl_X6_18 hSi rfl hp3 dX6_rebase_9 ?_
  refine ja_iconst (v := nI 0) dX6_rebase_12 (by decide +kernel) ?_
  refine ja_sipush (v := nI 256) dX6_rebase_13 (by decide +kernel) ?_
  refine ja_copy lk_X6_41 ac_na ac_st ac_in has ha3 rfl rfl rfl (by omega) (by omega) (by decide) (by decide) (Nat.le_of_ble_eq_true rfl) (Nat.le_of_ble_eq_true rfl) dX6_rebase_16 ?_
  refine ja_aload_n (i := 0) dX6_rebase_19 rfl rfl ?_
  refine ja_getR fl_X6_21 hSi rfl hp0 dX6_rebase_20 ?_
  refine ja_getR fl_X6_38 hSl rfl hps dX6_rebase_23 ?_
  refine ja_iconst (v := nI 0) dX6_rebase_26 (by decide +kernel) ?_
  refine ja_aload_n (i := 0) dX6_rebase_27 rfl rfl ?_
  refine ja_getR fl_X6_9 hSi rfl hp1 dX6_rebase_28 ?_
  refine ja_iconst (v := nI 0) dX6_rebase_31 (by decide +kernel) ?_
  refine ja_sipush (v := nI 256) dX6_rebase_32 (by decide +kernel) ?_
  refine ja_copy lk_X6_41 ac_na ac_st ac_in has ha1 rfl rfl rfl (by omega) (by omega) (by decide) (by decide) (Nat.le_of_ble_eq_true rfl) (Nat.le_of_ble_eq_true rfl) dX6_rebase_35 ?_
  refine ja_vret rfl dX6_rebase_38 (Nat.zero_le _) (Nat.zero_le _) ?_
  exact ⟨rfl, rfl, rfl⟩

set_option maxRecDepth 100000 in
set_option maxHeartbeats 4000000 in
theorem c_checkOut_ok0 (l : Launch) {Z : jZ} {D : jD} (hx : zX Z) {ly : Nat} (h1 : ly < 3) {x y w h : Nat} (hx0 : x < 16) (hy0 : y < 16) (hw1 : 1 ≤ w) (hw2 : x + w ≤ 16) (hh1 : 1 ≤ h) (hh2 : y + h ≤ 16) (hin : D 0 7 = bI false) (hvn : D 0 5 = nI 0) (g0 : 70 ∉ Z.1) (g1 : 71 ∉ Z.1) (g2 : 72 ∉ Z.1) (g3 : 73 ∉ Z.1) : ja_M l (mX7_checkOut 4 776) [.ref (0), .int (nI (ly)), .int (nI (x)), .int (nI (y)), .int (nI (w)), .int (nI (h))] Z D (fun v2 Z2 D2 => v2 = some (.int (nI 0)) ∧ Z2 = ja_uq (zO6_0 (ja_zn Z 70 6 8) (30 + 10 * ly)) 3 0 (some 70) ∧ D2 = ja_up (ja_cp (ja_cp (dO6_0 (ja_dn D 70) x y (x + w) (y + h)) (31 + 10 * ly) 0 73 0 256) (31 + 10 * ly) 0 71 0 256) 0 5 (nI (0 + 1))) ja_x0 := by
  refine ja_Mof (lv := [some (.ref (0)), some (.int (nI (ly))), some (.int (nI (x))), some (.int (nI (y))), some (.int (nI (w))), some (.int (nI (h))), none, none]) (by decide +kernel) rfl rfl (Nat.le_of_ble_eq_true rfl) rfl ?_
  refine ja_aload_n (i := 0) dX7_checkOut_0 rfl rfl ?_
  refine ja_iload_n (i := 1) dX7_checkOut_1 rfl rfl ?_
  refine ja_cVr (st := []) (c_layerOf (D := D) l hx (ly := ly) (by omega)) rfl rfl (ce_X7_layerOf 0 0) im_X7_layerOf se_X7_layerOf lk_X7_93 k_X7 (zX_o0 hx) ⟨(Nat.le_of_ble_eq_true rfl), (Nat.le_of_ble_eq_true rfl)⟩ dX7_checkOut_2 rfl rfl (Nat.le_of_ble_eq_true rfl) (Nat.zero_le _) (Nat.zero_le _) ?_
  refine ja_astore (i := 6) dX7_checkOut_5 rfl (Nat.le_of_ble_eq_true rfl) ?_
  refine ja_iload_n (i := 2) dX7_checkOut_7 rfl rfl ?_
  refine ja_iload_n (i := 3) dX7_checkOut_8 rfl rfl ?_
  refine ja_iload (i := 4) dX7_checkOut_9 rfl ?_
  refine ja_iload (i := 5) dX7_checkOut_11 rfl ?_
  refine ja_cSr0 (st := []) (c_needBox (D := D) l (x := x) (y := y) (w := w) (h := h) (by omega) (by omega) (by omega) (by omega) (by omega) (by omega)) rfl rfl (ce_X7_needBox 0 0) st_X7_needBox lk_X7_104 ⟨(Nat.le_of_ble_eq_true rfl), (Nat.le_of_ble_eq_true rfl)⟩ dX7_checkOut_13 rfl rfl (Nat.le_of_ble_eq_true rfl) (Nat.zero_le _) (Nat.zero_le _) ?_
  refine ja_aload_n (i := 0) dX7_checkOut_16 rfl rfl ?_
  refine ja_getI fl_X7_67 (zX_o0 hx) rfl dX7_checkOut_17 ?_
  refine ja_top (y := bI (false)) hin ?_
  refine ja_ifB_ne (tgt := 31) dX7_checkOut_20 (by decide) (fun c20 => absurd c20 (by decide)) (fun c20 => ?_)
  refine ja_aload_n (i := 0) dX7_checkOut_23 rfl rfl ?_
  refine ja_getI fl_X7_213 (zX_o0 hx) rfl dX7_checkOut_24 ?_
  refine ja_top (y := nI (0)) hvn ?_
  refine ja_iconst (v := nI 3) dX7_checkOut_27 (by decide +kernel) ?_
  refine ja_icmpN_lt (tgt := 41) dX7_checkOut_28 (by decide) (by omega) (by omega) (fun c28 => ?_) (fun c28 => absurd c28 (by decide))
  refine ja_new (id := 70) k_X6 cl_X7_21 in_X6 it_X6 (by simp [ja_zn, ja_uq, ja_zm, ja_nf, zO6_0, g0, g1, g2, g3]) (by omega) (Nat.le_of_ble_eq_true rfl) (Nat.le_of_ble_eq_true rfl) dX7_checkOut_41 ?_
  have hx : zX (ja_zn Z 70 6 8) := zX_zn (by omega) hx
  refine ja_dup dX7_checkOut_44 rfl ?_
  refine ja_aload (i := 6) dX7_checkOut_45 rfl ?_
  refine ja_iload_n (i := 2) dX7_checkOut_47 rfl rfl ?_
  refine ja_iload_n (i := 3) dX7_checkOut_48 rfl rfl ?_
  refine ja_iload_n (i := 2) dX7_checkOut_49 rfl rfl ?_
  refine ja_iload (i := 4) dX7_checkOut_50 rfl ?_
  refine ja_iaddN dX7_checkOut_52 ?_
  refine ja_iload_n (i := 3) dX7_checkOut_53 rfl rfl ?_
  refine ja_iload (i := 5) dX7_checkOut_54 rfl ?_
  refine ja_iaddN dX7_checkOut_56 ?_
  refine ja_callI (st := [.ref (70)]) (c_init6_0 l (Z := (ja_zn Z 70 6 8)) (D := (ja_dn D 70)) (i1 := 30 + 10 * ly) (x := x) (y := y) (xw := x + w) (yh := y + h) (by omega) (by simp [ja_zn]) (by simp [ja_zn, g1]) (by simp [ja_zn, g2]) (by simp [ja_zn, g3])) (ce_X6_init 3 768) im_X6_init rfl lk_X7_218 ⟨(Nat.le_of_ble_eq_true rfl), (Nat.le_of_ble_eq_true rfl)⟩ rfl dX7_checkOut_57 rfl rfl (Nat.le_of_ble_eq_true rfl) (Nat.le_of_ble_eq_true rfl) (Nat.le_of_ble_eq_true rfl) (fun _ _ _ h => h.elim) ?_
  rintro _ _ _ ⟨rfl, rfl, rfl⟩
  have hx : zX (zO6_0 (ja_zn Z 70 6 8) (30 + 10 * ly)) := zX_O6_0 hx
  refine ja_astore (i := 7) dX7_checkOut_60 rfl (Nat.le_of_ble_eq_true rfl) ?_
  refine ja_aload (i := 7) dX7_checkOut_62 rfl ?_
  refine ja_cVd0 (st := []) (c_rebase9 (Z := (zO6_0 (ja_zn Z 70 6 8) (30 + 10 * ly))) (D := (dO6_0 (ja_dn D 70) x y (x + w) (y + h))) l (i := 70) (ly := 30 + 10 * ly) (by simp [ja_zn, zO6_0, ja_uq, ja_nf]) (by simp [ja_zn, zO6_0, ja_uq, ja_nf]) (by simp [ja_zn, zO6_0, ja_uq, ja_nf]) (by simp [ja_zn, zO6_0, ja_uq, ja_nf]) (by simp [ja_zn, zO6_0, ja_uq, ja_nf]) (by simp [ja_zn, zO6_0, ja_uq, ja_nf]) (zL_o hx h1) (zL_p0 hx h1) (zL_a0 hx h1)) rfl rfl (ce_X6_rebase 0 0) im_X6_rebase se_X6_rebase lk_X7_221 k_X6 (by simp [ja_zn, ja_uq, ja_zm, ja_nf, zO6_0, g0, g1, g2, g3]) ⟨(Nat.le_of_ble_eq_true rfl), (Nat.le_of_ble_eq_true rfl)⟩ dX7_checkOut_64 rfl rfl (Nat.le_of_ble_eq_true rfl) (Nat.le_of_ble_eq_true rfl) (Nat.le_of_ble_eq_true rfl) ?_
  intro D64 hD64
  subst hD64
  have hvn9 : (ja_cp (ja_cp (dO6_0 (ja_dn D 70) x y (x + w) (y + h)) (31 + 10 * ly) 0 73 0 256) (31 + 10 * ly) 0 71 0 256) 0 5 = nI 0 := by simp [ja_cp, dO6_0, ja_dn, ja_up]; exact hvn
  refine ja_aload_n (i := 0) dX7_checkOut_67 rfl rfl ?_
  refine ja_getR fl_X7_23 (zX_o0 hx) rfl (zX_p0_2 hx) dX7_checkOut_68 ?_
  refine ja_aload_n (i := 0) dX7_checkOut_71 rfl rfl ?_
  refine ja_getI fl_X7_213 (zX_o0 hx) rfl dX7_checkOut_72 ?_
  refine ja_top (y := nI (0)) hvn9 ?_
  refine ja_aload (i := 7) dX7_checkOut_75 rfl ?_
  refine ja_astq (t0 := 7) (ci := 6) (zX_o3 hx) rfl (by decide) (fun _ => rfl) rfl (by simp [ja_zn, ja_uq, ja_zm, ja_nf, zO6_0, g0, g1, g2, g3]) (by decide) (by omega) rfl (by omega) (by decide) dX7_checkOut_77 ?_
  have hx : zX (ja_uq (zO6_0 (ja_zn Z 70 6 8) (30 + 10 * ly)) 3 0 (some 70)) := zX_uq (by omega) hx
  refine ja_aload_n (i := 0) dX7_checkOut_78 rfl rfl ?_
  refine ja_dup dX7_checkOut_79 rfl ?_
  refine ja_getI fl_X7_213 (zX_o0 hx) rfl dX7_checkOut_80 ?_
  refine ja_top (y := nI (0)) hvn9 ?_
  refine ja_iconst (v := nI 1) dX7_checkOut_83 (by decide +kernel) ?_
  refine ja_iaddN dX7_checkOut_84 ?_
  refine ja_putI fl_X7_213 (zX_o0 hx) rfl rfl rfl dX7_checkOut_85 ?_
  refine ja_aload_n (i := 0) dX7_checkOut_88 rfl rfl ?_
  refine ja_getI fl_X7_213 (zX_o0 hx) rfl dX7_checkOut_89 ?_
  refine ja_top (y := nI (0 + 1)) up_s ?_
  refine ja_iconst (v := nI 1) dX7_checkOut_92 (by decide +kernel) ?_
  refine ja_isubN dX7_checkOut_93 (by omega) ?_
  refine ja_iret rfl rfl dX7_checkOut_94 (Nat.le_of_ble_eq_true rfl) (Nat.le_of_ble_eq_true rfl) ?_
  exact ⟨rfl, rfl, rfl⟩

set_option maxRecDepth 100000 in
set_option maxHeartbeats 4000000 in
theorem c_checkOut_ok1 (l : Launch) {Z : jZ} {D : jD} (hx : zX Z) {ly : Nat} (h1 : ly < 3) {x y w h : Nat} (hx0 : x < 16) (hy0 : y < 16) (hw1 : 1 ≤ w) (hw2 : x + w ≤ 16) (hh1 : 1 ≤ h) (hh2 : y + h ≤ 16) (hin : D 0 7 = bI false) (hvn : D 0 5 = nI 1) (g0 : 74 ∉ Z.1) (g1 : 75 ∉ Z.1) (g2 : 76 ∉ Z.1) (g3 : 77 ∉ Z.1) : ja_M l (mX7_checkOut 4 776) [.ref (0), .int (nI (ly)), .int (nI (x)), .int (nI (y)), .int (nI (w)), .int (nI (h))] Z D (fun v2 Z2 D2 => v2 = some (.int (nI 1)) ∧ Z2 = ja_uq (zO6_1 (ja_zn Z 74 6 8) (30 + 10 * ly)) 3 1 (some 74) ∧ D2 = ja_up (ja_cp (ja_cp (dO6_1 (ja_dn D 74) x y (x + w) (y + h)) (31 + 10 * ly) 0 77 0 256) (31 + 10 * ly) 0 75 0 256) 0 5 (nI (1 + 1))) ja_x0 := by
  refine ja_Mof (lv := [some (.ref (0)), some (.int (nI (ly))), some (.int (nI (x))), some (.int (nI (y))), some (.int (nI (w))), some (.int (nI (h))), none, none]) (by decide +kernel) rfl rfl (Nat.le_of_ble_eq_true rfl) rfl ?_
  refine ja_aload_n (i := 0) dX7_checkOut_0 rfl rfl ?_
  refine ja_iload_n (i := 1) dX7_checkOut_1 rfl rfl ?_
  refine ja_cVr (st := []) (c_layerOf (D := D) l hx (ly := ly) (by omega)) rfl rfl (ce_X7_layerOf 0 0) im_X7_layerOf se_X7_layerOf lk_X7_93 k_X7 (zX_o0 hx) ⟨(Nat.le_of_ble_eq_true rfl), (Nat.le_of_ble_eq_true rfl)⟩ dX7_checkOut_2 rfl rfl (Nat.le_of_ble_eq_true rfl) (Nat.zero_le _) (Nat.zero_le _) ?_
  refine ja_astore (i := 6) dX7_checkOut_5 rfl (Nat.le_of_ble_eq_true rfl) ?_
  refine ja_iload_n (i := 2) dX7_checkOut_7 rfl rfl ?_
  refine ja_iload_n (i := 3) dX7_checkOut_8 rfl rfl ?_
  refine ja_iload (i := 4) dX7_checkOut_9 rfl ?_
  refine ja_iload (i := 5) dX7_checkOut_11 rfl ?_
  refine ja_cSr0 (st := []) (c_needBox (D := D) l (x := x) (y := y) (w := w) (h := h) (by omega) (by omega) (by omega) (by omega) (by omega) (by omega)) rfl rfl (ce_X7_needBox 0 0) st_X7_needBox lk_X7_104 ⟨(Nat.le_of_ble_eq_true rfl), (Nat.le_of_ble_eq_true rfl)⟩ dX7_checkOut_13 rfl rfl (Nat.le_of_ble_eq_true rfl) (Nat.zero_le _) (Nat.zero_le _) ?_
  refine ja_aload_n (i := 0) dX7_checkOut_16 rfl rfl ?_
  refine ja_getI fl_X7_67 (zX_o0 hx) rfl dX7_checkOut_17 ?_
  refine ja_top (y := bI (false)) hin ?_
  refine ja_ifB_ne (tgt := 31) dX7_checkOut_20 (by decide) (fun c20 => absurd c20 (by decide)) (fun c20 => ?_)
  refine ja_aload_n (i := 0) dX7_checkOut_23 rfl rfl ?_
  refine ja_getI fl_X7_213 (zX_o0 hx) rfl dX7_checkOut_24 ?_
  refine ja_top (y := nI (1)) hvn ?_
  refine ja_iconst (v := nI 3) dX7_checkOut_27 (by decide +kernel) ?_
  refine ja_icmpN_lt (tgt := 41) dX7_checkOut_28 (by decide) (by omega) (by omega) (fun c28 => ?_) (fun c28 => absurd c28 (by decide))
  refine ja_new (id := 74) k_X6 cl_X7_21 in_X6 it_X6 (by simp [ja_zn, ja_uq, ja_zm, ja_nf, zO6_1, g0, g1, g2, g3]) (by omega) (Nat.le_of_ble_eq_true rfl) (Nat.le_of_ble_eq_true rfl) dX7_checkOut_41 ?_
  have hx : zX (ja_zn Z 74 6 8) := zX_zn (by omega) hx
  refine ja_dup dX7_checkOut_44 rfl ?_
  refine ja_aload (i := 6) dX7_checkOut_45 rfl ?_
  refine ja_iload_n (i := 2) dX7_checkOut_47 rfl rfl ?_
  refine ja_iload_n (i := 3) dX7_checkOut_48 rfl rfl ?_
  refine ja_iload_n (i := 2) dX7_checkOut_49 rfl rfl ?_
  refine ja_iload (i := 4) dX7_checkOut_50 rfl ?_
  refine ja_iaddN dX7_checkOut_52 ?_
  refine ja_iload_n (i := 3) dX7_checkOut_53 rfl rfl ?_
  refine ja_iload (i := 5) dX7_checkOut_54 rfl ?_
  refine ja_iaddN dX7_checkOut_56 ?_
  refine ja_callI (st := [.ref (74)]) (c_init6_1 l (Z := (ja_zn Z 74 6 8)) (D := (ja_dn D 74)) (i1 := 30 + 10 * ly) (x := x) (y := y) (xw := x + w) (yh := y + h) (by omega) (by simp [ja_zn]) (by simp [ja_zn, g1]) (by simp [ja_zn, g2]) (by simp [ja_zn, g3])) (ce_X6_init 3 768) im_X6_init rfl lk_X7_218 ⟨(Nat.le_of_ble_eq_true rfl), (Nat.le_of_ble_eq_true rfl)⟩ rfl dX7_checkOut_57 rfl rfl (Nat.le_of_ble_eq_true rfl) (Nat.le_of_ble_eq_true rfl) (Nat.le_of_ble_eq_true rfl) (fun _ _ _ h => h.elim) ?_
  rintro _ _ _ ⟨rfl, rfl, rfl⟩
  have hx : zX (zO6_1 (ja_zn Z 74 6 8) (30 + 10 * ly)) := zX_O6_1 hx
  refine ja_astore (i := 7) dX7_checkOut_60 rfl (Nat.le_of_ble_eq_true rfl) ?_
  refine ja_aload (i := 7) dX7_checkOut_62 rfl ?_
  refine ja_cVd0 (st := []) (c_rebase9 (Z := (zO6_1 (ja_zn Z 74 6 8) (30 + 10 * ly))) (D := (dO6_1 (ja_dn D 74) x y (x + w) (y + h))) l (i := 74) (ly := 30 + 10 * ly) (by simp [ja_zn, zO6_1, ja_uq, ja_nf]) (by simp [ja_zn, zO6_1, ja_uq, ja_nf]) (by simp [ja_zn, zO6_1, ja_uq, ja_nf]) (by simp [ja_zn, zO6_1, ja_uq, ja_nf]) (by simp [ja_zn, zO6_1, ja_uq, ja_nf]) (by simp [ja_zn, zO6_1, ja_uq, ja_nf]) (zL_o hx h1) (zL_p0 hx h1) (zL_a0 hx h1)) rfl rfl (ce_X6_rebase 0 0) im_X6_rebase se_X6_rebase lk_X7_221 k_X6 (by simp [ja_zn, ja_uq, ja_zm, ja_nf, zO6_1, g0, g1, g2, g3]) ⟨(Nat.le_of_ble_eq_true rfl), (Nat.le_of_ble_eq_true rfl)⟩ dX7_checkOut_64 rfl rfl (Nat.le_of_ble_eq_true rfl) (Nat.le_of_ble_eq_true rfl) (Nat.le_of_ble_eq_true rfl) ?_
  intro D64 hD64
  subst hD64
  have hvn9 : (ja_cp (ja_cp (dO6_1 (ja_dn D 74) x y (x + w) (y + h)) (31 + 10 * ly) 0 77 0 256) (31 + 10 * ly) 0 75 0 256) 0 5 = nI 1 := by simp [ja_cp, dO6_1, ja_dn, ja_up]; exact hvn
  refine ja_aload_n (i := 0) dX7_checkOut_67 rfl rfl ?_
  refine ja_getR fl_X7_23 (zX_o0 hx) rfl (zX_p0_2 hx) dX7_checkOut_68 ?_
  refine ja_aload_n (i := 0) dX7_checkOut_71 rfl rfl ?_
  refine ja_getI fl_X7_213 (zX_o0 hx) rfl dX7_checkOut_72 ?_
  refine ja_top (y := nI (1)) hvn9 ?_
  refine ja_aload (i := 7) dX7_checkOut_75 rfl ?_
  refine ja_astq (t0 := 7) (ci := 6) (zX_o3 hx) rfl (by decide) (fun _ => rfl) rfl (by simp [ja_zn, ja_uq, ja_zm, ja_nf, zO6_1, g0, g1, g2, g3]) (by decide) (by omega) rfl (by omega) (by decide) dX7_checkOut_77 ?_
  have hx : zX (ja_uq (zO6_1 (ja_zn Z 74 6 8) (30 + 10 * ly)) 3 1 (some 74)) := zX_uq (by omega) hx
  refine ja_aload_n (i := 0) dX7_checkOut_78 rfl rfl ?_
  refine ja_dup dX7_checkOut_79 rfl ?_
  refine ja_getI fl_X7_213 (zX_o0 hx) rfl dX7_checkOut_80 ?_
  refine ja_top (y := nI (1)) hvn9 ?_
  refine ja_iconst (v := nI 1) dX7_checkOut_83 (by decide +kernel) ?_
  refine ja_iaddN dX7_checkOut_84 ?_
  refine ja_putI fl_X7_213 (zX_o0 hx) rfl rfl rfl dX7_checkOut_85 ?_
  refine ja_aload_n (i := 0) dX7_checkOut_88 rfl rfl ?_
  refine ja_getI fl_X7_213 (zX_o0 hx) rfl dX7_checkOut_89 ?_
  refine ja_top (y := nI (1 + 1)) up_s ?_
  refine ja_iconst (v := nI 1) dX7_checkOut_92 (by decide +kernel) ?_
  refine ja_isubN dX7_checkOut_93 (by omega) ?_
  refine ja_iret rfl rfl dX7_checkOut_94 (Nat.le_of_ble_eq_true rfl) (Nat.le_of_ble_eq_true rfl) ?_
  exact ⟨rfl, rfl, rfl⟩

set_option maxRecDepth 100000 in
set_option maxHeartbeats 4000000 in
theorem c_checkOut_ok2 (l : Launch) {Z : jZ} {D : jD} (hx : zX Z) {ly : Nat} (h1 : ly < 3) {x y w h : Nat} (hx0 : x < 16) (hy0 : y < 16) (hw1 : 1 ≤ w) (hw2 : x + w ≤ 16) (hh1 : 1 ≤ h) (hh2 : y + h ≤ 16) (hin : D 0 7 = bI false) (hvn : D 0 5 = nI 2) (g0 : 78 ∉ Z.1) (g1 : 79 ∉ Z.1) (g2 : 80 ∉ Z.1) (g3 : 81 ∉ Z.1) : ja_M l (mX7_checkOut 4 776) [.ref (0), .int (nI (ly)), .int (nI (x)), .int (nI (y)), .int (nI (w)), .int (nI (h))] Z D (fun v2 Z2 D2 => v2 = some (.int (nI 2)) ∧ Z2 = ja_uq (zO6_2 (ja_zn Z 78 6 8) (30 + 10 * ly)) 3 2 (some 78) ∧ D2 = ja_up (ja_cp (ja_cp (dO6_2 (ja_dn D 78) x y (x + w) (y + h)) (31 + 10 * ly) 0 81 0 256) (31 + 10 * ly) 0 79 0 256) 0 5 (nI (2 + 1))) ja_x0 := by
  refine ja_Mof (lv := [some (.ref (0)), some (.int (nI (ly))), some (.int (nI (x))), some (.int (nI (y))), some (.int (nI (w))), some (.int (nI (h))), none, none]) (by decide +kernel) rfl rfl (Nat.le_of_ble_eq_true rfl) rfl ?_
  refine ja_aload_n (i := 0) dX7_checkOut_0 rfl rfl ?_
  refine ja_iload_n (i := 1) dX7_checkOut_1 rfl rfl ?_
  refine ja_cVr (st := []) (c_layerOf (D := D) l hx (ly := ly) (by omega)) rfl rfl (ce_X7_layerOf 0 0) im_X7_layerOf se_X7_layerOf lk_X7_93 k_X7 (zX_o0 hx) ⟨(Nat.le_of_ble_eq_true rfl), (Nat.le_of_ble_eq_true rfl)⟩ dX7_checkOut_2 rfl rfl (Nat.le_of_ble_eq_true rfl) (Nat.zero_le _) (Nat.zero_le _) ?_
  refine ja_astore (i := 6) dX7_checkOut_5 rfl (Nat.le_of_ble_eq_true rfl) ?_
  refine ja_iload_n (i := 2) dX7_checkOut_7 rfl rfl ?_
  refine ja_iload_n (i := 3) dX7_checkOut_8 rfl rfl ?_
  refine ja_iload (i := 4) dX7_checkOut_9 rfl ?_
  refine ja_iload (i := 5) dX7_checkOut_11 rfl ?_
  refine ja_cSr0 (st := []) (c_needBox (D := D) l (x := x) (y := y) (w := w) (h := h) (by omega) (by omega) (by omega) (by omega) (by omega) (by omega)) rfl rfl (ce_X7_needBox 0 0) st_X7_needBox lk_X7_104 ⟨(Nat.le_of_ble_eq_true rfl), (Nat.le_of_ble_eq_true rfl)⟩ dX7_checkOut_13 rfl rfl (Nat.le_of_ble_eq_true rfl) (Nat.zero_le _) (Nat.zero_le _) ?_
  refine ja_aload_n (i := 0) dX7_checkOut_16 rfl rfl ?_
  refine ja_getI fl_X7_67 (zX_o0 hx) rfl dX7_checkOut_17 ?_
  refine ja_top (y := bI (false)) hin ?_
  refine ja_ifB_ne (tgt := 31) dX7_checkOut_20 (by decide) (fun c20 => absurd c20 (by decide)) (fun c20 => ?_)
  refine ja_aload_n (i := 0) dX7_checkOut_23 rfl rfl ?_
  refine ja_getI fl_X7_213 (zX_o0 hx) rfl dX7_checkOut_24 ?_
  refine ja_top (y := nI (2)) hvn ?_
  refine ja_iconst (v := nI 3) dX7_checkOut_27 (by decide +kernel) ?_
  refine ja_icmpN_lt (tgt := 41) dX7_checkOut_28 (by decide) (by omega) (by omega) (fun c28 => ?_) (fun c28 => absurd c28 (by decide))
  refine ja_new (id := 78) k_X6 cl_X7_21 in_X6 it_X6 (by simp [ja_zn, ja_uq, ja_zm, ja_nf, zO6_2, g0, g1, g2, g3]) (by omega) (Nat.le_of_ble_eq_true rfl) (Nat.le_of_ble_eq_true rfl) dX7_checkOut_41 ?_
  have hx : zX (ja_zn Z 78 6 8) := zX_zn (by omega) hx
  refine ja_dup dX7_checkOut_44 rfl ?_
  refine ja_aload (i := 6) dX7_checkOut_45 rfl ?_
  refine ja_iload_n (i := 2) dX7_checkOut_47 rfl rfl ?_
  refine ja_iload_n (i := 3) dX7_checkOut_48 rfl rfl ?_
  refine ja_iload_n (i := 2) dX7_checkOut_49 rfl rfl ?_
  refine ja_iload (i := 4) dX7_checkOut_50 rfl ?_
  refine ja_iaddN dX7_checkOut_52 ?_
  refine ja_iload_n (i := 3) dX7_checkOut_53 rfl rfl ?_
  refine ja_iload (i := 5) dX7_checkOut_54 rfl ?_
  refine ja_iaddN dX7_checkOut_56 ?_
  refine ja_callI (st := [.ref (78)]) (c_init6_2 l (Z := (ja_zn Z 78 6 8)) (D := (ja_dn D 78)) (i1 := 30 + 10 * ly) (x := x) (y := y) (xw := x + w) (yh := y + h) (by omega) (by simp [ja_zn]) (by simp [ja_zn, g1]) (by simp [ja_zn, g2]) (by simp [ja_zn, g3])) (ce_X6_init 3 768) im_X6_init rfl lk_X7_218 ⟨(Nat.le_of_ble_eq_true rfl), (Nat.le_of_ble_eq_true rfl)⟩ rfl dX7_checkOut_57 rfl rfl (Nat.le_of_ble_eq_true rfl) (Nat.le_of_ble_eq_true rfl) (Nat.le_of_ble_eq_true rfl) (fun _ _ _ h => h.elim) ?_
  rintro _ _ _ ⟨rfl, rfl, rfl⟩
  have hx : zX (zO6_2 (ja_zn Z 78 6 8) (30 + 10 * ly)) := zX_O6_2 hx
  refine ja_astore (i := 7) dX7_checkOut_60 rfl (Nat.le_of_ble_eq_true rfl) ?_
  refine ja_aload (i := 7) dX7_checkOut_62 rfl ?_
  refine ja_cVd0 (st := []) (c_rebase9 (Z := (zO6_2 (ja_zn Z 78 6 8) (30 + 10 * ly))) (D := (dO6_2 (ja_dn D 78) x y (x + w) (y + h))) l (i := 78) (ly := 30 + 10 * ly) (by simp [ja_zn, zO6_2, ja_uq, ja_nf]) (by simp [ja_zn, zO6_2, ja_uq, ja_nf]) (by simp [ja_zn, zO6_2, ja_uq, ja_nf]) (by simp [ja_zn, zO6_2, ja_uq, ja_nf]) (by simp [ja_zn, zO6_2, ja_uq, ja_nf]) (by simp [ja_zn, zO6_2, ja_uq, ja_nf]) (zL_o hx h1) (zL_p0 hx h1) (zL_a0 hx h1)) rfl rfl (ce_X6_rebase 0 0) im_X6_rebase se_X6_rebase lk_X7_221 k_X6 (by simp [ja_zn, ja_uq, ja_zm, ja_nf, zO6_2, g0, g1, g2, g3]) ⟨(Nat.le_of_ble_eq_true rfl), (Nat.le_of_ble_eq_true rfl)⟩ dX7_checkOut_64 rfl rfl (Nat.le_of_ble_eq_true rfl) (Nat.le_of_ble_eq_true rfl) (Nat.le_of_ble_eq_true rfl) ?_
  intro D64 hD64
  subst hD64
  have hvn9 : (ja_cp (ja_cp (dO6_2 (ja_dn D 78) x y (x + w) (y + h)) (31 + 10 * ly) 0 81 0 256) (31 + 10 * ly) 0 79 0 256) 0 5 = nI 2 := by simp [ja_cp, dO6_2, ja_dn, ja_up]; exact hvn
  refine ja_aload_n (i := 0) dX7_checkOut_67 rfl rfl ?_
  refine ja_getR fl_X7_23 (zX_o0 hx) rfl (zX_p0_2 hx) dX7_checkOut_68 ?_
  refine ja_aload_n (i := 0) dX7_checkOut_71 rfl rfl ?_
  refine ja_getI fl_X7_213 (zX_o0 hx) rfl dX7_checkOut_72 ?_
  refine ja_top (y := nI (2)) hvn9 ?_
  refine ja_aload (i := 7) dX7_checkOut_75 rfl ?_
  refine ja_astq (t0 := 7) (ci := 6) (zX_o3 hx) rfl (by decide) (fun _ => rfl) rfl (by simp [ja_zn, ja_uq, ja_zm, ja_nf, zO6_2, g0, g1, g2, g3]) (by decide) (by omega) rfl (by omega) (by decide) dX7_checkOut_77 ?_
  have hx : zX (ja_uq (zO6_2 (ja_zn Z 78 6 8) (30 + 10 * ly)) 3 2 (some 78)) := zX_uq (by omega) hx
  refine ja_aload_n (i := 0) dX7_checkOut_78 rfl rfl ?_
  refine ja_dup dX7_checkOut_79 rfl ?_
  refine ja_getI fl_X7_213 (zX_o0 hx) rfl dX7_checkOut_80 ?_
  refine ja_top (y := nI (2)) hvn9 ?_
  refine ja_iconst (v := nI 1) dX7_checkOut_83 (by decide +kernel) ?_
  refine ja_iaddN dX7_checkOut_84 ?_
  refine ja_putI fl_X7_213 (zX_o0 hx) rfl rfl rfl dX7_checkOut_85 ?_
  refine ja_aload_n (i := 0) dX7_checkOut_88 rfl rfl ?_
  refine ja_getI fl_X7_213 (zX_o0 hx) rfl dX7_checkOut_89 ?_
  refine ja_top (y := nI (2 + 1)) up_s ?_
  refine ja_iconst (v := nI 1) dX7_checkOut_92 (by decide +kernel) ?_
  refine ja_isubN dX7_checkOut_93 (by omega) ?_
  refine ja_iret rfl rfl dX7_checkOut_94 (Nat.le_of_ble_eq_true rfl) (Nat.le_of_ble_eq_true rfl) ?_
  exact ⟨rfl, rfl, rfl⟩
