/-! THE LAW'S WRAPPERS (by wip/whole/x43.py): out of a contract of the class's call comes the wrapper's, the exception's place in the list as answer -/
theorem pn_L : plainName RL = true := by decide +kernel
def g_i : Value → UInt64 := fun v => match v with
  | .int b => b.toInt64.toUInt64
  | _ => 0
def g_b : Value → UInt64 := fun v => match v with
  | .int b => if b = 0 then (0 : Int64).toUInt64 else (1 : Int64).toUInt64
  | _ => 0
def g_l : Value → UInt64 := fun v => match v with
  | .long b => b.toUInt64
  | _ => 0
def g_f : Value → UInt64 := fun v => match v with
  | .float b => FP.f2d b
  | _ => 0
def g_d : Value → UInt64 := fun v => match v with
  | .double b => b
  | _ => 0
def ja_wr (kr : Option Value → jZ → jD → Prop) (kx : String → jZ → jD → Prop) (g : Value → UInt64) (i : Nat) (xs : List String) : Option Value → jZ → jD → Prop := fun v Z2 D2 =>
  (∃ b Z1, kr (some b) Z1 D2 ∧ v = some (.int (nI 0)) ∧ Z2 = ja_ux Z1 i 0 (g b)) ∨ (∃ E, kx E Z2 D2 ∧ v = some (.int (nI (xs.idxOf E + 1))))
theorem w_begin (l : Launch) {Z : jZ} {D : jD} {p0 : Int32} {c9 s9 : Nat} {kr : Option Value → jZ → jD → Prop} {kx : String → jZ → jD → Prop} (hM : ja_M l (mX7_begin c9 s9) [.ref 0, .int p0] Z D kr kx) (h0 : Z.2.1 0 = (7, 13)) (hkr : ∀ v Z1 D1, kr v Z1 D1 → Z1.2.1 200 = (13, 1) ∧ ∃ b : Int32, v = some (.int b)) (hkx : ∀ E Z1 D1, kx E Z1 D1 → E ∈ (["java/lang/IllegalArgumentException", "java/lang/IllegalStateException"] : List String)) :
    ja_M l (mL_begin c9 s9) [.ref 0, .int p0, .ref 200] Z D (ja_wr kr kx g_i 200 ["java/lang/IllegalArgumentException", "java/lang/IllegalStateException"]) ja_x0 := by
  refine ja_MofH (lv := [some (.ref 0), some (.int p0), some (.ref 200), none]) pn_L rfl rfl (Nat.le_of_ble_eq_true rfl) rfl ?_
  refine ja_aload_n (i := 2) dL_begin_0 rfl rfl ?_
  refine ja_iconst (v := nI 0) dL_begin_1 (by decide +kernel) ?_
  refine ja_aload_n (i := 0) dL_begin_2 rfl rfl ?_
  refine ja_iload_n (i := 1) dL_begin_3 rfl rfl ?_
  refine ja_callV (av := [.int p0]) (st := [.int (nI 0), .ref 200]) hM (ce_X7_begin c9 s9) im_X7_begin se_X7_begin lk_L_7 k_X7 h0 ⟨Nat.le_of_ble_eq_true rfl, Nat.le_of_ble_eq_true rfl⟩ dL_begin_4 rfl rfl (Nat.le_of_ble_eq_true rfl) (Nat.le_of_eq (Nat.zero_add c9)) (Nat.le_of_eq (Nat.zero_add s9)) (fun E Z1 D1 hk => ?_) (fun v Z1 D1 hk => ?_)
  · have hE := hkx _ _ _ hk
    simp only [List.mem_cons, List.not_mem_nil, or_false] at hE
    rcases hE with rfl | rfl
    · refine ja_catch_n (n := 3) (i := 3) (hp := []) (h1 := (0, 9, 12, 13)) (hs := [(0, 9, 15, 15)]) rfl (by decide +kernel) (fun z hz => by cases hz) (by decide +kernel) (by decide) cl_L_13 cst_0 dL_begin_12 rfl rfl (Nat.le_of_ble_eq_true rfl) ?_
      refine ja_iconst (v := nI 1) dL_begin_13 (by decide +kernel) ?_
      exact ja_iret rfl rfl dL_begin_14 (Nat.le_of_eq (Nat.zero_add c9)) (Nat.le_of_eq (Nat.zero_add s9)) (Or.inr ⟨_, hk, rfl⟩)
    · refine ja_catch_n (n := 3) (i := 3) (hp := [(0, 9, 12, 13)]) (h1 := (0, 9, 15, 15)) (hs := []) rfl (by decide +kernel) (fun z hz => by
        simp only [List.mem_cons, List.not_mem_nil, or_false] at hz
        subst hz
        exact ⟨by decide, _, cl_L_13, by decide +kernel, by decide⟩) (by decide +kernel) (by decide) cl_L_15 cst_1 dL_begin_15 rfl rfl (Nat.le_of_ble_eq_true rfl) ?_
      refine ja_iconst (v := nI 2) dL_begin_16 (by decide +kernel) ?_
      exact ja_iret rfl rfl dL_begin_17 (Nat.le_of_eq (Nat.zero_add c9)) (Nat.le_of_eq (Nat.zero_add s9)) (Or.inr ⟨_, hk, rfl⟩)
  · obtain ⟨hz, b, rfl⟩ := hkr _ _ _ hk
    refine ja_i2l dL_begin_7 rfl ?_
    refine ja_last (n := 1) (j := 0) hz rfl (by decide) (by decide) dL_begin_8 ?_
    refine ja_goto dL_begin_9 (tgt := 18) (by decide) ?_
    refine ja_iconst (v := nI 0) dL_begin_18 (by decide +kernel) ?_
    exact ja_iret rfl rfl dL_begin_19 (Nat.le_of_eq (Nat.zero_add c9)) (Nat.le_of_eq (Nat.zero_add s9)) (Or.inl ⟨_, _, hk, rfl, rfl⟩)
theorem w_paint (l : Launch) {Z : jZ} {D : jD} {p0 p1 p2 p3 p4 p5 : Int32} {c9 s9 : Nat} {kr : Option Value → jZ → jD → Prop} {kx : String → jZ → jD → Prop} (hM : ja_M l (mX7_paint c9 s9) [.ref 0, .int p0, .int p1, .int p2, .int p3, .int p4, .int p5] Z D kr kx) (h0 : Z.2.1 0 = (7, 13)) (hkr : ∀ v Z1 D1, kr v Z1 D1 → Z1.2.1 200 = (13, 1) ∧ ∃ b : Int32, v = some (.int b)) (hkx : ∀ E Z1 D1, kx E Z1 D1 → E ∈ (["java/lang/IndexOutOfBoundsException", "java/lang/IllegalArgumentException", "java/lang/IllegalStateException"] : List String)) :
    ja_M l (mL_paint c9 s9) [.ref 0, .int p0, .int p1, .int p2, .int p3, .int p4, .int p5, .ref 200] Z D (ja_wr kr kx g_i 200 ["java/lang/IndexOutOfBoundsException", "java/lang/IllegalArgumentException", "java/lang/IllegalStateException"]) ja_x0 := by
  refine ja_MofH (lv := [some (.ref 0), some (.int p0), some (.int p1), some (.int p2), some (.int p3), some (.int p4), some (.int p5), some (.ref 200), none]) pn_L rfl rfl (Nat.le_of_ble_eq_true rfl) rfl ?_
  refine ja_aload dL_paint_0 rfl ?_
  refine ja_iconst (v := nI 0) dL_paint_2 (by decide +kernel) ?_
  refine ja_aload_n (i := 0) dL_paint_3 rfl rfl ?_
  refine ja_iload_n (i := 1) dL_paint_4 rfl rfl ?_
  refine ja_iload_n (i := 2) dL_paint_5 rfl rfl ?_
  refine ja_iload_n (i := 3) dL_paint_6 rfl rfl ?_
  refine ja_iload dL_paint_7 rfl ?_
  refine ja_iload dL_paint_9 rfl ?_
  refine ja_iload dL_paint_11 rfl ?_
  refine ja_callV (av := [.int p0, .int p1, .int p2, .int p3, .int p4, .int p5]) (st := [.int (nI 0), .ref 200]) hM (ce_X7_paint c9 s9) im_X7_paint se_X7_paint lk_L_17 k_X7 h0 ⟨Nat.le_of_ble_eq_true rfl, Nat.le_of_ble_eq_true rfl⟩ dL_paint_13 rfl rfl (Nat.le_of_ble_eq_true rfl) (Nat.le_of_eq (Nat.zero_add c9)) (Nat.le_of_eq (Nat.zero_add s9)) (fun E Z1 D1 hk => ?_) (fun v Z1 D1 hk => ?_)
  · have hE := hkx _ _ _ hk
    simp only [List.mem_cons, List.not_mem_nil, or_false] at hE
    rcases hE with rfl | rfl | rfl
    · refine ja_catch_i (hp := []) (h1 := (0, 18, 21, 21)) (hs := [(0, 18, 25, 13), (0, 18, 29, 15)]) rfl (by decide +kernel) (fun z hz => by cases hz) (by decide +kernel) (by decide) cl_L_21 cst_2 dL_paint_21 rfl (Nat.le_of_ble_eq_true rfl) ?_
      refine ja_iconst (v := nI 1) dL_paint_23 (by decide +kernel) ?_
      exact ja_iret rfl rfl dL_paint_24 (Nat.le_of_eq (Nat.zero_add c9)) (Nat.le_of_eq (Nat.zero_add s9)) (Or.inr ⟨_, hk, rfl⟩)
    · refine ja_catch_i (hp := [(0, 18, 21, 21)]) (h1 := (0, 18, 25, 13)) (hs := [(0, 18, 29, 15)]) rfl (by decide +kernel) (fun z hz => by
        simp only [List.mem_cons, List.not_mem_nil, or_false] at hz
        subst hz
        exact ⟨by decide, _, cl_L_21, by decide +kernel, by decide⟩) (by decide +kernel) (by decide) cl_L_13 cst_0 dL_paint_25 rfl (Nat.le_of_ble_eq_true rfl) ?_
      refine ja_iconst (v := nI 2) dL_paint_27 (by decide +kernel) ?_
      exact ja_iret rfl rfl dL_paint_28 (Nat.le_of_eq (Nat.zero_add c9)) (Nat.le_of_eq (Nat.zero_add s9)) (Or.inr ⟨_, hk, rfl⟩)
    · refine ja_catch_i (hp := [(0, 18, 21, 21), (0, 18, 25, 13)]) (h1 := (0, 18, 29, 15)) (hs := []) rfl (by decide +kernel) (fun z hz => by
        simp only [List.mem_cons, List.not_mem_nil, or_false] at hz
        rcases hz with rfl | rfl
        · exact ⟨by decide, _, cl_L_21, by decide +kernel, by decide⟩
        · exact ⟨by decide, _, cl_L_13, by decide +kernel, by decide⟩) (by decide +kernel) (by decide) cl_L_15 cst_1 dL_paint_29 rfl (Nat.le_of_ble_eq_true rfl) ?_
      refine ja_iconst (v := nI 3) dL_paint_31 (by decide +kernel) ?_
      exact ja_iret rfl rfl dL_paint_32 (Nat.le_of_eq (Nat.zero_add c9)) (Nat.le_of_eq (Nat.zero_add s9)) (Or.inr ⟨_, hk, rfl⟩)
  · obtain ⟨hz, b, rfl⟩ := hkr _ _ _ hk
    refine ja_i2l dL_paint_16 rfl ?_
    refine ja_last (n := 1) (j := 0) hz rfl (by decide) (by decide) dL_paint_17 ?_
    refine ja_goto dL_paint_18 (tgt := 33) (by decide) ?_
    refine ja_iconst (v := nI 0) dL_paint_33 (by decide +kernel) ?_
    exact ja_iret rfl rfl dL_paint_34 (Nat.le_of_eq (Nat.zero_add c9)) (Nat.le_of_eq (Nat.zero_add s9)) (Or.inl ⟨_, _, hk, rfl, rfl⟩)
theorem w_split (l : Launch) {Z : jZ} {D : jD} {p0 p1 p2 p3 p4 : Int32} {c9 s9 : Nat} {kr : Option Value → jZ → jD → Prop} {kx : String → jZ → jD → Prop} (hM : ja_M l (mX7_split c9 s9) [.ref 0, .int p0, .int p1, .int p2, .int p3, .int p4] Z D kr kx) (h0 : Z.2.1 0 = (7, 13)) (hkr : ∀ v Z1 D1, kr v Z1 D1 → Z1.2.1 200 = (13, 1) ∧ ∃ b : Int32, v = some (.int b)) (hkx : ∀ E Z1 D1, kx E Z1 D1 → E ∈ (["java/lang/IndexOutOfBoundsException", "java/lang/IllegalArgumentException", "java/lang/IllegalStateException", "java/lang/UnsupportedOperationException"] : List String)) :
    ja_M l (mL_split c9 s9) [.ref 0, .int p0, .int p1, .int p2, .int p3, .int p4, .ref 200] Z D (ja_wr kr kx g_i 200 ["java/lang/IndexOutOfBoundsException", "java/lang/IllegalArgumentException", "java/lang/IllegalStateException", "java/lang/UnsupportedOperationException"]) ja_x0 := by
  refine ja_MofH (lv := [some (.ref 0), some (.int p0), some (.int p1), some (.int p2), some (.int p3), some (.int p4), some (.ref 200), none]) pn_L rfl rfl (Nat.le_of_ble_eq_true rfl) rfl ?_
  refine ja_aload dL_split_0 rfl ?_
  refine ja_iconst (v := nI 0) dL_split_2 (by decide +kernel) ?_
  refine ja_aload_n (i := 0) dL_split_3 rfl rfl ?_
  refine ja_iload_n (i := 1) dL_split_4 rfl rfl ?_
  refine ja_iload_n (i := 2) dL_split_5 rfl rfl ?_
  refine ja_iload_n (i := 3) dL_split_6 rfl rfl ?_
  refine ja_iload dL_split_7 rfl ?_
  refine ja_iload dL_split_9 rfl ?_
  refine ja_callV (av := [.int p0, .int p1, .int p2, .int p3, .int p4]) (st := [.int (nI 0), .ref 200]) hM (ce_X7_split c9 s9) im_X7_split se_X7_split lk_L_23 k_X7 h0 ⟨Nat.le_of_ble_eq_true rfl, Nat.le_of_ble_eq_true rfl⟩ dL_split_11 rfl rfl (Nat.le_of_ble_eq_true rfl) (Nat.le_of_eq (Nat.zero_add c9)) (Nat.le_of_eq (Nat.zero_add s9)) (fun E Z1 D1 hk => ?_) (fun v Z1 D1 hk => ?_)
  · have hE := hkx _ _ _ hk
    simp only [List.mem_cons, List.not_mem_nil, or_false] at hE
    rcases hE with rfl | rfl | rfl | rfl
    · refine ja_catch_i (hp := []) (h1 := (0, 16, 19, 21)) (hs := [(0, 16, 23, 13), (0, 16, 27, 15), (0, 16, 31, 27)]) rfl (by decide +kernel) (fun z hz => by cases hz) (by decide +kernel) (by decide) cl_L_21 cst_2 dL_split_19 rfl (Nat.le_of_ble_eq_true rfl) ?_
      refine ja_iconst (v := nI 1) dL_split_21 (by decide +kernel) ?_
      exact ja_iret rfl rfl dL_split_22 (Nat.le_of_eq (Nat.zero_add c9)) (Nat.le_of_eq (Nat.zero_add s9)) (Or.inr ⟨_, hk, rfl⟩)
    · refine ja_catch_i (hp := [(0, 16, 19, 21)]) (h1 := (0, 16, 23, 13)) (hs := [(0, 16, 27, 15), (0, 16, 31, 27)]) rfl (by decide +kernel) (fun z hz => by
        simp only [List.mem_cons, List.not_mem_nil, or_false] at hz
        subst hz
        exact ⟨by decide, _, cl_L_21, by decide +kernel, by decide⟩) (by decide +kernel) (by decide) cl_L_13 cst_0 dL_split_23 rfl (Nat.le_of_ble_eq_true rfl) ?_
      refine ja_iconst (v := nI 2) dL_split_25 (by decide +kernel) ?_
      exact ja_iret rfl rfl dL_split_26 (Nat.le_of_eq (Nat.zero_add c9)) (Nat.le_of_eq (Nat.zero_add s9)) (Or.inr ⟨_, hk, rfl⟩)
    · refine ja_catch_i (hp := [(0, 16, 19, 21), (0, 16, 23, 13)]) (h1 := (0, 16, 27, 15)) (hs := [(0, 16, 31, 27)]) rfl (by decide +kernel) (fun z hz => by
        simp only [List.mem_cons, List.not_mem_nil, or_false] at hz
        rcases hz with rfl | rfl
        · exact ⟨by decide, _, cl_L_21, by decide +kernel, by decide⟩
        · exact ⟨by decide, _, cl_L_13, by decide +kernel, by decide⟩) (by decide +kernel) (by decide) cl_L_15 cst_1 dL_split_27 rfl (Nat.le_of_ble_eq_true rfl) ?_
      refine ja_iconst (v := nI 3) dL_split_29 (by decide +kernel) ?_
      exact ja_iret rfl rfl dL_split_30 (Nat.le_of_eq (Nat.zero_add c9)) (Nat.le_of_eq (Nat.zero_add s9)) (Or.inr ⟨_, hk, rfl⟩)
    · refine ja_catch_i (hp := [(0, 16, 19, 21), (0, 16, 23, 13), (0, 16, 27, 15)]) (h1 := (0, 16, 31, 27)) (hs := []) rfl (by decide +kernel) (fun z hz => by
        simp only [List.mem_cons, List.not_mem_nil, or_false] at hz
        rcases hz with rfl | rfl | rfl
        · exact ⟨by decide, _, cl_L_21, by decide +kernel, by decide⟩
        · exact ⟨by decide, _, cl_L_13, by decide +kernel, by decide⟩
        · exact ⟨by decide, _, cl_L_15, by decide +kernel, by decide⟩) (by decide +kernel) (by decide) cl_L_27 cst_3 dL_split_31 rfl (Nat.le_of_ble_eq_true rfl) ?_
      refine ja_iconst (v := nI 4) dL_split_33 (by decide +kernel) ?_
      exact ja_iret rfl rfl dL_split_34 (Nat.le_of_eq (Nat.zero_add c9)) (Nat.le_of_eq (Nat.zero_add s9)) (Or.inr ⟨_, hk, rfl⟩)
  · obtain ⟨hz, b, rfl⟩ := hkr _ _ _ hk
    refine ja_i2l dL_split_14 rfl ?_
    refine ja_last (n := 1) (j := 0) hz rfl (by decide) (by decide) dL_split_15 ?_
    refine ja_goto dL_split_16 (tgt := 35) (by decide) ?_
    refine ja_iconst (v := nI 0) dL_split_35 (by decide +kernel) ?_
    exact ja_iret rfl rfl dL_split_36 (Nat.le_of_eq (Nat.zero_add c9)) (Nat.le_of_eq (Nat.zero_add s9)) (Or.inl ⟨_, _, hk, rfl, rfl⟩)
theorem w_merge (l : Launch) {Z : jZ} {D : jD} {p0 p1 p2 : Int32} {c9 s9 : Nat} {kr : Option Value → jZ → jD → Prop} {kx : String → jZ → jD → Prop} (hM : ja_M l (mX7_merge c9 s9) [.ref 0, .int p0, .int p1, .int p2] Z D kr kx) (h0 : Z.2.1 0 = (7, 13)) (hkr : ∀ v Z1 D1, kr v Z1 D1 → Z1.2.1 200 = (13, 1) ∧ ∃ b : Int32, v = some (.int b)) (hkx : ∀ E Z1 D1, kx E Z1 D1 → E ∈ (["java/lang/IndexOutOfBoundsException", "java/lang/IllegalArgumentException", "java/lang/IllegalStateException"] : List String)) :
    ja_M l (mL_merge c9 s9) [.ref 0, .int p0, .int p1, .int p2, .ref 200] Z D (ja_wr kr kx g_i 200 ["java/lang/IndexOutOfBoundsException", "java/lang/IllegalArgumentException", "java/lang/IllegalStateException"]) ja_x0 := by
  refine ja_MofH (lv := [some (.ref 0), some (.int p0), some (.int p1), some (.int p2), some (.ref 200), none]) pn_L rfl rfl (Nat.le_of_ble_eq_true rfl) rfl ?_
  refine ja_aload dL_merge_0 rfl ?_
  refine ja_iconst (v := nI 0) dL_merge_2 (by decide +kernel) ?_
  refine ja_aload_n (i := 0) dL_merge_3 rfl rfl ?_
  refine ja_iload_n (i := 1) dL_merge_4 rfl rfl ?_
  refine ja_iload_n (i := 2) dL_merge_5 rfl rfl ?_
  refine ja_iload_n (i := 3) dL_merge_6 rfl rfl ?_
  refine ja_callV (av := [.int p0, .int p1, .int p2]) (st := [.int (nI 0), .ref 200]) hM (ce_X7_merge c9 s9) im_X7_merge se_X7_merge lk_L_29 k_X7 h0 ⟨Nat.le_of_ble_eq_true rfl, Nat.le_of_ble_eq_true rfl⟩ dL_merge_7 rfl rfl (Nat.le_of_ble_eq_true rfl) (Nat.le_of_eq (Nat.zero_add c9)) (Nat.le_of_eq (Nat.zero_add s9)) (fun E Z1 D1 hk => ?_) (fun v Z1 D1 hk => ?_)
  · have hE := hkx _ _ _ hk
    simp only [List.mem_cons, List.not_mem_nil, or_false] at hE
    rcases hE with rfl | rfl | rfl
    · refine ja_catch_i (hp := []) (h1 := (0, 12, 15, 21)) (hs := [(0, 12, 19, 13), (0, 12, 23, 15)]) rfl (by decide +kernel) (fun z hz => by cases hz) (by decide +kernel) (by decide) cl_L_21 cst_2 dL_merge_15 rfl (Nat.le_of_ble_eq_true rfl) ?_
      refine ja_iconst (v := nI 1) dL_merge_17 (by decide +kernel) ?_
      exact ja_iret rfl rfl dL_merge_18 (Nat.le_of_eq (Nat.zero_add c9)) (Nat.le_of_eq (Nat.zero_add s9)) (Or.inr ⟨_, hk, rfl⟩)
    · refine ja_catch_i (hp := [(0, 12, 15, 21)]) (h1 := (0, 12, 19, 13)) (hs := [(0, 12, 23, 15)]) rfl (by decide +kernel) (fun z hz => by
        simp only [List.mem_cons, List.not_mem_nil, or_false] at hz
        subst hz
        exact ⟨by decide, _, cl_L_21, by decide +kernel, by decide⟩) (by decide +kernel) (by decide) cl_L_13 cst_0 dL_merge_19 rfl (Nat.le_of_ble_eq_true rfl) ?_
      refine ja_iconst (v := nI 2) dL_merge_21 (by decide +kernel) ?_
      exact ja_iret rfl rfl dL_merge_22 (Nat.le_of_eq (Nat.zero_add c9)) (Nat.le_of_eq (Nat.zero_add s9)) (Or.inr ⟨_, hk, rfl⟩)
    · refine ja_catch_i (hp := [(0, 12, 15, 21), (0, 12, 19, 13)]) (h1 := (0, 12, 23, 15)) (hs := []) rfl (by decide +kernel) (fun z hz => by
        simp only [List.mem_cons, List.not_mem_nil, or_false] at hz
        rcases hz with rfl | rfl
        · exact ⟨by decide, _, cl_L_21, by decide +kernel, by decide⟩
        · exact ⟨by decide, _, cl_L_13, by decide +kernel, by decide⟩) (by decide +kernel) (by decide) cl_L_15 cst_1 dL_merge_23 rfl (Nat.le_of_ble_eq_true rfl) ?_
      refine ja_iconst (v := nI 3) dL_merge_25 (by decide +kernel) ?_
      exact ja_iret rfl rfl dL_merge_26 (Nat.le_of_eq (Nat.zero_add c9)) (Nat.le_of_eq (Nat.zero_add s9)) (Or.inr ⟨_, hk, rfl⟩)
  · obtain ⟨hz, b, rfl⟩ := hkr _ _ _ hk
    refine ja_i2l dL_merge_10 rfl ?_
    refine ja_last (n := 1) (j := 0) hz rfl (by decide) (by decide) dL_merge_11 ?_
    refine ja_goto dL_merge_12 (tgt := 27) (by decide) ?_
    refine ja_iconst (v := nI 0) dL_merge_27 (by decide +kernel) ?_
    exact ja_iret rfl rfl dL_merge_28 (Nat.le_of_eq (Nat.zero_add c9)) (Nat.le_of_eq (Nat.zero_add s9)) (Or.inl ⟨_, _, hk, rfl, rfl⟩)
theorem w_setValue (l : Launch) {Z : jZ} {D : jD} {p0 p1 p2 : Int32} {c9 s9 : Nat} {kr : Option Value → jZ → jD → Prop} {kx : String → jZ → jD → Prop} (hM : ja_M l (mX7_setValue c9 s9) [.ref 0, .int p0, .int p1, .int p2] Z D kr kx) (h0 : Z.2.1 0 = (7, 13)) (hkr : ∀ v Z1 D1, kr v Z1 D1 → Z1.2.1 200 = (13, 1) ∧ ∃ b : Int32, v = some (.int b)) (hkx : ∀ E Z1 D1, kx E Z1 D1 → E ∈ (["java/lang/IndexOutOfBoundsException", "java/lang/IllegalArgumentException", "java/lang/IllegalStateException", "java/lang/UnsupportedOperationException"] : List String)) :
    ja_M l (mL_setValue c9 s9) [.ref 0, .int p0, .int p1, .int p2, .ref 200] Z D (ja_wr kr kx g_i 200 ["java/lang/IndexOutOfBoundsException", "java/lang/IllegalArgumentException", "java/lang/IllegalStateException", "java/lang/UnsupportedOperationException"]) ja_x0 := by
  refine ja_MofH (lv := [some (.ref 0), some (.int p0), some (.int p1), some (.int p2), some (.ref 200), none]) pn_L rfl rfl (Nat.le_of_ble_eq_true rfl) rfl ?_
  refine ja_aload dL_setValue_0 rfl ?_
  refine ja_iconst (v := nI 0) dL_setValue_2 (by decide +kernel) ?_
  refine ja_aload_n (i := 0) dL_setValue_3 rfl rfl ?_
  refine ja_iload_n (i := 1) dL_setValue_4 rfl rfl ?_
  refine ja_iload_n (i := 2) dL_setValue_5 rfl rfl ?_
  refine ja_iload_n (i := 3) dL_setValue_6 rfl rfl ?_
  refine ja_callV (av := [.int p0, .int p1, .int p2]) (st := [.int (nI 0), .ref 200]) hM (ce_X7_setValue c9 s9) im_X7_setValue se_X7_setValue lk_L_33 k_X7 h0 ⟨Nat.le_of_ble_eq_true rfl, Nat.le_of_ble_eq_true rfl⟩ dL_setValue_7 rfl rfl (Nat.le_of_ble_eq_true rfl) (Nat.le_of_eq (Nat.zero_add c9)) (Nat.le_of_eq (Nat.zero_add s9)) (fun E Z1 D1 hk => ?_) (fun v Z1 D1 hk => ?_)
  · have hE := hkx _ _ _ hk
    simp only [List.mem_cons, List.not_mem_nil, or_false] at hE
    rcases hE with rfl | rfl | rfl | rfl
    · refine ja_catch_i (hp := []) (h1 := (0, 12, 15, 21)) (hs := [(0, 12, 19, 13), (0, 12, 23, 15), (0, 12, 27, 27)]) rfl (by decide +kernel) (fun z hz => by cases hz) (by decide +kernel) (by decide) cl_L_21 cst_2 dL_setValue_15 rfl (Nat.le_of_ble_eq_true rfl) ?_
      refine ja_iconst (v := nI 1) dL_setValue_17 (by decide +kernel) ?_
      exact ja_iret rfl rfl dL_setValue_18 (Nat.le_of_eq (Nat.zero_add c9)) (Nat.le_of_eq (Nat.zero_add s9)) (Or.inr ⟨_, hk, rfl⟩)
    · refine ja_catch_i (hp := [(0, 12, 15, 21)]) (h1 := (0, 12, 19, 13)) (hs := [(0, 12, 23, 15), (0, 12, 27, 27)]) rfl (by decide +kernel) (fun z hz => by
        simp only [List.mem_cons, List.not_mem_nil, or_false] at hz
        subst hz
        exact ⟨by decide, _, cl_L_21, by decide +kernel, by decide⟩) (by decide +kernel) (by decide) cl_L_13 cst_0 dL_setValue_19 rfl (Nat.le_of_ble_eq_true rfl) ?_
      refine ja_iconst (v := nI 2) dL_setValue_21 (by decide +kernel) ?_
      exact ja_iret rfl rfl dL_setValue_22 (Nat.le_of_eq (Nat.zero_add c9)) (Nat.le_of_eq (Nat.zero_add s9)) (Or.inr ⟨_, hk, rfl⟩)
    · refine ja_catch_i (hp := [(0, 12, 15, 21), (0, 12, 19, 13)]) (h1 := (0, 12, 23, 15)) (hs := [(0, 12, 27, 27)]) rfl (by decide +kernel) (fun z hz => by
        simp only [List.mem_cons, List.not_mem_nil, or_false] at hz
        rcases hz with rfl | rfl
        · exact ⟨by decide, _, cl_L_21, by decide +kernel, by decide⟩
        · exact ⟨by decide, _, cl_L_13, by decide +kernel, by decide⟩) (by decide +kernel) (by decide) cl_L_15 cst_1 dL_setValue_23 rfl (Nat.le_of_ble_eq_true rfl) ?_
      refine ja_iconst (v := nI 3) dL_setValue_25 (by decide +kernel) ?_
      exact ja_iret rfl rfl dL_setValue_26 (Nat.le_of_eq (Nat.zero_add c9)) (Nat.le_of_eq (Nat.zero_add s9)) (Or.inr ⟨_, hk, rfl⟩)
    · refine ja_catch_i (hp := [(0, 12, 15, 21), (0, 12, 19, 13), (0, 12, 23, 15)]) (h1 := (0, 12, 27, 27)) (hs := []) rfl (by decide +kernel) (fun z hz => by
        simp only [List.mem_cons, List.not_mem_nil, or_false] at hz
        rcases hz with rfl | rfl | rfl
        · exact ⟨by decide, _, cl_L_21, by decide +kernel, by decide⟩
        · exact ⟨by decide, _, cl_L_13, by decide +kernel, by decide⟩
        · exact ⟨by decide, _, cl_L_15, by decide +kernel, by decide⟩) (by decide +kernel) (by decide) cl_L_27 cst_3 dL_setValue_27 rfl (Nat.le_of_ble_eq_true rfl) ?_
      refine ja_iconst (v := nI 4) dL_setValue_29 (by decide +kernel) ?_
      exact ja_iret rfl rfl dL_setValue_30 (Nat.le_of_eq (Nat.zero_add c9)) (Nat.le_of_eq (Nat.zero_add s9)) (Or.inr ⟨_, hk, rfl⟩)
  · obtain ⟨hz, b, rfl⟩ := hkr _ _ _ hk
    refine ja_i2l dL_setValue_10 rfl ?_
    refine ja_last (n := 1) (j := 0) hz rfl (by decide) (by decide) dL_setValue_11 ?_
    refine ja_goto dL_setValue_12 (tgt := 31) (by decide) ?_
    refine ja_iconst (v := nI 0) dL_setValue_31 (by decide +kernel) ?_
    exact ja_iret rfl rfl dL_setValue_32 (Nat.le_of_eq (Nat.zero_add c9)) (Nat.le_of_eq (Nat.zero_add s9)) (Or.inl ⟨_, _, hk, rfl, rfl⟩)
theorem w_setDivides (l : Launch) {Z : jZ} {D : jD} {p0 p1 : Int32} {c9 s9 : Nat} {kr : Option Value → jZ → jD → Prop} {kx : String → jZ → jD → Prop} (hM : ja_M l (mX7_setDivides c9 s9) [.ref 0, .int p0, .int p1] Z D kr kx) (h0 : Z.2.1 0 = (7, 13)) (hkr : ∀ v Z1 D1, kr v Z1 D1 → Z1.2.1 200 = (13, 1) ∧ ∃ b : Bool, v = some (.int (bI b))) (hkx : ∀ E Z1 D1, kx E Z1 D1 → E ∈ (["java/lang/IndexOutOfBoundsException"] : List String)) :
    ja_M l (mL_setDivides c9 s9) [.ref 0, .int p0, .int p1, .ref 200] Z D (ja_wr kr kx g_b 200 ["java/lang/IndexOutOfBoundsException"]) ja_x0 := by
  refine ja_MofH (lv := [some (.ref 0), some (.int p0), some (.int p1), some (.ref 200), none]) pn_L rfl rfl (Nat.le_of_ble_eq_true rfl) rfl ?_
  refine ja_aload_n (i := 3) dL_setDivides_0 rfl rfl ?_
  refine ja_iconst (v := nI 0) dL_setDivides_1 (by decide +kernel) ?_
  refine ja_aload_n (i := 0) dL_setDivides_2 rfl rfl ?_
  refine ja_iload_n (i := 1) dL_setDivides_3 rfl rfl ?_
  refine ja_iload_n (i := 2) dL_setDivides_4 rfl rfl ?_
  refine ja_callV (av := [.int p0, .int p1]) (st := [.int (nI 0), .ref 200]) hM (ce_X7_setDivides c9 s9) im_X7_setDivides se_X7_setDivides lk_L_36 k_X7 h0 ⟨Nat.le_of_ble_eq_true rfl, Nat.le_of_ble_eq_true rfl⟩ dL_setDivides_5 rfl rfl (Nat.le_of_ble_eq_true rfl) (Nat.le_of_eq (Nat.zero_add c9)) (Nat.le_of_eq (Nat.zero_add s9)) (fun E Z1 D1 hk => ?_) (fun v Z1 D1 hk => ?_)
  · have hE := hkx _ _ _ hk
    simp only [List.mem_cons, List.not_mem_nil, or_false] at hE
    subst hE
    · refine ja_catch_i (hp := []) (h1 := (0, 17, 20, 21)) (hs := []) rfl (by decide +kernel) (fun z hz => by cases hz) (by decide +kernel) (by decide) cl_L_21 cst_2 dL_setDivides_20 rfl (Nat.le_of_ble_eq_true rfl) ?_
      refine ja_iconst (v := nI 1) dL_setDivides_22 (by decide +kernel) ?_
      exact ja_iret rfl rfl dL_setDivides_23 (Nat.le_of_eq (Nat.zero_add c9)) (Nat.le_of_eq (Nat.zero_add s9)) (Or.inr ⟨_, hk, rfl⟩)
  · obtain ⟨hz, b, rfl⟩ := hkr _ _ _ hk
    cases b
    · refine ja_if_eq dL_setDivides_8 (tgt := 15) (by decide) (fun c => ?_) (fun c => absurd (show bI false = 0 by decide) c)
      refine ja_lconst dL_setDivides_15 rfl ?_
      refine ja_last (n := 1) (j := 0) hz rfl (by decide) (by decide) dL_setDivides_16 ?_
      refine ja_goto dL_setDivides_17 (tgt := 24) (by decide) ?_
      refine ja_iconst (v := nI 0) dL_setDivides_24 (by decide +kernel) ?_
      exact ja_iret rfl rfl dL_setDivides_25 (Nat.le_of_eq (Nat.zero_add c9)) (Nat.le_of_eq (Nat.zero_add s9)) (Or.inl ⟨_, _, hk, rfl, rfl⟩)
    · refine ja_if_eq dL_setDivides_8 (tgt := 15) (by decide) (fun c => absurd c (by decide)) (fun c => ?_)
      refine ja_lconst dL_setDivides_11 rfl ?_
      refine ja_goto dL_setDivides_12 (tgt := 16) (by decide) ?_
      refine ja_last (n := 1) (j := 0) hz rfl (by decide) (by decide) dL_setDivides_16 ?_
      refine ja_goto dL_setDivides_17 (tgt := 24) (by decide) ?_
      refine ja_iconst (v := nI 0) dL_setDivides_24 (by decide +kernel) ?_
      exact ja_iret rfl rfl dL_setDivides_25 (Nat.le_of_eq (Nat.zero_add c9)) (Nat.le_of_eq (Nat.zero_add s9)) (Or.inl ⟨_, _, hk, rfl, rfl⟩)
theorem w_sign (l : Launch) {Z : jZ} {D : jD} {p0 : Int32} {c9 s9 : Nat} {kr : Option Value → jZ → jD → Prop} {kx : String → jZ → jD → Prop} (hM : ja_M l (mX7_sign c9 s9) [.ref 0, .int p0] Z D kr kx) (h0 : Z.2.1 0 = (7, 13)) (hkr : ∀ v Z1 D1, kr v Z1 D1 → Z1.2.1 200 = (13, 1) ∧ ∃ b : Int32, v = some (.int b)) (hkx : ∀ E Z1 D1, kx E Z1 D1 → E ∈ (["java/util/NoSuchElementException", "java/lang/IllegalStateException"] : List String)) :
    ja_M l (mL_sign c9 s9) [.ref 0, .int p0, .ref 200] Z D (ja_wr kr kx g_i 200 ["java/util/NoSuchElementException", "java/lang/IllegalStateException"]) ja_x0 := by
  refine ja_MofH (lv := [some (.ref 0), some (.int p0), some (.ref 200), none]) pn_L rfl rfl (Nat.le_of_ble_eq_true rfl) rfl ?_
  refine ja_aload_n (i := 2) dL_sign_0 rfl rfl ?_
  refine ja_iconst (v := nI 0) dL_sign_1 (by decide +kernel) ?_
  refine ja_aload_n (i := 0) dL_sign_2 rfl rfl ?_
  refine ja_iload_n (i := 1) dL_sign_3 rfl rfl ?_
  refine ja_callV (av := [.int p0]) (st := [.int (nI 0), .ref 200]) hM (ce_X7_sign c9 s9) im_X7_sign se_X7_sign lk_L_40 k_X7 h0 ⟨Nat.le_of_ble_eq_true rfl, Nat.le_of_ble_eq_true rfl⟩ dL_sign_4 rfl rfl (Nat.le_of_ble_eq_true rfl) (Nat.le_of_eq (Nat.zero_add c9)) (Nat.le_of_eq (Nat.zero_add s9)) (fun E Z1 D1 hk => ?_) (fun v Z1 D1 hk => ?_)
  · have hE := hkx _ _ _ hk
    simp only [List.mem_cons, List.not_mem_nil, or_false] at hE
    rcases hE with rfl | rfl
    · refine ja_catch_n (n := 3) (i := 3) (hp := []) (h1 := (0, 9, 12, 43)) (hs := [(0, 9, 15, 15)]) rfl (by decide +kernel) (fun z hz => by cases hz) (by decide +kernel) (by decide) cl_L_43 cst_4 dL_sign_12 rfl rfl (Nat.le_of_ble_eq_true rfl) ?_
      refine ja_iconst (v := nI 1) dL_sign_13 (by decide +kernel) ?_
      exact ja_iret rfl rfl dL_sign_14 (Nat.le_of_eq (Nat.zero_add c9)) (Nat.le_of_eq (Nat.zero_add s9)) (Or.inr ⟨_, hk, rfl⟩)
    · refine ja_catch_n (n := 3) (i := 3) (hp := [(0, 9, 12, 43)]) (h1 := (0, 9, 15, 15)) (hs := []) rfl (by decide +kernel) (fun z hz => by
        simp only [List.mem_cons, List.not_mem_nil, or_false] at hz
        subst hz
        exact ⟨by decide, _, cl_L_43, by decide +kernel, by decide⟩) (by decide +kernel) (by decide) cl_L_15 cst_1 dL_sign_15 rfl rfl (Nat.le_of_ble_eq_true rfl) ?_
      refine ja_iconst (v := nI 2) dL_sign_16 (by decide +kernel) ?_
      exact ja_iret rfl rfl dL_sign_17 (Nat.le_of_eq (Nat.zero_add c9)) (Nat.le_of_eq (Nat.zero_add s9)) (Or.inr ⟨_, hk, rfl⟩)
  · obtain ⟨hz, b, rfl⟩ := hkr _ _ _ hk
    refine ja_i2l dL_sign_7 rfl ?_
    refine ja_last (n := 1) (j := 0) hz rfl (by decide) (by decide) dL_sign_8 ?_
    refine ja_goto dL_sign_9 (tgt := 18) (by decide) ?_
    refine ja_iconst (v := nI 0) dL_sign_18 (by decide +kernel) ?_
    exact ja_iret rfl rfl dL_sign_19 (Nat.le_of_eq (Nat.zero_add c9)) (Nat.le_of_eq (Nat.zero_add s9)) (Or.inl ⟨_, _, hk, rfl, rfl⟩)
theorem w_keep (l : Launch) {Z : jZ} {D : jD} {c9 s9 : Nat} {kr : Option Value → jZ → jD → Prop} {kx : String → jZ → jD → Prop} (hM : ja_M l (mX7_keep c9 s9) [.ref 0] Z D kr kx) (h0 : Z.2.1 0 = (7, 13)) (hkr : ∀ v Z1 D1, kr v Z1 D1 → Z1.2.1 200 = (13, 1) ∧ ∃ b : Int32, v = some (.int b)) (hkx : ∀ E Z1 D1, kx E Z1 D1 → E ∈ (["java/lang/IllegalStateException", "java/lang/UnsupportedOperationException"] : List String)) :
    ja_M l (mL_keep c9 s9) [.ref 0, .ref 200] Z D (ja_wr kr kx g_i 200 ["java/lang/IllegalStateException", "java/lang/UnsupportedOperationException"]) ja_x0 := by
  refine ja_MofH (lv := [some (.ref 0), some (.ref 200), none]) pn_L rfl rfl (Nat.le_of_ble_eq_true rfl) rfl ?_
  refine ja_aload_n (i := 1) dL_keep_0 rfl rfl ?_
  refine ja_iconst (v := nI 0) dL_keep_1 (by decide +kernel) ?_
  refine ja_aload_n (i := 0) dL_keep_2 rfl rfl ?_
  refine ja_callV (av := []) (st := [.int (nI 0), .ref 200]) hM (ce_X7_keep c9 s9) im_X7_keep se_X7_keep lk_L_45 k_X7 h0 ⟨Nat.le_of_ble_eq_true rfl, Nat.le_of_ble_eq_true rfl⟩ dL_keep_3 rfl rfl (Nat.le_of_ble_eq_true rfl) (Nat.le_of_eq (Nat.zero_add c9)) (Nat.le_of_eq (Nat.zero_add s9)) (fun E Z1 D1 hk => ?_) (fun v Z1 D1 hk => ?_)
  · have hE := hkx _ _ _ hk
    simp only [List.mem_cons, List.not_mem_nil, or_false] at hE
    rcases hE with rfl | rfl
    · refine ja_catch_n (n := 2) (i := 2) (hp := []) (h1 := (0, 8, 11, 15)) (hs := [(0, 8, 14, 27)]) rfl (by decide +kernel) (fun z hz => by cases hz) (by decide +kernel) (by decide) cl_L_15 cst_1 dL_keep_11 rfl rfl (Nat.le_of_ble_eq_true rfl) ?_
      refine ja_iconst (v := nI 1) dL_keep_12 (by decide +kernel) ?_
      exact ja_iret rfl rfl dL_keep_13 (Nat.le_of_eq (Nat.zero_add c9)) (Nat.le_of_eq (Nat.zero_add s9)) (Or.inr ⟨_, hk, rfl⟩)
    · refine ja_catch_n (n := 2) (i := 2) (hp := [(0, 8, 11, 15)]) (h1 := (0, 8, 14, 27)) (hs := []) rfl (by decide +kernel) (fun z hz => by
        simp only [List.mem_cons, List.not_mem_nil, or_false] at hz
        subst hz
        exact ⟨by decide, _, cl_L_15, by decide +kernel, by decide⟩) (by decide +kernel) (by decide) cl_L_27 cst_3 dL_keep_14 rfl rfl (Nat.le_of_ble_eq_true rfl) ?_
      refine ja_iconst (v := nI 2) dL_keep_15 (by decide +kernel) ?_
      exact ja_iret rfl rfl dL_keep_16 (Nat.le_of_eq (Nat.zero_add c9)) (Nat.le_of_eq (Nat.zero_add s9)) (Or.inr ⟨_, hk, rfl⟩)
  · obtain ⟨hz, b, rfl⟩ := hkr _ _ _ hk
    refine ja_i2l dL_keep_6 rfl ?_
    refine ja_last (n := 1) (j := 0) hz rfl (by decide) (by decide) dL_keep_7 ?_
    refine ja_goto dL_keep_8 (tgt := 17) (by decide) ?_
    refine ja_iconst (v := nI 0) dL_keep_17 (by decide +kernel) ?_
    exact ja_iret rfl rfl dL_keep_18 (Nat.le_of_eq (Nat.zero_add c9)) (Nat.le_of_eq (Nat.zero_add s9)) (Or.inl ⟨_, _, hk, rfl, rfl⟩)
theorem w_drop (l : Launch) {Z : jZ} {D : jD} {c9 s9 : Nat} {kr : Option Value → jZ → jD → Prop} {kx : String → jZ → jD → Prop} (hM : ja_M l (mX7_drop c9 s9) [.ref 0] Z D kr kx) (h0 : Z.2.1 0 = (7, 13)) (hkr : ∀ v Z1 D1, kr v Z1 D1 → Z1.2.1 200 = (13, 1) ∧ ∃ b : Int32, v = some (.int b)) (hkx : ∀ E Z1 D1, kx E Z1 D1 → E ∈ (["java/lang/IllegalStateException"] : List String)) :
    ja_M l (mL_drop c9 s9) [.ref 0, .ref 200] Z D (ja_wr kr kx g_i 200 ["java/lang/IllegalStateException"]) ja_x0 := by
  refine ja_MofH (lv := [some (.ref 0), some (.ref 200), none]) pn_L rfl rfl (Nat.le_of_ble_eq_true rfl) rfl ?_
  refine ja_aload_n (i := 1) dL_drop_0 rfl rfl ?_
  refine ja_iconst (v := nI 0) dL_drop_1 (by decide +kernel) ?_
  refine ja_aload_n (i := 0) dL_drop_2 rfl rfl ?_
  refine ja_callV (av := []) (st := [.int (nI 0), .ref 200]) hM (ce_X7_drop c9 s9) im_X7_drop se_X7_drop lk_L_49 k_X7 h0 ⟨Nat.le_of_ble_eq_true rfl, Nat.le_of_ble_eq_true rfl⟩ dL_drop_3 rfl rfl (Nat.le_of_ble_eq_true rfl) (Nat.le_of_eq (Nat.zero_add c9)) (Nat.le_of_eq (Nat.zero_add s9)) (fun E Z1 D1 hk => ?_) (fun v Z1 D1 hk => ?_)
  · have hE := hkx _ _ _ hk
    simp only [List.mem_cons, List.not_mem_nil, or_false] at hE
    subst hE
    · refine ja_catch_n (n := 2) (i := 2) (hp := []) (h1 := (0, 8, 11, 15)) (hs := []) rfl (by decide +kernel) (fun z hz => by cases hz) (by decide +kernel) (by decide) cl_L_15 cst_1 dL_drop_11 rfl rfl (Nat.le_of_ble_eq_true rfl) ?_
      refine ja_iconst (v := nI 1) dL_drop_12 (by decide +kernel) ?_
      exact ja_iret rfl rfl dL_drop_13 (Nat.le_of_eq (Nat.zero_add c9)) (Nat.le_of_eq (Nat.zero_add s9)) (Or.inr ⟨_, hk, rfl⟩)
  · obtain ⟨hz, b, rfl⟩ := hkr _ _ _ hk
    refine ja_i2l dL_drop_6 rfl ?_
    refine ja_last (n := 1) (j := 0) hz rfl (by decide) (by decide) dL_drop_7 ?_
    refine ja_goto dL_drop_8 (tgt := 14) (by decide) ?_
    refine ja_iconst (v := nI 0) dL_drop_14 (by decide +kernel) ?_
    exact ja_iret rfl rfl dL_drop_15 (Nat.le_of_eq (Nat.zero_add c9)) (Nat.le_of_eq (Nat.zero_add s9)) (Or.inl ⟨_, _, hk, rfl, rfl⟩)
theorem w_addRule (l : Launch) {Z : jZ} {D : jD} {p0 p1 p2 : Int32} {c9 s9 : Nat} {kr : Option Value → jZ → jD → Prop} {kx : String → jZ → jD → Prop} (hM : ja_M l (mX7_addRule c9 s9) [.ref 0, .int p0, .int p1, .int p2] Z D kr kx) (h0 : Z.2.1 0 = (7, 13)) (hkr : ∀ v Z1 D1, kr v Z1 D1 → Z1.2.1 200 = (13, 1) ∧ ∃ b : Int32, v = some (.int b)) (hkx : ∀ E Z1 D1, kx E Z1 D1 → E ∈ (["java/lang/IllegalArgumentException", "java/lang/IndexOutOfBoundsException", "java/lang/IllegalStateException"] : List String)) :
    ja_M l (mL_addRule c9 s9) [.ref 0, .int p0, .int p1, .int p2, .ref 200] Z D (ja_wr kr kx g_i 200 ["java/lang/IllegalArgumentException", "java/lang/IndexOutOfBoundsException", "java/lang/IllegalStateException"]) ja_x0 := by
  refine ja_MofH (lv := [some (.ref 0), some (.int p0), some (.int p1), some (.int p2), some (.ref 200), none]) pn_L rfl rfl (Nat.le_of_ble_eq_true rfl) rfl ?_
  refine ja_aload dL_addRule_0 rfl ?_
  refine ja_iconst (v := nI 0) dL_addRule_2 (by decide +kernel) ?_
  refine ja_aload_n (i := 0) dL_addRule_3 rfl rfl ?_
  refine ja_iload_n (i := 1) dL_addRule_4 rfl rfl ?_
  refine ja_iload_n (i := 2) dL_addRule_5 rfl rfl ?_
  refine ja_iload_n (i := 3) dL_addRule_6 rfl rfl ?_
  refine ja_callV (av := [.int p0, .int p1, .int p2]) (st := [.int (nI 0), .ref 200]) hM (ce_X7_addRule c9 s9) im_X7_addRule se_X7_addRule lk_L_52 k_X7 h0 ⟨Nat.le_of_ble_eq_true rfl, Nat.le_of_ble_eq_true rfl⟩ dL_addRule_7 rfl rfl (Nat.le_of_ble_eq_true rfl) (Nat.le_of_eq (Nat.zero_add c9)) (Nat.le_of_eq (Nat.zero_add s9)) (fun E Z1 D1 hk => ?_) (fun v Z1 D1 hk => ?_)
  · have hE := hkx _ _ _ hk
    simp only [List.mem_cons, List.not_mem_nil, or_false] at hE
    rcases hE with rfl | rfl | rfl
    · refine ja_catch_i (hp := []) (h1 := (0, 12, 15, 13)) (hs := [(0, 12, 19, 21), (0, 12, 23, 15)]) rfl (by decide +kernel) (fun z hz => by cases hz) (by decide +kernel) (by decide) cl_L_13 cst_0 dL_addRule_15 rfl (Nat.le_of_ble_eq_true rfl) ?_
      refine ja_iconst (v := nI 1) dL_addRule_17 (by decide +kernel) ?_
      exact ja_iret rfl rfl dL_addRule_18 (Nat.le_of_eq (Nat.zero_add c9)) (Nat.le_of_eq (Nat.zero_add s9)) (Or.inr ⟨_, hk, rfl⟩)
    · refine ja_catch_i (hp := [(0, 12, 15, 13)]) (h1 := (0, 12, 19, 21)) (hs := [(0, 12, 23, 15)]) rfl (by decide +kernel) (fun z hz => by
        simp only [List.mem_cons, List.not_mem_nil, or_false] at hz
        subst hz
        exact ⟨by decide, _, cl_L_13, by decide +kernel, by decide⟩) (by decide +kernel) (by decide) cl_L_21 cst_2 dL_addRule_19 rfl (Nat.le_of_ble_eq_true rfl) ?_
      refine ja_iconst (v := nI 2) dL_addRule_21 (by decide +kernel) ?_
      exact ja_iret rfl rfl dL_addRule_22 (Nat.le_of_eq (Nat.zero_add c9)) (Nat.le_of_eq (Nat.zero_add s9)) (Or.inr ⟨_, hk, rfl⟩)
    · refine ja_catch_i (hp := [(0, 12, 15, 13), (0, 12, 19, 21)]) (h1 := (0, 12, 23, 15)) (hs := []) rfl (by decide +kernel) (fun z hz => by
        simp only [List.mem_cons, List.not_mem_nil, or_false] at hz
        rcases hz with rfl | rfl
        · exact ⟨by decide, _, cl_L_13, by decide +kernel, by decide⟩
        · exact ⟨by decide, _, cl_L_21, by decide +kernel, by decide⟩) (by decide +kernel) (by decide) cl_L_15 cst_1 dL_addRule_23 rfl (Nat.le_of_ble_eq_true rfl) ?_
      refine ja_iconst (v := nI 3) dL_addRule_25 (by decide +kernel) ?_
      exact ja_iret rfl rfl dL_addRule_26 (Nat.le_of_eq (Nat.zero_add c9)) (Nat.le_of_eq (Nat.zero_add s9)) (Or.inr ⟨_, hk, rfl⟩)
  · obtain ⟨hz, b, rfl⟩ := hkr _ _ _ hk
    refine ja_i2l dL_addRule_10 rfl ?_
    refine ja_last (n := 1) (j := 0) hz rfl (by decide) (by decide) dL_addRule_11 ?_
    refine ja_goto dL_addRule_12 (tgt := 27) (by decide) ?_
    refine ja_iconst (v := nI 0) dL_addRule_27 (by decide +kernel) ?_
    exact ja_iret rfl rfl dL_addRule_28 (Nat.le_of_eq (Nat.zero_add c9)) (Nat.le_of_eq (Nat.zero_add s9)) (Or.inl ⟨_, _, hk, rfl, rfl⟩)
theorem w_broken (l : Launch) {Z : jZ} {D : jD} {p0 : Int32} {c9 s9 : Nat} {kr : Option Value → jZ → jD → Prop} {kx : String → jZ → jD → Prop} (hM : ja_M l (mX7_broken c9 s9) [.ref 0, .int p0] Z D kr kx) (h0 : Z.2.1 0 = (7, 13)) (hkr : ∀ v Z1 D1, kr v Z1 D1 → Z1.2.1 200 = (13, 1) ∧ ∃ b : Int32, v = some (.int b)) (hkx : ∀ E Z1 D1, kx E Z1 D1 → E ∈ (["java/util/NoSuchElementException"] : List String)) :
    ja_M l (mL_broken c9 s9) [.ref 0, .int p0, .ref 200] Z D (ja_wr kr kx g_i 200 ["java/util/NoSuchElementException"]) ja_x0 := by
  refine ja_MofH (lv := [some (.ref 0), some (.int p0), some (.ref 200), none]) pn_L rfl rfl (Nat.le_of_ble_eq_true rfl) rfl ?_
  refine ja_aload_n (i := 2) dL_broken_0 rfl rfl ?_
  refine ja_iconst (v := nI 0) dL_broken_1 (by decide +kernel) ?_
  refine ja_aload_n (i := 0) dL_broken_2 rfl rfl ?_
  refine ja_iload_n (i := 1) dL_broken_3 rfl rfl ?_
  refine ja_callV (av := [.int p0]) (st := [.int (nI 0), .ref 200]) hM (ce_X7_broken c9 s9) im_X7_broken se_X7_broken lk_L_56 k_X7 h0 ⟨Nat.le_of_ble_eq_true rfl, Nat.le_of_ble_eq_true rfl⟩ dL_broken_4 rfl rfl (Nat.le_of_ble_eq_true rfl) (Nat.le_of_eq (Nat.zero_add c9)) (Nat.le_of_eq (Nat.zero_add s9)) (fun E Z1 D1 hk => ?_) (fun v Z1 D1 hk => ?_)
  · have hE := hkx _ _ _ hk
    simp only [List.mem_cons, List.not_mem_nil, or_false] at hE
    subst hE
    · refine ja_catch_n (n := 3) (i := 3) (hp := []) (h1 := (0, 9, 12, 43)) (hs := []) rfl (by decide +kernel) (fun z hz => by cases hz) (by decide +kernel) (by decide) cl_L_43 cst_4 dL_broken_12 rfl rfl (Nat.le_of_ble_eq_true rfl) ?_
      refine ja_iconst (v := nI 1) dL_broken_13 (by decide +kernel) ?_
      exact ja_iret rfl rfl dL_broken_14 (Nat.le_of_eq (Nat.zero_add c9)) (Nat.le_of_eq (Nat.zero_add s9)) (Or.inr ⟨_, hk, rfl⟩)
  · obtain ⟨hz, b, rfl⟩ := hkr _ _ _ hk
    refine ja_i2l dL_broken_7 rfl ?_
    refine ja_last (n := 1) (j := 0) hz rfl (by decide) (by decide) dL_broken_8 ?_
    refine ja_goto dL_broken_9 (tgt := 15) (by decide) ?_
    refine ja_iconst (v := nI 0) dL_broken_15 (by decide +kernel) ?_
    exact ja_iret rfl rfl dL_broken_16 (Nat.le_of_eq (Nat.zero_add c9)) (Nat.le_of_eq (Nat.zero_add s9)) (Or.inl ⟨_, _, hk, rfl, rfl⟩)
theorem w_leastBroken (l : Launch) {Z : jZ} {D : jD} {c9 s9 : Nat} {kr : Option Value → jZ → jD → Prop} {kx : String → jZ → jD → Prop} (hM : ja_M l (mX7_leastBroken c9 s9) [.ref 0] Z D kr kx) (h0 : Z.2.1 0 = (7, 13)) (hkr : ∀ v Z1 D1, kr v Z1 D1 → Z1.2.1 200 = (13, 1) ∧ ∃ b : Int32, v = some (.int b)) (hkx : ∀ E Z1 D1, kx E Z1 D1 → E ∈ (["java/util/NoSuchElementException"] : List String)) :
    ja_M l (mL_leastBroken c9 s9) [.ref 0, .ref 200] Z D (ja_wr kr kx g_i 200 ["java/util/NoSuchElementException"]) ja_x0 := by
  refine ja_MofH (lv := [some (.ref 0), some (.ref 200), none]) pn_L rfl rfl (Nat.le_of_ble_eq_true rfl) rfl ?_
  refine ja_aload_n (i := 1) dL_leastBroken_0 rfl rfl ?_
  refine ja_iconst (v := nI 0) dL_leastBroken_1 (by decide +kernel) ?_
  refine ja_aload_n (i := 0) dL_leastBroken_2 rfl rfl ?_
  refine ja_callV (av := []) (st := [.int (nI 0), .ref 200]) hM (ce_X7_leastBroken c9 s9) im_X7_leastBroken se_X7_leastBroken lk_L_59 k_X7 h0 ⟨Nat.le_of_ble_eq_true rfl, Nat.le_of_ble_eq_true rfl⟩ dL_leastBroken_3 rfl rfl (Nat.le_of_ble_eq_true rfl) (Nat.le_of_eq (Nat.zero_add c9)) (Nat.le_of_eq (Nat.zero_add s9)) (fun E Z1 D1 hk => ?_) (fun v Z1 D1 hk => ?_)
  · have hE := hkx _ _ _ hk
    simp only [List.mem_cons, List.not_mem_nil, or_false] at hE
    subst hE
    · refine ja_catch_n (n := 2) (i := 2) (hp := []) (h1 := (0, 8, 11, 43)) (hs := []) rfl (by decide +kernel) (fun z hz => by cases hz) (by decide +kernel) (by decide) cl_L_43 cst_4 dL_leastBroken_11 rfl rfl (Nat.le_of_ble_eq_true rfl) ?_
      refine ja_iconst (v := nI 1) dL_leastBroken_12 (by decide +kernel) ?_
      exact ja_iret rfl rfl dL_leastBroken_13 (Nat.le_of_eq (Nat.zero_add c9)) (Nat.le_of_eq (Nat.zero_add s9)) (Or.inr ⟨_, hk, rfl⟩)
  · obtain ⟨hz, b, rfl⟩ := hkr _ _ _ hk
    refine ja_i2l dL_leastBroken_6 rfl ?_
    refine ja_last (n := 1) (j := 0) hz rfl (by decide) (by decide) dL_leastBroken_7 ?_
    refine ja_goto dL_leastBroken_8 (tgt := 14) (by decide) ?_
    refine ja_iconst (v := nI 0) dL_leastBroken_14 (by decide +kernel) ?_
    exact ja_iret rfl rfl dL_leastBroken_15 (Nat.le_of_eq (Nat.zero_add c9)) (Nat.le_of_eq (Nat.zero_add s9)) (Or.inl ⟨_, _, hk, rfl, rfl⟩)
theorem w_areaAt (l : Launch) {Z : jZ} {D : jD} {p0 p1 : Int32} {c9 s9 : Nat} {kr : Option Value → jZ → jD → Prop} {kx : String → jZ → jD → Prop} (hM : ja_M l (mX7_areaAt c9 s9) [.ref 0, .int p0, .int p1] Z D kr kx) (h0 : Z.2.1 0 = (7, 13)) (hkr : ∀ v Z1 D1, kr v Z1 D1 → Z1.2.1 200 = (13, 1) ∧ ∃ b : Int32, v = some (.int b)) (hkx : ∀ E Z1 D1, kx E Z1 D1 → E ∈ (["java/lang/IndexOutOfBoundsException"] : List String)) :
    ja_M l (mL_areaAt c9 s9) [.ref 0, .int p0, .int p1, .ref 200] Z D (ja_wr kr kx g_i 200 ["java/lang/IndexOutOfBoundsException"]) ja_x0 := by
  refine ja_MofH (lv := [some (.ref 0), some (.int p0), some (.int p1), some (.ref 200), none]) pn_L rfl rfl (Nat.le_of_ble_eq_true rfl) rfl ?_
  refine ja_aload_n (i := 3) dL_areaAt_0 rfl rfl ?_
  refine ja_iconst (v := nI 0) dL_areaAt_1 (by decide +kernel) ?_
  refine ja_aload_n (i := 0) dL_areaAt_2 rfl rfl ?_
  refine ja_iload_n (i := 1) dL_areaAt_3 rfl rfl ?_
  refine ja_iload_n (i := 2) dL_areaAt_4 rfl rfl ?_
  refine ja_callV (av := [.int p0, .int p1]) (st := [.int (nI 0), .ref 200]) hM (ce_X7_areaAt c9 s9) im_X7_areaAt se_X7_areaAt lk_L_62 k_X7 h0 ⟨Nat.le_of_ble_eq_true rfl, Nat.le_of_ble_eq_true rfl⟩ dL_areaAt_5 rfl rfl (Nat.le_of_ble_eq_true rfl) (Nat.le_of_eq (Nat.zero_add c9)) (Nat.le_of_eq (Nat.zero_add s9)) (fun E Z1 D1 hk => ?_) (fun v Z1 D1 hk => ?_)
  · have hE := hkx _ _ _ hk
    simp only [List.mem_cons, List.not_mem_nil, or_false] at hE
    subst hE
    · refine ja_catch_i (hp := []) (h1 := (0, 10, 13, 21)) (hs := []) rfl (by decide +kernel) (fun z hz => by cases hz) (by decide +kernel) (by decide) cl_L_21 cst_2 dL_areaAt_13 rfl (Nat.le_of_ble_eq_true rfl) ?_
      refine ja_iconst (v := nI 1) dL_areaAt_15 (by decide +kernel) ?_
      exact ja_iret rfl rfl dL_areaAt_16 (Nat.le_of_eq (Nat.zero_add c9)) (Nat.le_of_eq (Nat.zero_add s9)) (Or.inr ⟨_, hk, rfl⟩)
  · obtain ⟨hz, b, rfl⟩ := hkr _ _ _ hk
    refine ja_i2l dL_areaAt_8 rfl ?_
    refine ja_last (n := 1) (j := 0) hz rfl (by decide) (by decide) dL_areaAt_9 ?_
    refine ja_goto dL_areaAt_10 (tgt := 17) (by decide) ?_
    refine ja_iconst (v := nI 0) dL_areaAt_17 (by decide +kernel) ?_
    exact ja_iret rfl rfl dL_areaAt_18 (Nat.le_of_eq (Nat.zero_add c9)) (Nat.le_of_eq (Nat.zero_add s9)) (Or.inl ⟨_, _, hk, rfl, rfl⟩)
theorem w_areaThen (l : Launch) {Z : jZ} {D : jD} {p0 p1 p2 : Int32} {c9 s9 : Nat} {kr : Option Value → jZ → jD → Prop} {kx : String → jZ → jD → Prop} (hM : ja_M l (mX7_areaThen c9 s9) [.ref 0, .int p0, .int p1, .int p2] Z D kr kx) (h0 : Z.2.1 0 = (7, 13)) (hkr : ∀ v Z1 D1, kr v Z1 D1 → Z1.2.1 200 = (13, 1) ∧ ∃ b : Int32, v = some (.int b)) (hkx : ∀ E Z1 D1, kx E Z1 D1 → E ∈ (["java/lang/IndexOutOfBoundsException", "java/lang/IllegalArgumentException"] : List String)) :
    ja_M l (mL_areaThen c9 s9) [.ref 0, .int p0, .int p1, .int p2, .ref 200] Z D (ja_wr kr kx g_i 200 ["java/lang/IndexOutOfBoundsException", "java/lang/IllegalArgumentException"]) ja_x0 := by
  refine ja_MofH (lv := [some (.ref 0), some (.int p0), some (.int p1), some (.int p2), some (.ref 200), none]) pn_L rfl rfl (Nat.le_of_ble_eq_true rfl) rfl ?_
  refine ja_aload dL_areaThen_0 rfl ?_
  refine ja_iconst (v := nI 0) dL_areaThen_2 (by decide +kernel) ?_
  refine ja_aload_n (i := 0) dL_areaThen_3 rfl rfl ?_
  refine ja_iload_n (i := 1) dL_areaThen_4 rfl rfl ?_
  refine ja_iload_n (i := 2) dL_areaThen_5 rfl rfl ?_
  refine ja_iload_n (i := 3) dL_areaThen_6 rfl rfl ?_
  refine ja_callV (av := [.int p0, .int p1, .int p2]) (st := [.int (nI 0), .ref 200]) hM (ce_X7_areaThen c9 s9) im_X7_areaThen se_X7_areaThen lk_L_66 k_X7 h0 ⟨Nat.le_of_ble_eq_true rfl, Nat.le_of_ble_eq_true rfl⟩ dL_areaThen_7 rfl rfl (Nat.le_of_ble_eq_true rfl) (Nat.le_of_eq (Nat.zero_add c9)) (Nat.le_of_eq (Nat.zero_add s9)) (fun E Z1 D1 hk => ?_) (fun v Z1 D1 hk => ?_)
  · have hE := hkx _ _ _ hk
    simp only [List.mem_cons, List.not_mem_nil, or_false] at hE
    rcases hE with rfl | rfl
    · refine ja_catch_i (hp := []) (h1 := (0, 12, 15, 21)) (hs := [(0, 12, 19, 13)]) rfl (by decide +kernel) (fun z hz => by cases hz) (by decide +kernel) (by decide) cl_L_21 cst_2 dL_areaThen_15 rfl (Nat.le_of_ble_eq_true rfl) ?_
      refine ja_iconst (v := nI 1) dL_areaThen_17 (by decide +kernel) ?_
      exact ja_iret rfl rfl dL_areaThen_18 (Nat.le_of_eq (Nat.zero_add c9)) (Nat.le_of_eq (Nat.zero_add s9)) (Or.inr ⟨_, hk, rfl⟩)
    · refine ja_catch_i (hp := [(0, 12, 15, 21)]) (h1 := (0, 12, 19, 13)) (hs := []) rfl (by decide +kernel) (fun z hz => by
        simp only [List.mem_cons, List.not_mem_nil, or_false] at hz
        subst hz
        exact ⟨by decide, _, cl_L_21, by decide +kernel, by decide⟩) (by decide +kernel) (by decide) cl_L_13 cst_0 dL_areaThen_19 rfl (Nat.le_of_ble_eq_true rfl) ?_
      refine ja_iconst (v := nI 2) dL_areaThen_21 (by decide +kernel) ?_
      exact ja_iret rfl rfl dL_areaThen_22 (Nat.le_of_eq (Nat.zero_add c9)) (Nat.le_of_eq (Nat.zero_add s9)) (Or.inr ⟨_, hk, rfl⟩)
  · obtain ⟨hz, b, rfl⟩ := hkr _ _ _ hk
    refine ja_i2l dL_areaThen_10 rfl ?_
    refine ja_last (n := 1) (j := 0) hz rfl (by decide) (by decide) dL_areaThen_11 ?_
    refine ja_goto dL_areaThen_12 (tgt := 23) (by decide) ?_
    refine ja_iconst (v := nI 0) dL_areaThen_23 (by decide +kernel) ?_
    exact ja_iret rfl rfl dL_areaThen_24 (Nat.le_of_eq (Nat.zero_add c9)) (Nat.le_of_eq (Nat.zero_add s9)) (Or.inl ⟨_, _, hk, rfl, rfl⟩)
theorem w_authorOf (l : Launch) {Z : jZ} {D : jD} {p0 p1 p2 : Int32} {c9 s9 : Nat} {kr : Option Value → jZ → jD → Prop} {kx : String → jZ → jD → Prop} (hM : ja_M l (mX7_authorOf c9 s9) [.ref 0, .int p0, .int p1, .int p2] Z D kr kx) (h0 : Z.2.1 0 = (7, 13)) (hkr : ∀ v Z1 D1, kr v Z1 D1 → Z1.2.1 200 = (13, 1) ∧ ∃ b : Int32, v = some (.int b)) (hkx : ∀ E Z1 D1, kx E Z1 D1 → E ∈ (["java/lang/IndexOutOfBoundsException", "java/lang/IllegalArgumentException", "java/util/NoSuchElementException"] : List String)) :
    ja_M l (mL_authorOf c9 s9) [.ref 0, .int p0, .int p1, .int p2, .ref 200] Z D (ja_wr kr kx g_i 200 ["java/lang/IndexOutOfBoundsException", "java/lang/IllegalArgumentException", "java/util/NoSuchElementException"]) ja_x0 := by
  refine ja_MofH (lv := [some (.ref 0), some (.int p0), some (.int p1), some (.int p2), some (.ref 200), none]) pn_L rfl rfl (Nat.le_of_ble_eq_true rfl) rfl ?_
  refine ja_aload dL_authorOf_0 rfl ?_
  refine ja_iconst (v := nI 0) dL_authorOf_2 (by decide +kernel) ?_
  refine ja_aload_n (i := 0) dL_authorOf_3 rfl rfl ?_
  refine ja_iload_n (i := 1) dL_authorOf_4 rfl rfl ?_
  refine ja_iload_n (i := 2) dL_authorOf_5 rfl rfl ?_
  refine ja_iload_n (i := 3) dL_authorOf_6 rfl rfl ?_
  refine ja_callV (av := [.int p0, .int p1, .int p2]) (st := [.int (nI 0), .ref 200]) hM (ce_X7_authorOf c9 s9) im_X7_authorOf se_X7_authorOf lk_L_69 k_X7 h0 ⟨Nat.le_of_ble_eq_true rfl, Nat.le_of_ble_eq_true rfl⟩ dL_authorOf_7 rfl rfl (Nat.le_of_ble_eq_true rfl) (Nat.le_of_eq (Nat.zero_add c9)) (Nat.le_of_eq (Nat.zero_add s9)) (fun E Z1 D1 hk => ?_) (fun v Z1 D1 hk => ?_)
  · have hE := hkx _ _ _ hk
    simp only [List.mem_cons, List.not_mem_nil, or_false] at hE
    rcases hE with rfl | rfl | rfl
    · refine ja_catch_i (hp := []) (h1 := (0, 12, 15, 21)) (hs := [(0, 12, 19, 13), (0, 12, 23, 43)]) rfl (by decide +kernel) (fun z hz => by cases hz) (by decide +kernel) (by decide) cl_L_21 cst_2 dL_authorOf_15 rfl (Nat.le_of_ble_eq_true rfl) ?_
      refine ja_iconst (v := nI 1) dL_authorOf_17 (by decide +kernel) ?_
      exact ja_iret rfl rfl dL_authorOf_18 (Nat.le_of_eq (Nat.zero_add c9)) (Nat.le_of_eq (Nat.zero_add s9)) (Or.inr ⟨_, hk, rfl⟩)
    · refine ja_catch_i (hp := [(0, 12, 15, 21)]) (h1 := (0, 12, 19, 13)) (hs := [(0, 12, 23, 43)]) rfl (by decide +kernel) (fun z hz => by
        simp only [List.mem_cons, List.not_mem_nil, or_false] at hz
        subst hz
        exact ⟨by decide, _, cl_L_21, by decide +kernel, by decide⟩) (by decide +kernel) (by decide) cl_L_13 cst_0 dL_authorOf_19 rfl (Nat.le_of_ble_eq_true rfl) ?_
      refine ja_iconst (v := nI 2) dL_authorOf_21 (by decide +kernel) ?_
      exact ja_iret rfl rfl dL_authorOf_22 (Nat.le_of_eq (Nat.zero_add c9)) (Nat.le_of_eq (Nat.zero_add s9)) (Or.inr ⟨_, hk, rfl⟩)
    · refine ja_catch_i (hp := [(0, 12, 15, 21), (0, 12, 19, 13)]) (h1 := (0, 12, 23, 43)) (hs := []) rfl (by decide +kernel) (fun z hz => by
        simp only [List.mem_cons, List.not_mem_nil, or_false] at hz
        rcases hz with rfl | rfl
        · exact ⟨by decide, _, cl_L_21, by decide +kernel, by decide⟩
        · exact ⟨by decide, _, cl_L_13, by decide +kernel, by decide⟩) (by decide +kernel) (by decide) cl_L_43 cst_4 dL_authorOf_23 rfl (Nat.le_of_ble_eq_true rfl) ?_
      refine ja_iconst (v := nI 3) dL_authorOf_25 (by decide +kernel) ?_
      exact ja_iret rfl rfl dL_authorOf_26 (Nat.le_of_eq (Nat.zero_add c9)) (Nat.le_of_eq (Nat.zero_add s9)) (Or.inr ⟨_, hk, rfl⟩)
  · obtain ⟨hz, b, rfl⟩ := hkr _ _ _ hk
    refine ja_i2l dL_authorOf_10 rfl ?_
    refine ja_last (n := 1) (j := 0) hz rfl (by decide) (by decide) dL_authorOf_11 ?_
    refine ja_goto dL_authorOf_12 (tgt := 27) (by decide) ?_
    refine ja_iconst (v := nI 0) dL_authorOf_27 (by decide +kernel) ?_
    exact ja_iret rfl rfl dL_authorOf_28 (Nat.le_of_eq (Nat.zero_add c9)) (Nat.le_of_eq (Nat.zero_add s9)) (Or.inl ⟨_, _, hk, rfl, rfl⟩)
theorem w_size (l : Launch) {Z : jZ} {D : jD} {p0 p1 : Int32} {c9 s9 : Nat} {kr : Option Value → jZ → jD → Prop} {kx : String → jZ → jD → Prop} (hM : ja_M l (mX7_size c9 s9) [.ref 0, .int p0, .int p1] Z D kr kx) (h0 : Z.2.1 0 = (7, 13)) (hkr : ∀ v Z1 D1, kr v Z1 D1 → Z1.2.1 200 = (13, 1) ∧ ∃ b : Int32, v = some (.int b)) (hkx : ∀ E Z1 D1, kx E Z1 D1 → E ∈ (["java/lang/IndexOutOfBoundsException", "java/lang/IllegalArgumentException"] : List String)) :
    ja_M l (mL_size c9 s9) [.ref 0, .int p0, .int p1, .ref 200] Z D (ja_wr kr kx g_i 200 ["java/lang/IndexOutOfBoundsException", "java/lang/IllegalArgumentException"]) ja_x0 := by
  refine ja_MofH (lv := [some (.ref 0), some (.int p0), some (.int p1), some (.ref 200), none]) pn_L rfl rfl (Nat.le_of_ble_eq_true rfl) rfl ?_
  refine ja_aload_n (i := 3) dL_size_0 rfl rfl ?_
  refine ja_iconst (v := nI 0) dL_size_1 (by decide +kernel) ?_
  refine ja_aload_n (i := 0) dL_size_2 rfl rfl ?_
  refine ja_iload_n (i := 1) dL_size_3 rfl rfl ?_
  refine ja_iload_n (i := 2) dL_size_4 rfl rfl ?_
  refine ja_callV (av := [.int p0, .int p1]) (st := [.int (nI 0), .ref 200]) hM (ce_X7_size c9 s9) im_X7_size se_X7_size lk_L_72 k_X7 h0 ⟨Nat.le_of_ble_eq_true rfl, Nat.le_of_ble_eq_true rfl⟩ dL_size_5 rfl rfl (Nat.le_of_ble_eq_true rfl) (Nat.le_of_eq (Nat.zero_add c9)) (Nat.le_of_eq (Nat.zero_add s9)) (fun E Z1 D1 hk => ?_) (fun v Z1 D1 hk => ?_)
  · have hE := hkx _ _ _ hk
    simp only [List.mem_cons, List.not_mem_nil, or_false] at hE
    rcases hE with rfl | rfl
    · refine ja_catch_i (hp := []) (h1 := (0, 10, 13, 21)) (hs := [(0, 10, 17, 13)]) rfl (by decide +kernel) (fun z hz => by cases hz) (by decide +kernel) (by decide) cl_L_21 cst_2 dL_size_13 rfl (Nat.le_of_ble_eq_true rfl) ?_
      refine ja_iconst (v := nI 1) dL_size_15 (by decide +kernel) ?_
      exact ja_iret rfl rfl dL_size_16 (Nat.le_of_eq (Nat.zero_add c9)) (Nat.le_of_eq (Nat.zero_add s9)) (Or.inr ⟨_, hk, rfl⟩)
    · refine ja_catch_i (hp := [(0, 10, 13, 21)]) (h1 := (0, 10, 17, 13)) (hs := []) rfl (by decide +kernel) (fun z hz => by
        simp only [List.mem_cons, List.not_mem_nil, or_false] at hz
        subst hz
        exact ⟨by decide, _, cl_L_21, by decide +kernel, by decide⟩) (by decide +kernel) (by decide) cl_L_13 cst_0 dL_size_17 rfl (Nat.le_of_ble_eq_true rfl) ?_
      refine ja_iconst (v := nI 2) dL_size_19 (by decide +kernel) ?_
      exact ja_iret rfl rfl dL_size_20 (Nat.le_of_eq (Nat.zero_add c9)) (Nat.le_of_eq (Nat.zero_add s9)) (Or.inr ⟨_, hk, rfl⟩)
  · obtain ⟨hz, b, rfl⟩ := hkr _ _ _ hk
    refine ja_i2l dL_size_8 rfl ?_
    refine ja_last (n := 1) (j := 0) hz rfl (by decide) (by decide) dL_size_9 ?_
    refine ja_goto dL_size_10 (tgt := 21) (by decide) ?_
    refine ja_iconst (v := nI 0) dL_size_21 (by decide +kernel) ?_
    exact ja_iret rfl rfl dL_size_22 (Nat.le_of_eq (Nat.zero_add c9)) (Nat.le_of_eq (Nat.zero_add s9)) (Or.inl ⟨_, _, hk, rfl, rfl⟩)
theorem w_value (l : Launch) {Z : jZ} {D : jD} {p0 p1 : Int32} {c9 s9 : Nat} {kr : Option Value → jZ → jD → Prop} {kx : String → jZ → jD → Prop} (hM : ja_M l (mX7_value c9 s9) [.ref 0, .int p0, .int p1] Z D kr kx) (h0 : Z.2.1 0 = (7, 13)) (hkr : ∀ v Z1 D1, kr v Z1 D1 → Z1.2.1 200 = (13, 1) ∧ ∃ b : Int32, v = some (.int b)) (hkx : ∀ E Z1 D1, kx E Z1 D1 → E ∈ (["java/lang/IndexOutOfBoundsException", "java/lang/IllegalArgumentException"] : List String)) :
    ja_M l (mL_value c9 s9) [.ref 0, .int p0, .int p1, .ref 200] Z D (ja_wr kr kx g_i 200 ["java/lang/IndexOutOfBoundsException", "java/lang/IllegalArgumentException"]) ja_x0 := by
  refine ja_MofH (lv := [some (.ref 0), some (.int p0), some (.int p1), some (.ref 200), none]) pn_L rfl rfl (Nat.le_of_ble_eq_true rfl) rfl ?_
  refine ja_aload_n (i := 3) dL_value_0 rfl rfl ?_
  refine ja_iconst (v := nI 0) dL_value_1 (by decide +kernel) ?_
  refine ja_aload_n (i := 0) dL_value_2 rfl rfl ?_
  refine ja_iload_n (i := 1) dL_value_3 rfl rfl ?_
  refine ja_iload_n (i := 2) dL_value_4 rfl rfl ?_
  refine ja_callV (av := [.int p0, .int p1]) (st := [.int (nI 0), .ref 200]) hM (ce_X7_value c9 s9) im_X7_value se_X7_value lk_L_75 k_X7 h0 ⟨Nat.le_of_ble_eq_true rfl, Nat.le_of_ble_eq_true rfl⟩ dL_value_5 rfl rfl (Nat.le_of_ble_eq_true rfl) (Nat.le_of_eq (Nat.zero_add c9)) (Nat.le_of_eq (Nat.zero_add s9)) (fun E Z1 D1 hk => ?_) (fun v Z1 D1 hk => ?_)
  · have hE := hkx _ _ _ hk
    simp only [List.mem_cons, List.not_mem_nil, or_false] at hE
    rcases hE with rfl | rfl
    · refine ja_catch_i (hp := []) (h1 := (0, 10, 13, 21)) (hs := [(0, 10, 17, 13)]) rfl (by decide +kernel) (fun z hz => by cases hz) (by decide +kernel) (by decide) cl_L_21 cst_2 dL_value_13 rfl (Nat.le_of_ble_eq_true rfl) ?_
      refine ja_iconst (v := nI 1) dL_value_15 (by decide +kernel) ?_
      exact ja_iret rfl rfl dL_value_16 (Nat.le_of_eq (Nat.zero_add c9)) (Nat.le_of_eq (Nat.zero_add s9)) (Or.inr ⟨_, hk, rfl⟩)
    · refine ja_catch_i (hp := [(0, 10, 13, 21)]) (h1 := (0, 10, 17, 13)) (hs := []) rfl (by decide +kernel) (fun z hz => by
        simp only [List.mem_cons, List.not_mem_nil, or_false] at hz
        subst hz
        exact ⟨by decide, _, cl_L_21, by decide +kernel, by decide⟩) (by decide +kernel) (by decide) cl_L_13 cst_0 dL_value_17 rfl (Nat.le_of_ble_eq_true rfl) ?_
      refine ja_iconst (v := nI 2) dL_value_19 (by decide +kernel) ?_
      exact ja_iret rfl rfl dL_value_20 (Nat.le_of_eq (Nat.zero_add c9)) (Nat.le_of_eq (Nat.zero_add s9)) (Or.inr ⟨_, hk, rfl⟩)
  · obtain ⟨hz, b, rfl⟩ := hkr _ _ _ hk
    refine ja_i2l dL_value_8 rfl ?_
    refine ja_last (n := 1) (j := 0) hz rfl (by decide) (by decide) dL_value_9 ?_
    refine ja_goto dL_value_10 (tgt := 21) (by decide) ?_
    refine ja_iconst (v := nI 0) dL_value_21 (by decide +kernel) ?_
    exact ja_iret rfl rfl dL_value_22 (Nat.le_of_eq (Nat.zero_add c9)) (Nat.le_of_eq (Nat.zero_add s9)) (Or.inl ⟨_, _, hk, rfl, rfl⟩)
theorem w_rim (l : Launch) {Z : jZ} {D : jD} {p0 p1 : Int32} {c9 s9 : Nat} {kr : Option Value → jZ → jD → Prop} {kx : String → jZ → jD → Prop} (hM : ja_M l (mX7_rim c9 s9) [.ref 0, .int p0, .int p1] Z D kr kx) (h0 : Z.2.1 0 = (7, 13)) (hkr : ∀ v Z1 D1, kr v Z1 D1 → Z1.2.1 200 = (13, 1) ∧ ∃ b : Int32, v = some (.int b)) (hkx : ∀ E Z1 D1, kx E Z1 D1 → E ∈ (["java/lang/IndexOutOfBoundsException", "java/lang/IllegalArgumentException"] : List String)) :
    ja_M l (mL_rim c9 s9) [.ref 0, .int p0, .int p1, .ref 200] Z D (ja_wr kr kx g_i 200 ["java/lang/IndexOutOfBoundsException", "java/lang/IllegalArgumentException"]) ja_x0 := by
  refine ja_MofH (lv := [some (.ref 0), some (.int p0), some (.int p1), some (.ref 200), none]) pn_L rfl rfl (Nat.le_of_ble_eq_true rfl) rfl ?_
  refine ja_aload_n (i := 3) dL_rim_0 rfl rfl ?_
  refine ja_iconst (v := nI 0) dL_rim_1 (by decide +kernel) ?_
  refine ja_aload_n (i := 0) dL_rim_2 rfl rfl ?_
  refine ja_iload_n (i := 1) dL_rim_3 rfl rfl ?_
  refine ja_iload_n (i := 2) dL_rim_4 rfl rfl ?_
  refine ja_callV (av := [.int p0, .int p1]) (st := [.int (nI 0), .ref 200]) hM (ce_X7_rim c9 s9) im_X7_rim se_X7_rim lk_L_78 k_X7 h0 ⟨Nat.le_of_ble_eq_true rfl, Nat.le_of_ble_eq_true rfl⟩ dL_rim_5 rfl rfl (Nat.le_of_ble_eq_true rfl) (Nat.le_of_eq (Nat.zero_add c9)) (Nat.le_of_eq (Nat.zero_add s9)) (fun E Z1 D1 hk => ?_) (fun v Z1 D1 hk => ?_)
  · have hE := hkx _ _ _ hk
    simp only [List.mem_cons, List.not_mem_nil, or_false] at hE
    rcases hE with rfl | rfl
    · refine ja_catch_i (hp := []) (h1 := (0, 10, 13, 21)) (hs := [(0, 10, 17, 13)]) rfl (by decide +kernel) (fun z hz => by cases hz) (by decide +kernel) (by decide) cl_L_21 cst_2 dL_rim_13 rfl (Nat.le_of_ble_eq_true rfl) ?_
      refine ja_iconst (v := nI 1) dL_rim_15 (by decide +kernel) ?_
      exact ja_iret rfl rfl dL_rim_16 (Nat.le_of_eq (Nat.zero_add c9)) (Nat.le_of_eq (Nat.zero_add s9)) (Or.inr ⟨_, hk, rfl⟩)
    · refine ja_catch_i (hp := [(0, 10, 13, 21)]) (h1 := (0, 10, 17, 13)) (hs := []) rfl (by decide +kernel) (fun z hz => by
        simp only [List.mem_cons, List.not_mem_nil, or_false] at hz
        subst hz
        exact ⟨by decide, _, cl_L_21, by decide +kernel, by decide⟩) (by decide +kernel) (by decide) cl_L_13 cst_0 dL_rim_17 rfl (Nat.le_of_ble_eq_true rfl) ?_
      refine ja_iconst (v := nI 2) dL_rim_19 (by decide +kernel) ?_
      exact ja_iret rfl rfl dL_rim_20 (Nat.le_of_eq (Nat.zero_add c9)) (Nat.le_of_eq (Nat.zero_add s9)) (Or.inr ⟨_, hk, rfl⟩)
  · obtain ⟨hz, b, rfl⟩ := hkr _ _ _ hk
    refine ja_i2l dL_rim_8 rfl ?_
    refine ja_last (n := 1) (j := 0) hz rfl (by decide) (by decide) dL_rim_9 ?_
    refine ja_goto dL_rim_10 (tgt := 21) (by decide) ?_
    refine ja_iconst (v := nI 0) dL_rim_21 (by decide +kernel) ?_
    exact ja_iret rfl rfl dL_rim_22 (Nat.le_of_eq (Nat.zero_add c9)) (Nat.le_of_eq (Nat.zero_add s9)) (Or.inl ⟨_, _, hk, rfl, rfl⟩)
theorem w_border (l : Launch) {Z : jZ} {D : jD} {p0 p1 p2 : Int32} {c9 s9 : Nat} {kr : Option Value → jZ → jD → Prop} {kx : String → jZ → jD → Prop} (hM : ja_M l (mX7_border c9 s9) [.ref 0, .int p0, .int p1, .int p2] Z D kr kx) (h0 : Z.2.1 0 = (7, 13)) (hkr : ∀ v Z1 D1, kr v Z1 D1 → Z1.2.1 200 = (13, 1) ∧ ∃ b : Int32, v = some (.int b)) (hkx : ∀ E Z1 D1, kx E Z1 D1 → E ∈ (["java/lang/IndexOutOfBoundsException", "java/lang/IllegalArgumentException"] : List String)) :
    ja_M l (mL_border c9 s9) [.ref 0, .int p0, .int p1, .int p2, .ref 200] Z D (ja_wr kr kx g_i 200 ["java/lang/IndexOutOfBoundsException", "java/lang/IllegalArgumentException"]) ja_x0 := by
  refine ja_MofH (lv := [some (.ref 0), some (.int p0), some (.int p1), some (.int p2), some (.ref 200), none]) pn_L rfl rfl (Nat.le_of_ble_eq_true rfl) rfl ?_
  refine ja_aload dL_border_0 rfl ?_
  refine ja_iconst (v := nI 0) dL_border_2 (by decide +kernel) ?_
  refine ja_aload_n (i := 0) dL_border_3 rfl rfl ?_
  refine ja_iload_n (i := 1) dL_border_4 rfl rfl ?_
  refine ja_iload_n (i := 2) dL_border_5 rfl rfl ?_
  refine ja_iload_n (i := 3) dL_border_6 rfl rfl ?_
  refine ja_callV (av := [.int p0, .int p1, .int p2]) (st := [.int (nI 0), .ref 200]) hM (ce_X7_border c9 s9) im_X7_border se_X7_border lk_L_81 k_X7 h0 ⟨Nat.le_of_ble_eq_true rfl, Nat.le_of_ble_eq_true rfl⟩ dL_border_7 rfl rfl (Nat.le_of_ble_eq_true rfl) (Nat.le_of_eq (Nat.zero_add c9)) (Nat.le_of_eq (Nat.zero_add s9)) (fun E Z1 D1 hk => ?_) (fun v Z1 D1 hk => ?_)
  · have hE := hkx _ _ _ hk
    simp only [List.mem_cons, List.not_mem_nil, or_false] at hE
    rcases hE with rfl | rfl
    · refine ja_catch_i (hp := []) (h1 := (0, 12, 15, 21)) (hs := [(0, 12, 19, 13)]) rfl (by decide +kernel) (fun z hz => by cases hz) (by decide +kernel) (by decide) cl_L_21 cst_2 dL_border_15 rfl (Nat.le_of_ble_eq_true rfl) ?_
      refine ja_iconst (v := nI 1) dL_border_17 (by decide +kernel) ?_
      exact ja_iret rfl rfl dL_border_18 (Nat.le_of_eq (Nat.zero_add c9)) (Nat.le_of_eq (Nat.zero_add s9)) (Or.inr ⟨_, hk, rfl⟩)
    · refine ja_catch_i (hp := [(0, 12, 15, 21)]) (h1 := (0, 12, 19, 13)) (hs := []) rfl (by decide +kernel) (fun z hz => by
        simp only [List.mem_cons, List.not_mem_nil, or_false] at hz
        subst hz
        exact ⟨by decide, _, cl_L_21, by decide +kernel, by decide⟩) (by decide +kernel) (by decide) cl_L_13 cst_0 dL_border_19 rfl (Nat.le_of_ble_eq_true rfl) ?_
      refine ja_iconst (v := nI 2) dL_border_21 (by decide +kernel) ?_
      exact ja_iret rfl rfl dL_border_22 (Nat.le_of_eq (Nat.zero_add c9)) (Nat.le_of_eq (Nat.zero_add s9)) (Or.inr ⟨_, hk, rfl⟩)
  · obtain ⟨hz, b, rfl⟩ := hkr _ _ _ hk
    refine ja_i2l dL_border_10 rfl ?_
    refine ja_last (n := 1) (j := 0) hz rfl (by decide) (by decide) dL_border_11 ?_
    refine ja_goto dL_border_12 (tgt := 23) (by decide) ?_
    refine ja_iconst (v := nI 0) dL_border_23 (by decide +kernel) ?_
    exact ja_iret rfl rfl dL_border_24 (Nat.le_of_eq (Nat.zero_add c9)) (Nat.le_of_eq (Nat.zero_add s9)) (Or.inl ⟨_, _, hk, rfl, rfl⟩)
theorem w_distance (l : Launch) {Z : jZ} {D : jD} {p0 p1 p2 : Int32} {c9 s9 : Nat} {kr : Option Value → jZ → jD → Prop} {kx : String → jZ → jD → Prop} (hM : ja_M l (mX7_distance c9 s9) [.ref 0, .int p0, .int p1, .int p2] Z D kr kx) (h0 : Z.2.1 0 = (7, 13)) (hkr : ∀ v Z1 D1, kr v Z1 D1 → Z1.2.1 200 = (13, 1) ∧ ∃ b : Int32, v = some (.int b)) (hkx : ∀ E Z1 D1, kx E Z1 D1 → E ∈ (["java/lang/IndexOutOfBoundsException", "java/lang/IllegalArgumentException", "java/util/NoSuchElementException"] : List String)) :
    ja_M l (mL_distance c9 s9) [.ref 0, .int p0, .int p1, .int p2, .ref 200] Z D (ja_wr kr kx g_i 200 ["java/lang/IndexOutOfBoundsException", "java/lang/IllegalArgumentException", "java/util/NoSuchElementException"]) ja_x0 := by
  refine ja_MofH (lv := [some (.ref 0), some (.int p0), some (.int p1), some (.int p2), some (.ref 200), none]) pn_L rfl rfl (Nat.le_of_ble_eq_true rfl) rfl ?_
  refine ja_aload dL_distance_0 rfl ?_
  refine ja_iconst (v := nI 0) dL_distance_2 (by decide +kernel) ?_
  refine ja_aload_n (i := 0) dL_distance_3 rfl rfl ?_
  refine ja_iload_n (i := 1) dL_distance_4 rfl rfl ?_
  refine ja_iload_n (i := 2) dL_distance_5 rfl rfl ?_
  refine ja_iload_n (i := 3) dL_distance_6 rfl rfl ?_
  refine ja_callV (av := [.int p0, .int p1, .int p2]) (st := [.int (nI 0), .ref 200]) hM (ce_X7_distance c9 s9) im_X7_distance se_X7_distance lk_L_84 k_X7 h0 ⟨Nat.le_of_ble_eq_true rfl, Nat.le_of_ble_eq_true rfl⟩ dL_distance_7 rfl rfl (Nat.le_of_ble_eq_true rfl) (Nat.le_of_eq (Nat.zero_add c9)) (Nat.le_of_eq (Nat.zero_add s9)) (fun E Z1 D1 hk => ?_) (fun v Z1 D1 hk => ?_)
  · have hE := hkx _ _ _ hk
    simp only [List.mem_cons, List.not_mem_nil, or_false] at hE
    rcases hE with rfl | rfl | rfl
    · refine ja_catch_i (hp := []) (h1 := (0, 12, 15, 21)) (hs := [(0, 12, 19, 13), (0, 12, 23, 43)]) rfl (by decide +kernel) (fun z hz => by cases hz) (by decide +kernel) (by decide) cl_L_21 cst_2 dL_distance_15 rfl (Nat.le_of_ble_eq_true rfl) ?_
      refine ja_iconst (v := nI 1) dL_distance_17 (by decide +kernel) ?_
      exact ja_iret rfl rfl dL_distance_18 (Nat.le_of_eq (Nat.zero_add c9)) (Nat.le_of_eq (Nat.zero_add s9)) (Or.inr ⟨_, hk, rfl⟩)
    · refine ja_catch_i (hp := [(0, 12, 15, 21)]) (h1 := (0, 12, 19, 13)) (hs := [(0, 12, 23, 43)]) rfl (by decide +kernel) (fun z hz => by
        simp only [List.mem_cons, List.not_mem_nil, or_false] at hz
        subst hz
        exact ⟨by decide, _, cl_L_21, by decide +kernel, by decide⟩) (by decide +kernel) (by decide) cl_L_13 cst_0 dL_distance_19 rfl (Nat.le_of_ble_eq_true rfl) ?_
      refine ja_iconst (v := nI 2) dL_distance_21 (by decide +kernel) ?_
      exact ja_iret rfl rfl dL_distance_22 (Nat.le_of_eq (Nat.zero_add c9)) (Nat.le_of_eq (Nat.zero_add s9)) (Or.inr ⟨_, hk, rfl⟩)
    · refine ja_catch_i (hp := [(0, 12, 15, 21), (0, 12, 19, 13)]) (h1 := (0, 12, 23, 43)) (hs := []) rfl (by decide +kernel) (fun z hz => by
        simp only [List.mem_cons, List.not_mem_nil, or_false] at hz
        rcases hz with rfl | rfl
        · exact ⟨by decide, _, cl_L_21, by decide +kernel, by decide⟩
        · exact ⟨by decide, _, cl_L_13, by decide +kernel, by decide⟩) (by decide +kernel) (by decide) cl_L_43 cst_4 dL_distance_23 rfl (Nat.le_of_ble_eq_true rfl) ?_
      refine ja_iconst (v := nI 3) dL_distance_25 (by decide +kernel) ?_
      exact ja_iret rfl rfl dL_distance_26 (Nat.le_of_eq (Nat.zero_add c9)) (Nat.le_of_eq (Nat.zero_add s9)) (Or.inr ⟨_, hk, rfl⟩)
  · obtain ⟨hz, b, rfl⟩ := hkr _ _ _ hk
    refine ja_i2l dL_distance_10 rfl ?_
    refine ja_last (n := 1) (j := 0) hz rfl (by decide) (by decide) dL_distance_11 ?_
    refine ja_goto dL_distance_12 (tgt := 27) (by decide) ?_
    refine ja_iconst (v := nI 0) dL_distance_27 (by decide +kernel) ?_
    exact ja_iret rfl rfl dL_distance_28 (Nat.le_of_eq (Nat.zero_add c9)) (Nat.le_of_eq (Nat.zero_add s9)) (Or.inl ⟨_, _, hk, rfl, rfl⟩)
theorem w_nearest (l : Launch) {Z : jZ} {D : jD} {p0 p1 : Int32} {c9 s9 : Nat} {kr : Option Value → jZ → jD → Prop} {kx : String → jZ → jD → Prop} (hM : ja_M l (mX7_nearest c9 s9) [.ref 0, .int p0, .int p1] Z D kr kx) (h0 : Z.2.1 0 = (7, 13)) (hkr : ∀ v Z1 D1, kr v Z1 D1 → Z1.2.1 200 = (13, 1) ∧ ∃ b : Int32, v = some (.int b)) (hkx : ∀ E Z1 D1, kx E Z1 D1 → E ∈ (["java/lang/IndexOutOfBoundsException", "java/lang/IllegalArgumentException", "java/util/NoSuchElementException"] : List String)) :
    ja_M l (mL_nearest c9 s9) [.ref 0, .int p0, .int p1, .ref 200] Z D (ja_wr kr kx g_i 200 ["java/lang/IndexOutOfBoundsException", "java/lang/IllegalArgumentException", "java/util/NoSuchElementException"]) ja_x0 := by
  refine ja_MofH (lv := [some (.ref 0), some (.int p0), some (.int p1), some (.ref 200), none]) pn_L rfl rfl (Nat.le_of_ble_eq_true rfl) rfl ?_
  refine ja_aload_n (i := 3) dL_nearest_0 rfl rfl ?_
  refine ja_iconst (v := nI 0) dL_nearest_1 (by decide +kernel) ?_
  refine ja_aload_n (i := 0) dL_nearest_2 rfl rfl ?_
  refine ja_iload_n (i := 1) dL_nearest_3 rfl rfl ?_
  refine ja_iload_n (i := 2) dL_nearest_4 rfl rfl ?_
  refine ja_callV (av := [.int p0, .int p1]) (st := [.int (nI 0), .ref 200]) hM (ce_X7_nearest c9 s9) im_X7_nearest se_X7_nearest lk_L_87 k_X7 h0 ⟨Nat.le_of_ble_eq_true rfl, Nat.le_of_ble_eq_true rfl⟩ dL_nearest_5 rfl rfl (Nat.le_of_ble_eq_true rfl) (Nat.le_of_eq (Nat.zero_add c9)) (Nat.le_of_eq (Nat.zero_add s9)) (fun E Z1 D1 hk => ?_) (fun v Z1 D1 hk => ?_)
  · have hE := hkx _ _ _ hk
    simp only [List.mem_cons, List.not_mem_nil, or_false] at hE
    rcases hE with rfl | rfl | rfl
    · refine ja_catch_i (hp := []) (h1 := (0, 10, 13, 21)) (hs := [(0, 10, 17, 13), (0, 10, 21, 43)]) rfl (by decide +kernel) (fun z hz => by cases hz) (by decide +kernel) (by decide) cl_L_21 cst_2 dL_nearest_13 rfl (Nat.le_of_ble_eq_true rfl) ?_
      refine ja_iconst (v := nI 1) dL_nearest_15 (by decide +kernel) ?_
      exact ja_iret rfl rfl dL_nearest_16 (Nat.le_of_eq (Nat.zero_add c9)) (Nat.le_of_eq (Nat.zero_add s9)) (Or.inr ⟨_, hk, rfl⟩)
    · refine ja_catch_i (hp := [(0, 10, 13, 21)]) (h1 := (0, 10, 17, 13)) (hs := [(0, 10, 21, 43)]) rfl (by decide +kernel) (fun z hz => by
        simp only [List.mem_cons, List.not_mem_nil, or_false] at hz
        subst hz
        exact ⟨by decide, _, cl_L_21, by decide +kernel, by decide⟩) (by decide +kernel) (by decide) cl_L_13 cst_0 dL_nearest_17 rfl (Nat.le_of_ble_eq_true rfl) ?_
      refine ja_iconst (v := nI 2) dL_nearest_19 (by decide +kernel) ?_
      exact ja_iret rfl rfl dL_nearest_20 (Nat.le_of_eq (Nat.zero_add c9)) (Nat.le_of_eq (Nat.zero_add s9)) (Or.inr ⟨_, hk, rfl⟩)
    · refine ja_catch_i (hp := [(0, 10, 13, 21), (0, 10, 17, 13)]) (h1 := (0, 10, 21, 43)) (hs := []) rfl (by decide +kernel) (fun z hz => by
        simp only [List.mem_cons, List.not_mem_nil, or_false] at hz
        rcases hz with rfl | rfl
        · exact ⟨by decide, _, cl_L_21, by decide +kernel, by decide⟩
        · exact ⟨by decide, _, cl_L_13, by decide +kernel, by decide⟩) (by decide +kernel) (by decide) cl_L_43 cst_4 dL_nearest_21 rfl (Nat.le_of_ble_eq_true rfl) ?_
      refine ja_iconst (v := nI 3) dL_nearest_23 (by decide +kernel) ?_
      exact ja_iret rfl rfl dL_nearest_24 (Nat.le_of_eq (Nat.zero_add c9)) (Nat.le_of_eq (Nat.zero_add s9)) (Or.inr ⟨_, hk, rfl⟩)
  · obtain ⟨hz, b, rfl⟩ := hkr _ _ _ hk
    refine ja_i2l dL_nearest_8 rfl ?_
    refine ja_last (n := 1) (j := 0) hz rfl (by decide) (by decide) dL_nearest_9 ?_
    refine ja_goto dL_nearest_10 (tgt := 25) (by decide) ?_
    refine ja_iconst (v := nI 0) dL_nearest_25 (by decide +kernel) ?_
    exact ja_iret rfl rfl dL_nearest_26 (Nat.le_of_eq (Nat.zero_add c9)) (Nat.le_of_eq (Nat.zero_add s9)) (Or.inl ⟨_, _, hk, rfl, rfl⟩)
theorem w_belt (l : Launch) {Z : jZ} {D : jD} {p0 p1 p2 : Int32} {c9 s9 : Nat} {kr : Option Value → jZ → jD → Prop} {kx : String → jZ → jD → Prop} (hM : ja_M l (mX7_belt c9 s9) [.ref 0, .int p0, .int p1, .int p2] Z D kr kx) (h0 : Z.2.1 0 = (7, 13)) (hkr : ∀ v Z1 D1, kr v Z1 D1 → Z1.2.1 200 = (13, 1) ∧ ∃ b : Int32, v = some (.int b)) (hkx : ∀ E Z1 D1, kx E Z1 D1 → E ∈ (["java/lang/IndexOutOfBoundsException", "java/lang/IllegalArgumentException"] : List String)) :
    ja_M l (mL_belt c9 s9) [.ref 0, .int p0, .int p1, .int p2, .ref 200] Z D (ja_wr kr kx g_i 200 ["java/lang/IndexOutOfBoundsException", "java/lang/IllegalArgumentException"]) ja_x0 := by
  refine ja_MofH (lv := [some (.ref 0), some (.int p0), some (.int p1), some (.int p2), some (.ref 200), none]) pn_L rfl rfl (Nat.le_of_ble_eq_true rfl) rfl ?_
  refine ja_aload dL_belt_0 rfl ?_
  refine ja_iconst (v := nI 0) dL_belt_2 (by decide +kernel) ?_
  refine ja_aload_n (i := 0) dL_belt_3 rfl rfl ?_
  refine ja_iload_n (i := 1) dL_belt_4 rfl rfl ?_
  refine ja_iload_n (i := 2) dL_belt_5 rfl rfl ?_
  refine ja_iload_n (i := 3) dL_belt_6 rfl rfl ?_
  refine ja_callV (av := [.int p0, .int p1, .int p2]) (st := [.int (nI 0), .ref 200]) hM (ce_X7_belt c9 s9) im_X7_belt se_X7_belt lk_L_90 k_X7 h0 ⟨Nat.le_of_ble_eq_true rfl, Nat.le_of_ble_eq_true rfl⟩ dL_belt_7 rfl rfl (Nat.le_of_ble_eq_true rfl) (Nat.le_of_eq (Nat.zero_add c9)) (Nat.le_of_eq (Nat.zero_add s9)) (fun E Z1 D1 hk => ?_) (fun v Z1 D1 hk => ?_)
  · have hE := hkx _ _ _ hk
    simp only [List.mem_cons, List.not_mem_nil, or_false] at hE
    rcases hE with rfl | rfl
    · refine ja_catch_i (hp := []) (h1 := (0, 12, 15, 21)) (hs := [(0, 12, 19, 13)]) rfl (by decide +kernel) (fun z hz => by cases hz) (by decide +kernel) (by decide) cl_L_21 cst_2 dL_belt_15 rfl (Nat.le_of_ble_eq_true rfl) ?_
      refine ja_iconst (v := nI 1) dL_belt_17 (by decide +kernel) ?_
      exact ja_iret rfl rfl dL_belt_18 (Nat.le_of_eq (Nat.zero_add c9)) (Nat.le_of_eq (Nat.zero_add s9)) (Or.inr ⟨_, hk, rfl⟩)
    · refine ja_catch_i (hp := [(0, 12, 15, 21)]) (h1 := (0, 12, 19, 13)) (hs := []) rfl (by decide +kernel) (fun z hz => by
        simp only [List.mem_cons, List.not_mem_nil, or_false] at hz
        subst hz
        exact ⟨by decide, _, cl_L_21, by decide +kernel, by decide⟩) (by decide +kernel) (by decide) cl_L_13 cst_0 dL_belt_19 rfl (Nat.le_of_ble_eq_true rfl) ?_
      refine ja_iconst (v := nI 2) dL_belt_21 (by decide +kernel) ?_
      exact ja_iret rfl rfl dL_belt_22 (Nat.le_of_eq (Nat.zero_add c9)) (Nat.le_of_eq (Nat.zero_add s9)) (Or.inr ⟨_, hk, rfl⟩)
  · obtain ⟨hz, b, rfl⟩ := hkr _ _ _ hk
    refine ja_i2l dL_belt_10 rfl ?_
    refine ja_last (n := 1) (j := 0) hz rfl (by decide) (by decide) dL_belt_11 ?_
    refine ja_goto dL_belt_12 (tgt := 23) (by decide) ?_
    refine ja_iconst (v := nI 0) dL_belt_23 (by decide +kernel) ?_
    exact ja_iret rfl rfl dL_belt_24 (Nat.le_of_eq (Nat.zero_add c9)) (Nat.le_of_eq (Nat.zero_add s9)) (Or.inl ⟨_, _, hk, rfl, rfl⟩)
theorem w_checkOut (l : Launch) {Z : jZ} {D : jD} {p0 p1 p2 p3 p4 : Int32} {c9 s9 : Nat} {kr : Option Value → jZ → jD → Prop} {kx : String → jZ → jD → Prop} (hM : ja_M l (mX7_checkOut c9 s9) [.ref 0, .int p0, .int p1, .int p2, .int p3, .int p4] Z D kr kx) (h0 : Z.2.1 0 = (7, 13)) (hkr : ∀ v Z1 D1, kr v Z1 D1 → Z1.2.1 200 = (13, 1) ∧ ∃ b : Int32, v = some (.int b)) (hkx : ∀ E Z1 D1, kx E Z1 D1 → E ∈ (["java/lang/IndexOutOfBoundsException", "java/lang/IllegalArgumentException", "java/lang/IllegalStateException"] : List String)) :
    ja_M l (mL_checkOut c9 s9) [.ref 0, .int p0, .int p1, .int p2, .int p3, .int p4, .ref 200] Z D (ja_wr kr kx g_i 200 ["java/lang/IndexOutOfBoundsException", "java/lang/IllegalArgumentException", "java/lang/IllegalStateException"]) ja_x0 := by
  refine ja_MofH (lv := [some (.ref 0), some (.int p0), some (.int p1), some (.int p2), some (.int p3), some (.int p4), some (.ref 200), none]) pn_L rfl rfl (Nat.le_of_ble_eq_true rfl) rfl ?_
  refine ja_aload dL_checkOut_0 rfl ?_
  refine ja_iconst (v := nI 0) dL_checkOut_2 (by decide +kernel) ?_
  refine ja_aload_n (i := 0) dL_checkOut_3 rfl rfl ?_
  refine ja_iload_n (i := 1) dL_checkOut_4 rfl rfl ?_
  refine ja_iload_n (i := 2) dL_checkOut_5 rfl rfl ?_
  refine ja_iload_n (i := 3) dL_checkOut_6 rfl rfl ?_
  refine ja_iload dL_checkOut_7 rfl ?_
  refine ja_iload dL_checkOut_9 rfl ?_
  refine ja_callV (av := [.int p0, .int p1, .int p2, .int p3, .int p4]) (st := [.int (nI 0), .ref 200]) hM (ce_X7_checkOut c9 s9) im_X7_checkOut se_X7_checkOut lk_L_93 k_X7 h0 ⟨Nat.le_of_ble_eq_true rfl, Nat.le_of_ble_eq_true rfl⟩ dL_checkOut_11 rfl rfl (Nat.le_of_ble_eq_true rfl) (Nat.le_of_eq (Nat.zero_add c9)) (Nat.le_of_eq (Nat.zero_add s9)) (fun E Z1 D1 hk => ?_) (fun v Z1 D1 hk => ?_)
  · have hE := hkx _ _ _ hk
    simp only [List.mem_cons, List.not_mem_nil, or_false] at hE
    rcases hE with rfl | rfl | rfl
    · refine ja_catch_i (hp := []) (h1 := (0, 16, 19, 21)) (hs := [(0, 16, 23, 13), (0, 16, 27, 15)]) rfl (by decide +kernel) (fun z hz => by cases hz) (by decide +kernel) (by decide) cl_L_21 cst_2 dL_checkOut_19 rfl (Nat.le_of_ble_eq_true rfl) ?_
      refine ja_iconst (v := nI 1) dL_checkOut_21 (by decide +kernel) ?_
      exact ja_iret rfl rfl dL_checkOut_22 (Nat.le_of_eq (Nat.zero_add c9)) (Nat.le_of_eq (Nat.zero_add s9)) (Or.inr ⟨_, hk, rfl⟩)
    · refine ja_catch_i (hp := [(0, 16, 19, 21)]) (h1 := (0, 16, 23, 13)) (hs := [(0, 16, 27, 15)]) rfl (by decide +kernel) (fun z hz => by
        simp only [List.mem_cons, List.not_mem_nil, or_false] at hz
        subst hz
        exact ⟨by decide, _, cl_L_21, by decide +kernel, by decide⟩) (by decide +kernel) (by decide) cl_L_13 cst_0 dL_checkOut_23 rfl (Nat.le_of_ble_eq_true rfl) ?_
      refine ja_iconst (v := nI 2) dL_checkOut_25 (by decide +kernel) ?_
      exact ja_iret rfl rfl dL_checkOut_26 (Nat.le_of_eq (Nat.zero_add c9)) (Nat.le_of_eq (Nat.zero_add s9)) (Or.inr ⟨_, hk, rfl⟩)
    · refine ja_catch_i (hp := [(0, 16, 19, 21), (0, 16, 23, 13)]) (h1 := (0, 16, 27, 15)) (hs := []) rfl (by decide +kernel) (fun z hz => by
        simp only [List.mem_cons, List.not_mem_nil, or_false] at hz
        rcases hz with rfl | rfl
        · exact ⟨by decide, _, cl_L_21, by decide +kernel, by decide⟩
        · exact ⟨by decide, _, cl_L_13, by decide +kernel, by decide⟩) (by decide +kernel) (by decide) cl_L_15 cst_1 dL_checkOut_27 rfl (Nat.le_of_ble_eq_true rfl) ?_
      refine ja_iconst (v := nI 3) dL_checkOut_29 (by decide +kernel) ?_
      exact ja_iret rfl rfl dL_checkOut_30 (Nat.le_of_eq (Nat.zero_add c9)) (Nat.le_of_eq (Nat.zero_add s9)) (Or.inr ⟨_, hk, rfl⟩)
  · obtain ⟨hz, b, rfl⟩ := hkr _ _ _ hk
    refine ja_i2l dL_checkOut_14 rfl ?_
    refine ja_last (n := 1) (j := 0) hz rfl (by decide) (by decide) dL_checkOut_15 ?_
    refine ja_goto dL_checkOut_16 (tgt := 31) (by decide) ?_
    refine ja_iconst (v := nI 0) dL_checkOut_31 (by decide +kernel) ?_
    exact ja_iret rfl rfl dL_checkOut_32 (Nat.le_of_eq (Nat.zero_add c9)) (Nat.le_of_eq (Nat.zero_add s9)) (Or.inl ⟨_, _, hk, rfl, rfl⟩)
theorem w_change (l : Launch) {Z : jZ} {D : jD} {p0 p1 p2 : Int32} {c9 s9 : Nat} {kr : Option Value → jZ → jD → Prop} {kx : String → jZ → jD → Prop} (hM : ja_M l (mX7_change c9 s9) [.ref 0, .int p0, .int p1, .int p2] Z D kr kx) (h0 : Z.2.1 0 = (7, 13)) (hkr : ∀ v Z1 D1, kr v Z1 D1 → Z1.2.1 200 = (13, 1) ∧ ∃ b : Int32, v = some (.int b)) (hkx : ∀ E Z1 D1, kx E Z1 D1 → E ∈ (["java/util/NoSuchElementException", "java/lang/IndexOutOfBoundsException", "java/lang/IllegalArgumentException"] : List String)) :
    ja_M l (mL_change c9 s9) [.ref 0, .int p0, .int p1, .int p2, .ref 200] Z D (ja_wr kr kx g_i 200 ["java/util/NoSuchElementException", "java/lang/IndexOutOfBoundsException", "java/lang/IllegalArgumentException"]) ja_x0 := by
  refine ja_MofH (lv := [some (.ref 0), some (.int p0), some (.int p1), some (.int p2), some (.ref 200), none]) pn_L rfl rfl (Nat.le_of_ble_eq_true rfl) rfl ?_
  refine ja_aload dL_change_0 rfl ?_
  refine ja_iconst (v := nI 0) dL_change_2 (by decide +kernel) ?_
  refine ja_aload_n (i := 0) dL_change_3 rfl rfl ?_
  refine ja_iload_n (i := 1) dL_change_4 rfl rfl ?_
  refine ja_iload_n (i := 2) dL_change_5 rfl rfl ?_
  refine ja_iload_n (i := 3) dL_change_6 rfl rfl ?_
  refine ja_callV (av := [.int p0, .int p1, .int p2]) (st := [.int (nI 0), .ref 200]) hM (ce_X7_change c9 s9) im_X7_change se_X7_change lk_L_97 k_X7 h0 ⟨Nat.le_of_ble_eq_true rfl, Nat.le_of_ble_eq_true rfl⟩ dL_change_7 rfl rfl (Nat.le_of_ble_eq_true rfl) (Nat.le_of_eq (Nat.zero_add c9)) (Nat.le_of_eq (Nat.zero_add s9)) (fun E Z1 D1 hk => ?_) (fun v Z1 D1 hk => ?_)
  · have hE := hkx _ _ _ hk
    simp only [List.mem_cons, List.not_mem_nil, or_false] at hE
    rcases hE with rfl | rfl | rfl
    · refine ja_catch_i (hp := []) (h1 := (0, 12, 15, 43)) (hs := [(0, 12, 19, 21), (0, 12, 23, 13)]) rfl (by decide +kernel) (fun z hz => by cases hz) (by decide +kernel) (by decide) cl_L_43 cst_4 dL_change_15 rfl (Nat.le_of_ble_eq_true rfl) ?_
      refine ja_iconst (v := nI 1) dL_change_17 (by decide +kernel) ?_
      exact ja_iret rfl rfl dL_change_18 (Nat.le_of_eq (Nat.zero_add c9)) (Nat.le_of_eq (Nat.zero_add s9)) (Or.inr ⟨_, hk, rfl⟩)
    · refine ja_catch_i (hp := [(0, 12, 15, 43)]) (h1 := (0, 12, 19, 21)) (hs := [(0, 12, 23, 13)]) rfl (by decide +kernel) (fun z hz => by
        simp only [List.mem_cons, List.not_mem_nil, or_false] at hz
        subst hz
        exact ⟨by decide, _, cl_L_43, by decide +kernel, by decide⟩) (by decide +kernel) (by decide) cl_L_21 cst_2 dL_change_19 rfl (Nat.le_of_ble_eq_true rfl) ?_
      refine ja_iconst (v := nI 2) dL_change_21 (by decide +kernel) ?_
      exact ja_iret rfl rfl dL_change_22 (Nat.le_of_eq (Nat.zero_add c9)) (Nat.le_of_eq (Nat.zero_add s9)) (Or.inr ⟨_, hk, rfl⟩)
    · refine ja_catch_i (hp := [(0, 12, 15, 43), (0, 12, 19, 21)]) (h1 := (0, 12, 23, 13)) (hs := []) rfl (by decide +kernel) (fun z hz => by
        simp only [List.mem_cons, List.not_mem_nil, or_false] at hz
        rcases hz with rfl | rfl
        · exact ⟨by decide, _, cl_L_43, by decide +kernel, by decide⟩
        · exact ⟨by decide, _, cl_L_21, by decide +kernel, by decide⟩) (by decide +kernel) (by decide) cl_L_13 cst_0 dL_change_23 rfl (Nat.le_of_ble_eq_true rfl) ?_
      refine ja_iconst (v := nI 3) dL_change_25 (by decide +kernel) ?_
      exact ja_iret rfl rfl dL_change_26 (Nat.le_of_eq (Nat.zero_add c9)) (Nat.le_of_eq (Nat.zero_add s9)) (Or.inr ⟨_, hk, rfl⟩)
  · obtain ⟨hz, b, rfl⟩ := hkr _ _ _ hk
    refine ja_i2l dL_change_10 rfl ?_
    refine ja_last (n := 1) (j := 0) hz rfl (by decide) (by decide) dL_change_11 ?_
    refine ja_goto dL_change_12 (tgt := 27) (by decide) ?_
    refine ja_iconst (v := nI 0) dL_change_27 (by decide +kernel) ?_
    exact ja_iret rfl rfl dL_change_28 (Nat.le_of_eq (Nat.zero_add c9)) (Nat.le_of_eq (Nat.zero_add s9)) (Or.inl ⟨_, _, hk, rfl, rfl⟩)
theorem w_conflicts (l : Launch) {Z : jZ} {D : jD} {p0 : Int32} {c9 s9 : Nat} {kr : Option Value → jZ → jD → Prop} {kx : String → jZ → jD → Prop} (hM : ja_M l (mX7_conflicts c9 s9) [.ref 0, .int p0] Z D kr kx) (h0 : Z.2.1 0 = (7, 13)) (hkr : ∀ v Z1 D1, kr v Z1 D1 → Z1.2.1 200 = (13, 1) ∧ ∃ b : Int32, v = some (.int b)) (hkx : ∀ E Z1 D1, kx E Z1 D1 → E ∈ (["java/util/NoSuchElementException"] : List String)) :
    ja_M l (mL_conflicts c9 s9) [.ref 0, .int p0, .ref 200] Z D (ja_wr kr kx g_i 200 ["java/util/NoSuchElementException"]) ja_x0 := by
  refine ja_MofH (lv := [some (.ref 0), some (.int p0), some (.ref 200), none]) pn_L rfl rfl (Nat.le_of_ble_eq_true rfl) rfl ?_
  refine ja_aload_n (i := 2) dL_conflicts_0 rfl rfl ?_
  refine ja_iconst (v := nI 0) dL_conflicts_1 (by decide +kernel) ?_
  refine ja_aload_n (i := 0) dL_conflicts_2 rfl rfl ?_
  refine ja_iload_n (i := 1) dL_conflicts_3 rfl rfl ?_
  refine ja_callV (av := [.int p0]) (st := [.int (nI 0), .ref 200]) hM (ce_X7_conflicts c9 s9) im_X7_conflicts se_X7_conflicts lk_L_100 k_X7 h0 ⟨Nat.le_of_ble_eq_true rfl, Nat.le_of_ble_eq_true rfl⟩ dL_conflicts_4 rfl rfl (Nat.le_of_ble_eq_true rfl) (Nat.le_of_eq (Nat.zero_add c9)) (Nat.le_of_eq (Nat.zero_add s9)) (fun E Z1 D1 hk => ?_) (fun v Z1 D1 hk => ?_)
  · have hE := hkx _ _ _ hk
    simp only [List.mem_cons, List.not_mem_nil, or_false] at hE
    subst hE
    · refine ja_catch_n (n := 3) (i := 3) (hp := []) (h1 := (0, 9, 12, 43)) (hs := []) rfl (by decide +kernel) (fun z hz => by cases hz) (by decide +kernel) (by decide) cl_L_43 cst_4 dL_conflicts_12 rfl rfl (Nat.le_of_ble_eq_true rfl) ?_
      refine ja_iconst (v := nI 1) dL_conflicts_13 (by decide +kernel) ?_
      exact ja_iret rfl rfl dL_conflicts_14 (Nat.le_of_eq (Nat.zero_add c9)) (Nat.le_of_eq (Nat.zero_add s9)) (Or.inr ⟨_, hk, rfl⟩)
  · obtain ⟨hz, b, rfl⟩ := hkr _ _ _ hk
    refine ja_i2l dL_conflicts_7 rfl ?_
    refine ja_last (n := 1) (j := 0) hz rfl (by decide) (by decide) dL_conflicts_8 ?_
    refine ja_goto dL_conflicts_9 (tgt := 15) (by decide) ?_
    refine ja_iconst (v := nI 0) dL_conflicts_15 (by decide +kernel) ?_
    exact ja_iret rfl rfl dL_conflicts_16 (Nat.le_of_eq (Nat.zero_add c9)) (Nat.le_of_eq (Nat.zero_add s9)) (Or.inl ⟨_, _, hk, rfl, rfl⟩)
theorem w_clashes (l : Launch) {Z : jZ} {D : jD} {p0 : Int32} {c9 s9 : Nat} {kr : Option Value → jZ → jD → Prop} {kx : String → jZ → jD → Prop} (hM : ja_M l (mX7_clashes c9 s9) [.ref 0, .int p0] Z D kr kx) (h0 : Z.2.1 0 = (7, 13)) (hkr : ∀ v Z1 D1, kr v Z1 D1 → Z1.2.1 200 = (13, 1) ∧ ∃ b : Int32, v = some (.int b)) (hkx : ∀ E Z1 D1, kx E Z1 D1 → E ∈ (["java/util/NoSuchElementException"] : List String)) :
    ja_M l (mL_clashes c9 s9) [.ref 0, .int p0, .ref 200] Z D (ja_wr kr kx g_i 200 ["java/util/NoSuchElementException"]) ja_x0 := by
  refine ja_MofH (lv := [some (.ref 0), some (.int p0), some (.ref 200), none]) pn_L rfl rfl (Nat.le_of_ble_eq_true rfl) rfl ?_
  refine ja_aload_n (i := 2) dL_clashes_0 rfl rfl ?_
  refine ja_iconst (v := nI 0) dL_clashes_1 (by decide +kernel) ?_
  refine ja_aload_n (i := 0) dL_clashes_2 rfl rfl ?_
  refine ja_iload_n (i := 1) dL_clashes_3 rfl rfl ?_
  refine ja_callV (av := [.int p0]) (st := [.int (nI 0), .ref 200]) hM (ce_X7_clashes c9 s9) im_X7_clashes se_X7_clashes lk_L_103 k_X7 h0 ⟨Nat.le_of_ble_eq_true rfl, Nat.le_of_ble_eq_true rfl⟩ dL_clashes_4 rfl rfl (Nat.le_of_ble_eq_true rfl) (Nat.le_of_eq (Nat.zero_add c9)) (Nat.le_of_eq (Nat.zero_add s9)) (fun E Z1 D1 hk => ?_) (fun v Z1 D1 hk => ?_)
  · have hE := hkx _ _ _ hk
    simp only [List.mem_cons, List.not_mem_nil, or_false] at hE
    subst hE
    · refine ja_catch_n (n := 3) (i := 3) (hp := []) (h1 := (0, 9, 12, 43)) (hs := []) rfl (by decide +kernel) (fun z hz => by cases hz) (by decide +kernel) (by decide) cl_L_43 cst_4 dL_clashes_12 rfl rfl (Nat.le_of_ble_eq_true rfl) ?_
      refine ja_iconst (v := nI 1) dL_clashes_13 (by decide +kernel) ?_
      exact ja_iret rfl rfl dL_clashes_14 (Nat.le_of_eq (Nat.zero_add c9)) (Nat.le_of_eq (Nat.zero_add s9)) (Or.inr ⟨_, hk, rfl⟩)
  · obtain ⟨hz, b, rfl⟩ := hkr _ _ _ hk
    refine ja_i2l dL_clashes_7 rfl ?_
    refine ja_last (n := 1) (j := 0) hz rfl (by decide) (by decide) dL_clashes_8 ?_
    refine ja_goto dL_clashes_9 (tgt := 15) (by decide) ?_
    refine ja_iconst (v := nI 0) dL_clashes_15 (by decide +kernel) ?_
    exact ja_iret rfl rfl dL_clashes_16 (Nat.le_of_eq (Nat.zero_add c9)) (Nat.le_of_eq (Nat.zero_add s9)) (Or.inl ⟨_, _, hk, rfl, rfl⟩)
theorem w_reconcile (l : Launch) {Z : jZ} {D : jD} {p0 p1 : Int32} {c9 s9 : Nat} {kr : Option Value → jZ → jD → Prop} {kx : String → jZ → jD → Prop} (hM : ja_M l (mX7_reconcile c9 s9) [.ref 0, .int p0, .int p1] Z D kr kx) (h0 : Z.2.1 0 = (7, 13)) (hkr : ∀ v Z1 D1, kr v Z1 D1 → Z1.2.1 200 = (13, 1) ∧ ∃ b : Int32, v = some (.int b)) (hkx : ∀ E Z1 D1, kx E Z1 D1 → E ∈ (["java/util/NoSuchElementException", "java/lang/IllegalArgumentException", "java/lang/IllegalStateException"] : List String)) :
    ja_M l (mL_reconcile c9 s9) [.ref 0, .int p0, .int p1, .ref 200] Z D (ja_wr kr kx g_i 200 ["java/util/NoSuchElementException", "java/lang/IllegalArgumentException", "java/lang/IllegalStateException"]) ja_x0 := by
  refine ja_MofH (lv := [some (.ref 0), some (.int p0), some (.int p1), some (.ref 200), none]) pn_L rfl rfl (Nat.le_of_ble_eq_true rfl) rfl ?_
  refine ja_aload_n (i := 3) dL_reconcile_0 rfl rfl ?_
  refine ja_iconst (v := nI 0) dL_reconcile_1 (by decide +kernel) ?_
  refine ja_aload_n (i := 0) dL_reconcile_2 rfl rfl ?_
  refine ja_iload_n (i := 1) dL_reconcile_3 rfl rfl ?_
  refine ja_iload_n (i := 2) dL_reconcile_4 rfl rfl ?_
  refine ja_callV (av := [.int p0, .int p1]) (st := [.int (nI 0), .ref 200]) hM (ce_X7_reconcile c9 s9) im_X7_reconcile se_X7_reconcile lk_L_106 k_X7 h0 ⟨Nat.le_of_ble_eq_true rfl, Nat.le_of_ble_eq_true rfl⟩ dL_reconcile_5 rfl rfl (Nat.le_of_ble_eq_true rfl) (Nat.le_of_eq (Nat.zero_add c9)) (Nat.le_of_eq (Nat.zero_add s9)) (fun E Z1 D1 hk => ?_) (fun v Z1 D1 hk => ?_)
  · have hE := hkx _ _ _ hk
    simp only [List.mem_cons, List.not_mem_nil, or_false] at hE
    rcases hE with rfl | rfl | rfl
    · refine ja_catch_i (hp := []) (h1 := (0, 10, 13, 43)) (hs := [(0, 10, 17, 13), (0, 10, 21, 15)]) rfl (by decide +kernel) (fun z hz => by cases hz) (by decide +kernel) (by decide) cl_L_43 cst_4 dL_reconcile_13 rfl (Nat.le_of_ble_eq_true rfl) ?_
      refine ja_iconst (v := nI 1) dL_reconcile_15 (by decide +kernel) ?_
      exact ja_iret rfl rfl dL_reconcile_16 (Nat.le_of_eq (Nat.zero_add c9)) (Nat.le_of_eq (Nat.zero_add s9)) (Or.inr ⟨_, hk, rfl⟩)
    · refine ja_catch_i (hp := [(0, 10, 13, 43)]) (h1 := (0, 10, 17, 13)) (hs := [(0, 10, 21, 15)]) rfl (by decide +kernel) (fun z hz => by
        simp only [List.mem_cons, List.not_mem_nil, or_false] at hz
        subst hz
        exact ⟨by decide, _, cl_L_43, by decide +kernel, by decide⟩) (by decide +kernel) (by decide) cl_L_13 cst_0 dL_reconcile_17 rfl (Nat.le_of_ble_eq_true rfl) ?_
      refine ja_iconst (v := nI 2) dL_reconcile_19 (by decide +kernel) ?_
      exact ja_iret rfl rfl dL_reconcile_20 (Nat.le_of_eq (Nat.zero_add c9)) (Nat.le_of_eq (Nat.zero_add s9)) (Or.inr ⟨_, hk, rfl⟩)
    · refine ja_catch_i (hp := [(0, 10, 13, 43), (0, 10, 17, 13)]) (h1 := (0, 10, 21, 15)) (hs := []) rfl (by decide +kernel) (fun z hz => by
        simp only [List.mem_cons, List.not_mem_nil, or_false] at hz
        rcases hz with rfl | rfl
        · exact ⟨by decide, _, cl_L_43, by decide +kernel, by decide⟩
        · exact ⟨by decide, _, cl_L_13, by decide +kernel, by decide⟩) (by decide +kernel) (by decide) cl_L_15 cst_1 dL_reconcile_21 rfl (Nat.le_of_ble_eq_true rfl) ?_
      refine ja_iconst (v := nI 3) dL_reconcile_23 (by decide +kernel) ?_
      exact ja_iret rfl rfl dL_reconcile_24 (Nat.le_of_eq (Nat.zero_add c9)) (Nat.le_of_eq (Nat.zero_add s9)) (Or.inr ⟨_, hk, rfl⟩)
  · obtain ⟨hz, b, rfl⟩ := hkr _ _ _ hk
    refine ja_i2l dL_reconcile_8 rfl ?_
    refine ja_last (n := 1) (j := 0) hz rfl (by decide) (by decide) dL_reconcile_9 ?_
    refine ja_goto dL_reconcile_10 (tgt := 25) (by decide) ?_
    refine ja_iconst (v := nI 0) dL_reconcile_25 (by decide +kernel) ?_
    exact ja_iret rfl rfl dL_reconcile_26 (Nat.le_of_eq (Nat.zero_add c9)) (Nat.le_of_eq (Nat.zero_add s9)) (Or.inl ⟨_, _, hk, rfl, rfl⟩)
theorem w_pieces (l : Launch) {Z : jZ} {D : jD} {p0 p1 : Int32} {c9 s9 : Nat} {kr : Option Value → jZ → jD → Prop} {kx : String → jZ → jD → Prop} (hM : ja_M l (mX7_pieces c9 s9) [.ref 0, .int p0, .int p1] Z D kr kx) (h0 : Z.2.1 0 = (7, 13)) (hkr : ∀ v Z1 D1, kr v Z1 D1 → Z1.2.1 200 = (13, 1) ∧ ∃ b : Int32, v = some (.int b)) (hkx : ∀ E Z1 D1, kx E Z1 D1 → E ∈ (["java/lang/IndexOutOfBoundsException"] : List String)) :
    ja_M l (mL_pieces c9 s9) [.ref 0, .int p0, .int p1, .ref 200] Z D (ja_wr kr kx g_i 200 ["java/lang/IndexOutOfBoundsException"]) ja_x0 := by
  refine ja_MofH (lv := [some (.ref 0), some (.int p0), some (.int p1), some (.ref 200), none]) pn_L rfl rfl (Nat.le_of_ble_eq_true rfl) rfl ?_
  refine ja_aload_n (i := 3) dL_pieces_0 rfl rfl ?_
  refine ja_iconst (v := nI 0) dL_pieces_1 (by decide +kernel) ?_
  refine ja_aload_n (i := 0) dL_pieces_2 rfl rfl ?_
  refine ja_iload_n (i := 1) dL_pieces_3 rfl rfl ?_
  refine ja_iload_n (i := 2) dL_pieces_4 rfl rfl ?_
  refine ja_callV (av := [.int p0, .int p1]) (st := [.int (nI 0), .ref 200]) hM (ce_X7_pieces c9 s9) im_X7_pieces se_X7_pieces lk_L_110 k_X7 h0 ⟨Nat.le_of_ble_eq_true rfl, Nat.le_of_ble_eq_true rfl⟩ dL_pieces_5 rfl rfl (Nat.le_of_ble_eq_true rfl) (Nat.le_of_eq (Nat.zero_add c9)) (Nat.le_of_eq (Nat.zero_add s9)) (fun E Z1 D1 hk => ?_) (fun v Z1 D1 hk => ?_)
  · have hE := hkx _ _ _ hk
    simp only [List.mem_cons, List.not_mem_nil, or_false] at hE
    subst hE
    · refine ja_catch_i (hp := []) (h1 := (0, 10, 13, 21)) (hs := []) rfl (by decide +kernel) (fun z hz => by cases hz) (by decide +kernel) (by decide) cl_L_21 cst_2 dL_pieces_13 rfl (Nat.le_of_ble_eq_true rfl) ?_
      refine ja_iconst (v := nI 1) dL_pieces_15 (by decide +kernel) ?_
      exact ja_iret rfl rfl dL_pieces_16 (Nat.le_of_eq (Nat.zero_add c9)) (Nat.le_of_eq (Nat.zero_add s9)) (Or.inr ⟨_, hk, rfl⟩)
  · obtain ⟨hz, b, rfl⟩ := hkr _ _ _ hk
    refine ja_i2l dL_pieces_8 rfl ?_
    refine ja_last (n := 1) (j := 0) hz rfl (by decide) (by decide) dL_pieces_9 ?_
    refine ja_goto dL_pieces_10 (tgt := 17) (by decide) ?_
    refine ja_iconst (v := nI 0) dL_pieces_17 (by decide +kernel) ?_
    exact ja_iret rfl rfl dL_pieces_18 (Nat.le_of_eq (Nat.zero_add c9)) (Nat.le_of_eq (Nat.zero_add s9)) (Or.inl ⟨_, _, hk, rfl, rfl⟩)
theorem w_pieceSize (l : Launch) {Z : jZ} {D : jD} {p0 p1 p2 : Int32} {c9 s9 : Nat} {kr : Option Value → jZ → jD → Prop} {kx : String → jZ → jD → Prop} (hM : ja_M l (mX7_pieceSize c9 s9) [.ref 0, .int p0, .int p1, .int p2] Z D kr kx) (h0 : Z.2.1 0 = (7, 13)) (hkr : ∀ v Z1 D1, kr v Z1 D1 → Z1.2.1 200 = (13, 1) ∧ ∃ b : Int32, v = some (.int b)) (hkx : ∀ E Z1 D1, kx E Z1 D1 → E ∈ (["java/lang/IndexOutOfBoundsException", "java/util/NoSuchElementException"] : List String)) :
    ja_M l (mL_pieceSize c9 s9) [.ref 0, .int p0, .int p1, .int p2, .ref 200] Z D (ja_wr kr kx g_i 200 ["java/lang/IndexOutOfBoundsException", "java/util/NoSuchElementException"]) ja_x0 := by
  refine ja_MofH (lv := [some (.ref 0), some (.int p0), some (.int p1), some (.int p2), some (.ref 200), none]) pn_L rfl rfl (Nat.le_of_ble_eq_true rfl) rfl ?_
  refine ja_aload dL_pieceSize_0 rfl ?_
  refine ja_iconst (v := nI 0) dL_pieceSize_2 (by decide +kernel) ?_
  refine ja_aload_n (i := 0) dL_pieceSize_3 rfl rfl ?_
  refine ja_iload_n (i := 1) dL_pieceSize_4 rfl rfl ?_
  refine ja_iload_n (i := 2) dL_pieceSize_5 rfl rfl ?_
  refine ja_iload_n (i := 3) dL_pieceSize_6 rfl rfl ?_
  refine ja_callV (av := [.int p0, .int p1, .int p2]) (st := [.int (nI 0), .ref 200]) hM (ce_X7_pieceSize c9 s9) im_X7_pieceSize se_X7_pieceSize lk_L_113 k_X7 h0 ⟨Nat.le_of_ble_eq_true rfl, Nat.le_of_ble_eq_true rfl⟩ dL_pieceSize_7 rfl rfl (Nat.le_of_ble_eq_true rfl) (Nat.le_of_eq (Nat.zero_add c9)) (Nat.le_of_eq (Nat.zero_add s9)) (fun E Z1 D1 hk => ?_) (fun v Z1 D1 hk => ?_)
  · have hE := hkx _ _ _ hk
    simp only [List.mem_cons, List.not_mem_nil, or_false] at hE
    rcases hE with rfl | rfl
    · refine ja_catch_i (hp := []) (h1 := (0, 12, 15, 21)) (hs := [(0, 12, 19, 43)]) rfl (by decide +kernel) (fun z hz => by cases hz) (by decide +kernel) (by decide) cl_L_21 cst_2 dL_pieceSize_15 rfl (Nat.le_of_ble_eq_true rfl) ?_
      refine ja_iconst (v := nI 1) dL_pieceSize_17 (by decide +kernel) ?_
      exact ja_iret rfl rfl dL_pieceSize_18 (Nat.le_of_eq (Nat.zero_add c9)) (Nat.le_of_eq (Nat.zero_add s9)) (Or.inr ⟨_, hk, rfl⟩)
    · refine ja_catch_i (hp := [(0, 12, 15, 21)]) (h1 := (0, 12, 19, 43)) (hs := []) rfl (by decide +kernel) (fun z hz => by
        simp only [List.mem_cons, List.not_mem_nil, or_false] at hz
        subst hz
        exact ⟨by decide, _, cl_L_21, by decide +kernel, by decide⟩) (by decide +kernel) (by decide) cl_L_43 cst_4 dL_pieceSize_19 rfl (Nat.le_of_ble_eq_true rfl) ?_
      refine ja_iconst (v := nI 2) dL_pieceSize_21 (by decide +kernel) ?_
      exact ja_iret rfl rfl dL_pieceSize_22 (Nat.le_of_eq (Nat.zero_add c9)) (Nat.le_of_eq (Nat.zero_add s9)) (Or.inr ⟨_, hk, rfl⟩)
  · obtain ⟨hz, b, rfl⟩ := hkr _ _ _ hk
    refine ja_i2l dL_pieceSize_10 rfl ?_
    refine ja_last (n := 1) (j := 0) hz rfl (by decide) (by decide) dL_pieceSize_11 ?_
    refine ja_goto dL_pieceSize_12 (tgt := 23) (by decide) ?_
    refine ja_iconst (v := nI 0) dL_pieceSize_23 (by decide +kernel) ?_
    exact ja_iret rfl rfl dL_pieceSize_24 (Nat.le_of_eq (Nat.zero_add c9)) (Nat.le_of_eq (Nat.zero_add s9)) (Or.inl ⟨_, _, hk, rfl, rfl⟩)
theorem w_parent (l : Launch) {Z : jZ} {D : jD} {p0 p1 p2 p3 : Int32} {c9 s9 : Nat} {kr : Option Value → jZ → jD → Prop} {kx : String → jZ → jD → Prop} (hM : ja_M l (mX7_parent c9 s9) [.ref 0, .int p0, .int p1, .int p2, .int p3] Z D kr kx) (h0 : Z.2.1 0 = (7, 13)) (hkr : ∀ v Z1 D1, kr v Z1 D1 → Z1.2.1 200 = (13, 1) ∧ ∃ b : Int32, v = some (.int b)) (hkx : ∀ E Z1 D1, kx E Z1 D1 → E ∈ (["java/lang/IndexOutOfBoundsException", "java/util/NoSuchElementException"] : List String)) :
    ja_M l (mL_parent c9 s9) [.ref 0, .int p0, .int p1, .int p2, .int p3, .ref 200] Z D (ja_wr kr kx g_i 200 ["java/lang/IndexOutOfBoundsException", "java/util/NoSuchElementException"]) ja_x0 := by
  refine ja_MofH (lv := [some (.ref 0), some (.int p0), some (.int p1), some (.int p2), some (.int p3), some (.ref 200), none]) pn_L rfl rfl (Nat.le_of_ble_eq_true rfl) rfl ?_
  refine ja_aload dL_parent_0 rfl ?_
  refine ja_iconst (v := nI 0) dL_parent_2 (by decide +kernel) ?_
  refine ja_aload_n (i := 0) dL_parent_3 rfl rfl ?_
  refine ja_iload_n (i := 1) dL_parent_4 rfl rfl ?_
  refine ja_iload_n (i := 2) dL_parent_5 rfl rfl ?_
  refine ja_iload_n (i := 3) dL_parent_6 rfl rfl ?_
  refine ja_iload dL_parent_7 rfl ?_
  refine ja_callV (av := [.int p0, .int p1, .int p2, .int p3]) (st := [.int (nI 0), .ref 200]) hM (ce_X7_parent c9 s9) im_X7_parent se_X7_parent lk_L_116 k_X7 h0 ⟨Nat.le_of_ble_eq_true rfl, Nat.le_of_ble_eq_true rfl⟩ dL_parent_9 rfl rfl (Nat.le_of_ble_eq_true rfl) (Nat.le_of_eq (Nat.zero_add c9)) (Nat.le_of_eq (Nat.zero_add s9)) (fun E Z1 D1 hk => ?_) (fun v Z1 D1 hk => ?_)
  · have hE := hkx _ _ _ hk
    simp only [List.mem_cons, List.not_mem_nil, or_false] at hE
    rcases hE with rfl | rfl
    · refine ja_catch_i (hp := []) (h1 := (0, 14, 17, 21)) (hs := [(0, 14, 21, 43)]) rfl (by decide +kernel) (fun z hz => by cases hz) (by decide +kernel) (by decide) cl_L_21 cst_2 dL_parent_17 rfl (Nat.le_of_ble_eq_true rfl) ?_
      refine ja_iconst (v := nI 1) dL_parent_19 (by decide +kernel) ?_
      exact ja_iret rfl rfl dL_parent_20 (Nat.le_of_eq (Nat.zero_add c9)) (Nat.le_of_eq (Nat.zero_add s9)) (Or.inr ⟨_, hk, rfl⟩)
    · refine ja_catch_i (hp := [(0, 14, 17, 21)]) (h1 := (0, 14, 21, 43)) (hs := []) rfl (by decide +kernel) (fun z hz => by
        simp only [List.mem_cons, List.not_mem_nil, or_false] at hz
        subst hz
        exact ⟨by decide, _, cl_L_21, by decide +kernel, by decide⟩) (by decide +kernel) (by decide) cl_L_43 cst_4 dL_parent_21 rfl (Nat.le_of_ble_eq_true rfl) ?_
      refine ja_iconst (v := nI 2) dL_parent_23 (by decide +kernel) ?_
      exact ja_iret rfl rfl dL_parent_24 (Nat.le_of_eq (Nat.zero_add c9)) (Nat.le_of_eq (Nat.zero_add s9)) (Or.inr ⟨_, hk, rfl⟩)
  · obtain ⟨hz, b, rfl⟩ := hkr _ _ _ hk
    refine ja_i2l dL_parent_12 rfl ?_
    refine ja_last (n := 1) (j := 0) hz rfl (by decide) (by decide) dL_parent_13 ?_
    refine ja_goto dL_parent_14 (tgt := 25) (by decide) ?_
    refine ja_iconst (v := nI 0) dL_parent_25 (by decide +kernel) ?_
    exact ja_iret rfl rfl dL_parent_26 (Nat.le_of_eq (Nat.zero_add c9)) (Nat.le_of_eq (Nat.zero_add s9)) (Or.inl ⟨_, _, hk, rfl, rfl⟩)
theorem w_match (l : Launch) {Z : jZ} {D : jD} {p0 p1 p2 : Int32} {c9 s9 : Nat} {kr : Option Value → jZ → jD → Prop} {kx : String → jZ → jD → Prop} (hM : ja_M l (mX7_match c9 s9) [.ref 0, .int p0, .int p1, .int p2] Z D kr kx) (h0 : Z.2.1 0 = (7, 13)) (hkr : ∀ v Z1 D1, kr v Z1 D1 → Z1.2.1 200 = (13, 1) ∧ ∃ b : Int32, v = some (.int b)) (hkx : ∀ E Z1 D1, kx E Z1 D1 → E ∈ (["java/lang/IndexOutOfBoundsException", "java/lang/IllegalArgumentException", "java/util/NoSuchElementException"] : List String)) :
    ja_M l (mL_match c9 s9) [.ref 0, .int p0, .int p1, .int p2, .ref 200] Z D (ja_wr kr kx g_i 200 ["java/lang/IndexOutOfBoundsException", "java/lang/IllegalArgumentException", "java/util/NoSuchElementException"]) ja_x0 := by
  refine ja_MofH (lv := [some (.ref 0), some (.int p0), some (.int p1), some (.int p2), some (.ref 200), none]) pn_L rfl rfl (Nat.le_of_ble_eq_true rfl) rfl ?_
  refine ja_aload dL_match_0 rfl ?_
  refine ja_iconst (v := nI 0) dL_match_2 (by decide +kernel) ?_
  refine ja_aload_n (i := 0) dL_match_3 rfl rfl ?_
  refine ja_iload_n (i := 1) dL_match_4 rfl rfl ?_
  refine ja_iload_n (i := 2) dL_match_5 rfl rfl ?_
  refine ja_iload_n (i := 3) dL_match_6 rfl rfl ?_
  refine ja_callV (av := [.int p0, .int p1, .int p2]) (st := [.int (nI 0), .ref 200]) hM (ce_X7_match c9 s9) im_X7_match se_X7_match lk_L_120 k_X7 h0 ⟨Nat.le_of_ble_eq_true rfl, Nat.le_of_ble_eq_true rfl⟩ dL_match_7 rfl rfl (Nat.le_of_ble_eq_true rfl) (Nat.le_of_eq (Nat.zero_add c9)) (Nat.le_of_eq (Nat.zero_add s9)) (fun E Z1 D1 hk => ?_) (fun v Z1 D1 hk => ?_)
  · have hE := hkx _ _ _ hk
    simp only [List.mem_cons, List.not_mem_nil, or_false] at hE
    rcases hE with rfl | rfl | rfl
    · refine ja_catch_i (hp := []) (h1 := (0, 12, 15, 21)) (hs := [(0, 12, 19, 13), (0, 12, 23, 43)]) rfl (by decide +kernel) (fun z hz => by cases hz) (by decide +kernel) (by decide) cl_L_21 cst_2 dL_match_15 rfl (Nat.le_of_ble_eq_true rfl) ?_
      refine ja_iconst (v := nI 1) dL_match_17 (by decide +kernel) ?_
      exact ja_iret rfl rfl dL_match_18 (Nat.le_of_eq (Nat.zero_add c9)) (Nat.le_of_eq (Nat.zero_add s9)) (Or.inr ⟨_, hk, rfl⟩)
    · refine ja_catch_i (hp := [(0, 12, 15, 21)]) (h1 := (0, 12, 19, 13)) (hs := [(0, 12, 23, 43)]) rfl (by decide +kernel) (fun z hz => by
        simp only [List.mem_cons, List.not_mem_nil, or_false] at hz
        subst hz
        exact ⟨by decide, _, cl_L_21, by decide +kernel, by decide⟩) (by decide +kernel) (by decide) cl_L_13 cst_0 dL_match_19 rfl (Nat.le_of_ble_eq_true rfl) ?_
      refine ja_iconst (v := nI 2) dL_match_21 (by decide +kernel) ?_
      exact ja_iret rfl rfl dL_match_22 (Nat.le_of_eq (Nat.zero_add c9)) (Nat.le_of_eq (Nat.zero_add s9)) (Or.inr ⟨_, hk, rfl⟩)
    · refine ja_catch_i (hp := [(0, 12, 15, 21), (0, 12, 19, 13)]) (h1 := (0, 12, 23, 43)) (hs := []) rfl (by decide +kernel) (fun z hz => by
        simp only [List.mem_cons, List.not_mem_nil, or_false] at hz
        rcases hz with rfl | rfl
        · exact ⟨by decide, _, cl_L_21, by decide +kernel, by decide⟩
        · exact ⟨by decide, _, cl_L_13, by decide +kernel, by decide⟩) (by decide +kernel) (by decide) cl_L_43 cst_4 dL_match_23 rfl (Nat.le_of_ble_eq_true rfl) ?_
      refine ja_iconst (v := nI 3) dL_match_25 (by decide +kernel) ?_
      exact ja_iret rfl rfl dL_match_26 (Nat.le_of_eq (Nat.zero_add c9)) (Nat.le_of_eq (Nat.zero_add s9)) (Or.inr ⟨_, hk, rfl⟩)
  · obtain ⟨hz, b, rfl⟩ := hkr _ _ _ hk
    refine ja_i2l dL_match_10 rfl ?_
    refine ja_last (n := 1) (j := 0) hz rfl (by decide) (by decide) dL_match_11 ?_
    refine ja_goto dL_match_12 (tgt := 27) (by decide) ?_
    refine ja_iconst (v := nI 0) dL_match_27 (by decide +kernel) ?_
    exact ja_iret rfl rfl dL_match_28 (Nat.le_of_eq (Nat.zero_add c9)) (Nat.le_of_eq (Nat.zero_add s9)) (Or.inl ⟨_, _, hk, rfl, rfl⟩)
theorem w_matchKind (l : Launch) {Z : jZ} {D : jD} {p0 p1 p2 : Int32} {c9 s9 : Nat} {kr : Option Value → jZ → jD → Prop} {kx : String → jZ → jD → Prop} (hM : ja_M l (mX7_matchKind c9 s9) [.ref 0, .int p0, .int p1, .int p2] Z D kr kx) (h0 : Z.2.1 0 = (7, 13)) (hkr : ∀ v Z1 D1, kr v Z1 D1 → Z1.2.1 200 = (13, 1) ∧ ∃ b : Int32, v = some (.int b)) (hkx : ∀ E Z1 D1, kx E Z1 D1 → E ∈ (["java/lang/IndexOutOfBoundsException", "java/lang/IllegalArgumentException"] : List String)) :
    ja_M l (mL_matchKind c9 s9) [.ref 0, .int p0, .int p1, .int p2, .ref 200] Z D (ja_wr kr kx g_i 200 ["java/lang/IndexOutOfBoundsException", "java/lang/IllegalArgumentException"]) ja_x0 := by
  refine ja_MofH (lv := [some (.ref 0), some (.int p0), some (.int p1), some (.int p2), some (.ref 200), none]) pn_L rfl rfl (Nat.le_of_ble_eq_true rfl) rfl ?_
  refine ja_aload dL_matchKind_0 rfl ?_
  refine ja_iconst (v := nI 0) dL_matchKind_2 (by decide +kernel) ?_
  refine ja_aload_n (i := 0) dL_matchKind_3 rfl rfl ?_
  refine ja_iload_n (i := 1) dL_matchKind_4 rfl rfl ?_
  refine ja_iload_n (i := 2) dL_matchKind_5 rfl rfl ?_
  refine ja_iload_n (i := 3) dL_matchKind_6 rfl rfl ?_
  refine ja_callV (av := [.int p0, .int p1, .int p2]) (st := [.int (nI 0), .ref 200]) hM (ce_X7_matchKind c9 s9) im_X7_matchKind se_X7_matchKind lk_L_123 k_X7 h0 ⟨Nat.le_of_ble_eq_true rfl, Nat.le_of_ble_eq_true rfl⟩ dL_matchKind_7 rfl rfl (Nat.le_of_ble_eq_true rfl) (Nat.le_of_eq (Nat.zero_add c9)) (Nat.le_of_eq (Nat.zero_add s9)) (fun E Z1 D1 hk => ?_) (fun v Z1 D1 hk => ?_)
  · have hE := hkx _ _ _ hk
    simp only [List.mem_cons, List.not_mem_nil, or_false] at hE
    rcases hE with rfl | rfl
    · refine ja_catch_i (hp := []) (h1 := (0, 12, 15, 21)) (hs := [(0, 12, 19, 13)]) rfl (by decide +kernel) (fun z hz => by cases hz) (by decide +kernel) (by decide) cl_L_21 cst_2 dL_matchKind_15 rfl (Nat.le_of_ble_eq_true rfl) ?_
      refine ja_iconst (v := nI 1) dL_matchKind_17 (by decide +kernel) ?_
      exact ja_iret rfl rfl dL_matchKind_18 (Nat.le_of_eq (Nat.zero_add c9)) (Nat.le_of_eq (Nat.zero_add s9)) (Or.inr ⟨_, hk, rfl⟩)
    · refine ja_catch_i (hp := [(0, 12, 15, 21)]) (h1 := (0, 12, 19, 13)) (hs := []) rfl (by decide +kernel) (fun z hz => by
        simp only [List.mem_cons, List.not_mem_nil, or_false] at hz
        subst hz
        exact ⟨by decide, _, cl_L_21, by decide +kernel, by decide⟩) (by decide +kernel) (by decide) cl_L_13 cst_0 dL_matchKind_19 rfl (Nat.le_of_ble_eq_true rfl) ?_
      refine ja_iconst (v := nI 2) dL_matchKind_21 (by decide +kernel) ?_
      exact ja_iret rfl rfl dL_matchKind_22 (Nat.le_of_eq (Nat.zero_add c9)) (Nat.le_of_eq (Nat.zero_add s9)) (Or.inr ⟨_, hk, rfl⟩)
  · obtain ⟨hz, b, rfl⟩ := hkr _ _ _ hk
    refine ja_i2l dL_matchKind_10 rfl ?_
    refine ja_last (n := 1) (j := 0) hz rfl (by decide) (by decide) dL_matchKind_11 ?_
    refine ja_goto dL_matchKind_12 (tgt := 23) (by decide) ?_
    refine ja_iconst (v := nI 0) dL_matchKind_23 (by decide +kernel) ?_
    exact ja_iret rfl rfl dL_matchKind_24 (Nat.le_of_eq (Nat.zero_add c9)) (Nat.le_of_eq (Nat.zero_add s9)) (Or.inl ⟨_, _, hk, rfl, rfl⟩)
theorem w_coarse (l : Launch) {Z : jZ} {D : jD} {p0 p1 p2 : Int32} {c9 s9 : Nat} {kr : Option Value → jZ → jD → Prop} {kx : String → jZ → jD → Prop} (hM : ja_M l (mX7_coarse c9 s9) [.ref 0, .int p0, .int p1, .int p2] Z D kr kx) (h0 : Z.2.1 0 = (7, 13)) (hkr : ∀ v Z1 D1, kr v Z1 D1 → Z1.2.1 200 = (13, 1) ∧ ∃ b : Int32, v = some (.int b)) (hkx : ∀ E Z1 D1, kx E Z1 D1 → E ∈ (["java/lang/IndexOutOfBoundsException", "java/lang/IllegalArgumentException", "java/util/NoSuchElementException"] : List String)) :
    ja_M l (mL_coarse c9 s9) [.ref 0, .int p0, .int p1, .int p2, .ref 200] Z D (ja_wr kr kx g_i 200 ["java/lang/IndexOutOfBoundsException", "java/lang/IllegalArgumentException", "java/util/NoSuchElementException"]) ja_x0 := by
  refine ja_MofH (lv := [some (.ref 0), some (.int p0), some (.int p1), some (.int p2), some (.ref 200), none]) pn_L rfl rfl (Nat.le_of_ble_eq_true rfl) rfl ?_
  refine ja_aload dL_coarse_0 rfl ?_
  refine ja_iconst (v := nI 0) dL_coarse_2 (by decide +kernel) ?_
  refine ja_aload_n (i := 0) dL_coarse_3 rfl rfl ?_
  refine ja_iload_n (i := 1) dL_coarse_4 rfl rfl ?_
  refine ja_iload_n (i := 2) dL_coarse_5 rfl rfl ?_
  refine ja_iload_n (i := 3) dL_coarse_6 rfl rfl ?_
  refine ja_callV (av := [.int p0, .int p1, .int p2]) (st := [.int (nI 0), .ref 200]) hM (ce_X7_coarse c9 s9) im_X7_coarse se_X7_coarse lk_L_127 k_X7 h0 ⟨Nat.le_of_ble_eq_true rfl, Nat.le_of_ble_eq_true rfl⟩ dL_coarse_7 rfl rfl (Nat.le_of_ble_eq_true rfl) (Nat.le_of_eq (Nat.zero_add c9)) (Nat.le_of_eq (Nat.zero_add s9)) (fun E Z1 D1 hk => ?_) (fun v Z1 D1 hk => ?_)
  · have hE := hkx _ _ _ hk
    simp only [List.mem_cons, List.not_mem_nil, or_false] at hE
    rcases hE with rfl | rfl | rfl
    · refine ja_catch_i (hp := []) (h1 := (0, 12, 15, 21)) (hs := [(0, 12, 19, 13), (0, 12, 23, 43)]) rfl (by decide +kernel) (fun z hz => by cases hz) (by decide +kernel) (by decide) cl_L_21 cst_2 dL_coarse_15 rfl (Nat.le_of_ble_eq_true rfl) ?_
      refine ja_iconst (v := nI 1) dL_coarse_17 (by decide +kernel) ?_
      exact ja_iret rfl rfl dL_coarse_18 (Nat.le_of_eq (Nat.zero_add c9)) (Nat.le_of_eq (Nat.zero_add s9)) (Or.inr ⟨_, hk, rfl⟩)
    · refine ja_catch_i (hp := [(0, 12, 15, 21)]) (h1 := (0, 12, 19, 13)) (hs := [(0, 12, 23, 43)]) rfl (by decide +kernel) (fun z hz => by
        simp only [List.mem_cons, List.not_mem_nil, or_false] at hz
        subst hz
        exact ⟨by decide, _, cl_L_21, by decide +kernel, by decide⟩) (by decide +kernel) (by decide) cl_L_13 cst_0 dL_coarse_19 rfl (Nat.le_of_ble_eq_true rfl) ?_
      refine ja_iconst (v := nI 2) dL_coarse_21 (by decide +kernel) ?_
      exact ja_iret rfl rfl dL_coarse_22 (Nat.le_of_eq (Nat.zero_add c9)) (Nat.le_of_eq (Nat.zero_add s9)) (Or.inr ⟨_, hk, rfl⟩)
    · refine ja_catch_i (hp := [(0, 12, 15, 21), (0, 12, 19, 13)]) (h1 := (0, 12, 23, 43)) (hs := []) rfl (by decide +kernel) (fun z hz => by
        simp only [List.mem_cons, List.not_mem_nil, or_false] at hz
        rcases hz with rfl | rfl
        · exact ⟨by decide, _, cl_L_21, by decide +kernel, by decide⟩
        · exact ⟨by decide, _, cl_L_13, by decide +kernel, by decide⟩) (by decide +kernel) (by decide) cl_L_43 cst_4 dL_coarse_23 rfl (Nat.le_of_ble_eq_true rfl) ?_
      refine ja_iconst (v := nI 3) dL_coarse_25 (by decide +kernel) ?_
      exact ja_iret rfl rfl dL_coarse_26 (Nat.le_of_eq (Nat.zero_add c9)) (Nat.le_of_eq (Nat.zero_add s9)) (Or.inr ⟨_, hk, rfl⟩)
  · obtain ⟨hz, b, rfl⟩ := hkr _ _ _ hk
    refine ja_i2l dL_coarse_10 rfl ?_
    refine ja_last (n := 1) (j := 0) hz rfl (by decide) (by decide) dL_coarse_11 ?_
    refine ja_goto dL_coarse_12 (tgt := 27) (by decide) ?_
    refine ja_iconst (v := nI 0) dL_coarse_27 (by decide +kernel) ?_
    exact ja_iret rfl rfl dL_coarse_28 (Nat.le_of_eq (Nat.zero_add c9)) (Nat.le_of_eq (Nat.zero_add s9)) (Or.inl ⟨_, _, hk, rfl, rfl⟩)
theorem w_coarseAreas (l : Launch) {Z : jZ} {D : jD} {p0 p1 : Int32} {c9 s9 : Nat} {kr : Option Value → jZ → jD → Prop} {kx : String → jZ → jD → Prop} (hM : ja_M l (mX7_coarseAreas c9 s9) [.ref 0, .int p0, .int p1] Z D kr kx) (h0 : Z.2.1 0 = (7, 13)) (hkr : ∀ v Z1 D1, kr v Z1 D1 → Z1.2.1 200 = (13, 1) ∧ ∃ b : Int32, v = some (.int b)) (hkx : ∀ E Z1 D1, kx E Z1 D1 → E ∈ (["java/lang/IndexOutOfBoundsException", "java/lang/IllegalArgumentException"] : List String)) :
    ja_M l (mL_coarseAreas c9 s9) [.ref 0, .int p0, .int p1, .ref 200] Z D (ja_wr kr kx g_i 200 ["java/lang/IndexOutOfBoundsException", "java/lang/IllegalArgumentException"]) ja_x0 := by
  refine ja_MofH (lv := [some (.ref 0), some (.int p0), some (.int p1), some (.ref 200), none]) pn_L rfl rfl (Nat.le_of_ble_eq_true rfl) rfl ?_
  refine ja_aload_n (i := 3) dL_coarseAreas_0 rfl rfl ?_
  refine ja_iconst (v := nI 0) dL_coarseAreas_1 (by decide +kernel) ?_
  refine ja_aload_n (i := 0) dL_coarseAreas_2 rfl rfl ?_
  refine ja_iload_n (i := 1) dL_coarseAreas_3 rfl rfl ?_
  refine ja_iload_n (i := 2) dL_coarseAreas_4 rfl rfl ?_
  refine ja_callV (av := [.int p0, .int p1]) (st := [.int (nI 0), .ref 200]) hM (ce_X7_coarseAreas c9 s9) im_X7_coarseAreas se_X7_coarseAreas lk_L_130 k_X7 h0 ⟨Nat.le_of_ble_eq_true rfl, Nat.le_of_ble_eq_true rfl⟩ dL_coarseAreas_5 rfl rfl (Nat.le_of_ble_eq_true rfl) (Nat.le_of_eq (Nat.zero_add c9)) (Nat.le_of_eq (Nat.zero_add s9)) (fun E Z1 D1 hk => ?_) (fun v Z1 D1 hk => ?_)
  · have hE := hkx _ _ _ hk
    simp only [List.mem_cons, List.not_mem_nil, or_false] at hE
    rcases hE with rfl | rfl
    · refine ja_catch_i (hp := []) (h1 := (0, 10, 13, 21)) (hs := [(0, 10, 17, 13)]) rfl (by decide +kernel) (fun z hz => by cases hz) (by decide +kernel) (by decide) cl_L_21 cst_2 dL_coarseAreas_13 rfl (Nat.le_of_ble_eq_true rfl) ?_
      refine ja_iconst (v := nI 1) dL_coarseAreas_15 (by decide +kernel) ?_
      exact ja_iret rfl rfl dL_coarseAreas_16 (Nat.le_of_eq (Nat.zero_add c9)) (Nat.le_of_eq (Nat.zero_add s9)) (Or.inr ⟨_, hk, rfl⟩)
    · refine ja_catch_i (hp := [(0, 10, 13, 21)]) (h1 := (0, 10, 17, 13)) (hs := []) rfl (by decide +kernel) (fun z hz => by
        simp only [List.mem_cons, List.not_mem_nil, or_false] at hz
        subst hz
        exact ⟨by decide, _, cl_L_21, by decide +kernel, by decide⟩) (by decide +kernel) (by decide) cl_L_13 cst_0 dL_coarseAreas_17 rfl (Nat.le_of_ble_eq_true rfl) ?_
      refine ja_iconst (v := nI 2) dL_coarseAreas_19 (by decide +kernel) ?_
      exact ja_iret rfl rfl dL_coarseAreas_20 (Nat.le_of_eq (Nat.zero_add c9)) (Nat.le_of_eq (Nat.zero_add s9)) (Or.inr ⟨_, hk, rfl⟩)
  · obtain ⟨hz, b, rfl⟩ := hkr _ _ _ hk
    refine ja_i2l dL_coarseAreas_8 rfl ?_
    refine ja_last (n := 1) (j := 0) hz rfl (by decide) (by decide) dL_coarseAreas_9 ?_
    refine ja_goto dL_coarseAreas_10 (tgt := 21) (by decide) ?_
    refine ja_iconst (v := nI 0) dL_coarseAreas_21 (by decide +kernel) ?_
    exact ja_iret rfl rfl dL_coarseAreas_22 (Nat.le_of_eq (Nat.zero_add c9)) (Nat.le_of_eq (Nat.zero_add s9)) (Or.inl ⟨_, _, hk, rfl, rfl⟩)
theorem w_name (l : Launch) {Z : jZ} {D : jD} {p0 p1 p2 : Int32} {c9 s9 : Nat} {kr : Option Value → jZ → jD → Prop} {kx : String → jZ → jD → Prop} (hM : ja_M l (mX7_name c9 s9) [.ref 0, .int p0, .int p1, .int p2] Z D kr kx) (h0 : Z.2.1 0 = (7, 13)) (hkr : ∀ v Z1 D1, kr v Z1 D1 → Z1.2.1 200 = (13, 1) ∧ ∃ b : Int32, v = some (.int b)) (hkx : ∀ E Z1 D1, kx E Z1 D1 → E ∈ (["java/lang/IndexOutOfBoundsException", "java/lang/IllegalArgumentException"] : List String)) :
    ja_M l (mL_name c9 s9) [.ref 0, .int p0, .int p1, .int p2, .ref 200] Z D (ja_wr kr kx g_i 200 ["java/lang/IndexOutOfBoundsException", "java/lang/IllegalArgumentException"]) ja_x0 := by
  refine ja_MofH (lv := [some (.ref 0), some (.int p0), some (.int p1), some (.int p2), some (.ref 200), none]) pn_L rfl rfl (Nat.le_of_ble_eq_true rfl) rfl ?_
  refine ja_aload dL_name_0 rfl ?_
  refine ja_iconst (v := nI 0) dL_name_2 (by decide +kernel) ?_
  refine ja_aload_n (i := 0) dL_name_3 rfl rfl ?_
  refine ja_iload_n (i := 1) dL_name_4 rfl rfl ?_
  refine ja_iload_n (i := 2) dL_name_5 rfl rfl ?_
  refine ja_iload_n (i := 3) dL_name_6 rfl rfl ?_
  refine ja_callV (av := [.int p0, .int p1, .int p2]) (st := [.int (nI 0), .ref 200]) hM (ce_X7_name c9 s9) im_X7_name se_X7_name lk_L_133 k_X7 h0 ⟨Nat.le_of_ble_eq_true rfl, Nat.le_of_ble_eq_true rfl⟩ dL_name_7 rfl rfl (Nat.le_of_ble_eq_true rfl) (Nat.le_of_eq (Nat.zero_add c9)) (Nat.le_of_eq (Nat.zero_add s9)) (fun E Z1 D1 hk => ?_) (fun v Z1 D1 hk => ?_)
  · have hE := hkx _ _ _ hk
    simp only [List.mem_cons, List.not_mem_nil, or_false] at hE
    rcases hE with rfl | rfl
    · refine ja_catch_i (hp := []) (h1 := (0, 12, 15, 21)) (hs := [(0, 12, 19, 13)]) rfl (by decide +kernel) (fun z hz => by cases hz) (by decide +kernel) (by decide) cl_L_21 cst_2 dL_name_15 rfl (Nat.le_of_ble_eq_true rfl) ?_
      refine ja_iconst (v := nI 1) dL_name_17 (by decide +kernel) ?_
      exact ja_iret rfl rfl dL_name_18 (Nat.le_of_eq (Nat.zero_add c9)) (Nat.le_of_eq (Nat.zero_add s9)) (Or.inr ⟨_, hk, rfl⟩)
    · refine ja_catch_i (hp := [(0, 12, 15, 21)]) (h1 := (0, 12, 19, 13)) (hs := []) rfl (by decide +kernel) (fun z hz => by
        simp only [List.mem_cons, List.not_mem_nil, or_false] at hz
        subst hz
        exact ⟨by decide, _, cl_L_21, by decide +kernel, by decide⟩) (by decide +kernel) (by decide) cl_L_13 cst_0 dL_name_19 rfl (Nat.le_of_ble_eq_true rfl) ?_
      refine ja_iconst (v := nI 2) dL_name_21 (by decide +kernel) ?_
      exact ja_iret rfl rfl dL_name_22 (Nat.le_of_eq (Nat.zero_add c9)) (Nat.le_of_eq (Nat.zero_add s9)) (Or.inr ⟨_, hk, rfl⟩)
  · obtain ⟨hz, b, rfl⟩ := hkr _ _ _ hk
    refine ja_i2l dL_name_10 rfl ?_
    refine ja_last (n := 1) (j := 0) hz rfl (by decide) (by decide) dL_name_11 ?_
    refine ja_goto dL_name_12 (tgt := 23) (by decide) ?_
    refine ja_iconst (v := nI 0) dL_name_23 (by decide +kernel) ?_
    exact ja_iret rfl rfl dL_name_24 (Nat.le_of_eq (Nat.zero_add c9)) (Nat.le_of_eq (Nat.zero_add s9)) (Or.inl ⟨_, _, hk, rfl, rfl⟩)
theorem w_placeOf (l : Launch) {Z : jZ} {D : jD} {p0 p1 : Int32} {c9 s9 : Nat} {kr : Option Value → jZ → jD → Prop} {kx : String → jZ → jD → Prop} (hM : ja_M l (mX7_placeOf c9 s9) [.ref 0, .int p0, .int p1] Z D kr kx) (h0 : Z.2.1 0 = (7, 13)) (hkr : ∀ v Z1 D1, kr v Z1 D1 → Z1.2.1 200 = (13, 1) ∧ ∃ b : Int32, v = some (.int b)) (hkx : ∀ E Z1 D1, kx E Z1 D1 → E ∈ (["java/lang/IndexOutOfBoundsException", "java/lang/IllegalArgumentException", "java/util/NoSuchElementException"] : List String)) :
    ja_M l (mL_placeOf c9 s9) [.ref 0, .int p0, .int p1, .ref 200] Z D (ja_wr kr kx g_i 200 ["java/lang/IndexOutOfBoundsException", "java/lang/IllegalArgumentException", "java/util/NoSuchElementException"]) ja_x0 := by
  refine ja_MofH (lv := [some (.ref 0), some (.int p0), some (.int p1), some (.ref 200), none]) pn_L rfl rfl (Nat.le_of_ble_eq_true rfl) rfl ?_
  refine ja_aload_n (i := 3) dL_placeOf_0 rfl rfl ?_
  refine ja_iconst (v := nI 0) dL_placeOf_1 (by decide +kernel) ?_
  refine ja_aload_n (i := 0) dL_placeOf_2 rfl rfl ?_
  refine ja_iload_n (i := 1) dL_placeOf_3 rfl rfl ?_
  refine ja_iload_n (i := 2) dL_placeOf_4 rfl rfl ?_
  refine ja_callV (av := [.int p0, .int p1]) (st := [.int (nI 0), .ref 200]) hM (ce_X7_placeOf c9 s9) im_X7_placeOf se_X7_placeOf lk_L_136 k_X7 h0 ⟨Nat.le_of_ble_eq_true rfl, Nat.le_of_ble_eq_true rfl⟩ dL_placeOf_5 rfl rfl (Nat.le_of_ble_eq_true rfl) (Nat.le_of_eq (Nat.zero_add c9)) (Nat.le_of_eq (Nat.zero_add s9)) (fun E Z1 D1 hk => ?_) (fun v Z1 D1 hk => ?_)
  · have hE := hkx _ _ _ hk
    simp only [List.mem_cons, List.not_mem_nil, or_false] at hE
    rcases hE with rfl | rfl | rfl
    · refine ja_catch_i (hp := []) (h1 := (0, 10, 13, 21)) (hs := [(0, 10, 17, 13), (0, 10, 21, 43)]) rfl (by decide +kernel) (fun z hz => by cases hz) (by decide +kernel) (by decide) cl_L_21 cst_2 dL_placeOf_13 rfl (Nat.le_of_ble_eq_true rfl) ?_
      refine ja_iconst (v := nI 1) dL_placeOf_15 (by decide +kernel) ?_
      exact ja_iret rfl rfl dL_placeOf_16 (Nat.le_of_eq (Nat.zero_add c9)) (Nat.le_of_eq (Nat.zero_add s9)) (Or.inr ⟨_, hk, rfl⟩)
    · refine ja_catch_i (hp := [(0, 10, 13, 21)]) (h1 := (0, 10, 17, 13)) (hs := [(0, 10, 21, 43)]) rfl (by decide +kernel) (fun z hz => by
        simp only [List.mem_cons, List.not_mem_nil, or_false] at hz
        subst hz
        exact ⟨by decide, _, cl_L_21, by decide +kernel, by decide⟩) (by decide +kernel) (by decide) cl_L_13 cst_0 dL_placeOf_17 rfl (Nat.le_of_ble_eq_true rfl) ?_
      refine ja_iconst (v := nI 2) dL_placeOf_19 (by decide +kernel) ?_
      exact ja_iret rfl rfl dL_placeOf_20 (Nat.le_of_eq (Nat.zero_add c9)) (Nat.le_of_eq (Nat.zero_add s9)) (Or.inr ⟨_, hk, rfl⟩)
    · refine ja_catch_i (hp := [(0, 10, 13, 21), (0, 10, 17, 13)]) (h1 := (0, 10, 21, 43)) (hs := []) rfl (by decide +kernel) (fun z hz => by
        simp only [List.mem_cons, List.not_mem_nil, or_false] at hz
        rcases hz with rfl | rfl
        · exact ⟨by decide, _, cl_L_21, by decide +kernel, by decide⟩
        · exact ⟨by decide, _, cl_L_13, by decide +kernel, by decide⟩) (by decide +kernel) (by decide) cl_L_43 cst_4 dL_placeOf_21 rfl (Nat.le_of_ble_eq_true rfl) ?_
      refine ja_iconst (v := nI 3) dL_placeOf_23 (by decide +kernel) ?_
      exact ja_iret rfl rfl dL_placeOf_24 (Nat.le_of_eq (Nat.zero_add c9)) (Nat.le_of_eq (Nat.zero_add s9)) (Or.inr ⟨_, hk, rfl⟩)
  · obtain ⟨hz, b, rfl⟩ := hkr _ _ _ hk
    refine ja_i2l dL_placeOf_8 rfl ?_
    refine ja_last (n := 1) (j := 0) hz rfl (by decide) (by decide) dL_placeOf_9 ?_
    refine ja_goto dL_placeOf_10 (tgt := 25) (by decide) ?_
    refine ja_iconst (v := nI 0) dL_placeOf_25 (by decide +kernel) ?_
    exact ja_iret rfl rfl dL_placeOf_26 (Nat.le_of_eq (Nat.zero_add c9)) (Nat.le_of_eq (Nat.zero_add s9)) (Or.inl ⟨_, _, hk, rfl, rfl⟩)
theorem w_values (l : Launch) {Z : jZ} {D : jD} {p0 : Int32} {c9 s9 : Nat} {kr : Option Value → jZ → jD → Prop} {kx : String → jZ → jD → Prop} (hM : ja_M l (mX7_values c9 s9) [.ref 0, .int p0] Z D kr kx) (h0 : Z.2.1 0 = (7, 13)) (hkr : ∀ v Z1 D1, kr v Z1 D1 → Z1.2.1 200 = (13, 1) ∧ ∃ b : Int64, v = some (.long b)) (hkx : ∀ E Z1 D1, kx E Z1 D1 → E ∈ (["java/lang/IndexOutOfBoundsException"] : List String)) :
    ja_M l (mL_values c9 s9) [.ref 0, .int p0, .ref 200] Z D (ja_wr kr kx g_l 200 ["java/lang/IndexOutOfBoundsException"]) ja_x0 := by
  refine ja_MofH (lv := [some (.ref 0), some (.int p0), some (.ref 200), none]) pn_L rfl rfl (Nat.le_of_ble_eq_true rfl) rfl ?_
  refine ja_aload_n (i := 2) dL_values_0 rfl rfl ?_
  refine ja_iconst (v := nI 0) dL_values_1 (by decide +kernel) ?_
  refine ja_aload_n (i := 0) dL_values_2 rfl rfl ?_
  refine ja_iload_n (i := 1) dL_values_3 rfl rfl ?_
  refine ja_callV (av := [.int p0]) (st := [.int (nI 0), .ref 200]) hM (ce_X7_values c9 s9) im_X7_values se_X7_values lk_L_139 k_X7 h0 ⟨Nat.le_of_ble_eq_true rfl, Nat.le_of_ble_eq_true rfl⟩ dL_values_4 rfl rfl (Nat.le_of_ble_eq_true rfl) (Nat.le_of_eq (Nat.zero_add c9)) (Nat.le_of_eq (Nat.zero_add s9)) (fun E Z1 D1 hk => ?_) (fun v Z1 D1 hk => ?_)
  · have hE := hkx _ _ _ hk
    simp only [List.mem_cons, List.not_mem_nil, or_false] at hE
    subst hE
    · refine ja_catch_n (n := 3) (i := 3) (hp := []) (h1 := (0, 8, 11, 21)) (hs := []) rfl (by decide +kernel) (fun z hz => by cases hz) (by decide +kernel) (by decide) cl_L_21 cst_2 dL_values_11 rfl rfl (Nat.le_of_ble_eq_true rfl) ?_
      refine ja_iconst (v := nI 1) dL_values_12 (by decide +kernel) ?_
      exact ja_iret rfl rfl dL_values_13 (Nat.le_of_eq (Nat.zero_add c9)) (Nat.le_of_eq (Nat.zero_add s9)) (Or.inr ⟨_, hk, rfl⟩)
  · obtain ⟨hz, b, rfl⟩ := hkr _ _ _ hk
    refine ja_last (n := 1) (j := 0) hz rfl (by decide) (by decide) dL_values_7 ?_
    refine ja_goto dL_values_8 (tgt := 14) (by decide) ?_
    refine ja_iconst (v := nI 0) dL_values_14 (by decide +kernel) ?_
    exact ja_iret rfl rfl dL_values_15 (Nat.le_of_eq (Nat.zero_add c9)) (Nat.le_of_eq (Nat.zero_add s9)) (Or.inl ⟨_, _, hk, rfl, rfl⟩)
theorem w_covered (l : Launch) {Z : jZ} {D : jD} {p0 : Int32} {c9 s9 : Nat} {kr : Option Value → jZ → jD → Prop} {kx : String → jZ → jD → Prop} (hM : ja_M l (mX7_covered c9 s9) [.ref 0, .int p0] Z D kr kx) (h0 : Z.2.1 0 = (7, 13)) (hkr : ∀ v Z1 D1, kr v Z1 D1 → Z1.2.1 201 = (14, 1) ∧ ∃ b : UInt32, v = some (.float b) ∧ vf_n64 (FP.f2d b)) (hkx : ∀ E Z1 D1, kx E Z1 D1 → E ∈ (["java/lang/IndexOutOfBoundsException"] : List String)) :
    ja_M l (mL_covered c9 s9) [.ref 0, .int p0, .ref 201] Z D (ja_wr kr kx g_f 201 ["java/lang/IndexOutOfBoundsException"]) ja_x0 := by
  refine ja_MofH (lv := [some (.ref 0), some (.int p0), some (.ref 201), none]) pn_L rfl rfl (Nat.le_of_ble_eq_true rfl) rfl ?_
  refine ja_aload_n (i := 2) dL_covered_0 rfl rfl ?_
  refine ja_iconst (v := nI 0) dL_covered_1 (by decide +kernel) ?_
  refine ja_aload_n (i := 0) dL_covered_2 rfl rfl ?_
  refine ja_iload_n (i := 1) dL_covered_3 rfl rfl ?_
  refine ja_callV (av := [.int p0]) (st := [.int (nI 0), .ref 201]) hM (ce_X7_covered c9 s9) im_X7_covered se_X7_covered lk_L_143 k_X7 h0 ⟨Nat.le_of_ble_eq_true rfl, Nat.le_of_ble_eq_true rfl⟩ dL_covered_4 rfl rfl (Nat.le_of_ble_eq_true rfl) (Nat.le_of_eq (Nat.zero_add c9)) (Nat.le_of_eq (Nat.zero_add s9)) (fun E Z1 D1 hk => ?_) (fun v Z1 D1 hk => ?_)
  · have hE := hkx _ _ _ hk
    simp only [List.mem_cons, List.not_mem_nil, or_false] at hE
    subst hE
    · refine ja_catch_n (n := 3) (i := 3) (hp := []) (h1 := (0, 9, 12, 21)) (hs := []) rfl (by decide +kernel) (fun z hz => by cases hz) (by decide +kernel) (by decide) cl_L_21 cst_2 dL_covered_12 rfl rfl (Nat.le_of_ble_eq_true rfl) ?_
      refine ja_iconst (v := nI 1) dL_covered_13 (by decide +kernel) ?_
      exact ja_iret rfl rfl dL_covered_14 (Nat.le_of_eq (Nat.zero_add c9)) (Nat.le_of_eq (Nat.zero_add s9)) (Or.inr ⟨_, hk, rfl⟩)
  · obtain ⟨hz, b, rfl, hn⟩ := hkr _ _ _ hk
    refine ja_f2d dL_covered_7 hn ?_
    refine ja_dast (n := 1) (j := 0) hz rfl (by decide) (by decide) dL_covered_8 ?_
    refine ja_goto dL_covered_9 (tgt := 15) (by decide) ?_
    refine ja_iconst (v := nI 0) dL_covered_15 (by decide +kernel) ?_
    exact ja_iret rfl rfl dL_covered_16 (Nat.le_of_eq (Nat.zero_add c9)) (Nat.le_of_eq (Nat.zero_add s9)) (Or.inl ⟨_, _, hk, rfl, rfl⟩)
theorem w_meanPiece (l : Launch) {Z : jZ} {D : jD} {p0 p1 : Int32} {c9 s9 : Nat} {kr : Option Value → jZ → jD → Prop} {kx : String → jZ → jD → Prop} (hM : ja_M l (mX7_meanPiece c9 s9) [.ref 0, .int p0, .int p1] Z D kr kx) (h0 : Z.2.1 0 = (7, 13)) (hkr : ∀ v Z1 D1, kr v Z1 D1 → Z1.2.1 201 = (14, 1) ∧ ∃ b : UInt64, v = some (.double b)) (hkx : ∀ E Z1 D1, kx E Z1 D1 → E ∈ (["java/lang/IndexOutOfBoundsException", "java/lang/ArithmeticException"] : List String)) :
    ja_M l (mL_meanPiece c9 s9) [.ref 0, .int p0, .int p1, .ref 201] Z D (ja_wr kr kx g_d 201 ["java/lang/IndexOutOfBoundsException", "java/lang/ArithmeticException"]) ja_x0 := by
  refine ja_MofH (lv := [some (.ref 0), some (.int p0), some (.int p1), some (.ref 201), none]) pn_L rfl rfl (Nat.le_of_ble_eq_true rfl) rfl ?_
  refine ja_aload_n (i := 3) dL_meanPiece_0 rfl rfl ?_
  refine ja_iconst (v := nI 0) dL_meanPiece_1 (by decide +kernel) ?_
  refine ja_aload_n (i := 0) dL_meanPiece_2 rfl rfl ?_
  refine ja_iload_n (i := 1) dL_meanPiece_3 rfl rfl ?_
  refine ja_iload_n (i := 2) dL_meanPiece_4 rfl rfl ?_
  refine ja_callV (av := [.int p0, .int p1]) (st := [.int (nI 0), .ref 201]) hM (ce_X7_meanPiece c9 s9) im_X7_meanPiece se_X7_meanPiece lk_L_147 k_X7 h0 ⟨Nat.le_of_ble_eq_true rfl, Nat.le_of_ble_eq_true rfl⟩ dL_meanPiece_5 rfl rfl (Nat.le_of_ble_eq_true rfl) (Nat.le_of_eq (Nat.zero_add c9)) (Nat.le_of_eq (Nat.zero_add s9)) (fun E Z1 D1 hk => ?_) (fun v Z1 D1 hk => ?_)
  · have hE := hkx _ _ _ hk
    simp only [List.mem_cons, List.not_mem_nil, or_false] at hE
    rcases hE with rfl | rfl
    · refine ja_catch_i (hp := []) (h1 := (0, 9, 12, 21)) (hs := [(0, 9, 16, 151)]) rfl (by decide +kernel) (fun z hz => by cases hz) (by decide +kernel) (by decide) cl_L_21 cst_2 dL_meanPiece_12 rfl (Nat.le_of_ble_eq_true rfl) ?_
      refine ja_iconst (v := nI 1) dL_meanPiece_14 (by decide +kernel) ?_
      exact ja_iret rfl rfl dL_meanPiece_15 (Nat.le_of_eq (Nat.zero_add c9)) (Nat.le_of_eq (Nat.zero_add s9)) (Or.inr ⟨_, hk, rfl⟩)
    · refine ja_catch_i (hp := [(0, 9, 12, 21)]) (h1 := (0, 9, 16, 151)) (hs := []) rfl (by decide +kernel) (fun z hz => by
        simp only [List.mem_cons, List.not_mem_nil, or_false] at hz
        subst hz
        exact ⟨by decide, _, cl_L_21, by decide +kernel, by decide⟩) (by decide +kernel) (by decide) cl_L_151 cst_5 dL_meanPiece_16 rfl (Nat.le_of_ble_eq_true rfl) ?_
      refine ja_iconst (v := nI 2) dL_meanPiece_18 (by decide +kernel) ?_
      exact ja_iret rfl rfl dL_meanPiece_19 (Nat.le_of_eq (Nat.zero_add c9)) (Nat.le_of_eq (Nat.zero_add s9)) (Or.inr ⟨_, hk, rfl⟩)
  · obtain ⟨hz, b, rfl⟩ := hkr _ _ _ hk
    refine ja_dast (n := 1) (j := 0) hz rfl (by decide) (by decide) dL_meanPiece_8 ?_
    refine ja_goto dL_meanPiece_9 (tgt := 20) (by decide) ?_
    refine ja_iconst (v := nI 0) dL_meanPiece_20 (by decide +kernel) ?_
    exact ja_iret rfl rfl dL_meanPiece_21 (Nat.le_of_eq (Nat.zero_add c9)) (Nat.le_of_eq (Nat.zero_add s9)) (Or.inl ⟨_, _, hk, rfl, rfl⟩)
