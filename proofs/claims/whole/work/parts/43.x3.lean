/-! THE CLASS: layers -/
set_option maxRecDepth 100000 in
set_option maxHeartbeats 4000000 in
theorem c_fill10 (l : Launch) {Z : jZ} {D : jD} {id : Nat} (hS : Z.2.1 id = (10, 10)) (x : Int32) : ja_M l (mJ7_fill_53178 0 0) [.ref (id), .int (x)] Z D (ja_jd none Z (fun D2 => D2 = fiU D id 10 x)) ja_x0 := by
  refine ja_Mof (lv := [some (.ref (id)), some (.int (x)), none, none]) (by decide +kernel) rfl rfl (Nat.le_of_ble_eq_true rfl) rfl ?_
  refine ja_iconst (v := nI 0) dJ7_fill_53178_0 (by decide +kernel) ?_
  refine ja_istore_n (i := 2) dJ7_fill_53178_1 rfl rfl (Nat.le_of_ble_eq_true rfl) ?_
  refine ja_aload_n (i := 0) dJ7_fill_53178_2 rfl rfl ?_
  refine ja_alen (v := nI 10) (t0 := 0) hS (by decide) (fun tc => ⟨_, rfl⟩) rfl dJ7_fill_53178_3 ?_
  refine ja_istore_n (i := 3) dJ7_fill_53178_4 rfl rfl (Nat.le_of_ble_eq_true rfl) ?_
  have lp5 : ∀ (f5 : Nat) (k : Nat) (E : jD), (10 < k + f5) → (k ≤ 10) → (E = fiU D id k x) → ja_A l (mJ7_fill_53178 0 0) ja_sn (ja_Qf (mJ7_fill_53178 0 0) (ja_jd none Z (fun D2 => D2 = fiU D id 10 x)) ja_x0) 5 [some (.ref (id)), some (.int (x)), some (.int (nI (k))), some (.int (nI (10)))] [] Z E 0 0 := by
    intro f5
    induction f5 with
    | zero => intro k E hk hq hE; exfalso; omega
    | succ f5 ih5 =>
      intro k E hk hq hE
      refine ja_iload_n (i := 2) dJ7_fill_53178_5 rfl rfl ?_
      refine ja_iload_n (i := 3) dJ7_fill_53178_6 rfl rfl ?_
      refine ja_icmpN_ge (tgt := 20) dJ7_fill_53178_7 (by decide) (by omega) (by omega) (fun c7 => ?_) (fun c7 => ?_)
      ·
        refine ja_vret rfl dJ7_fill_53178_20 (Nat.zero_le _) (Nat.zero_le _) ?_
        exact ⟨rfl, rfl, by rw [hE, show k = 10 by omega]⟩
      ·
        refine ja_aload_n (i := 0) dJ7_fill_53178_10 rfl rfl ?_
        refine ja_iload_n (i := 2) dJ7_fill_53178_11 rfl rfl ?_
        refine ja_iload_n (i := 1) dJ7_fill_53178_12 rfl rfl ?_
        refine ja_iast hS rfl (by omega) (by decide) dJ7_fill_53178_13 ?_
        refine ja_iincN dJ7_fill_53178_14 rfl rfl (Nat.le_of_ble_eq_true rfl) ?_
        refine ja_goto (tgt := 5) dJ7_fill_53178_17 (by decide) ?_
        exact ih5 (k + 1) _ (by omega) (by omega) (by rw [hE]; exact fiU_s)
  exact lp5 11 0 D (by omega) (by omega) fiU_0

set_option maxRecDepth 100000 in
set_option maxHeartbeats 4000000 in
theorem c_fill256 (l : Launch) {Z : jZ} {D : jD} {id : Nat} (hS : Z.2.1 id = (10, 256)) (x : Int32) : ja_M l (mJ7_fill_53178 0 0) [.ref (id), .int (x)] Z D (ja_jd none Z (fun D2 => D2 = fiU D id 256 x)) ja_x0 := by
  refine ja_Mof (lv := [some (.ref (id)), some (.int (x)), none, none]) (by decide +kernel) rfl rfl (Nat.le_of_ble_eq_true rfl) rfl ?_
  refine ja_iconst (v := nI 0) dJ7_fill_53178_0 (by decide +kernel) ?_
  refine ja_istore_n (i := 2) dJ7_fill_53178_1 rfl rfl (Nat.le_of_ble_eq_true rfl) ?_
  refine ja_aload_n (i := 0) dJ7_fill_53178_2 rfl rfl ?_
  refine ja_alen (v := nI 256) (t0 := 0) hS (by decide) (fun tc => ⟨_, rfl⟩) rfl dJ7_fill_53178_3 ?_
  refine ja_istore_n (i := 3) dJ7_fill_53178_4 rfl rfl (Nat.le_of_ble_eq_true rfl) ?_
  have lp5 : ∀ (f5 : Nat) (k : Nat) (E : jD), (256 < k + f5) → (k ≤ 256) → (E = fiU D id k x) → ja_A l (mJ7_fill_53178 0 0) ja_sn (ja_Qf (mJ7_fill_53178 0 0) (ja_jd none Z (fun D2 => D2 = fiU D id 256 x)) ja_x0) 5 [some (.ref (id)), some (.int (x)), some (.int (nI (k))), some (.int (nI (256)))] [] Z E 0 0 := by
    intro f5
    induction f5 with
    | zero => intro k E hk hq hE; exfalso; omega
    | succ f5 ih5 =>
      intro k E hk hq hE
      refine ja_iload_n (i := 2) dJ7_fill_53178_5 rfl rfl ?_
      refine ja_iload_n (i := 3) dJ7_fill_53178_6 rfl rfl ?_
      refine ja_icmpN_ge (tgt := 20) dJ7_fill_53178_7 (by decide) (by omega) (by omega) (fun c7 => ?_) (fun c7 => ?_)
      ·
        refine ja_vret rfl dJ7_fill_53178_20 (Nat.zero_le _) (Nat.zero_le _) ?_
        exact ⟨rfl, rfl, by rw [hE, show k = 256 by omega]⟩
      ·
        refine ja_aload_n (i := 0) dJ7_fill_53178_10 rfl rfl ?_
        refine ja_iload_n (i := 2) dJ7_fill_53178_11 rfl rfl ?_
        refine ja_iload_n (i := 1) dJ7_fill_53178_12 rfl rfl ?_
        refine ja_iast hS rfl (by omega) (by decide) dJ7_fill_53178_13 ?_
        refine ja_iincN dJ7_fill_53178_14 rfl rfl (Nat.le_of_ble_eq_true rfl) ?_
        refine ja_goto (tgt := 5) dJ7_fill_53178_17 (by decide) ?_
        exact ih5 (k + 1) _ (by omega) (by omega) (by rw [hE]; exact fiU_s)
  exact lp5 257 0 D (by omega) (by omega) fiU_0

set_option maxRecDepth 100000 in
set_option maxHeartbeats 4000000 in
theorem c_openEdit (l : Launch) {Z : jZ} {D : jD} (hx : zX Z) {ly : Nat} (h1 : ly < 3)  : ja_M l (mX1_openEdit 0 0) [.ref (30 + 10 * ly)] Z D (ja_jd none Z (fun D2 => D2 = ja_up (fiU D (37 + 10 * ly) 10 0) (30 + 10 * ly) 8 (nI 0))) ja_x0 := by
  refine ja_Mof (lv := [some (.ref (30 + 10 * ly))]) (by decide +kernel) rfl rfl (Nat.le_of_ble_eq_true rfl) rfl ?_
  refine ja_aload_n (i := 0) dX1_openEdit_0 rfl rfl ?_
  refine ja_getR fl_X1_34 (zL_o hx (l := ly) (by omega)) rfl (zL_p7 hx (l := ly) (by omega)) dX1_openEdit_1 ?_
  refine ja_iconst (v := nI 0) dX1_openEdit_4 (by decide +kernel) ?_
  refine ja_cSd0 (st := []) (c_fill10 (D := D) l (zL_a7 hx (l := ly) (by omega)) (nI (0))) rfl rfl (ce_J7_fill_53178 0 0) st_J7_fill_53178 lk_X1_37 ⟨(Nat.le_of_ble_eq_true rfl), (Nat.le_of_ble_eq_true rfl)⟩ dX1_openEdit_5 rfl rfl (Nat.le_of_ble_eq_true rfl) (Nat.zero_le _) (Nat.zero_le _) ?_
  intro D5 hD5
  subst hD5
  refine ja_aload_n (i := 0) dX1_openEdit_8 rfl rfl ?_
  refine ja_iconst (v := nI 0) dX1_openEdit_9 (by decide +kernel) ?_
  refine ja_putI fl_X1_43 (zL_o hx (l := ly) (by omega)) rfl rfl rfl dX1_openEdit_10 ?_
  refine ja_vret rfl dX1_openEdit_13 (Nat.zero_le _) (Nat.zero_le _) ?_
  exact ⟨rfl, rfl, rfl⟩
