/-! THE CLASS: names, its methods -/
/-- neither the square nor a neighbour has a name -/
def nrP (T : Nat → Int32) (q : Nat) : Prop := T q = 0 ∧ ∀ s j, s < 4 → nbM s q = some j → T j = 0
def nrX (T : Nat → Int32) (q s : Nat) : Prop := ¬ (T q = 0 ∧ ∀ s2, s2 < s → ∀ j, nbX s2 q = some j → T j = 0)
theorem nrX_e {T : Nat → Int32} {q : Nat} : nrX T q 4 ↔ ¬ nrP T q := by
  unfold nrX nrP
  constructor
  · intro h h2
    exact h ⟨h2.1, fun s hs j hj => h2.2 (sgm s) j (sgm_lt hs) (by rw [← nbX_M]; exact hj)⟩
  · intro h h2
    exact h ⟨h2.1, fun s j hs hj => h2.2 (sgm s) (sgm_lt hs) j (by rw [nbX_M, sgm_2 hs]; exact hj)⟩
theorem nrX_t {T : Nat → Int32} {q s : Nat} (h : nrX T q s) : nrX T q (s + 1) := fun x => h ⟨x.1, fun s2 hs j hj => x.2 s2 (by omega) j hj⟩
theorem nrX_y {T : Nat → Int32} {q s j : Nat} (hn : nbX s q = some j) (h : ¬ T j = 0) : nrX T q (s + 1) := fun x => h (x.2 s (by omega) j hn)
theorem nrX_n {T : Nat → Int32} {q s : Nat} (h : ¬ nrX T q s) (h2 : ∀ j, nbX s q = some j → T j = 0) : ¬ nrX T q (s + 1) := fun x => h (fun y => x ⟨y.1, fun s2 hs j hj => by
  by_cases e : s2 = s
  · subst e; exact h2 j hj
  · exact y.2 s2 (by omega) j hj⟩)
theorem nrX_0 {T : Nat → Int32} {q : Nat} : nrX T q 0 ↔ ¬ T q = 0 := ⟨fun h x => h ⟨x, fun s hs => absurd hs (Nat.not_lt_zero s)⟩, fun h x => h x.1⟩

set_option maxRecDepth 100000 in
set_option maxHeartbeats 4000000 in
theorem c_isNearName (l : Launch) {Z : jZ} {D : jD} (hx : zX Z) {T : Nat → Int32} (hT : ∀ k, k < 256 → (D 18 k = -1 ↔ T k = 0)) {q : Nat} (hq : q < 256) : ja_M l (mX2_isNearName 0 0) [.ref (17), .int (nI (q))] Z D (ja_jr (some (.int (bI (bP (¬ nrP T q))))) Z D) ja_x0 := by
  refine ja_Mof (lv := [some (.ref (17)), some (.int (nI (q))), none, none, none]) (by decide +kernel) rfl rfl (Nat.le_of_ble_eq_true rfl) rfl ?_
  refine ja_aload_n (i := 0) dX2_isNearName_0 rfl rfl ?_
  refine ja_getR fl_X2_9 (zX_o17 hx) rfl (zX_p17_0 hx) dX2_isNearName_1 ?_
  refine ja_iload_n (i := 1) dX2_isNearName_4 rfl rfl ?_
  refine ja_iald (zX_o18 hx) rfl (by omega) (by decide) dX2_isNearName_5 ?_
  refine ja_iconst (v := (-1)) dX2_isNearName_6 (by decide +kernel) ?_
  refine ja_icmp_eq (tgt := 14) dX2_isNearName_7 (by decide) (fun c7 => ?_) (fun c7 => ?_)
  ·
    refine ja_iconst (v := nI 0) dX2_isNearName_14 (by decide +kernel) ?_
    refine ja_istore_n (i := 2) dX2_isNearName_15 rfl rfl (Nat.le_of_ble_eq_true rfl) ?_
    refine ja_iconst (v := nI 0) dX2_isNearName_16 (by decide +kernel) ?_
    refine ja_istore_n (i := 3) dX2_isNearName_17 rfl rfl (Nat.le_of_ble_eq_true rfl) ?_
    have lp18 : ∀ (f18 : Nat) (s : Nat) (b : Bool), (4 < s + f18) → (s ≤ 4) → (b = bP (nrX T q s)) → ja_A l (mX2_isNearName 0 0) ja_sn (ja_Qf (mX2_isNearName 0 0) (ja_jr (some (.int (bI (bP (¬ nrP T q))))) Z D) ja_x0) 18 [some (.ref (17)), some (.int (nI (q))), some (.int (bI (b))), some (.int (nI (s))), none] [] Z D 0 0 := by
      intro f18
      induction f18 with
      | zero => intro s b hf hs hb; exfalso; omega
      | succ f18 ih18 =>
        intro s b hf hs hb
        refine ja_iload_n (i := 3) dX2_isNearName_18 rfl rfl ?_
        refine ja_iconst (v := nI 4) dX2_isNearName_19 (by decide +kernel) ?_
        refine ja_icmpN_ge (tgt := 63) dX2_isNearName_20 (by decide) (by omega) (by omega) (fun c20 => ?_) (fun c20 => ?_)
        ·
          refine ja_iload_n (i := 2) dX2_isNearName_63 rfl rfl ?_
          refine ja_iret rfl (bI_nar _) dX2_isNearName_64 (Nat.zero_le _) (Nat.zero_le _) ?_
          exact ⟨by rw [hb, show s = 4 by omega, bP_cg nrX_e], rfl, rfl⟩
        ·
          refine ja_iload_n (i := 1) dX2_isNearName_23 rfl rfl ?_
          refine ja_iload_n (i := 3) dX2_isNearName_24 rfl rfl ?_
          refine ja_cNr (st := []) (c_nb l (q := q) (s := s) (by omega) (by omega)) rfl rfl (ce_X7_neighbour 0 0) st_X7_neighbour nk_X2_68 ⟨(Nat.le_of_ble_eq_true rfl), (Nat.le_of_ble_eq_true rfl)⟩ dX2_isNearName_25 rfl rfl (Nat.le_of_ble_eq_true rfl) (Nat.zero_le _) (Nat.zero_le _) ?_
          refine ja_istore (i := 4) dX2_isNearName_28 rfl (Nat.le_of_ble_eq_true rfl) ?_
          rcases hnb : nbX s q with _ | j
          ·
            refine ja_iload_n (i := 2) dX2_isNearName_30 rfl rfl ?_
            refine ja_ifB_ne (tgt := 51) dX2_isNearName_31 (by decide) (fun c31 => ?_) (fun c31 => ?_)
            ·
              refine ja_iconst (v := nI 1) dX2_isNearName_51 (by decide +kernel) ?_
              refine ja_goto (tgt := 56) dX2_isNearName_52 (by decide) ?_
              refine ja_istore_n (i := 2) dX2_isNearName_56 rfl rfl (Nat.le_of_ble_eq_true rfl) ?_
              refine ja_iincN dX2_isNearName_57 rfl rfl (Nat.le_of_ble_eq_true rfl) ?_
              refine ja_goto (tgt := 18) dX2_isNearName_60 (by decide) ?_
              refine ja_forget (i := 4) ?_
              exact ih18 (s + 1) true (by omega) (by omega) (by symm; refine bP_t ?_; first | exact nrX_t (bP_of (hb.symm.trans c31)) | exact nrX_y hnb (fun x => c48 ((hT j hj).mpr x)))
            ·
              refine ja_iload (i := 4) dX2_isNearName_34 rfl ?_
              refine ja_iconst (v := (-1)) dX2_isNearName_36 (by decide +kernel) ?_
              refine ja_icmp_eq (tgt := 55) dX2_isNearName_37 (by decide) (fun c37 => ?_) (fun c37 => absurd rfl c37)
              refine ja_iconst (v := nI 0) dX2_isNearName_55 (by decide +kernel) ?_
              refine ja_istore_n (i := 2) dX2_isNearName_56 rfl rfl (Nat.le_of_ble_eq_true rfl) ?_
              refine ja_iincN dX2_isNearName_57 rfl rfl (Nat.le_of_ble_eq_true rfl) ?_
              refine ja_goto (tgt := 18) dX2_isNearName_60 (by decide) ?_
              refine ja_forget (i := 4) ?_
              exact ih18 (s + 1) false (by omega) (by omega) (by symm; refine bP_f (nrX_n (bP_no (hb.symm.trans c31)) (fun j2 hj2 => ?_)); rw [hnb] at hj2; first | (cases hj2; done) | (cases hj2; exact (hT j hj).mp c48))
          ·
            have hj := nbX_lt (by omega) hnb
            refine ja_iload_n (i := 2) dX2_isNearName_30 rfl rfl ?_
            refine ja_ifB_ne (tgt := 51) dX2_isNearName_31 (by decide) (fun c31 => ?_) (fun c31 => ?_)
            ·
              refine ja_iconst (v := nI 1) dX2_isNearName_51 (by decide +kernel) ?_
              refine ja_goto (tgt := 56) dX2_isNearName_52 (by decide) ?_
              refine ja_istore_n (i := 2) dX2_isNearName_56 rfl rfl (Nat.le_of_ble_eq_true rfl) ?_
              refine ja_iincN dX2_isNearName_57 rfl rfl (Nat.le_of_ble_eq_true rfl) ?_
              refine ja_goto (tgt := 18) dX2_isNearName_60 (by decide) ?_
              refine ja_forget (i := 4) ?_
              exact ih18 (s + 1) true (by omega) (by omega) (by symm; refine bP_t ?_; first | exact nrX_t (bP_of (hb.symm.trans c31)) | exact nrX_y hnb (fun x => c48 ((hT j hj).mpr x)))
            ·
              refine ja_iload (i := 4) dX2_isNearName_34 rfl ?_
              refine ja_iconst (v := (-1)) dX2_isNearName_36 (by decide +kernel) ?_
              refine ja_icmp_eq (tgt := 55) dX2_isNearName_37 (by decide) (fun c37 => absurd c37 (nI_nm1 (by omega))) (fun c37 => ?_)
              refine ja_aload_n (i := 0) dX2_isNearName_40 rfl rfl ?_
              refine ja_getR fl_X2_9 (zX_o17 hx) rfl (zX_p17_0 hx) dX2_isNearName_41 ?_
              refine ja_iload (i := 4) dX2_isNearName_44 rfl ?_
              refine ja_iald (zX_o18 hx) rfl (by omega) (by decide) dX2_isNearName_46 ?_
              refine ja_iconst (v := (-1)) dX2_isNearName_47 (by decide +kernel) ?_
              refine ja_icmp_eq (tgt := 55) dX2_isNearName_48 (by decide) (fun c48 => ?_) (fun c48 => ?_)
              ·
                refine ja_iconst (v := nI 0) dX2_isNearName_55 (by decide +kernel) ?_
                refine ja_istore_n (i := 2) dX2_isNearName_56 rfl rfl (Nat.le_of_ble_eq_true rfl) ?_
                refine ja_iincN dX2_isNearName_57 rfl rfl (Nat.le_of_ble_eq_true rfl) ?_
                refine ja_goto (tgt := 18) dX2_isNearName_60 (by decide) ?_
                refine ja_forget (i := 4) ?_
                exact ih18 (s + 1) false (by omega) (by omega) (by symm; refine bP_f (nrX_n (bP_no (hb.symm.trans c31)) (fun j2 hj2 => ?_)); rw [hnb] at hj2; first | (cases hj2; done) | (cases hj2; exact (hT j hj).mp c48))
              ·
                refine ja_iconst (v := nI 1) dX2_isNearName_51 (by decide +kernel) ?_
                refine ja_goto (tgt := 56) dX2_isNearName_52 (by decide) ?_
                refine ja_istore_n (i := 2) dX2_isNearName_56 rfl rfl (Nat.le_of_ble_eq_true rfl) ?_
                refine ja_iincN dX2_isNearName_57 rfl rfl (Nat.le_of_ble_eq_true rfl) ?_
                refine ja_goto (tgt := 18) dX2_isNearName_60 (by decide) ?_
                refine ja_forget (i := 4) ?_
                exact ih18 (s + 1) true (by omega) (by omega) (by symm; refine bP_t ?_; first | exact nrX_t (bP_of (hb.symm.trans c31)) | exact nrX_y hnb (fun x => c48 ((hT j hj).mpr x)))
    exact lp18 5 0 false (by omega) (by omega) (by symm; exact bP_f (fun x => nrX_0.mp x ((hT q hq).mp c7)))
  ·
    refine ja_iconst (v := nI 1) dX2_isNearName_10 (by decide +kernel) ?_
    refine ja_goto (tgt := 15) dX2_isNearName_11 (by decide) ?_
    refine ja_istore_n (i := 2) dX2_isNearName_15 rfl rfl (Nat.le_of_ble_eq_true rfl) ?_
    refine ja_iconst (v := nI 0) dX2_isNearName_16 (by decide +kernel) ?_
    refine ja_istore_n (i := 3) dX2_isNearName_17 rfl rfl (Nat.le_of_ble_eq_true rfl) ?_
    have lp18 : ∀ (f18 : Nat) (s : Nat) (b : Bool), (4 < s + f18) → (s ≤ 4) → (b = bP (nrX T q s)) → ja_A l (mX2_isNearName 0 0) ja_sn (ja_Qf (mX2_isNearName 0 0) (ja_jr (some (.int (bI (bP (¬ nrP T q))))) Z D) ja_x0) 18 [some (.ref (17)), some (.int (nI (q))), some (.int (bI (b))), some (.int (nI (s))), none] [] Z D 0 0 := by
      intro f18
      induction f18 with
      | zero => intro s b hf hs hb; exfalso; omega
      | succ f18 ih18 =>
        intro s b hf hs hb
        refine ja_iload_n (i := 3) dX2_isNearName_18 rfl rfl ?_
        refine ja_iconst (v := nI 4) dX2_isNearName_19 (by decide +kernel) ?_
        refine ja_icmpN_ge (tgt := 63) dX2_isNearName_20 (by decide) (by omega) (by omega) (fun c20 => ?_) (fun c20 => ?_)
        ·
          refine ja_iload_n (i := 2) dX2_isNearName_63 rfl rfl ?_
          refine ja_iret rfl (bI_nar _) dX2_isNearName_64 (Nat.zero_le _) (Nat.zero_le _) ?_
          exact ⟨by rw [hb, show s = 4 by omega, bP_cg nrX_e], rfl, rfl⟩
        ·
          refine ja_iload_n (i := 1) dX2_isNearName_23 rfl rfl ?_
          refine ja_iload_n (i := 3) dX2_isNearName_24 rfl rfl ?_
          refine ja_cNr (st := []) (c_nb l (q := q) (s := s) (by omega) (by omega)) rfl rfl (ce_X7_neighbour 0 0) st_X7_neighbour nk_X2_68 ⟨(Nat.le_of_ble_eq_true rfl), (Nat.le_of_ble_eq_true rfl)⟩ dX2_isNearName_25 rfl rfl (Nat.le_of_ble_eq_true rfl) (Nat.zero_le _) (Nat.zero_le _) ?_
          refine ja_istore (i := 4) dX2_isNearName_28 rfl (Nat.le_of_ble_eq_true rfl) ?_
          rcases hnb : nbX s q with _ | j
          ·
            refine ja_iload_n (i := 2) dX2_isNearName_30 rfl rfl ?_
            refine ja_ifB_ne (tgt := 51) dX2_isNearName_31 (by decide) (fun c31 => ?_) (fun c31 => ?_)
            ·
              refine ja_iconst (v := nI 1) dX2_isNearName_51 (by decide +kernel) ?_
              refine ja_goto (tgt := 56) dX2_isNearName_52 (by decide) ?_
              refine ja_istore_n (i := 2) dX2_isNearName_56 rfl rfl (Nat.le_of_ble_eq_true rfl) ?_
              refine ja_iincN dX2_isNearName_57 rfl rfl (Nat.le_of_ble_eq_true rfl) ?_
              refine ja_goto (tgt := 18) dX2_isNearName_60 (by decide) ?_
              refine ja_forget (i := 4) ?_
              exact ih18 (s + 1) true (by omega) (by omega) (by symm; refine bP_t ?_; first | exact nrX_t (bP_of (hb.symm.trans c31)) | exact nrX_y hnb (fun x => c48 ((hT j hj).mpr x)))
            ·
              refine ja_iload (i := 4) dX2_isNearName_34 rfl ?_
              refine ja_iconst (v := (-1)) dX2_isNearName_36 (by decide +kernel) ?_
              refine ja_icmp_eq (tgt := 55) dX2_isNearName_37 (by decide) (fun c37 => ?_) (fun c37 => absurd rfl c37)
              refine ja_iconst (v := nI 0) dX2_isNearName_55 (by decide +kernel) ?_
              refine ja_istore_n (i := 2) dX2_isNearName_56 rfl rfl (Nat.le_of_ble_eq_true rfl) ?_
              refine ja_iincN dX2_isNearName_57 rfl rfl (Nat.le_of_ble_eq_true rfl) ?_
              refine ja_goto (tgt := 18) dX2_isNearName_60 (by decide) ?_
              refine ja_forget (i := 4) ?_
              exact ih18 (s + 1) false (by omega) (by omega) (by symm; refine bP_f (nrX_n (bP_no (hb.symm.trans c31)) (fun j2 hj2 => ?_)); rw [hnb] at hj2; first | (cases hj2; done) | (cases hj2; exact (hT j hj).mp c48))
          ·
            have hj := nbX_lt (by omega) hnb
            refine ja_iload_n (i := 2) dX2_isNearName_30 rfl rfl ?_
            refine ja_ifB_ne (tgt := 51) dX2_isNearName_31 (by decide) (fun c31 => ?_) (fun c31 => ?_)
            ·
              refine ja_iconst (v := nI 1) dX2_isNearName_51 (by decide +kernel) ?_
              refine ja_goto (tgt := 56) dX2_isNearName_52 (by decide) ?_
              refine ja_istore_n (i := 2) dX2_isNearName_56 rfl rfl (Nat.le_of_ble_eq_true rfl) ?_
              refine ja_iincN dX2_isNearName_57 rfl rfl (Nat.le_of_ble_eq_true rfl) ?_
              refine ja_goto (tgt := 18) dX2_isNearName_60 (by decide) ?_
              refine ja_forget (i := 4) ?_
              exact ih18 (s + 1) true (by omega) (by omega) (by symm; refine bP_t ?_; first | exact nrX_t (bP_of (hb.symm.trans c31)) | exact nrX_y hnb (fun x => c48 ((hT j hj).mpr x)))
            ·
              refine ja_iload (i := 4) dX2_isNearName_34 rfl ?_
              refine ja_iconst (v := (-1)) dX2_isNearName_36 (by decide +kernel) ?_
              refine ja_icmp_eq (tgt := 55) dX2_isNearName_37 (by decide) (fun c37 => absurd c37 (nI_nm1 (by omega))) (fun c37 => ?_)
              refine ja_aload_n (i := 0) dX2_isNearName_40 rfl rfl ?_
              refine ja_getR fl_X2_9 (zX_o17 hx) rfl (zX_p17_0 hx) dX2_isNearName_41 ?_
              refine ja_iload (i := 4) dX2_isNearName_44 rfl ?_
              refine ja_iald (zX_o18 hx) rfl (by omega) (by decide) dX2_isNearName_46 ?_
              refine ja_iconst (v := (-1)) dX2_isNearName_47 (by decide +kernel) ?_
              refine ja_icmp_eq (tgt := 55) dX2_isNearName_48 (by decide) (fun c48 => ?_) (fun c48 => ?_)
              ·
                refine ja_iconst (v := nI 0) dX2_isNearName_55 (by decide +kernel) ?_
                refine ja_istore_n (i := 2) dX2_isNearName_56 rfl rfl (Nat.le_of_ble_eq_true rfl) ?_
                refine ja_iincN dX2_isNearName_57 rfl rfl (Nat.le_of_ble_eq_true rfl) ?_
                refine ja_goto (tgt := 18) dX2_isNearName_60 (by decide) ?_
                refine ja_forget (i := 4) ?_
                exact ih18 (s + 1) false (by omega) (by omega) (by symm; refine bP_f (nrX_n (bP_no (hb.symm.trans c31)) (fun j2 hj2 => ?_)); rw [hnb] at hj2; first | (cases hj2; done) | (cases hj2; exact (hT j hj).mp c48))
              ·
                refine ja_iconst (v := nI 1) dX2_isNearName_51 (by decide +kernel) ?_
                refine ja_goto (tgt := 56) dX2_isNearName_52 (by decide) ?_
                refine ja_istore_n (i := 2) dX2_isNearName_56 rfl rfl (Nat.le_of_ble_eq_true rfl) ?_
                refine ja_iincN dX2_isNearName_57 rfl rfl (Nat.le_of_ble_eq_true rfl) ?_
                refine ja_goto (tgt := 18) dX2_isNearName_60 (by decide) ?_
                refine ja_forget (i := 4) ?_
                exact ih18 (s + 1) true (by omega) (by omega) (by symm; refine bP_t ?_; first | exact nrX_t (bP_of (hb.symm.trans c31)) | exact nrX_y hnb (fun x => c48 ((hT j hj).mpr x)))
    exact lp18 5 0 true (by omega) (by omega) (by symm; exact bP_t (nrX_0.mpr (fun x => c7 ((hT q hq).mpr x))))

theorem cst_F {f T : Nat → Int32} {ly q m k : Nat} {a : Int32} (h1 : q ≤ k) (h2 : k < q + m) (h : ¬ cst1 f T ly a k) : ¬ cst f T ly a q m := fun x => h (x.2 k h1 h2)
theorem cst1_i {f T : Nat → Int32} {ly k : Nat} {a : Int32} : cst1 f T ly a k ↔ f (256 * ly + k) = a ∧ nrP T k := ⟨fun h => ⟨h.1.1, h.1.2, h.2⟩, fun h => ⟨⟨h.1, h.2.1⟩, h.2.2⟩⟩

set_option maxRecDepth 100000 in
set_option maxHeartbeats 4000000 in
theorem c_isFree (l : Launch) {Z : jZ} {D : jD} (hx : zX Z) {ly : Nat} (h1 : ly < 3) {f : Nat → Int32} (hf : ∀ q, q < 256 → D (31 + 10 * ly) q = f (256 * ly + q)) {T : Nat → Int32} (hT : ∀ k, k < 256 → (D 18 k = -1 ↔ T k = 0)) {a q m : Nat} (hq : q < 256) (hm : m ≤ 6) : ja_M l (mX2_isFree 0 0) [.ref (17), .ref (30 + 10 * ly), .int (nI (a)), .int (nI (q)), .int (nI (m))] Z D (ja_jr (some (.int (bI (bP (cst f T ly (nI a) q m))))) Z D) ja_x0 := by
  refine ja_Mof (lv := [some (.ref (17)), some (.ref (30 + 10 * ly)), some (.int (nI (a))), some (.int (nI (q))), some (.int (nI (m))), none]) (by decide +kernel) rfl rfl (Nat.le_of_ble_eq_true rfl) rfl ?_
  refine ja_iload_n (i := 3) dX2_isFree_0 rfl rfl ?_
  refine ja_bipush (v := nI 16) dX2_isFree_1 (by decide +kernel) ?_
  refine ja_iremN dX2_isFree_3 (by omega) (by omega) (by omega) ?_
  refine ja_iload (i := 4) dX2_isFree_4 rfl ?_
  refine ja_iaddN dX2_isFree_6 ?_
  refine ja_bipush (v := nI 16) dX2_isFree_7 (by decide +kernel) ?_
  refine ja_icmpN_le (tgt := 14) dX2_isFree_9 (by decide) (by omega) (by omega) (fun c9 => ?_) (fun c9 => ?_)
  ·
    refine ja_iload_n (i := 3) dX2_isFree_14 rfl rfl ?_
    refine ja_istore (i := 5) dX2_isFree_15 rfl (Nat.le_of_ble_eq_true rfl) ?_
    have lp17 : ∀ (f17 : Nat) (k : Nat), (q + m < k + f17) → (q ≤ k) → (k ≤ q + m) → (∀ j, q ≤ j → j < k → cst1 f T ly (nI a) j) → ja_A l (mX2_isFree 0 0) ja_sn (ja_Qf (mX2_isFree 0 0) (ja_jr (some (.int (bI (bP (cst f T ly (nI a) q m))))) Z D) ja_x0) 17 [some (.ref (17)), some (.ref (30 + 10 * ly)), some (.int (nI (a))), some (.int (nI (q))), some (.int (nI (m))), some (.int (nI (k)))] [] Z D 0 0 := by
      intro f17
      induction f17 with
      | zero => intro k hf2 hk1 hk hd; exfalso; omega
      | succ f17 ih17 =>
        intro k hf2 hk1 hk hd
        refine ja_iload (i := 5) dX2_isFree_17 rfl ?_
        refine ja_iload_n (i := 3) dX2_isFree_19 rfl rfl ?_
        refine ja_iload (i := 4) dX2_isFree_20 rfl ?_
        refine ja_iaddN dX2_isFree_22 ?_
        refine ja_icmpN_ge (tgt := 54) dX2_isFree_23 (by decide) (by omega) (by omega) (fun c23 => ?_) (fun c23 => ?_)
        ·
          refine ja_iconst (v := nI 1) dX2_isFree_54 (by decide +kernel) ?_
          refine ja_iret rfl (by decide +kernel) dX2_isFree_55 (Nat.zero_le _) (Nat.zero_le _) ?_
          exact ⟨congrArg some (congrArg Value.int (bP_T ⟨by omega, fun j j1 j2 => hd j j1 (by omega)⟩)), rfl, rfl⟩
        ·
          refine ja_aload_n (i := 1) dX2_isFree_26 rfl rfl ?_
          refine ja_getR fl_X2_62 (zL_o hx (l := ly) (by omega)) rfl (zL_p0 hx (l := ly) (by omega)) dX2_isFree_27 ?_
          refine ja_iload (i := 5) dX2_isFree_30 rfl ?_
          refine ja_iald (zL_a0 hx (l := ly) (by omega)) rfl (by omega) (by decide) dX2_isFree_32 ?_
          refine ja_top (y := f (256 * ly + k)) (hf k (by omega)) ?_
          refine ja_iload_n (i := 2) dX2_isFree_33 rfl rfl ?_
          refine ja_icmp_ne (tgt := 46) dX2_isFree_34 (by decide) (fun c34 => ?_) (fun c34 => ?_)
          ·
            refine ja_iconst (v := nI 0) dX2_isFree_46 (by decide +kernel) ?_
            refine ja_iret rfl (by decide +kernel) dX2_isFree_47 (Nat.zero_le _) (Nat.zero_le _) ?_
            exact ⟨congrArg some (congrArg Value.int (bP_F (cst_F hk1 (by omega) (fun x => by have y := cst1_i.mp x; first | exact c34 y.1 | exact bP_of c43 y.2)))), rfl, rfl⟩
          ·
            refine ja_aload_n (i := 0) dX2_isFree_37 rfl rfl ?_
            refine ja_iload (i := 5) dX2_isFree_38 rfl ?_
            refine ja_cVr (st := []) (c_isNearName (D := D) l hx hT (q := k) (by omega)) rfl rfl (ce_X2_isNearName 0 0) im_X2_isNearName se_X2_isNearName lk_X2_65 k_X2 (zX_o17 hx) ⟨(Nat.le_of_ble_eq_true rfl), (Nat.le_of_ble_eq_true rfl)⟩ dX2_isFree_40 rfl rfl (Nat.le_of_ble_eq_true rfl) (Nat.zero_le _) (Nat.zero_le _) ?_
            refine ja_ifB_eq (tgt := 48) dX2_isFree_43 (by decide) (fun c43 => ?_) (fun c43 => ?_)
            ·
              refine ja_iincN dX2_isFree_48 rfl rfl (Nat.le_of_ble_eq_true rfl) ?_
              refine ja_goto (tgt := 17) dX2_isFree_51 (by decide) ?_
              exact ih17 (k + 1) (by omega) (by omega) (by omega) (fun j j1 j2 => if e : j = k then (by rw [e]; exact cst1_i.mpr ⟨c34, Classical.byContradiction fun x => bP_no c43 x⟩) else hd j j1 (by omega))
            ·
              refine ja_iconst (v := nI 0) dX2_isFree_46 (by decide +kernel) ?_
              refine ja_iret rfl (by decide +kernel) dX2_isFree_47 (Nat.zero_le _) (Nat.zero_le _) ?_
              exact ⟨congrArg some (congrArg Value.int (bP_F (cst_F hk1 (by omega) (fun x => by have y := cst1_i.mp x; first | exact c34 y.1 | exact bP_of c43 y.2)))), rfl, rfl⟩
    exact lp17 (m + 1) q (by omega) (by omega) (by omega) (fun j h1 h2 => absurd h2 (by omega))
  ·
    refine ja_iconst (v := nI 0) dX2_isFree_12 (by decide +kernel) ?_
    refine ja_iret rfl (by decide +kernel) dX2_isFree_13 (Nat.zero_le _) (Nat.zero_le _) ?_
    exact ⟨congrArg some (congrArg Value.int (bP_F (fun x => absurd x.1 (by omega)))), rfl, rfl⟩

set_option maxRecDepth 100000 in
set_option maxHeartbeats 4000000 in
theorem c_sumOfX (l : Launch) {Z : jZ} {D : jD} (hx : zX Z) {ly : Nat} (h1 : ly < 3) {f : Nat → Int32} (hf : ∀ q, q < 256 → D (31 + 10 * ly) q = f (256 * ly + q)) {a : Nat} : ja_M l (mX2_sumOf 0 0) [.ref (30 + 10 * ly), .int (nI (a)), .int (bI (true))] Z D (ja_jr (some (.int (nI (sxF f ly (nI a) 256)))) Z D) ja_x0 := by
  refine ja_Mof (lv := [some (.ref (30 + 10 * ly)), some (.int (nI (a))), some (.int (bI (true))), none, none]) (by decide +kernel) rfl rfl (Nat.le_of_ble_eq_true rfl) rfl ?_
  refine ja_iconst (v := nI 0) dX2_sumOf_0 (by decide +kernel) ?_
  refine ja_istore_n (i := 3) dX2_sumOf_1 rfl rfl (Nat.le_of_ble_eq_true rfl) ?_
  refine ja_iconst (v := nI 0) dX2_sumOf_2 (by decide +kernel) ?_
  refine ja_istore (i := 4) dX2_sumOf_3 rfl (Nat.le_of_ble_eq_true rfl) ?_
  have lp5 : ∀ (f5 : Nat) (q n : Nat), (256 < q + f5) → (q ≤ 256) → (n = sxF f ly (nI a) q) → ja_A l (mX2_sumOf 0 0) ja_sn (ja_Qf (mX2_sumOf 0 0) (ja_jr (some (.int (nI (sxF f ly (nI a) 256)))) Z D) ja_x0) 5 [some (.ref (30 + 10 * ly)), some (.int (nI (a))), some (.int (bI (true))), some (.int (nI (n))), some (.int (nI (q)))] [] Z D 0 0 := by
    intro f5
    induction f5 with
    | zero => intro q n hf2 hq hn; exfalso; omega
    | succ f5 ih5 =>
      intro q n hf2 hq hn
      refine ja_iload (i := 4) dX2_sumOf_5 rfl ?_
      refine ja_sipush (v := nI 256) dX2_sumOf_7 (by decide +kernel) ?_
      refine ja_icmpN_ge (tgt := 50) dX2_sumOf_10 (by decide) (by omega) (by omega) (fun c10 => ?_) (fun c10 => ?_)
      ·
        refine ja_iload_n (i := 3) dX2_sumOf_50 rfl rfl ?_
        refine ja_iret rfl rfl dX2_sumOf_51 (Nat.zero_le _) (Nat.zero_le _) ?_
        exact ⟨by rw [hn, show q = 256 by omega], rfl, rfl⟩
      ·
        refine ja_aload_n (i := 0) dX2_sumOf_13 rfl rfl ?_
        refine ja_getR fl_X2_62 (zL_o hx (l := ly) (by omega)) rfl (zL_p0 hx (l := ly) (by omega)) dX2_sumOf_14 ?_
        refine ja_iload (i := 4) dX2_sumOf_17 rfl ?_
        refine ja_iald (zL_a0 hx (l := ly) (by omega)) rfl (by omega) (by decide) dX2_sumOf_19 ?_
        refine ja_top (y := f (256 * ly + q)) (hf q (by omega)) ?_
        refine ja_iload_n (i := 1) dX2_sumOf_20 rfl rfl ?_
        refine ja_icmp_ne (tgt := 44) dX2_sumOf_21 (by decide) (fun c21 => ?_) (fun c21 => ?_)
        ·
          refine ja_iincN dX2_sumOf_44 rfl rfl (Nat.le_of_ble_eq_true rfl) ?_
          refine ja_goto (tgt := 5) dX2_sumOf_47 (by decide) ?_
          exact ih5 (q + 1) _ (by omega) (by omega) (by rw [hn, sxF, sxF, fb_sm_succ]; simp only [c21, if_true, if_false, Nat.add_zero])
        ·
          refine ja_iload_n (i := 3) dX2_sumOf_24 rfl rfl ?_
          refine ja_iload_n (i := 2) dX2_sumOf_25 rfl rfl ?_
          refine ja_ifB_eq (tgt := 37) dX2_sumOf_26 (by decide) (fun c26 => absurd c26 (by decide)) (fun c26 => ?_)
          refine ja_iload (i := 4) dX2_sumOf_29 rfl ?_
          refine ja_bipush (v := nI 16) dX2_sumOf_31 (by decide +kernel) ?_
          refine ja_iremN dX2_sumOf_33 (by omega) (by omega) (by omega) ?_
          refine ja_goto (tgt := 42) dX2_sumOf_34 (by decide) ?_
          refine ja_iaddN dX2_sumOf_42 ?_
          refine ja_istore_n (i := 3) dX2_sumOf_43 rfl rfl (Nat.le_of_ble_eq_true rfl) ?_
          refine ja_iincN dX2_sumOf_44 rfl rfl (Nat.le_of_ble_eq_true rfl) ?_
          refine ja_goto (tgt := 5) dX2_sumOf_47 (by decide) ?_
          exact ih5 (q + 1) _ (by omega) (by omega) (by rw [hn, sxF, sxF, fb_sm_succ]; simp only [c21, if_true, if_false, Nat.add_zero])
  exact lp5 257 0 0 (by omega) (by omega) rfl

set_option maxRecDepth 100000 in
set_option maxHeartbeats 4000000 in
theorem c_sumOfY (l : Launch) {Z : jZ} {D : jD} (hx : zX Z) {ly : Nat} (h1 : ly < 3) {f : Nat → Int32} (hf : ∀ q, q < 256 → D (31 + 10 * ly) q = f (256 * ly + q)) {a : Nat} : ja_M l (mX2_sumOf 0 0) [.ref (30 + 10 * ly), .int (nI (a)), .int (bI (false))] Z D (ja_jr (some (.int (nI (syF f ly (nI a) 256)))) Z D) ja_x0 := by
  refine ja_Mof (lv := [some (.ref (30 + 10 * ly)), some (.int (nI (a))), some (.int (bI (false))), none, none]) (by decide +kernel) rfl rfl (Nat.le_of_ble_eq_true rfl) rfl ?_
  refine ja_iconst (v := nI 0) dX2_sumOf_0 (by decide +kernel) ?_
  refine ja_istore_n (i := 3) dX2_sumOf_1 rfl rfl (Nat.le_of_ble_eq_true rfl) ?_
  refine ja_iconst (v := nI 0) dX2_sumOf_2 (by decide +kernel) ?_
  refine ja_istore (i := 4) dX2_sumOf_3 rfl (Nat.le_of_ble_eq_true rfl) ?_
  have lp5 : ∀ (f5 : Nat) (q n : Nat), (256 < q + f5) → (q ≤ 256) → (n = syF f ly (nI a) q) → ja_A l (mX2_sumOf 0 0) ja_sn (ja_Qf (mX2_sumOf 0 0) (ja_jr (some (.int (nI (syF f ly (nI a) 256)))) Z D) ja_x0) 5 [some (.ref (30 + 10 * ly)), some (.int (nI (a))), some (.int (bI (false))), some (.int (nI (n))), some (.int (nI (q)))] [] Z D 0 0 := by
    intro f5
    induction f5 with
    | zero => intro q n hf2 hq hn; exfalso; omega
    | succ f5 ih5 =>
      intro q n hf2 hq hn
      refine ja_iload (i := 4) dX2_sumOf_5 rfl ?_
      refine ja_sipush (v := nI 256) dX2_sumOf_7 (by decide +kernel) ?_
      refine ja_icmpN_ge (tgt := 50) dX2_sumOf_10 (by decide) (by omega) (by omega) (fun c10 => ?_) (fun c10 => ?_)
      ·
        refine ja_iload_n (i := 3) dX2_sumOf_50 rfl rfl ?_
        refine ja_iret rfl rfl dX2_sumOf_51 (Nat.zero_le _) (Nat.zero_le _) ?_
        exact ⟨by rw [hn, show q = 256 by omega], rfl, rfl⟩
      ·
        refine ja_aload_n (i := 0) dX2_sumOf_13 rfl rfl ?_
        refine ja_getR fl_X2_62 (zL_o hx (l := ly) (by omega)) rfl (zL_p0 hx (l := ly) (by omega)) dX2_sumOf_14 ?_
        refine ja_iload (i := 4) dX2_sumOf_17 rfl ?_
        refine ja_iald (zL_a0 hx (l := ly) (by omega)) rfl (by omega) (by decide) dX2_sumOf_19 ?_
        refine ja_top (y := f (256 * ly + q)) (hf q (by omega)) ?_
        refine ja_iload_n (i := 1) dX2_sumOf_20 rfl rfl ?_
        refine ja_icmp_ne (tgt := 44) dX2_sumOf_21 (by decide) (fun c21 => ?_) (fun c21 => ?_)
        ·
          refine ja_iincN dX2_sumOf_44 rfl rfl (Nat.le_of_ble_eq_true rfl) ?_
          refine ja_goto (tgt := 5) dX2_sumOf_47 (by decide) ?_
          exact ih5 (q + 1) _ (by omega) (by omega) (by rw [hn, syF, syF, fb_sm_succ]; simp only [c21, if_true, if_false, Nat.add_zero])
        ·
          refine ja_iload_n (i := 3) dX2_sumOf_24 rfl rfl ?_
          refine ja_iload_n (i := 2) dX2_sumOf_25 rfl rfl ?_
          refine ja_ifB_eq (tgt := 37) dX2_sumOf_26 (by decide) (fun c26 => ?_) (fun c26 => absurd c26 (by decide))
          refine ja_iload (i := 4) dX2_sumOf_37 rfl ?_
          refine ja_bipush (v := nI 16) dX2_sumOf_39 (by decide +kernel) ?_
          refine ja_idivN dX2_sumOf_41 (by omega) (by omega) (by omega) ?_
          refine ja_iaddN dX2_sumOf_42 ?_
          refine ja_istore_n (i := 3) dX2_sumOf_43 rfl rfl (Nat.le_of_ble_eq_true rfl) ?_
          refine ja_iincN dX2_sumOf_44 rfl rfl (Nat.le_of_ble_eq_true rfl) ?_
          refine ja_goto (tgt := 5) dX2_sumOf_47 (by decide) ?_
          exact ih5 (q + 1) _ (by omega) (by omega) (by rw [hn, syF, syF, fb_sm_succ]; simp only [c21, if_true, if_false, Nat.add_zero])
  exact lp5 257 0 0 (by omega) (by omega) rfl

def bfo (z : Nat → Nat) (a o : Nat) : Prop := z o < z a ∨ (z a = z o ∧ a < o)
theorem bfo_nn (z : Nat → Nat) (a o : Nat) : bfo z a o ∨ ¬ bfo z a o := Classical.em _

set_option maxRecDepth 100000 in
set_option maxHeartbeats 4000000 in
theorem c_comesBefore (l : Launch) {Z : jZ} {D : jD} (hx : zX Z) {ly : Nat} (h1 : ly < 3) {z : Nat → Nat} (hz : ∀ a, a < 10 → D (32 + 10 * ly) a = nI (z a)) (hz2 : ∀ a, a < 10 → z a ≤ 256) {a o : Nat} (ha : a < 10) (ho : o < 10) : ja_M l (mX2_comesBefore 0 0) [.ref (30 + 10 * ly), .int (nI (a)), .int (nI (o))] Z D (ja_jr (some (.int (bI (bP (bfo z a o))))) Z D) ja_x0 := by
  have z1 := hz2 a ha
  have z2 := hz2 o ho
  refine ja_Mof (lv := [some (.ref (30 + 10 * ly)), some (.int (nI (a))), some (.int (nI (o))), none, none]) (by decide +kernel) rfl rfl (Nat.le_of_ble_eq_true rfl) rfl ?_
  refine ja_aload_n (i := 0) dX2_comesBefore_0 rfl rfl ?_
  refine ja_getR fl_X2_41 (zL_o hx (l := ly) (by omega)) rfl (zL_p1 hx (l := ly) (by omega)) dX2_comesBefore_1 ?_
  refine ja_iload_n (i := 1) dX2_comesBefore_4 rfl rfl ?_
  refine ja_iald (zL_a1 hx (l := ly) (by omega)) rfl (by omega) (by decide) dX2_comesBefore_5 ?_
  refine ja_top (y := nI (z a)) (hz a ha) ?_
  refine ja_istore_n (i := 3) dX2_comesBefore_6 rfl rfl (Nat.le_of_ble_eq_true rfl) ?_
  refine ja_aload_n (i := 0) dX2_comesBefore_7 rfl rfl ?_
  refine ja_getR fl_X2_41 (zL_o hx (l := ly) (by omega)) rfl (zL_p1 hx (l := ly) (by omega)) dX2_comesBefore_8 ?_
  refine ja_iload_n (i := 2) dX2_comesBefore_11 rfl rfl ?_
  refine ja_iald (zL_a1 hx (l := ly) (by omega)) rfl (by omega) (by decide) dX2_comesBefore_12 ?_
  refine ja_top (y := nI (z o)) (hz o ho) ?_
  refine ja_istore (i := 4) dX2_comesBefore_13 rfl (Nat.le_of_ble_eq_true rfl) ?_
  refine ja_iload_n (i := 3) dX2_comesBefore_15 rfl rfl ?_
  refine ja_iload (i := 4) dX2_comesBefore_16 rfl ?_
  refine ja_icmpN_gt (tgt := 32) dX2_comesBefore_18 (by decide) (by omega) (by omega) (fun c18 => ?_) (fun c18 => ?_)
  ·
    refine ja_iconst (v := nI 1) dX2_comesBefore_32 (by decide +kernel) ?_
    refine ja_goto (tgt := 37) dX2_comesBefore_33 (by decide) ?_
    refine ja_iret rfl (by decide +kernel) dX2_comesBefore_37 (Nat.zero_le _) (Nat.zero_le _) ?_
    exact ⟨congrArg some (congrArg Value.int (bP_T (by unfold bfo; omega))), rfl, rfl⟩
  ·
    refine ja_iload_n (i := 3) dX2_comesBefore_21 rfl rfl ?_
    refine ja_iload (i := 4) dX2_comesBefore_22 rfl ?_
    refine ja_icmpN_ne (tgt := 36) dX2_comesBefore_24 (by decide) (by omega) (by omega) (fun c24 => ?_) (fun c24 => ?_)
    ·
      refine ja_iconst (v := nI 0) dX2_comesBefore_36 (by decide +kernel) ?_
      refine ja_iret rfl (by decide +kernel) dX2_comesBefore_37 (Nat.zero_le _) (Nat.zero_le _) ?_
      exact ⟨congrArg some (congrArg Value.int (bP_F (by unfold bfo; omega))), rfl, rfl⟩
    ·
      refine ja_iload_n (i := 1) dX2_comesBefore_27 rfl rfl ?_
      refine ja_iload_n (i := 2) dX2_comesBefore_28 rfl rfl ?_
      refine ja_icmpN_ge (tgt := 36) dX2_comesBefore_29 (by decide) (by omega) (by omega) (fun c29 => ?_) (fun c29 => ?_)
      ·
        refine ja_iconst (v := nI 0) dX2_comesBefore_36 (by decide +kernel) ?_
        refine ja_iret rfl (by decide +kernel) dX2_comesBefore_37 (Nat.zero_le _) (Nat.zero_le _) ?_
        exact ⟨congrArg some (congrArg Value.int (bP_F (by unfold bfo; omega))), rfl, rfl⟩
      ·
        refine ja_iconst (v := nI 1) dX2_comesBefore_32 (by decide +kernel) ?_
        refine ja_goto (tgt := 37) dX2_comesBefore_33 (by decide) ?_
        refine ja_iret rfl (by decide +kernel) dX2_comesBefore_37 (Nat.zero_le _) (Nat.zero_le _) ?_
        exact ⟨congrArg some (congrArg Value.int (bP_T (by unfold bfo; omega))), rfl, rfl⟩

/-- behind the last one -/
def aft (z : Nat → Nat) (r : Option Nat) (o : Nat) : Prop := match r with
  | none => True
  | some b => bfo z b o
noncomputable def nxC (lm z : Nat → Nat) (r : Option Nat) (o : Nat) : Bool := bP (0 < lm o ∧ 0 < z o ∧ aft z r o)

set_option maxRecDepth 100000 in
set_option maxHeartbeats 4000000 in
theorem c_nextAreaN (l : Launch) {Z : jZ} {D : jD} (hx : zX Z) {ly : Nat} (h1 : ly < 3) {z : Nat → Nat} (hz : ∀ a, a < 10 → D (32 + 10 * ly) a = nI (z a)) (hz2 : ∀ a, a < 10 → z a ≤ 256) {lm : Nat → Nat} (hlm : ∀ a, a < 10 → D (34 + 10 * ly) a = nI (lm a) ∧ lm a ≤ 6) {b : Nat}  : ja_M l (mX2_nextArea 0 0) [.ref (17), .ref (30 + 10 * ly), .int ((-1))] Z D (ja_jr (some (.int (oI (cbM (nxC lm z none) (fun o => 256 - z o) 10)))) Z D) ja_x0 := by
  refine ja_Mof (lv := [some (.ref (17)), some (.ref (30 + 10 * ly)), some (.int ((-1))), none, none, none]) (by decide +kernel) rfl rfl (Nat.le_of_ble_eq_true rfl) rfl ?_
  refine ja_iconst (v := (-1)) dX2_nextArea_0 (by decide +kernel) ?_
  refine ja_istore_n (i := 3) dX2_nextArea_1 rfl rfl (Nat.le_of_ble_eq_true rfl) ?_
  refine ja_iconst (v := nI 0) dX2_nextArea_2 (by decide +kernel) ?_
  refine ja_istore (i := 4) dX2_nextArea_3 rfl (Nat.le_of_ble_eq_true rfl) ?_
  have lp5 : ∀ (f5 : Nat) (o : Nat) (r : Option Nat), (10 < o + f5) → (o ≤ 10) → (r = cbM (nxC lm z none) (fun o => 256 - z o) o) → ja_A l (mX2_nextArea 0 0) ja_sn (ja_Qf (mX2_nextArea 0 0) (ja_jr (some (.int (oI (cbM (nxC lm z none) (fun o => 256 - z o) 10)))) Z D) ja_x0) 5 [some (.ref (17)), some (.ref (30 + 10 * ly)), some (.int ((-1))), some (.int (oI r)), some (.int (nI (o))), none] [] Z D 0 0 := by
    intro f5
    induction f5 with
    | zero => intro o r hf2 ho hr; exfalso; omega
    | succ f5 ih5 =>
      intro o r hf2 ho hr
      have hr9 : ∀ x, r = some x → x < 10 := fun x e => by have := (cbM_lt (hr.symm.trans e)).1; omega
      refine ja_iload (i := 4) dX2_nextArea_5 rfl ?_
      refine ja_bipush (v := nI 10) dX2_nextArea_7 (by decide +kernel) ?_
      refine ja_icmpN_ge (tgt := 87) dX2_nextArea_9 (by decide) (by omega) (by omega) (fun c9 => ?_) (fun c9 => ?_)
      ·
        refine ja_iload_n (i := 3) dX2_nextArea_87 rfl rfl ?_
        refine ja_iret rfl rfl dX2_nextArea_88 (Nat.zero_le _) (Nat.zero_le _) ?_
        exact ⟨by rw [hr, show o = 10 by omega], rfl, rfl⟩
      ·
        obtain ⟨l1, l2⟩ := hlm o (by omega)
        have z1 := hz2 o (by omega)
        refine ja_aload_n (i := 1) dX2_nextArea_12 rfl rfl ?_
        refine ja_getR fl_X2_32 (zL_o hx (l := ly) (by omega)) rfl (zL_p3 hx (l := ly) (by omega)) dX2_nextArea_13 ?_
        refine ja_iload (i := 4) dX2_nextArea_16 rfl ?_
        refine ja_iald (zL_a3 hx (l := ly) (by omega)) rfl (by omega) (by decide) dX2_nextArea_18 ?_
        refine ja_top (y := nI (lm o)) l1 ?_
        refine ja_ifN_le (tgt := 53) dX2_nextArea_19 (by decide) (by omega) (fun c19 => ?_) (fun c19 => ?_)
        ·
          refine ja_iconst (v := nI 0) dX2_nextArea_53 (by decide +kernel) ?_
          refine ja_istore (i := 5) dX2_nextArea_54 rfl (Nat.le_of_ble_eq_true rfl) ?_
          have hnk : nxC lm z none o = false := bP_f (fun x => by have x2 := x.2.2; first | (have := x.1; omega) | (have := x.2.1; omega) | exact bP_no c46 x.2.2)
          refine ja_iload (i := 5) dX2_nextArea_56 rfl ?_
          refine ja_ifN_eq (tgt := 81) dX2_nextArea_58 (by decide) (by omega) (fun c58 => ?_) (fun c58 => absurd c58 (by decide))
          refine ja_iincN dX2_nextArea_81 rfl rfl (Nat.le_of_ble_eq_true rfl) ?_
          refine ja_goto (tgt := 5) dX2_nextArea_84 (by decide) ?_
          refine ja_forget (i := 5) ?_
          exact ih5 (o + 1) r (by omega) (by omega) (by first | exact hr.trans (cbM_n hnk).symm | exact (cbM_t2 hr.symm (by have q := bP_no c75; unfold bfo at q; have := (cbM_lt hr.symm).1; omega)).symm)
        ·
          refine ja_aload_n (i := 1) dX2_nextArea_22 rfl rfl ?_
          refine ja_getR fl_X2_41 (zL_o hx (l := ly) (by omega)) rfl (zL_p1 hx (l := ly) (by omega)) dX2_nextArea_23 ?_
          refine ja_iload (i := 4) dX2_nextArea_26 rfl ?_
          refine ja_iald (zL_a1 hx (l := ly) (by omega)) rfl (by omega) (by decide) dX2_nextArea_28 ?_
          refine ja_top (y := nI (z o)) (hz o (by omega)) ?_
          refine ja_ifN_le (tgt := 53) dX2_nextArea_29 (by decide) (by omega) (fun c29 => ?_) (fun c29 => ?_)
          ·
            refine ja_iconst (v := nI 0) dX2_nextArea_53 (by decide +kernel) ?_
            refine ja_istore (i := 5) dX2_nextArea_54 rfl (Nat.le_of_ble_eq_true rfl) ?_
            have hnk : nxC lm z none o = false := bP_f (fun x => by have x2 := x.2.2; first | (have := x.1; omega) | (have := x.2.1; omega) | exact bP_no c46 x.2.2)
            refine ja_iload (i := 5) dX2_nextArea_56 rfl ?_
            refine ja_ifN_eq (tgt := 81) dX2_nextArea_58 (by decide) (by omega) (fun c58 => ?_) (fun c58 => absurd c58 (by decide))
            refine ja_iincN dX2_nextArea_81 rfl rfl (Nat.le_of_ble_eq_true rfl) ?_
            refine ja_goto (tgt := 5) dX2_nextArea_84 (by decide) ?_
            refine ja_forget (i := 5) ?_
            exact ih5 (o + 1) r (by omega) (by omega) (by first | exact hr.trans (cbM_n hnk).symm | exact (cbM_t2 hr.symm (by have q := bP_no c75; unfold bfo at q; have := (cbM_lt hr.symm).1; omega)).symm)
          ·
            refine ja_iload_n (i := 2) dX2_nextArea_32 rfl rfl ?_
            refine ja_cNr (st := []) (c_isAreaN l) rfl rfl (ce_X7_isArea 0 0) st_X7_isArea nk_X2_25 ⟨(Nat.le_of_ble_eq_true rfl), (Nat.le_of_ble_eq_true rfl)⟩ dX2_nextArea_33 rfl rfl (Nat.le_of_ble_eq_true rfl) (Nat.zero_le _) (Nat.zero_le _) ?_
            refine ja_ifB_eq (tgt := 49) dX2_nextArea_36 (by decide) (fun c36 => ?_) (fun c36 => absurd c36 (by decide))
            refine ja_iconst (v := nI 1) dX2_nextArea_49 (by decide +kernel) ?_
            refine ja_goto (tgt := 54) dX2_nextArea_50 (by decide) ?_
            refine ja_istore (i := 5) dX2_nextArea_54 rfl (Nat.le_of_ble_eq_true rfl) ?_
            have hok : nxC lm z none o = true := bP_t ⟨by omega, by omega, by first | trivial | exact bP_of c46⟩
            refine ja_iload (i := 5) dX2_nextArea_56 rfl ?_
            refine ja_ifN_eq (tgt := 81) dX2_nextArea_58 (by decide) (by omega) (fun c58 => absurd c58 (by decide)) (fun c58 => ?_)
            rcases r with _ | xr
            ·
              refine ja_iload_n (i := 3) dX2_nextArea_61 rfl rfl ?_
              refine ja_cNr (st := []) (c_isAreaN l) rfl rfl (ce_X7_isArea 0 0) st_X7_isArea nk_X2_25 ⟨(Nat.le_of_ble_eq_true rfl), (Nat.le_of_ble_eq_true rfl)⟩ dX2_nextArea_62 rfl rfl (Nat.le_of_ble_eq_true rfl) (Nat.zero_le _) (Nat.zero_le _) ?_
              refine ja_ifB_eq (tgt := 78) dX2_nextArea_65 (by decide) (fun c65 => ?_) (fun c65 => absurd c65 (by decide))
              refine ja_iload (i := 4) dX2_nextArea_78 rfl ?_
              refine ja_istore_n (i := 3) dX2_nextArea_80 rfl rfl (Nat.le_of_ble_eq_true rfl) ?_
              refine ja_iincN dX2_nextArea_81 rfl rfl (Nat.le_of_ble_eq_true rfl) ?_
              refine ja_goto (tgt := 5) dX2_nextArea_84 (by decide) ?_
              refine ja_forget (i := 5) ?_
              exact ih5 (o + 1) (some o) (by omega) (by omega) (by first | exact (cbM_t0 hr.symm hok).symm | exact (cbM_t1 hr.symm hok (by have q := bP_of c75; unfold bfo at q; have := (cbM_lt hr.symm).1; omega)).symm)
            ·
              have hxr := hr9 xr rfl
              refine ja_iload_n (i := 3) dX2_nextArea_61 rfl rfl ?_
              refine ja_cNr (st := []) (c_isAreaT l (by omega)) rfl rfl (ce_X7_isArea 0 0) st_X7_isArea nk_X2_25 ⟨(Nat.le_of_ble_eq_true rfl), (Nat.le_of_ble_eq_true rfl)⟩ dX2_nextArea_62 rfl rfl (Nat.le_of_ble_eq_true rfl) (Nat.zero_le _) (Nat.zero_le _) ?_
              refine ja_ifB_eq (tgt := 78) dX2_nextArea_65 (by decide) (fun c65 => absurd c65 (by decide)) (fun c65 => ?_)
              have z2 := hz2 xr (by omega)
              refine ja_aload_n (i := 1) dX2_nextArea_68 rfl rfl ?_
              refine ja_iload (i := 4) dX2_nextArea_69 rfl ?_
              refine ja_iload_n (i := 3) dX2_nextArea_71 rfl rfl ?_
              refine ja_cSr (st := []) (c_comesBefore (D := D) l hx h1 hz hz2 (a := o) (o := xr) (by omega) (by omega)) rfl rfl (ce_X2_comesBefore 0 0) st_X2_comesBefore lk_X2_44 ⟨(Nat.le_of_ble_eq_true rfl), (Nat.le_of_ble_eq_true rfl)⟩ dX2_nextArea_72 rfl rfl (Nat.le_of_ble_eq_true rfl) (Nat.zero_le _) (Nat.zero_le _) ?_
              refine ja_ifB_eq (tgt := 81) dX2_nextArea_75 (by decide) (fun c75 => ?_) (fun c75 => ?_)
              ·
                refine ja_iincN dX2_nextArea_81 rfl rfl (Nat.le_of_ble_eq_true rfl) ?_
                refine ja_goto (tgt := 5) dX2_nextArea_84 (by decide) ?_
                refine ja_forget (i := 5) ?_
                exact ih5 (o + 1) (some xr) (by omega) (by omega) (by first | exact hr.trans (cbM_n hnk).symm | exact (cbM_t2 hr.symm (by have q := bP_no c75; unfold bfo at q; have := (cbM_lt hr.symm).1; omega)).symm)
              ·
                refine ja_iload (i := 4) dX2_nextArea_78 rfl ?_
                refine ja_istore_n (i := 3) dX2_nextArea_80 rfl rfl (Nat.le_of_ble_eq_true rfl) ?_
                refine ja_iincN dX2_nextArea_81 rfl rfl (Nat.le_of_ble_eq_true rfl) ?_
                refine ja_goto (tgt := 5) dX2_nextArea_84 (by decide) ?_
                refine ja_forget (i := 5) ?_
                exact ih5 (o + 1) (some o) (by omega) (by omega) (by first | exact (cbM_t0 hr.symm hok).symm | exact (cbM_t1 hr.symm hok (by have q := bP_of c75; unfold bfo at q; have := (cbM_lt hr.symm).1; omega)).symm)
  exact lp5 11 0 none (by omega) (by omega) rfl

set_option maxRecDepth 100000 in
set_option maxHeartbeats 4000000 in
theorem c_nextAreaS (l : Launch) {Z : jZ} {D : jD} (hx : zX Z) {ly : Nat} (h1 : ly < 3) {z : Nat → Nat} (hz : ∀ a, a < 10 → D (32 + 10 * ly) a = nI (z a)) (hz2 : ∀ a, a < 10 → z a ≤ 256) {lm : Nat → Nat} (hlm : ∀ a, a < 10 → D (34 + 10 * ly) a = nI (lm a) ∧ lm a ≤ 6) {b : Nat} (hb : b < 10)  : ja_M l (mX2_nextArea 0 0) [.ref (17), .ref (30 + 10 * ly), .int (nI (b))] Z D (ja_jr (some (.int (oI (cbM (nxC lm z (some b)) (fun o => 256 - z o) 10)))) Z D) ja_x0 := by
  refine ja_Mof (lv := [some (.ref (17)), some (.ref (30 + 10 * ly)), some (.int (nI (b))), none, none, none]) (by decide +kernel) rfl rfl (Nat.le_of_ble_eq_true rfl) rfl ?_
  refine ja_iconst (v := (-1)) dX2_nextArea_0 (by decide +kernel) ?_
  refine ja_istore_n (i := 3) dX2_nextArea_1 rfl rfl (Nat.le_of_ble_eq_true rfl) ?_
  refine ja_iconst (v := nI 0) dX2_nextArea_2 (by decide +kernel) ?_
  refine ja_istore (i := 4) dX2_nextArea_3 rfl (Nat.le_of_ble_eq_true rfl) ?_
  have lp5 : ∀ (f5 : Nat) (o : Nat) (r : Option Nat), (10 < o + f5) → (o ≤ 10) → (r = cbM (nxC lm z (some b)) (fun o => 256 - z o) o) → ja_A l (mX2_nextArea 0 0) ja_sn (ja_Qf (mX2_nextArea 0 0) (ja_jr (some (.int (oI (cbM (nxC lm z (some b)) (fun o => 256 - z o) 10)))) Z D) ja_x0) 5 [some (.ref (17)), some (.ref (30 + 10 * ly)), some (.int (nI (b))), some (.int (oI r)), some (.int (nI (o))), none] [] Z D 0 0 := by
    intro f5
    induction f5 with
    | zero => intro o r hf2 ho hr; exfalso; omega
    | succ f5 ih5 =>
      intro o r hf2 ho hr
      have hr9 : ∀ x, r = some x → x < 10 := fun x e => by have := (cbM_lt (hr.symm.trans e)).1; omega
      refine ja_iload (i := 4) dX2_nextArea_5 rfl ?_
      refine ja_bipush (v := nI 10) dX2_nextArea_7 (by decide +kernel) ?_
      refine ja_icmpN_ge (tgt := 87) dX2_nextArea_9 (by decide) (by omega) (by omega) (fun c9 => ?_) (fun c9 => ?_)
      ·
        refine ja_iload_n (i := 3) dX2_nextArea_87 rfl rfl ?_
        refine ja_iret rfl rfl dX2_nextArea_88 (Nat.zero_le _) (Nat.zero_le _) ?_
        exact ⟨by rw [hr, show o = 10 by omega], rfl, rfl⟩
      ·
        obtain ⟨l1, l2⟩ := hlm o (by omega)
        have z1 := hz2 o (by omega)
        refine ja_aload_n (i := 1) dX2_nextArea_12 rfl rfl ?_
        refine ja_getR fl_X2_32 (zL_o hx (l := ly) (by omega)) rfl (zL_p3 hx (l := ly) (by omega)) dX2_nextArea_13 ?_
        refine ja_iload (i := 4) dX2_nextArea_16 rfl ?_
        refine ja_iald (zL_a3 hx (l := ly) (by omega)) rfl (by omega) (by decide) dX2_nextArea_18 ?_
        refine ja_top (y := nI (lm o)) l1 ?_
        refine ja_ifN_le (tgt := 53) dX2_nextArea_19 (by decide) (by omega) (fun c19 => ?_) (fun c19 => ?_)
        ·
          refine ja_iconst (v := nI 0) dX2_nextArea_53 (by decide +kernel) ?_
          refine ja_istore (i := 5) dX2_nextArea_54 rfl (Nat.le_of_ble_eq_true rfl) ?_
          have hnk : nxC lm z (some b) o = false := bP_f (fun x => by have x2 := x.2.2; first | (have := x.1; omega) | (have := x.2.1; omega) | exact bP_no c46 x.2.2)
          refine ja_iload (i := 5) dX2_nextArea_56 rfl ?_
          refine ja_ifN_eq (tgt := 81) dX2_nextArea_58 (by decide) (by omega) (fun c58 => ?_) (fun c58 => absurd c58 (by decide))
          refine ja_iincN dX2_nextArea_81 rfl rfl (Nat.le_of_ble_eq_true rfl) ?_
          refine ja_goto (tgt := 5) dX2_nextArea_84 (by decide) ?_
          refine ja_forget (i := 5) ?_
          exact ih5 (o + 1) r (by omega) (by omega) (by first | exact hr.trans (cbM_n hnk).symm | exact (cbM_t2 hr.symm (by have q := bP_no c75; unfold bfo at q; have := (cbM_lt hr.symm).1; omega)).symm)
        ·
          refine ja_aload_n (i := 1) dX2_nextArea_22 rfl rfl ?_
          refine ja_getR fl_X2_41 (zL_o hx (l := ly) (by omega)) rfl (zL_p1 hx (l := ly) (by omega)) dX2_nextArea_23 ?_
          refine ja_iload (i := 4) dX2_nextArea_26 rfl ?_
          refine ja_iald (zL_a1 hx (l := ly) (by omega)) rfl (by omega) (by decide) dX2_nextArea_28 ?_
          refine ja_top (y := nI (z o)) (hz o (by omega)) ?_
          refine ja_ifN_le (tgt := 53) dX2_nextArea_29 (by decide) (by omega) (fun c29 => ?_) (fun c29 => ?_)
          ·
            refine ja_iconst (v := nI 0) dX2_nextArea_53 (by decide +kernel) ?_
            refine ja_istore (i := 5) dX2_nextArea_54 rfl (Nat.le_of_ble_eq_true rfl) ?_
            have hnk : nxC lm z (some b) o = false := bP_f (fun x => by have x2 := x.2.2; first | (have := x.1; omega) | (have := x.2.1; omega) | exact bP_no c46 x.2.2)
            refine ja_iload (i := 5) dX2_nextArea_56 rfl ?_
            refine ja_ifN_eq (tgt := 81) dX2_nextArea_58 (by decide) (by omega) (fun c58 => ?_) (fun c58 => absurd c58 (by decide))
            refine ja_iincN dX2_nextArea_81 rfl rfl (Nat.le_of_ble_eq_true rfl) ?_
            refine ja_goto (tgt := 5) dX2_nextArea_84 (by decide) ?_
            refine ja_forget (i := 5) ?_
            exact ih5 (o + 1) r (by omega) (by omega) (by first | exact hr.trans (cbM_n hnk).symm | exact (cbM_t2 hr.symm (by have q := bP_no c75; unfold bfo at q; have := (cbM_lt hr.symm).1; omega)).symm)
          ·
            refine ja_iload_n (i := 2) dX2_nextArea_32 rfl rfl ?_
            refine ja_cNr (st := []) (c_isAreaT l (by omega)) rfl rfl (ce_X7_isArea 0 0) st_X7_isArea nk_X2_25 ⟨(Nat.le_of_ble_eq_true rfl), (Nat.le_of_ble_eq_true rfl)⟩ dX2_nextArea_33 rfl rfl (Nat.le_of_ble_eq_true rfl) (Nat.zero_le _) (Nat.zero_le _) ?_
            refine ja_ifB_eq (tgt := 49) dX2_nextArea_36 (by decide) (fun c36 => absurd c36 (by decide)) (fun c36 => ?_)
            refine ja_aload_n (i := 1) dX2_nextArea_39 rfl rfl ?_
            refine ja_iload_n (i := 2) dX2_nextArea_40 rfl rfl ?_
            refine ja_iload (i := 4) dX2_nextArea_41 rfl ?_
            refine ja_cSr (st := []) (c_comesBefore (D := D) l hx h1 hz hz2 (a := b) (o := o) (by omega) (by omega)) rfl rfl (ce_X2_comesBefore 0 0) st_X2_comesBefore lk_X2_44 ⟨(Nat.le_of_ble_eq_true rfl), (Nat.le_of_ble_eq_true rfl)⟩ dX2_nextArea_43 rfl rfl (Nat.le_of_ble_eq_true rfl) (Nat.zero_le _) (Nat.zero_le _) ?_
            refine ja_ifB_eq (tgt := 53) dX2_nextArea_46 (by decide) (fun c46 => ?_) (fun c46 => ?_)
            ·
              refine ja_iconst (v := nI 0) dX2_nextArea_53 (by decide +kernel) ?_
              refine ja_istore (i := 5) dX2_nextArea_54 rfl (Nat.le_of_ble_eq_true rfl) ?_
              have hnk : nxC lm z (some b) o = false := bP_f (fun x => by have x2 := x.2.2; first | (have := x.1; omega) | (have := x.2.1; omega) | exact bP_no c46 x.2.2)
              refine ja_iload (i := 5) dX2_nextArea_56 rfl ?_
              refine ja_ifN_eq (tgt := 81) dX2_nextArea_58 (by decide) (by omega) (fun c58 => ?_) (fun c58 => absurd c58 (by decide))
              refine ja_iincN dX2_nextArea_81 rfl rfl (Nat.le_of_ble_eq_true rfl) ?_
              refine ja_goto (tgt := 5) dX2_nextArea_84 (by decide) ?_
              refine ja_forget (i := 5) ?_
              exact ih5 (o + 1) r (by omega) (by omega) (by first | exact hr.trans (cbM_n hnk).symm | exact (cbM_t2 hr.symm (by have q := bP_no c75; unfold bfo at q; have := (cbM_lt hr.symm).1; omega)).symm)
            ·
              refine ja_iconst (v := nI 1) dX2_nextArea_49 (by decide +kernel) ?_
              refine ja_goto (tgt := 54) dX2_nextArea_50 (by decide) ?_
              refine ja_istore (i := 5) dX2_nextArea_54 rfl (Nat.le_of_ble_eq_true rfl) ?_
              have hok : nxC lm z (some b) o = true := bP_t ⟨by omega, by omega, by first | trivial | exact bP_of c46⟩
              refine ja_iload (i := 5) dX2_nextArea_56 rfl ?_
              refine ja_ifN_eq (tgt := 81) dX2_nextArea_58 (by decide) (by omega) (fun c58 => absurd c58 (by decide)) (fun c58 => ?_)
              rcases r with _ | xr
              ·
                refine ja_iload_n (i := 3) dX2_nextArea_61 rfl rfl ?_
                refine ja_cNr (st := []) (c_isAreaN l) rfl rfl (ce_X7_isArea 0 0) st_X7_isArea nk_X2_25 ⟨(Nat.le_of_ble_eq_true rfl), (Nat.le_of_ble_eq_true rfl)⟩ dX2_nextArea_62 rfl rfl (Nat.le_of_ble_eq_true rfl) (Nat.zero_le _) (Nat.zero_le _) ?_
                refine ja_ifB_eq (tgt := 78) dX2_nextArea_65 (by decide) (fun c65 => ?_) (fun c65 => absurd c65 (by decide))
                refine ja_iload (i := 4) dX2_nextArea_78 rfl ?_
                refine ja_istore_n (i := 3) dX2_nextArea_80 rfl rfl (Nat.le_of_ble_eq_true rfl) ?_
                refine ja_iincN dX2_nextArea_81 rfl rfl (Nat.le_of_ble_eq_true rfl) ?_
                refine ja_goto (tgt := 5) dX2_nextArea_84 (by decide) ?_
                refine ja_forget (i := 5) ?_
                exact ih5 (o + 1) (some o) (by omega) (by omega) (by first | exact (cbM_t0 hr.symm hok).symm | exact (cbM_t1 hr.symm hok (by have q := bP_of c75; unfold bfo at q; have := (cbM_lt hr.symm).1; omega)).symm)
              ·
                have hxr := hr9 xr rfl
                refine ja_iload_n (i := 3) dX2_nextArea_61 rfl rfl ?_
                refine ja_cNr (st := []) (c_isAreaT l (by omega)) rfl rfl (ce_X7_isArea 0 0) st_X7_isArea nk_X2_25 ⟨(Nat.le_of_ble_eq_true rfl), (Nat.le_of_ble_eq_true rfl)⟩ dX2_nextArea_62 rfl rfl (Nat.le_of_ble_eq_true rfl) (Nat.zero_le _) (Nat.zero_le _) ?_
                refine ja_ifB_eq (tgt := 78) dX2_nextArea_65 (by decide) (fun c65 => absurd c65 (by decide)) (fun c65 => ?_)
                have z2 := hz2 xr (by omega)
                refine ja_aload_n (i := 1) dX2_nextArea_68 rfl rfl ?_
                refine ja_iload (i := 4) dX2_nextArea_69 rfl ?_
                refine ja_iload_n (i := 3) dX2_nextArea_71 rfl rfl ?_
                refine ja_cSr (st := []) (c_comesBefore (D := D) l hx h1 hz hz2 (a := o) (o := xr) (by omega) (by omega)) rfl rfl (ce_X2_comesBefore 0 0) st_X2_comesBefore lk_X2_44 ⟨(Nat.le_of_ble_eq_true rfl), (Nat.le_of_ble_eq_true rfl)⟩ dX2_nextArea_72 rfl rfl (Nat.le_of_ble_eq_true rfl) (Nat.zero_le _) (Nat.zero_le _) ?_
                refine ja_ifB_eq (tgt := 81) dX2_nextArea_75 (by decide) (fun c75 => ?_) (fun c75 => ?_)
                ·
                  refine ja_iincN dX2_nextArea_81 rfl rfl (Nat.le_of_ble_eq_true rfl) ?_
                  refine ja_goto (tgt := 5) dX2_nextArea_84 (by decide) ?_
                  refine ja_forget (i := 5) ?_
                  exact ih5 (o + 1) (some xr) (by omega) (by omega) (by first | exact hr.trans (cbM_n hnk).symm | exact (cbM_t2 hr.symm (by have q := bP_no c75; unfold bfo at q; have := (cbM_lt hr.symm).1; omega)).symm)
                ·
                  refine ja_iload (i := 4) dX2_nextArea_78 rfl ?_
                  refine ja_istore_n (i := 3) dX2_nextArea_80 rfl rfl (Nat.le_of_ble_eq_true rfl) ?_
                  refine ja_iincN dX2_nextArea_81 rfl rfl (Nat.le_of_ble_eq_true rfl) ?_
                  refine ja_goto (tgt := 5) dX2_nextArea_84 (by decide) ?_
                  refine ja_forget (i := 5) ?_
                  exact ih5 (o + 1) (some o) (by omega) (by omega) (by first | exact (cbM_t0 hr.symm hok).symm | exact (cbM_t1 hr.symm hok (by have q := bP_of c75; unfold bfo at q; have := (cbM_lt hr.symm).1; omega)).symm)
  exact lp5 11 0 none (by omega) (by omega) rfl

def wrU (D : jD) (b n : Nat) (x : Int32) : jD := fun i k => if i = 18 ∧ b ≤ k ∧ k < b + n then x else D i k
theorem wrU_0 {D : jD} {b : Nat} {x : Int32} : D = wrU D b 0 x := by
  funext i k
  rw [wrU, if_neg (by omega)]
theorem wrU_s {D : jD} {b n : Nat} {x : Int32} : ja_up (wrU D b n x) 18 (b + n) x = wrU D b (n + 1) x := by
  funext i k
  simp only [ja_up, wrU]
  grind

set_option maxRecDepth 100000 in
set_option maxHeartbeats 4000000 in
theorem c_write (l : Launch) {Z : jZ} {D : jD} (hx : zX Z) {a q m : Nat} (hq : q + m ≤ 256) : ja_M l (mX2_write 0 0) [.ref (17), .int (nI (a)), .int (nI (q)), .int (nI (m))] Z D (ja_jd none Z (fun D2 => D2 = wrU D q m (nI a))) ja_x0 := by
  refine ja_Mof (lv := [some (.ref (17)), some (.int (nI (a))), some (.int (nI (q))), some (.int (nI (m))), none]) (by decide +kernel) rfl rfl (Nat.le_of_ble_eq_true rfl) rfl ?_
  refine ja_iload_n (i := 2) dX2_write_0 rfl rfl ?_
  refine ja_istore (i := 4) dX2_write_1 rfl (Nat.le_of_ble_eq_true rfl) ?_
  have lp3 : ∀ (f3 : Nat) (k n : Nat) (E : jD), (m < n + f3) → (n ≤ m) → (k = q + n) → (E = wrU D q n (nI a)) → ja_A l (mX2_write 0 0) ja_sn (ja_Qf (mX2_write 0 0) (ja_jd none Z (fun D2 => D2 = wrU D q m (nI a))) ja_x0) 3 [some (.ref (17)), some (.int (nI (a))), some (.int (nI (q))), some (.int (nI (m))), some (.int (nI (k)))] [] Z E 0 0 := by
    intro f3
    induction f3 with
    | zero => intro k n E hf2 hk hk2 hE; exfalso; omega
    | succ f3 ih3 =>
      intro k n E hf2 hk hk2 hE
      refine ja_iload (i := 4) dX2_write_3 rfl ?_
      refine ja_iload_n (i := 2) dX2_write_5 rfl rfl ?_
      refine ja_iload_n (i := 3) dX2_write_6 rfl rfl ?_
      refine ja_iaddN dX2_write_7 ?_
      refine ja_icmpN_ge (tgt := 38) dX2_write_8 (by decide) (by omega) (by omega) (fun c8 => ?_) (fun c8 => ?_)
      ·
        refine ja_vret rfl dX2_write_38 (Nat.zero_le _) (Nat.zero_le _) ?_
        exact ⟨rfl, rfl, by rw [hE, show n = m by omega]⟩
      ·
        refine ja_iload (i := 4) dX2_write_11 rfl ?_
        refine ja_ifN_lt dX2_write_13 (tgt := 32) (by decide) (by omega) ?_
        refine ja_iload (i := 4) dX2_write_16 rfl ?_
        refine ja_sipush (v := nI 256) dX2_write_18 (by decide +kernel) ?_
        refine ja_icmpN_ge (tgt := 32) dX2_write_21 (by decide) (by omega) (by omega) (fun c21 => (by exfalso; omega)) (fun c21 => ?_)
        refine ja_aload_n (i := 0) dX2_write_24 rfl rfl ?_
        refine ja_getR fl_X2_9 (zX_o17 hx) rfl (zX_p17_0 hx) dX2_write_25 ?_
        refine ja_iload (i := 4) dX2_write_28 rfl ?_
        refine ja_iload_n (i := 1) dX2_write_30 rfl rfl ?_
        refine ja_iast (zX_o18 hx) rfl (by omega) (by decide) dX2_write_31 ?_
        refine ja_iincN dX2_write_32 rfl rfl (Nat.le_of_ble_eq_true rfl) ?_
        refine ja_goto (tgt := 3) dX2_write_35 (by decide) ?_
        exact ih3 (k + 1) (n + 1) _ (by omega) (by omega) (by omega) (by rw [hE, hk2]; exact wrU_s)
  exact lp3 (m + 1) q 0 D (by omega) (by omega) (by omega) wrU_0

noncomputable def plF (f T : Nat → Int32) (ly a m : Nat) : Option Nat := if cSz f ly (nI a) 256 = 0 then none else cbM (fun q => bP (cst f T ly (nI a) q m)) (bad f ly (nI a) m) 256
theorem sm_15 {f : Nat → Int32} {ly : Nat} {a : Int32} {g : Nat → Nat} : ∀ {n}, (∀ q, q < n → g q ≤ 15) → fb_sm (fun q => if f (256 * ly + q) = a then g q else 0) n ≤ 15 * cSz f ly a n
  | 0, _ => Nat.zero_le _
  | n + 1, h => by
    have ih := sm_15 (f := f) (ly := ly) (a := a) (g := g) (n := n) (fun q hq => h q (by omega))
    have h1 := h n (by omega)
    rw [cSz, fb_sm_succ, fb_ct_succ, ← cSz]
    by_cases e : f (256 * ly + n) = a
    · rw [if_pos e, if_pos (decide_eq_true e)]
      omega
    · rw [if_neg e, if_neg (by rw [decide_eq_false e]; decide)]
      omega
theorem mean_le {s n : Nat} (h : s ≤ 15 * n) : s / n ≤ 15 := Nat.div_le_of_le_mul (by omega)
theorem bad_le {f : Nat → Int32} {ly a m q : Nat} (hm : m ≤ 6) (hq : q < 256) : bad f ly (nI a) m q ≤ 100 := by
  have h1 := adf_le (q % 16 + m / 2) (sxF f ly (nI a) 256 / cSz f ly (nI a) 256)
  have h2 := adf_le (q / 16) (syF f ly (nI a) 256 / cSz f ly (nI a) 256)
  have h3 := mean_le (sm_15 (f := f) (ly := ly) (a := nI a) (g := fun q => q % 16) (n := 256) (fun q _ => by omega))
  have h4 := mean_le (sm_15 (f := f) (ly := ly) (a := nI a) (g := fun q => q / 16) (n := 256) (fun q _ => by omega))
  have e3 : sxF f ly (nI a) 256 = fb_sm (fun q => if f (256 * ly + q) = nI a then (fun q => q % 16) q else 0) 256 := rfl
  have e4 : syF f ly (nI a) 256 = fb_sm (fun q => if f (256 * ly + q) = nI a then (fun q => q / 16) q else 0) 256 := rfl
  rw [← e3] at h3
  rw [← e4] at h4
  unfold bad
  omega
def plG (f : Nat → Int32) (ly a m : Nat) : Option Nat → Nat
  | none => 1000
  | some b => bad f ly (nI a) m b

theorem plG_n {f T : Nat → Int32} {ly a m q : Nat} {r : Option Nat} (hm : m ≤ 6) (hq : q < 256) (hr : r = cbM (fun q => bP (cst f T ly (nI a) q m)) (bad f ly (nI a) m) q) (h : plG f ly a m r ≤ bad f ly (nI a) m q) : r = cbM (fun q => bP (cst f T ly (nI a) q m)) (bad f ly (nI a) m) (q + 1) := by
  cases r with
  | none =>
    have h1 : 1000 ≤ bad f ly (nI a) m q := h
    have := bad_le (f := f) (ly := ly) (a := a) hm hq
    omega
  | some b => exact (cbM_t2 hr.symm (show ¬ bad f ly (nI a) m q < bad f ly (nI a) m b from Nat.not_lt.mpr h)).symm
theorem plG_le {f : Nat → Int32} {ly a m : Nat} {r : Option Nat} (hm : m ≤ 6) (h : ∀ b, r = some b → b < 256) : plG f ly a m r ≤ 1000 := by
  cases r with
  | none => exact Nat.le_refl _
  | some b =>
    have := bad_le (f := f) (ly := ly) (a := a) (q := b) hm (h b rfl)
    show bad f ly (nI a) m b ≤ 1000
    omega

set_option maxRecDepth 100000 in
set_option maxHeartbeats 4000000 in
theorem c_bestPlace (l : Launch) {Z : jZ} {D : jD} (hx : zX Z) {ly : Nat} (h1 : ly < 3) {f : Nat → Int32} (hf : ∀ q, q < 256 → D (31 + 10 * ly) q = f (256 * ly + q)) {T : Nat → Int32} (hT : ∀ k, k < 256 → (D 18 k = -1 ↔ T k = 0)) {z : Nat → Nat} (hz : ∀ a, a < 10 → D (32 + 10 * ly) a = nI (z a)) (hz2 : ∀ a, a < 10 → z a ≤ 256) {a m : Nat} (ha : a < 10) (hza : z a = cSz f ly (nI a) 256) (hm8 : D (34 + 10 * ly) a = nI m) (hm9 : m ≤ 6) : ja_M l (mX2_bestPlace 0 0) [.ref (17), .ref (30 + 10 * ly), .int (nI (a))] Z D (ja_jr (some (.int (oI (plF f T ly a m)))) Z D) ja_x0 := by
  have z1 := hz2 a ha
  have sx1 : sxF f ly (nI a) 256 ≤ 4000 := by have := sxF_le f ly (nI a) 256; omega
  have sy1 : syF f ly (nI a) 256 ≤ 70000 := by have := syF_le f ly (nI a) 256; omega
  refine ja_Mof (lv := [some (.ref (17)), some (.ref (30 + 10 * ly)), some (.int (nI (a))), none, none, none, none, none, none, none, none]) (by decide +kernel) rfl rfl (Nat.le_of_ble_eq_true rfl) rfl ?_
  refine ja_aload_n (i := 1) dX2_bestPlace_0 rfl rfl ?_
  refine ja_getR fl_X2_41 (zL_o hx (l := ly) (by omega)) rfl (zL_p1 hx (l := ly) (by omega)) dX2_bestPlace_1 ?_
  refine ja_iload_n (i := 2) dX2_bestPlace_4 rfl rfl ?_
  refine ja_iald (zL_a1 hx (l := ly) (by omega)) rfl (by omega) (by decide) dX2_bestPlace_5 ?_
  refine ja_top (y := nI (z a)) (hz a ha) ?_
  refine ja_istore_n (i := 3) dX2_bestPlace_6 rfl rfl (Nat.le_of_ble_eq_true rfl) ?_
  refine ja_aload_n (i := 1) dX2_bestPlace_7 rfl rfl ?_
  refine ja_getR fl_X2_32 (zL_o hx (l := ly) (by omega)) rfl (zL_p3 hx (l := ly) (by omega)) dX2_bestPlace_8 ?_
  refine ja_iload_n (i := 2) dX2_bestPlace_11 rfl rfl ?_
  refine ja_iald (zL_a3 hx (l := ly) (by omega)) rfl (by omega) (by decide) dX2_bestPlace_12 ?_
  refine ja_top (y := nI (m)) hm8 ?_
  refine ja_istore (i := 4) dX2_bestPlace_13 rfl (Nat.le_of_ble_eq_true rfl) ?_
  refine ja_iload_n (i := 3) dX2_bestPlace_15 rfl rfl ?_
  refine ja_ifN_ne (tgt := 21) dX2_bestPlace_16 (by decide) (by omega) (fun c16 => ?_) (fun c16 => ?_)
  ·
    refine ja_aload_n (i := 1) dX2_bestPlace_21 rfl rfl ?_
    refine ja_iload_n (i := 2) dX2_bestPlace_22 rfl rfl ?_
    refine ja_iconst (v := nI 1) dX2_bestPlace_23 (by decide +kernel) ?_
    refine ja_cSr (st := []) (c_sumOfX (D := D) l hx h1 (f := f) hf (a := a)) rfl rfl (ce_X2_sumOf 0 0) st_X2_sumOf lk_X2_48 ⟨(Nat.le_of_ble_eq_true rfl), (Nat.le_of_ble_eq_true rfl)⟩ dX2_bestPlace_24 rfl rfl (Nat.le_of_ble_eq_true rfl) (Nat.zero_le _) (Nat.zero_le _) ?_
    refine ja_iload_n (i := 3) dX2_bestPlace_27 rfl rfl ?_
    refine ja_idivN dX2_bestPlace_28 (by omega) (by omega) (by omega) ?_
    refine ja_istore (i := 5) dX2_bestPlace_29 rfl (Nat.le_of_ble_eq_true rfl) ?_
    refine ja_aload_n (i := 1) dX2_bestPlace_31 rfl rfl ?_
    refine ja_iload_n (i := 2) dX2_bestPlace_32 rfl rfl ?_
    refine ja_iconst (v := nI 0) dX2_bestPlace_33 (by decide +kernel) ?_
    refine ja_cSr (st := []) (c_sumOfY (D := D) l hx h1 (f := f) hf (a := a)) rfl rfl (ce_X2_sumOf 0 0) st_X2_sumOf lk_X2_48 ⟨(Nat.le_of_ble_eq_true rfl), (Nat.le_of_ble_eq_true rfl)⟩ dX2_bestPlace_34 rfl rfl (Nat.le_of_ble_eq_true rfl) (Nat.zero_le _) (Nat.zero_le _) ?_
    refine ja_iload_n (i := 3) dX2_bestPlace_37 rfl rfl ?_
    refine ja_idivN dX2_bestPlace_38 (by omega) (by omega) (by omega) ?_
    refine ja_istore (i := 6) dX2_bestPlace_39 rfl (Nat.le_of_ble_eq_true rfl) ?_
    refine ja_iconst (v := (-1)) dX2_bestPlace_41 (by decide +kernel) ?_
    refine ja_istore (i := 7) dX2_bestPlace_42 rfl (Nat.le_of_ble_eq_true rfl) ?_
    refine ja_sipush (v := nI 1000) dX2_bestPlace_44 (by decide +kernel) ?_
    refine ja_istore (i := 8) dX2_bestPlace_47 rfl (Nat.le_of_ble_eq_true rfl) ?_
    refine ja_iconst (v := nI 0) dX2_bestPlace_49 (by decide +kernel) ?_
    refine ja_istore (i := 9) dX2_bestPlace_50 rfl (Nat.le_of_ble_eq_true rfl) ?_
    have lp52 : ∀ (f52 : Nat) (q least : Nat) (r : Option Nat), (256 < q + f52) → (q ≤ 256) → (least = plG f ly a m r) → (r = cbM (fun q => bP (cst f T ly (nI a) q m)) (bad f ly (nI a) m) q) → ja_A l (mX2_bestPlace 0 0) ja_sn (ja_Qf (mX2_bestPlace 0 0) (ja_jr (some (.int (oI (plF f T ly a m)))) Z D) ja_x0) 52 [some (.ref (17)), some (.ref (30 + 10 * ly)), some (.int (nI (a))), some (.int (nI (z a))), some (.int (nI (m))), some (.int (nI (sxF f ly (nI a) 256 / z a))), some (.int (nI (syF f ly (nI a) 256 / z a))), some (.int (oI r)), some (.int (nI (least))), some (.int (nI (q))), none] [] Z D 0 0 := by
      intro f52
      induction f52 with
      | zero => intro q least r hf2 hq hl hr; exfalso; omega
      | succ f52 ih52 =>
        intro q least r hf2 hq hl hr
        have hle := plG_le (f := f) (ly := ly) (a := a) (r := r) hm9 (fun b e => by have := (cbM_lt (hr.symm.trans e)).1; omega)
        refine ja_iload (i := 9) dX2_bestPlace_52 rfl ?_
        refine ja_sipush (v := nI 256) dX2_bestPlace_54 (by decide +kernel) ?_
        refine ja_icmpN_ge (tgt := 124) dX2_bestPlace_57 (by decide) (by omega) (by omega) (fun c57 => ?_) (fun c57 => ?_)
        ·
          refine ja_iload (i := 7) dX2_bestPlace_124 rfl ?_
          refine ja_iret rfl rfl dX2_bestPlace_126 (Nat.zero_le _) (Nat.zero_le _) ?_
          exact ⟨by rw [plF, if_neg (by omega), hr, show q = 256 by omega], rfl, rfl⟩
        ·
          have hbe : (adf (q % 16 + m / 2) (sxF f ly (nI a) 256 / z a) + adf (q / 16) (syF f ly (nI a) 256 / z a)) = bad f ly (nI a) m q := by rw [hza]; rfl
          have hb8 := bad_le (f := f) (ly := ly) (a := a) hm9 (show q < 256 by omega)
          have hx15 : sxF f ly (nI a) 256 / z a ≤ 4000 := Nat.le_trans (Nat.div_le_self _ _) sx1
          have hy15 : syF f ly (nI a) 256 / z a ≤ 70000 := Nat.le_trans (Nat.div_le_self _ _) sy1
          refine ja_iload (i := 9) dX2_bestPlace_60 rfl ?_
          refine ja_bipush (v := nI 16) dX2_bestPlace_62 (by decide +kernel) ?_
          refine ja_iremN dX2_bestPlace_64 (by omega) (by omega) (by omega) ?_
          refine ja_iload (i := 4) dX2_bestPlace_65 rfl ?_
          refine ja_iconst (v := nI 2) dX2_bestPlace_67 (by decide +kernel) ?_
          refine ja_idivN dX2_bestPlace_68 (by omega) (by omega) (by omega) ?_
          refine ja_iaddN dX2_bestPlace_69 ?_
          refine ja_iload (i := 5) dX2_bestPlace_70 rfl ?_
          refine ja_isub dX2_bestPlace_72 ?_
          refine ja_mabs lk_X2_52 ma_st ma_in ma_co (Nat.le_of_ble_eq_true rfl) (Nat.le_of_ble_eq_true rfl) (Nat.zero_le _) (Nat.zero_le _) dX2_bestPlace_73 ?_
          refine ja_top (y := nI (adf (q % 16 + m / 2) (sxF f ly (nI a) 256 / z a))) (ja_adf (by omega) (by omega)) ?_
          refine ja_iload (i := 9) dX2_bestPlace_76 rfl ?_
          refine ja_bipush (v := nI 16) dX2_bestPlace_78 (by decide +kernel) ?_
          refine ja_idivN dX2_bestPlace_80 (by omega) (by omega) (by omega) ?_
          refine ja_iload (i := 6) dX2_bestPlace_81 rfl ?_
          refine ja_isub dX2_bestPlace_83 ?_
          refine ja_mabs lk_X2_52 ma_st ma_in ma_co (Nat.le_of_ble_eq_true rfl) (Nat.le_of_ble_eq_true rfl) (Nat.zero_le _) (Nat.zero_le _) dX2_bestPlace_84 ?_
          refine ja_top (y := nI (adf (q / 16) (syF f ly (nI a) 256 / z a))) (ja_adf (by omega) (by omega)) ?_
          refine ja_iaddN dX2_bestPlace_87 ?_
          refine ja_istore (i := 10) dX2_bestPlace_88 rfl (Nat.le_of_ble_eq_true rfl) ?_
          refine ja_iload (i := 10) dX2_bestPlace_90 rfl ?_
          refine ja_iload (i := 8) dX2_bestPlace_92 rfl ?_
          refine ja_icmpN_ge (tgt := 118) dX2_bestPlace_94 (by decide) (by omega) (by omega) (fun c94 => ?_) (fun c94 => ?_)
          ·
            refine ja_iincN dX2_bestPlace_118 rfl rfl (Nat.le_of_ble_eq_true rfl) ?_
            refine ja_goto (tgt := 52) dX2_bestPlace_121 (by decide) ?_
            refine ja_forget (i := 10) ?_
            exact ih52 (q + 1) least r (by omega) (by omega) hl (by first | exact hr.trans (cbM_n c107).symm | exact plG_n hm9 (by omega) hr (by rw [← hl]; omega))
          ·
            refine ja_aload_n (i := 0) dX2_bestPlace_97 rfl rfl ?_
            refine ja_aload_n (i := 1) dX2_bestPlace_98 rfl rfl ?_
            refine ja_iload_n (i := 2) dX2_bestPlace_99 rfl rfl ?_
            refine ja_iload (i := 9) dX2_bestPlace_100 rfl ?_
            refine ja_iload (i := 4) dX2_bestPlace_102 rfl ?_
            refine ja_cVr (st := []) (c_isFree (D := D) l hx h1 (f := f) hf hT (a := a) (q := q) (m := m) (by omega) (by omega)) rfl rfl (ce_X2_isFree 0 0) im_X2_isFree se_X2_isFree lk_X2_58 k_X2 (zX_o17 hx) ⟨(Nat.le_of_ble_eq_true rfl), (Nat.le_of_ble_eq_true rfl)⟩ dX2_bestPlace_104 rfl rfl (Nat.le_of_ble_eq_true rfl) (Nat.zero_le _) (Nat.zero_le _) ?_
            refine ja_ifB_eq (tgt := 118) dX2_bestPlace_107 (by decide) (fun c107 => ?_) (fun c107 => ?_)
            ·
              refine ja_iincN dX2_bestPlace_118 rfl rfl (Nat.le_of_ble_eq_true rfl) ?_
              refine ja_goto (tgt := 52) dX2_bestPlace_121 (by decide) ?_
              refine ja_forget (i := 10) ?_
              exact ih52 (q + 1) least r (by omega) (by omega) hl (by first | exact hr.trans (cbM_n c107).symm | exact plG_n hm9 (by omega) hr (by rw [← hl]; omega))
            ·
              refine ja_iload (i := 9) dX2_bestPlace_110 rfl ?_
              refine ja_istore (i := 7) dX2_bestPlace_112 rfl (Nat.le_of_ble_eq_true rfl) ?_
              refine ja_iload (i := 10) dX2_bestPlace_114 rfl ?_
              refine ja_istore (i := 8) dX2_bestPlace_116 rfl (Nat.le_of_ble_eq_true rfl) ?_
              refine ja_iincN dX2_bestPlace_118 rfl rfl (Nat.le_of_ble_eq_true rfl) ?_
              refine ja_goto (tgt := 52) dX2_bestPlace_121 (by decide) ?_
              refine ja_forget (i := 10) ?_
              exact ih52 (q + 1) _ (some q) (by omega) (by omega) hbe (by cases r with
            | none => exact (cbM_t0 hr.symm c107).symm
            | some b => exact (cbM_t1 hr.symm c107 (by have hl2 : least = bad f ly (nI a) m b := hl
                                                       omega)).symm)
    exact lp52 257 0 1000 none (by omega) (by omega) rfl rfl
  ·
    refine ja_iconst (v := (-1)) dX2_bestPlace_19 (by decide +kernel) ?_
    refine ja_iret rfl rfl dX2_bestPlace_20 (Nat.zero_le _) (Nat.zero_le _) ?_
    exact ⟨by rw [plF, if_pos (by omega)]; rfl, rfl, rfl⟩
