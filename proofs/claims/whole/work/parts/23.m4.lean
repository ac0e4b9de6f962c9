/-! THE REFERENCE: coarser maps and places -/
def wfA (f : Nat → Int32) : Prop := ∀ k, k < 768 → f k = -1 ∨ ∃ a, a < 10 ∧ f k = nI a
def cA (f J : Nat → Int32) (ly q : Nat) : Int32 := if f (256 * ly + q) = -1 then -1 else J (f (256 * ly + q)).toNatClampNeg
/-- squares of a colour in a map of colours; its border with another; its rim -/
def cCt (c : Nat → Int32) (a : Int32) (n : Nat) : Nat := fb_ct (fun q => decide (c q = a)) n
def nbC (c : Nat → Int32) (o : Int32) (q s : Nat) : Nat := match nbM s q with
  | none => 0
  | some j => if c j = o then 1 else 0
def bdQ (c : Nat → Int32) (a o : Int32) (q : Nat) : Nat := if c q = a then fb_sm (nbC c o q) 4 else 0
def bd (c : Nat → Int32) (a o : Int32) (n : Nat) : Nat := fb_sm (bdQ c a o) n
theorem nbC_le (c : Nat → Int32) (o : Int32) (q s : Nat) : nbC c o q s ≤ 1 := by
  unfold nbC
  split
  · omega
  · split <;> omega
theorem bdQ_le (c : Nat → Int32) (a o : Int32) (q : Nat) : bdQ c a o q ≤ 4 := by
  unfold bdQ
  split
  · exact fb_sm_bound (fun k _ => nbC_le c o q k)
  · omega
theorem bd_le (c : Nat → Int32) (a o : Int32) (n : Nat) : bd c a o n ≤ n * 4 := fb_sm_bound (fun k _ => bdQ_le c a o k)
theorem cCt_le (c : Nat → Int32) (a : Int32) (n : Nat) : cCt c a n ≤ n := fb_ct_le _ n
noncomputable def bP (P : Prop) : Bool := @decide P (Classical.propDecidable P)
theorem bP_t {P : Prop} (h : P) : bP P = true := by unfold bP; exact @decide_eq_true P (Classical.propDecidable P) h
theorem bP_f {P : Prop} (h : ¬ P) : bP P = false := by unfold bP; exact @decide_eq_false P (Classical.propDecidable P) h
theorem bP_T {P : Prop} (h : P) : nI 1 = bI (bP P) := by rw [bP_t h]; rfl
theorem bP_F {P : Prop} (h : ¬ P) : nI 0 = bI (bP P) := by rw [bP_f h]; rfl
theorem bP_of {P : Prop} (h : bP P = true) : P := by unfold bP at h; exact @of_decide_eq_true P (Classical.propDecidable P) h
theorem bP_no {P : Prop} (h : bP P = false) : ¬ P := by unfold bP at h; exact @of_decide_eq_false P (Classical.propDecidable P) h
theorem bP_cg {P Q : Prop} (h : P ↔ Q) : bP P = bP Q := congrArg bP (propext h)

set_option maxRecDepth 100000 in
set_option maxHeartbeats 4000000 in
theorem s_coarseAt (l : Launch) {Z : jZ} {D : jD} (hz : zM Z) (hw : wfA (D 105)) {ly q : Nat} (h1 : ly < 3) (h2 : q < 256) : ja_M l (mX8_coarseAt 0 0) [.ref (100), .int (nI (ly)), .int (nI (q))] Z D (ja_jr (some (.int (cA (D 105) (D 126) ly q))) Z D) ja_x0 := by
  refine ja_Mof (lv := [some (.ref (100)), some (.int (nI (ly))), some (.int (nI (q)))]) (by decide +kernel) rfl rfl (Nat.le_of_ble_eq_true rfl) rfl ?_
  refine ja_aload_n (i := 0) dX8_coarseAt_0 rfl rfl ?_
  refine ja_iload_n (i := 1) dX8_coarseAt_1 rfl rfl ?_
  refine ja_iload_n (i := 2) dX8_coarseAt_2 rfl rfl ?_
  refine ja_cVr (st := []) (s_at (D := D) l hz (ly := ly) (q := q) (by omega) (by omega)) rfl rfl (ce_X8_at 0 0) im_X8_at se_X8_at lk_X8_92 k_X8 (zM_s hz) ⟨(Nat.le_of_ble_eq_true rfl), (Nat.le_of_ble_eq_true rfl)⟩ dX8_coarseAt_3 rfl rfl (Nat.le_of_ble_eq_true rfl) (Nat.zero_le _) (Nat.zero_le _) ?_
  refine ja_iconst (v := (-1)) dX8_coarseAt_6 (by decide +kernel) ?_
  refine ja_icmp_ne (tgt := 14) dX8_coarseAt_7 (by decide) (fun c7 => ?_) (fun c7 => ?_)
  ·
    obtain ⟨a, ha, ea⟩ := (hw (256 * ly + q) (by omega)).resolve_left c7
    refine ja_aload_n (i := 0) dX8_coarseAt_14 rfl rfl ?_
    refine ja_getR fl_X8_76 (zM_s hz) rfl (zM_p25 hz) dX8_coarseAt_15 ?_
    refine ja_aload_n (i := 0) dX8_coarseAt_18 rfl rfl ?_
    refine ja_iload_n (i := 1) dX8_coarseAt_19 rfl rfl ?_
    refine ja_iload_n (i := 2) dX8_coarseAt_20 rfl rfl ?_
    refine ja_cVr (st := [.ref (126)]) (s_at (D := D) l hz (ly := ly) (q := q) (by omega) (by omega)) rfl rfl (ce_X8_at 0 0) im_X8_at se_X8_at lk_X8_92 k_X8 (zM_s hz) ⟨(Nat.le_of_ble_eq_true rfl), (Nat.le_of_ble_eq_true rfl)⟩ dX8_coarseAt_21 rfl rfl (Nat.le_of_ble_eq_true rfl) (Nat.zero_le _) (Nat.zero_le _) ?_
    refine ja_top (y := nI (a)) ea ?_
    refine ja_iald (zM_a25 hz) rfl (by omega) (by decide) dX8_coarseAt_24 ?_
    refine ja_iret rfl rfl dX8_coarseAt_25 (Nat.zero_le _) (Nat.zero_le _) ?_
    refine ⟨?_, rfl, rfl⟩
    unfold cA
    rw [if_neg c7, ea, nI_clamp (by omega)]
  ·
    refine ja_iconst (v := (-1)) dX8_coarseAt_10 (by decide +kernel) ?_
    refine ja_goto (tgt := 25) dX8_coarseAt_11 (by decide) ?_
    refine ja_iret rfl rfl dX8_coarseAt_25 (Nat.zero_le _) (Nat.zero_le _) ?_
    refine ⟨?_, rfl, rfl⟩
    unfold cA
    rw [if_pos c7]

set_option maxRecDepth 100000 in
set_option maxHeartbeats 4000000 in
theorem s_coarseSize (l : Launch) {Z : jZ} {D : jD} (hz : zM Z) (hw : wfA (D 105)) {ly : Nat} (h1 : ly < 3) (a : Int32) : ja_M l (mX8_coarseSize 0 0) [.ref (100), .int (nI (ly)), .int (a)] Z D (ja_jr (some (.int (nI (cCt (cA (D 105) (D 126) ly) a 256)))) Z D) ja_x0 := by
  refine ja_Mof (lv := [some (.ref (100)), some (.int (nI (ly))), some (.int (a)), none, none]) (by decide +kernel) rfl rfl (Nat.le_of_ble_eq_true rfl) rfl ?_
  refine ja_iconst (v := nI 0) dX8_coarseSize_0 (by decide +kernel) ?_
  refine ja_istore_n (i := 3) dX8_coarseSize_1 rfl rfl (Nat.le_of_ble_eq_true rfl) ?_
  refine ja_iconst (v := nI 0) dX8_coarseSize_2 (by decide +kernel) ?_
  refine ja_istore (i := 4) dX8_coarseSize_3 rfl (Nat.le_of_ble_eq_true rfl) ?_
  have lp5 : ∀ (k5 : Nat) (q n : Nat), (256 < q + k5) → (q ≤ 256) → (n = cCt (cA (D 105) (D 126) ly) a q) → ja_A l (mX8_coarseSize 0 0) ja_sn (ja_Qf (mX8_coarseSize 0 0) (ja_jr (some (.int (nI (cCt (cA (D 105) (D 126) ly) a 256)))) Z D) ja_x0) 5 [some (.ref (100)), some (.int (nI (ly))), some (.int (a)), some (.int (nI (n))), some (.int (nI (q)))] [] Z D 0 0 := by
    intro k5
    induction k5 with
    | zero => intro q n hk hq hn; exfalso; omega
    | succ k5 ih5 =>
      intro q n hk hq hn
      refine ja_iload (i := 4) dX8_coarseSize_5 rfl ?_
      refine ja_sipush (v := nI 256) dX8_coarseSize_7 (by decide +kernel) ?_
      refine ja_icmpN_ge (tgt := 38) dX8_coarseSize_10 (by decide) (by omega) (by omega) (fun c10 => ?_) (fun c10 => ?_)
      ·
        refine ja_iload_n (i := 3) dX8_coarseSize_38 rfl rfl ?_
        refine ja_iret rfl rfl dX8_coarseSize_39 (Nat.zero_le _) (Nat.zero_le _) ?_
        refine ⟨?_, rfl, rfl⟩
        rw [hn, show q = 256 by omega]
      ·
        refine ja_iload_n (i := 3) dX8_coarseSize_13 rfl rfl ?_
        refine ja_aload_n (i := 0) dX8_coarseSize_14 rfl rfl ?_
        refine ja_iload_n (i := 1) dX8_coarseSize_15 rfl rfl ?_
        refine ja_iload (i := 4) dX8_coarseSize_16 rfl ?_
        refine ja_cVr (st := [.int (nI (n))]) (s_coarseAt (D := D) l hz hw (ly := ly) (q := q) (by omega) (by omega)) rfl rfl (ce_X8_coarseAt 0 0) im_X8_coarseAt se_X8_coarseAt lk_X8_177 k_X8 (zM_s hz) ⟨(Nat.le_of_ble_eq_true rfl), (Nat.le_of_ble_eq_true rfl)⟩ dX8_coarseSize_18 rfl rfl (Nat.le_of_ble_eq_true rfl) (Nat.zero_le _) (Nat.zero_le _) ?_
        refine ja_iload_n (i := 2) dX8_coarseSize_21 rfl rfl ?_
        refine ja_icmp_ne (tgt := 29) dX8_coarseSize_22 (by decide) (fun c22 => ?_) (fun c22 => ?_)
        ·
          refine ja_iconst (v := nI 0) dX8_coarseSize_29 (by decide +kernel) ?_
          refine ja_iaddN dX8_coarseSize_30 ?_
          refine ja_istore_n (i := 3) dX8_coarseSize_31 rfl rfl (Nat.le_of_ble_eq_true rfl) ?_
          refine ja_iincN dX8_coarseSize_32 rfl rfl (Nat.le_of_ble_eq_true rfl) ?_
          refine ja_goto (tgt := 5) dX8_coarseSize_35 (by decide) ?_
          exact ih5 (q + 1) _ (by omega) (by omega) (by rw [hn, cCt, cCt, fb_ct_succ]; simp [c22])
        ·
          refine ja_iconst (v := nI 1) dX8_coarseSize_25 (by decide +kernel) ?_
          refine ja_goto (tgt := 30) dX8_coarseSize_26 (by decide) ?_
          refine ja_iaddN dX8_coarseSize_30 ?_
          refine ja_istore_n (i := 3) dX8_coarseSize_31 rfl rfl (Nat.le_of_ble_eq_true rfl) ?_
          refine ja_iincN dX8_coarseSize_32 rfl rfl (Nat.le_of_ble_eq_true rfl) ?_
          refine ja_goto (tgt := 5) dX8_coarseSize_35 (by decide) ?_
          exact ih5 (q + 1) _ (by omega) (by omega) (by rw [hn, cCt, cCt, fb_ct_succ]; simp [c22])
  exact lp5 257 0 0 (by omega) (by omega) rfl

set_option maxRecDepth 100000 in
set_option maxHeartbeats 4000000 in
theorem s_coarseBorder (l : Launch) {Z : jZ} {D : jD} (hz : zM Z) (hw : wfA (D 105)) {ly : Nat} (h1 : ly < 3) (a o : Int32) : ja_M l (mX8_coarseBorder 0 0) [.ref (100), .int (nI (ly)), .int (a), .int (o)] Z D (ja_jr (some (.int (nI (bd (cA (D 105) (D 126) ly) a o 256)))) Z D) ja_x0 := by
  refine ja_Mof (lv := [some (.ref (100)), some (.int (nI (ly))), some (.int (a)), some (.int (o)), none, none, none, none]) (by decide +kernel) rfl rfl (Nat.le_of_ble_eq_true rfl) rfl ?_
  refine ja_iconst (v := nI 0) dX8_coarseBorder_0 (by decide +kernel) ?_
  refine ja_istore (i := 4) dX8_coarseBorder_1 rfl (Nat.le_of_ble_eq_true rfl) ?_
  refine ja_iconst (v := nI 0) dX8_coarseBorder_3 (by decide +kernel) ?_
  refine ja_istore (i := 5) dX8_coarseBorder_4 rfl (Nat.le_of_ble_eq_true rfl) ?_
  have lp6 : ∀ (k6 : Nat) (q n : Nat), (256 < q + k6) → (q ≤ 256) → (n = bd (cA (D 105) (D 126) ly) a o q) → ja_A l (mX8_coarseBorder 0 0) ja_sn (ja_Qf (mX8_coarseBorder 0 0) (ja_jr (some (.int (nI (bd (cA (D 105) (D 126) ly) a o 256)))) Z D) ja_x0) 6 [some (.ref (100)), some (.int (nI (ly))), some (.int (a)), some (.int (o)), some (.int (nI (n))), some (.int (nI (q))), none, none] [] Z D 0 0 := by
    intro k6
    induction k6 with
    | zero => intro q n hk hq hn; exfalso; omega
    | succ k6 ih6 =>
      intro q n hk hq hn
      refine ja_iload (i := 5) dX8_coarseBorder_6 rfl ?_
      refine ja_sipush (v := nI 256) dX8_coarseBorder_8 (by decide +kernel) ?_
      refine ja_icmpN_ge (tgt := 82) dX8_coarseBorder_11 (by decide) (by omega) (by omega) (fun c11 => ?_) (fun c11 => ?_)
      ·
        refine ja_iload (i := 4) dX8_coarseBorder_82 rfl ?_
        refine ja_iret rfl rfl dX8_coarseBorder_84 (Nat.zero_le _) (Nat.zero_le _) ?_
        refine ⟨?_, rfl, rfl⟩
        rw [hn, show q = 256 by omega]
      ·
        refine ja_iconst (v := nI 0) dX8_coarseBorder_14 (by decide +kernel) ?_
        refine ja_istore (i := 6) dX8_coarseBorder_15 rfl (Nat.le_of_ble_eq_true rfl) ?_
        have lp17 : ∀ (k17 : Nat) (s n2 : Nat), (4 < s + k17) → (s ≤ 4) → (n2 = bd (cA (D 105) (D 126) ly) a o q + fb_sm (nbC (cA (D 105) (D 126) ly) o q) s) → (s = 0 ∨ (cA (D 105) (D 126) ly) q = a) → ja_A l (mX8_coarseBorder 0 0) ja_sn (ja_Qf (mX8_coarseBorder 0 0) (ja_jr (some (.int (nI (bd (cA (D 105) (D 126) ly) a o 256)))) Z D) ja_x0) 17 [some (.ref (100)), some (.int (nI (ly))), some (.int (a)), some (.int (o)), some (.int (nI (n2))), some (.int (nI (q))), some (.int (nI (s))), none] [] Z D 0 0 := by
          intro k17
          induction k17 with
          | zero => intro s n2 hj4 hs4 hn2 hs0; exfalso; omega
          | succ k17 ih17 =>
            intro s n2 hj4 hs4 hn2 hs0
            refine ja_iload (i := 6) dX8_coarseBorder_17 rfl ?_
            refine ja_iconst (v := nI 4) dX8_coarseBorder_19 (by decide +kernel) ?_
            refine ja_icmpN_ge (tgt := 76) dX8_coarseBorder_20 (by decide) (by omega) (by omega) (fun c20 => ?_) (fun c20 => ?_)
            ·
              refine ja_iincN dX8_coarseBorder_76 rfl rfl (Nat.le_of_ble_eq_true rfl) ?_
              refine ja_goto (tgt := 6) dX8_coarseBorder_79 (by decide) ?_
              refine ja_forget (i := 6) ?_
              exact ih6 (q + 1) _ (by omega) (by omega) (by rw [hn2]; unfold bd; rw [fb_sm_succ]; unfold bdQ; first | (rw [if_neg c31]; rcases hs0 with e | e; exact (by rw [e]; rfl); exact absurd e c31) | (rw [if_pos (hs0.resolve_left (by omega)), show s = 4 by omega]))
            ·
              refine ja_aload_n (i := 0) dX8_coarseBorder_23 rfl rfl ?_
              refine ja_iload_n (i := 1) dX8_coarseBorder_24 rfl rfl ?_
              refine ja_iload (i := 5) dX8_coarseBorder_25 rfl ?_
              refine ja_cVr (st := []) (s_coarseAt (D := D) l hz hw (ly := ly) (q := q) (by omega) (by omega)) rfl rfl (ce_X8_coarseAt 0 0) im_X8_coarseAt se_X8_coarseAt lk_X8_177 k_X8 (zM_s hz) ⟨(Nat.le_of_ble_eq_true rfl), (Nat.le_of_ble_eq_true rfl)⟩ dX8_coarseBorder_27 rfl rfl (Nat.le_of_ble_eq_true rfl) (Nat.zero_le _) (Nat.zero_le _) ?_
              refine ja_iload_n (i := 2) dX8_coarseBorder_30 rfl rfl ?_
              refine ja_icmp_ne (tgt := 76) dX8_coarseBorder_31 (by decide) (fun c31 => ?_) (fun c31 => ?_)
              ·
                refine ja_iincN dX8_coarseBorder_76 rfl rfl (Nat.le_of_ble_eq_true rfl) ?_
                refine ja_goto (tgt := 6) dX8_coarseBorder_79 (by decide) ?_
                refine ja_forget (i := 6) ?_
                exact ih6 (q + 1) _ (by omega) (by omega) (by rw [hn2]; unfold bd; rw [fb_sm_succ]; unfold bdQ; first | (rw [if_neg c31]; rcases hs0 with e | e; exact (by rw [e]; rfl); exact absurd e c31) | (rw [if_pos (hs0.resolve_left (by omega)), show s = 4 by omega]))
              ·
                refine ja_iload (i := 5) dX8_coarseBorder_34 rfl ?_
                refine ja_iload (i := 6) dX8_coarseBorder_36 rfl ?_
                refine ja_cSr (st := []) (s_beside l (q := q) (side := s) (by omega) (by omega)) rfl rfl (ce_X8_beside 0 0) st_X8_beside lk_X8_129 ⟨(Nat.le_of_ble_eq_true rfl), (Nat.le_of_ble_eq_true rfl)⟩ dX8_coarseBorder_38 rfl rfl (Nat.le_of_ble_eq_true rfl) (Nat.zero_le _) (Nat.zero_le _) ?_
                refine ja_istore (i := 7) dX8_coarseBorder_41 rfl (Nat.le_of_ble_eq_true rfl) ?_
                rcases hnb : nbM s q with _ | j
                ·
                  refine ja_iload (i := 4) dX8_coarseBorder_43 rfl ?_
                  refine ja_iload (i := 7) dX8_coarseBorder_45 rfl ?_
                  refine ja_iconst (v := (-1)) dX8_coarseBorder_47 (by decide +kernel) ?_
                  refine ja_icmp_eq (tgt := 66) dX8_coarseBorder_48 (by decide) (fun c48 => ?_) (fun c48 => absurd rfl c48)
                  refine ja_iconst (v := nI 0) dX8_coarseBorder_66 (by decide +kernel) ?_
                  refine ja_iaddN dX8_coarseBorder_67 ?_
                  refine ja_istore (i := 4) dX8_coarseBorder_68 rfl (Nat.le_of_ble_eq_true rfl) ?_
                  refine ja_iincN dX8_coarseBorder_70 rfl rfl (Nat.le_of_ble_eq_true rfl) ?_
                  refine ja_goto (tgt := 17) dX8_coarseBorder_73 (by decide) ?_
                  refine ja_forget (i := 7) ?_
                  exact ih17 (s + 1) _ (by omega) (by omega) (by rw [hn2, fb_sm_succ]; simp [nbC, hnb]; try simp_all; try omega) (Or.inr c31)
                ·
                  have hj := nbM_lt (by omega) hnb
                  refine ja_iload (i := 4) dX8_coarseBorder_43 rfl ?_
                  refine ja_iload (i := 7) dX8_coarseBorder_45 rfl ?_
                  refine ja_iconst (v := (-1)) dX8_coarseBorder_47 (by decide +kernel) ?_
                  refine ja_icmp_eq (tgt := 66) dX8_coarseBorder_48 (by decide) (fun c48 => absurd c48 (nI_nm1 (by omega))) (fun c48 => ?_)
                  refine ja_aload_n (i := 0) dX8_coarseBorder_51 rfl rfl ?_
                  refine ja_iload_n (i := 1) dX8_coarseBorder_52 rfl rfl ?_
                  refine ja_iload (i := 7) dX8_coarseBorder_53 rfl ?_
                  refine ja_cVr (st := [.int (nI (n2))]) (s_coarseAt (D := D) l hz hw (ly := ly) (q := j) (by omega) (by omega)) rfl rfl (ce_X8_coarseAt 0 0) im_X8_coarseAt se_X8_coarseAt lk_X8_177 k_X8 (zM_s hz) ⟨(Nat.le_of_ble_eq_true rfl), (Nat.le_of_ble_eq_true rfl)⟩ dX8_coarseBorder_55 rfl rfl (Nat.le_of_ble_eq_true rfl) (Nat.zero_le _) (Nat.zero_le _) ?_
                  refine ja_iload_n (i := 3) dX8_coarseBorder_58 rfl rfl ?_
                  refine ja_icmp_ne (tgt := 66) dX8_coarseBorder_59 (by decide) (fun c59 => ?_) (fun c59 => ?_)
                  ·
                    refine ja_iconst (v := nI 0) dX8_coarseBorder_66 (by decide +kernel) ?_
                    refine ja_iaddN dX8_coarseBorder_67 ?_
                    refine ja_istore (i := 4) dX8_coarseBorder_68 rfl (Nat.le_of_ble_eq_true rfl) ?_
                    refine ja_iincN dX8_coarseBorder_70 rfl rfl (Nat.le_of_ble_eq_true rfl) ?_
                    refine ja_goto (tgt := 17) dX8_coarseBorder_73 (by decide) ?_
                    refine ja_forget (i := 7) ?_
                    exact ih17 (s + 1) _ (by omega) (by omega) (by rw [hn2, fb_sm_succ]; simp [nbC, hnb]; try simp_all; try omega) (Or.inr c31)
                  ·
                    refine ja_iconst (v := nI 1) dX8_coarseBorder_62 (by decide +kernel) ?_
                    refine ja_goto (tgt := 67) dX8_coarseBorder_63 (by decide) ?_
                    refine ja_iaddN dX8_coarseBorder_67 ?_
                    refine ja_istore (i := 4) dX8_coarseBorder_68 rfl (Nat.le_of_ble_eq_true rfl) ?_
                    refine ja_iincN dX8_coarseBorder_70 rfl rfl (Nat.le_of_ble_eq_true rfl) ?_
                    refine ja_goto (tgt := 17) dX8_coarseBorder_73 (by decide) ?_
                    refine ja_forget (i := 7) ?_
                    exact ih17 (s + 1) _ (by omega) (by omega) (by rw [hn2, fb_sm_succ]; simp [nbC, hnb]; try simp_all; try omega) (Or.inr c31)
        exact lp17 5 0 _ (by omega) (by omega) hn (Or.inl rfl)
  exact lp6 257 0 0 (by omega) (by omega) rfl

/-- what the best so far reaches -/
def bMg (g : Nat → Nat) : Option Nat → Nat
  | none => 0
  | some b => g b
theorem bM_step {g : Nat → Nat} {n : Nat} {r : Option Nat} {m : Nat} (hr : r = bM g n) (hm : m = bMg g r) : (m < g n → some n = bM g (n + 1)) ∧ (¬ m < g n → r = bM g (n + 1)) := by
  subst hm
  subst hr
  conv => rhs; rw [bM]
  conv => lhs; rw [bM]
  cases h : bM g n with
  | none => exact ⟨fun h2 => (if_pos h2).symm, fun h2 => (if_neg h2).symm⟩
  | some b => exact ⟨fun h2 => (if_pos h2).symm, fun h2 => (if_neg h2).symm⟩

set_option maxRecDepth 100000 in
set_option maxHeartbeats 4000000 in
theorem s_besideB (l : Launch) {Z : jZ} {D : jD} (hz : zM Z) (hw : wfA (D 105)) {ly : Nat} (h1 : ly < 3) {a : Nat} (h2 : a < 10) : ja_M l (mX8_beside_ 0 0) [.ref (100), .int (nI (ly)), .int (nI (a)), .int ((-1))] Z D (ja_jr (some (.int (oI (bM (fun o => if o = a then 0 else bd (cA (D 105) (D 126) ly) (nI a) (nI o) 256) 10)))) Z D) ja_x0 := by
  refine ja_Mof (lv := [some (.ref (100)), some (.int (nI (ly))), some (.int (nI (a))), some (.int ((-1))), none, none, none, none]) (by decide +kernel) rfl rfl (Nat.le_of_ble_eq_true rfl) rfl ?_
  refine ja_iload_n (i := 3) dX8_beside__0 rfl rfl ?_
  refine ja_istore (i := 4) dX8_beside__1 rfl (Nat.le_of_ble_eq_true rfl) ?_
  refine ja_iconst (v := nI 0) dX8_beside__3 (by decide +kernel) ?_
  refine ja_istore (i := 5) dX8_beside__4 rfl (Nat.le_of_ble_eq_true rfl) ?_
  refine ja_iconst (v := nI 0) dX8_beside__6 (by decide +kernel) ?_
  refine ja_istore (i := 6) dX8_beside__7 rfl (Nat.le_of_ble_eq_true rfl) ?_
  have lp9 : ∀ (k9 : Nat) (o : Nat) (r : Option Nat) (m : Nat), (10 < o + k9) → (o ≤ 10) → (r = bM (fun o => if o = a then 0 else bd (cA (D 105) (D 126) ly) (nI a) (nI o) 256) o) → (m = bMg (fun o => if o = a then 0 else bd (cA (D 105) (D 126) ly) (nI a) (nI o) 256) r) → ja_A l (mX8_beside_ 0 0) ja_sn (ja_Qf (mX8_beside_ 0 0) (ja_jr (some (.int (oI (bM (fun o => if o = a then 0 else bd (cA (D 105) (D 126) ly) (nI a) (nI o) 256) 10)))) Z D) ja_x0) 9 [some (.ref (100)), some (.int (nI (ly))), some (.int (nI (a))), some (.int ((-1))), some (.int (oI r)), some (.int (nI (m))), some (.int (nI (o))), none] [] Z D 0 0 := by
    intro k9
    induction k9 with
    | zero => intro o r m hk hq hr hm; exfalso; omega
    | succ k9 ih9 =>
      intro o r m hk hq hr hm
      have hb1 := bd_le (cA (D 105) (D 126) ly) (nI a) (nI o) 256
      have hb2 : m ≤ 1024 := by rw [hm]; cases r with | none => exact Nat.zero_le _ | some b => (simp only [bMg]; split; exact Nat.zero_le _; exact bd_le (cA (D 105) (D 126) ly) (nI a) (nI b) 256)
      refine ja_iload (i := 6) dX8_beside__9 rfl ?_
      refine ja_bipush (v := nI 10) dX8_beside__11 (by decide +kernel) ?_
      refine ja_icmpN_ge (tgt := 57) dX8_beside__13 (by decide) (by omega) (by omega) (fun c13 => ?_) (fun c13 => ?_)
      ·
        refine ja_iload (i := 4) dX8_beside__57 rfl ?_
        refine ja_iret rfl rfl dX8_beside__59 (Nat.zero_le _) (Nat.zero_le _) ?_
        refine ⟨?_, rfl, rfl⟩
        rw [hr, show o = 10 by omega]
      ·
        refine ja_iload (i := 6) dX8_beside__16 rfl ?_
        refine ja_iload_n (i := 2) dX8_beside__18 rfl rfl ?_
        refine ja_icmpN_ne (tgt := 26) dX8_beside__19 (by decide) (by omega) (by omega) (fun c19 => ?_) (fun c19 => ?_)
        ·
          refine ja_aload_n (i := 0) dX8_beside__26 rfl rfl ?_
          refine ja_iload_n (i := 1) dX8_beside__27 rfl rfl ?_
          refine ja_iload_n (i := 2) dX8_beside__28 rfl rfl ?_
          refine ja_iload (i := 6) dX8_beside__29 rfl ?_
          refine ja_cVr (st := []) (s_coarseBorder (D := D) l hz hw (ly := ly) (by omega) (nI (a)) (nI (o))) rfl rfl (ce_X8_coarseBorder 0 0) im_X8_coarseBorder se_X8_coarseBorder lk_X8_180 k_X8 (zM_s hz) ⟨(Nat.le_of_ble_eq_true rfl), (Nat.le_of_ble_eq_true rfl)⟩ dX8_beside__31 rfl rfl (Nat.le_of_ble_eq_true rfl) (Nat.zero_le _) (Nat.zero_le _) ?_
          refine ja_istore (i := 7) dX8_beside__34 rfl (Nat.le_of_ble_eq_true rfl) ?_
          refine ja_iload (i := 7) dX8_beside__36 rfl ?_
          refine ja_iload (i := 5) dX8_beside__38 rfl ?_
          refine ja_icmpN_le (tgt := 51) dX8_beside__40 (by decide) (by omega) (by omega) (fun c40 => ?_) (fun c40 => ?_)
          ·
            refine ja_iincN dX8_beside__51 rfl rfl (Nat.le_of_ble_eq_true rfl) ?_
            refine ja_goto (tgt := 9) dX8_beside__54 (by decide) ?_
            refine ja_forget (i := 7) ?_
            exact ih9 (o + 1) r _ (by omega) (by omega) ((bM_step hr hm).2 (by first | (rw [if_neg c19]; omega) | (rw [if_pos c19]; omega))) hm
          ·
            refine ja_iload (i := 6) dX8_beside__43 rfl ?_
            refine ja_istore (i := 4) dX8_beside__45 rfl (Nat.le_of_ble_eq_true rfl) ?_
            refine ja_iload (i := 7) dX8_beside__47 rfl ?_
            refine ja_istore (i := 5) dX8_beside__49 rfl (Nat.le_of_ble_eq_true rfl) ?_
            refine ja_iincN dX8_beside__51 rfl rfl (Nat.le_of_ble_eq_true rfl) ?_
            refine ja_goto (tgt := 9) dX8_beside__54 (by decide) ?_
            refine ja_forget (i := 7) ?_
            exact ih9 (o + 1) (some o) _ (by omega) (by omega) ((bM_step hr hm).1 (by first | exact c40x | (simp only [c19, if_true, if_false]; omega) | (rw [if_neg c19]; omega))) (by simp only [bMg]; first | rw [if_neg c19] | simp [c19])
        ·
          refine ja_iconst (v := nI 0) dX8_beside__22 (by decide +kernel) ?_
          refine ja_goto (tgt := 34) dX8_beside__23 (by decide) ?_
          refine ja_istore (i := 7) dX8_beside__34 rfl (Nat.le_of_ble_eq_true rfl) ?_
          refine ja_iload (i := 7) dX8_beside__36 rfl ?_
          refine ja_iload (i := 5) dX8_beside__38 rfl ?_
          refine ja_icmpN_le (tgt := 51) dX8_beside__40 (by decide) (by omega) (by omega) (fun c40 => ?_) (fun c40 => ?_)
          ·
            refine ja_iincN dX8_beside__51 rfl rfl (Nat.le_of_ble_eq_true rfl) ?_
            refine ja_goto (tgt := 9) dX8_beside__54 (by decide) ?_
            refine ja_forget (i := 7) ?_
            exact ih9 (o + 1) r _ (by omega) (by omega) ((bM_step hr hm).2 (by first | (rw [if_neg c19]; omega) | (rw [if_pos c19]; omega))) hm
          ·
            refine ja_iload (i := 6) dX8_beside__43 rfl ?_
            refine ja_istore (i := 4) dX8_beside__45 rfl (Nat.le_of_ble_eq_true rfl) ?_
            refine ja_iload (i := 7) dX8_beside__47 rfl ?_
            refine ja_istore (i := 5) dX8_beside__49 rfl (Nat.le_of_ble_eq_true rfl) ?_
            refine ja_iincN dX8_beside__51 rfl rfl (Nat.le_of_ble_eq_true rfl) ?_
            refine ja_goto (tgt := 9) dX8_beside__54 (by decide) ?_
            refine ja_forget (i := 7) ?_
            exact ih9 (o + 1) (some o) _ (by omega) (by omega) ((bM_step hr hm).1 (by first | exact c40x | (simp only [c19, if_true, if_false]; omega) | (rw [if_neg c19]; omega))) (by simp only [bMg]; first | rw [if_neg c19] | simp [c19])
  exact lp9 11 0 none 0 (by omega) (by omega) rfl rfl

def cst1 (f T : Nat → Int32) (ly : Nat) (a : Int32) (k : Nat) : Prop := (f (256 * ly + k) = a ∧ T k = 0) ∧ ∀ s j, s < 4 → nbM s k = some j → T j = 0
def cst (f T : Nat → Int32) (ly : Nat) (a : Int32) (q m : Nat) : Prop := q % 16 + m ≤ 16 ∧ ∀ k, q ≤ k → k < q + m → cst1 f T ly a k

set_option maxRecDepth 100000 in
set_option maxHeartbeats 4000000 in
theorem s_canStand (l : Launch) {Z : jZ} {D : jD} (hz : zM Z) {ly a q m : Nat} (h1 : ly < 3) (h2 : a < 10) (h3 : q < 256) (hm : D 107 (10 * ly + a) = nI m) (h4 : m ≤ 6) : ja_M l (mX8_canStand 0 0) [.ref (100), .int (nI (ly)), .int (nI (a)), .int (nI (q))] Z D (ja_jr (some (.int (bI (bP (cst (D 105) (D 128) ly (nI a) q m))))) Z D) ja_x0 := by
  refine ja_Mof (lv := [some (.ref (100)), some (.int (nI (ly))), some (.int (nI (a))), some (.int (nI (q))), none, none, none, none, none]) (by decide +kernel) rfl rfl (Nat.le_of_ble_eq_true rfl) rfl ?_
  refine ja_aload_n (i := 0) dX8_canStand_0 rfl rfl ?_
  refine ja_getR fl_X8_24 (zM_s hz) rfl (zM_p6 hz) dX8_canStand_1 ?_
  refine ja_bipush (v := nI 10) dX8_canStand_4 (by decide +kernel) ?_
  refine ja_iload_n (i := 1) dX8_canStand_6 rfl rfl ?_
  refine ja_imulN dX8_canStand_7 ?_
  refine ja_iload_n (i := 2) dX8_canStand_8 rfl rfl ?_
  refine ja_iaddN dX8_canStand_9 ?_
  refine ja_iald (zM_a6 hz) rfl (by omega) (by decide) dX8_canStand_10 ?_
  refine ja_top (y := nI (m)) hm ?_
  refine ja_istore (i := 4) dX8_canStand_11 rfl (Nat.le_of_ble_eq_true rfl) ?_
  refine ja_iload_n (i := 3) dX8_canStand_13 rfl rfl ?_
  refine ja_bipush (v := nI 16) dX8_canStand_14 (by decide +kernel) ?_
  refine ja_iremN dX8_canStand_16 (by omega) (by omega) (by omega) ?_
  refine ja_iload (i := 4) dX8_canStand_17 rfl ?_
  refine ja_iaddN dX8_canStand_19 ?_
  refine ja_bipush (v := nI 16) dX8_canStand_20 (by decide +kernel) ?_
  refine ja_icmpN_le (tgt := 27) dX8_canStand_22 (by decide) (by omega) (by omega) (fun c22 => ?_) (fun c22 => ?_)
  ·
    refine ja_iload_n (i := 3) dX8_canStand_27 rfl rfl ?_
    refine ja_istore (i := 5) dX8_canStand_28 rfl (Nat.le_of_ble_eq_true rfl) ?_
    have lp30 : ∀ (k30 : Nat) (k : Nat), (q + m < k + k30) → (q ≤ k) → (k ≤ q + m) → (∀ k2, q ≤ k2 → k2 < k → cst1 (D 105) (D 128) ly (nI a) k2) → ja_A l (mX8_canStand 0 0) ja_sn (ja_Qf (mX8_canStand 0 0) (ja_jr (some (.int (bI (bP (cst (D 105) (D 128) ly (nI a) q m))))) Z D) ja_x0) 30 [some (.ref (100)), some (.int (nI (ly))), some (.int (nI (a))), some (.int (nI (q))), some (.int (nI (m))), some (.int (nI (k))), none, none, none] [] Z D 0 0 := by
      intro k30
      induction k30 with
      | zero => intro k hk hkq hkm hc; exfalso; omega
      | succ k30 ih30 =>
        intro k hk hkq hkm hc
        refine ja_iload (i := 5) dX8_canStand_30 rfl ?_
        refine ja_iload_n (i := 3) dX8_canStand_32 rfl rfl ?_
        refine ja_iload (i := 4) dX8_canStand_33 rfl ?_
        refine ja_iaddN dX8_canStand_35 ?_
        refine ja_icmpN_ge (tgt := 132) dX8_canStand_36 (by decide) (by omega) (by omega) (fun c36 => ?_) (fun c36 => ?_)
        ·
          refine ja_iconst (v := nI 1) dX8_canStand_132 (by decide +kernel) ?_
          refine ja_iret rfl (by decide +kernel) dX8_canStand_133 (Nat.zero_le _) (Nat.zero_le _) ?_
          exact ⟨congrArg (fun x => some (Value.int x)) (bP_T ⟨by omega, fun k2 e1 e2 => hc k2 e1 (by omega)⟩), rfl, rfl⟩
        ·
          refine ja_aload_n (i := 0) dX8_canStand_39 rfl rfl ?_
          refine ja_iload_n (i := 1) dX8_canStand_40 rfl rfl ?_
          refine ja_iload (i := 5) dX8_canStand_41 rfl ?_
          refine ja_cVr (st := []) (s_at (D := D) l hz (ly := ly) (q := k) (by omega) (by omega)) rfl rfl (ce_X8_at 0 0) im_X8_at se_X8_at lk_X8_92 k_X8 (zM_s hz) ⟨(Nat.le_of_ble_eq_true rfl), (Nat.le_of_ble_eq_true rfl)⟩ dX8_canStand_43 rfl rfl (Nat.le_of_ble_eq_true rfl) (Nat.zero_le _) (Nat.zero_le _) ?_
          refine ja_iload_n (i := 2) dX8_canStand_46 rfl rfl ?_
          refine ja_icmp_ne (tgt := 64) dX8_canStand_47 (by decide) (fun c47 => ?_) (fun c47 => ?_)
          ·
            refine ja_iconst (v := nI 0) dX8_canStand_64 (by decide +kernel) ?_
            refine ja_istore (i := 6) dX8_canStand_65 rfl (Nat.le_of_ble_eq_true rfl) ?_
            refine ja_iconst (v := nI 0) dX8_canStand_67 (by decide +kernel) ?_
            refine ja_istore (i := 7) dX8_canStand_68 rfl (Nat.le_of_ble_eq_true rfl) ?_
            have lp70 : ∀ (k70 : Nat) (s : Nat) (b : Bool), (4 < s + k70) → (s ≤ 4) → (b = bP ((D 105 (256 * ly + k) = nI a ∧ D 128 k = 0) ∧ ∀ s2 j, s2 < s → nbM s2 k = some j → D 128 j = 0)) → ja_A l (mX8_canStand 0 0) ja_sn (ja_Qf (mX8_canStand 0 0) (ja_jr (some (.int (bI (bP (cst (D 105) (D 128) ly (nI a) q m))))) Z D) ja_x0) 70 [some (.ref (100)), some (.int (nI (ly))), some (.int (nI (a))), some (.int (nI (q))), some (.int (nI (m))), some (.int (nI (k))), some (.int (bI (b))), some (.int (nI (s))), none] [] Z D 0 0 := by
              intro k70
              induction k70 with
              | zero => intro s b hj4 hs4 hb; exfalso; omega
              | succ k70 ih70 =>
                intro s b hj4 hs4 hb
                refine ja_iload (i := 7) dX8_canStand_70 rfl ?_
                refine ja_iconst (v := nI 4) dX8_canStand_72 (by decide +kernel) ?_
                refine ja_icmpN_ge (tgt := 119) dX8_canStand_73 (by decide) (by omega) (by omega) (fun c73 => ?_) (fun c73 => ?_)
                ·
                  refine ja_iload (i := 6) dX8_canStand_119 rfl ?_
                  refine ja_ifB_ne (tgt := 126) dX8_canStand_121 (by decide) (fun c121 => ?_) (fun c121 => ?_)
                  ·
                    refine ja_iincN dX8_canStand_126 rfl rfl (Nat.le_of_ble_eq_true rfl) ?_
                    refine ja_goto (tgt := 30) dX8_canStand_129 (by decide) ?_
                    refine ja_forget (i := 6) ?_
                    refine ja_forget (i := 7) ?_
                    exact ih30 (k + 1) (by omega) (by omega) (by omega) (fun k2 e1 e2 => by by_cases e : k2 = k; (subst e; have hb3 := bP_of (hb.symm.trans c121); rw [show s = 4 by omega] at hb3; exact ⟨hb3.1, fun s2 j2 => hb3.2 s2 j2⟩); exact hc k2 e1 (by omega))
                  ·
                    refine ja_iconst (v := nI 0) dX8_canStand_124 (by decide +kernel) ?_
                    refine ja_iret rfl (by decide +kernel) dX8_canStand_125 (Nat.zero_le _) (Nat.zero_le _) ?_
                    exact ⟨congrArg (fun x => some (Value.int x)) (bP_F (fun h => by have h5 := h.2 k (by omega) (by omega); exact bP_no (hb.symm.trans c121) ⟨h5.1, fun s2 j2 e1 e2 => h5.2 s2 j2 (by omega) e2⟩)), rfl, rfl⟩
                ·
                  refine ja_iload (i := 5) dX8_canStand_76 rfl ?_
                  refine ja_iload (i := 7) dX8_canStand_78 rfl ?_
                  refine ja_cSr (st := []) (s_beside l (q := k) (side := s) (by omega) (by omega)) rfl rfl (ce_X8_beside 0 0) st_X8_beside lk_X8_129 ⟨(Nat.le_of_ble_eq_true rfl), (Nat.le_of_ble_eq_true rfl)⟩ dX8_canStand_80 rfl rfl (Nat.le_of_ble_eq_true rfl) (Nat.zero_le _) (Nat.zero_le _) ?_
                  refine ja_istore (i := 8) dX8_canStand_83 rfl (Nat.le_of_ble_eq_true rfl) ?_
                  rcases hnb : nbM s k with _ | j
                  ·
                    refine ja_iload (i := 6) dX8_canStand_85 rfl ?_
                    refine ja_ifB_eq (tgt := 110) dX8_canStand_87 (by decide) (fun c87 => ?_) (fun c87 => ?_)
                    ·
                      refine ja_iconst (v := nI 0) dX8_canStand_110 (by decide +kernel) ?_
                      refine ja_istore (i := 6) dX8_canStand_111 rfl (Nat.le_of_ble_eq_true rfl) ?_
                      refine ja_iincN dX8_canStand_113 rfl rfl (Nat.le_of_ble_eq_true rfl) ?_
                      refine ja_goto (tgt := 70) dX8_canStand_116 (by decide) ?_
                      refine ja_forget (i := 8) ?_
                      exact ih70 (s + 1) false (by omega) (by omega) (by first | (have hb3 := bP_no (hb.symm.trans c87); exact (bP_f (fun h => hb3 ⟨h.1, fun s2 j2 e1 e2 => h.2 s2 j2 (by omega) e2⟩)).symm) | exact (bP_f (fun h => c103 (h.2 s j (by omega) hnb))).symm)
                    ·
                      refine ja_iload (i := 8) dX8_canStand_90 rfl ?_
                      refine ja_iconst (v := (-1)) dX8_canStand_92 (by decide +kernel) ?_
                      refine ja_icmp_eq (tgt := 106) dX8_canStand_93 (by decide) (fun c93 => ?_) (fun c93 => absurd rfl c93)
                      refine ja_iconst (v := nI 1) dX8_canStand_106 (by decide +kernel) ?_
                      refine ja_goto (tgt := 111) dX8_canStand_107 (by decide) ?_
                      refine ja_istore (i := 6) dX8_canStand_111 rfl (Nat.le_of_ble_eq_true rfl) ?_
                      refine ja_iincN dX8_canStand_113 rfl rfl (Nat.le_of_ble_eq_true rfl) ?_
                      refine ja_goto (tgt := 70) dX8_canStand_116 (by decide) ?_
                      refine ja_forget (i := 8) ?_
                      exact ih70 (s + 1) true (by omega) (by omega) (by have hb3 := bP_of (hb.symm.trans c87); exact (bP_t ⟨hb3.1, fun s2 j2 e1 e2 => by by_cases e : s2 = s; (subst e; rw [hnb] at e2; cases e2; try exact c103); exact hb3.2 s2 j2 (by omega) e2⟩).symm)
                  ·
                    have hj := nbM_lt (by omega) hnb
                    refine ja_iload (i := 6) dX8_canStand_85 rfl ?_
                    refine ja_ifB_eq (tgt := 110) dX8_canStand_87 (by decide) (fun c87 => ?_) (fun c87 => ?_)
                    ·
                      refine ja_iconst (v := nI 0) dX8_canStand_110 (by decide +kernel) ?_
                      refine ja_istore (i := 6) dX8_canStand_111 rfl (Nat.le_of_ble_eq_true rfl) ?_
                      refine ja_iincN dX8_canStand_113 rfl rfl (Nat.le_of_ble_eq_true rfl) ?_
                      refine ja_goto (tgt := 70) dX8_canStand_116 (by decide) ?_
                      refine ja_forget (i := 8) ?_
                      exact ih70 (s + 1) false (by omega) (by omega) (by first | (have hb3 := bP_no (hb.symm.trans c87); exact (bP_f (fun h => hb3 ⟨h.1, fun s2 j2 e1 e2 => h.2 s2 j2 (by omega) e2⟩)).symm) | exact (bP_f (fun h => c103 (h.2 s j (by omega) hnb))).symm)
                    ·
                      refine ja_iload (i := 8) dX8_canStand_90 rfl ?_
                      refine ja_iconst (v := (-1)) dX8_canStand_92 (by decide +kernel) ?_
                      refine ja_icmp_eq (tgt := 106) dX8_canStand_93 (by decide) (fun c93 => absurd c93 (nI_nm1 (by omega))) (fun c93 => ?_)
                      refine ja_aload_n (i := 0) dX8_canStand_96 rfl rfl ?_
                      refine ja_getR fl_X8_82 (zM_s hz) rfl (zM_p27 hz) dX8_canStand_97 ?_
                      refine ja_iload (i := 8) dX8_canStand_100 rfl ?_
                      refine ja_zald (zM_a27 hz) rfl (by omega) (by decide) dX8_canStand_102 ?_
                      refine ja_if_ne (tgt := 110) dX8_canStand_103 (by decide) (fun c103 => ?_) (fun c103 => ?_)
                      ·
                        refine ja_iconst (v := nI 0) dX8_canStand_110 (by decide +kernel) ?_
                        refine ja_istore (i := 6) dX8_canStand_111 rfl (Nat.le_of_ble_eq_true rfl) ?_
                        refine ja_iincN dX8_canStand_113 rfl rfl (Nat.le_of_ble_eq_true rfl) ?_
                        refine ja_goto (tgt := 70) dX8_canStand_116 (by decide) ?_
                        refine ja_forget (i := 8) ?_
                        exact ih70 (s + 1) false (by omega) (by omega) (by first | (have hb3 := bP_no (hb.symm.trans c87); exact (bP_f (fun h => hb3 ⟨h.1, fun s2 j2 e1 e2 => h.2 s2 j2 (by omega) e2⟩)).symm) | exact (bP_f (fun h => c103 (h.2 s j (by omega) hnb))).symm)
                      ·
                        refine ja_iconst (v := nI 1) dX8_canStand_106 (by decide +kernel) ?_
                        refine ja_goto (tgt := 111) dX8_canStand_107 (by decide) ?_
                        refine ja_istore (i := 6) dX8_canStand_111 rfl (Nat.le_of_ble_eq_true rfl) ?_
                        refine ja_iincN dX8_canStand_113 rfl rfl (Nat.le_of_ble_eq_true rfl) ?_
                        refine ja_goto (tgt := 70) dX8_canStand_116 (by decide) ?_
                        refine ja_forget (i := 8) ?_
                        exact ih70 (s + 1) true (by omega) (by omega) (by have hb3 := bP_of (hb.symm.trans c87); exact (bP_t ⟨hb3.1, fun s2 j2 e1 e2 => by by_cases e : s2 = s; (subst e; rw [hnb] at e2; cases e2; try exact c103); exact hb3.2 s2 j2 (by omega) e2⟩).symm)
            exact lp70 5 0 false (by omega) (by omega) (bP_f (fun h => by first | exact c47 h.1.1 | exact c57 h.1.2)).symm
          ·
            refine ja_aload_n (i := 0) dX8_canStand_50 rfl rfl ?_
            refine ja_getR fl_X8_82 (zM_s hz) rfl (zM_p27 hz) dX8_canStand_51 ?_
            refine ja_iload (i := 5) dX8_canStand_54 rfl ?_
            refine ja_zald (zM_a27 hz) rfl (by omega) (by decide) dX8_canStand_56 ?_
            refine ja_if_ne (tgt := 64) dX8_canStand_57 (by decide) (fun c57 => ?_) (fun c57 => ?_)
            ·
              refine ja_iconst (v := nI 0) dX8_canStand_64 (by decide +kernel) ?_
              refine ja_istore (i := 6) dX8_canStand_65 rfl (Nat.le_of_ble_eq_true rfl) ?_
              refine ja_iconst (v := nI 0) dX8_canStand_67 (by decide +kernel) ?_
              refine ja_istore (i := 7) dX8_canStand_68 rfl (Nat.le_of_ble_eq_true rfl) ?_
              have lp70 : ∀ (k70 : Nat) (s : Nat) (b : Bool), (4 < s + k70) → (s ≤ 4) → (b = bP ((D 105 (256 * ly + k) = nI a ∧ D 128 k = 0) ∧ ∀ s2 j, s2 < s → nbM s2 k = some j → D 128 j = 0)) → ja_A l (mX8_canStand 0 0) ja_sn (ja_Qf (mX8_canStand 0 0) (ja_jr (some (.int (bI (bP (cst (D 105) (D 128) ly (nI a) q m))))) Z D) ja_x0) 70 [some (.ref (100)), some (.int (nI (ly))), some (.int (nI (a))), some (.int (nI (q))), some (.int (nI (m))), some (.int (nI (k))), some (.int (bI (b))), some (.int (nI (s))), none] [] Z D 0 0 := by
                intro k70
                induction k70 with
                | zero => intro s b hj4 hs4 hb; exfalso; omega
                | succ k70 ih70 =>
                  intro s b hj4 hs4 hb
                  refine ja_iload (i := 7) dX8_canStand_70 rfl ?_
                  refine ja_iconst (v := nI 4) dX8_canStand_72 (by decide +kernel) ?_
                  refine ja_icmpN_ge (tgt := 119) dX8_canStand_73 (by decide) (by omega) (by omega) (fun c73 => ?_) (fun c73 => ?_)
                  ·
                    refine ja_iload (i := 6) dX8_canStand_119 rfl ?_
                    refine ja_ifB_ne (tgt := 126) dX8_canStand_121 (by decide) (fun c121 => ?_) (fun c121 => ?_)
                    ·
                      refine ja_iincN dX8_canStand_126 rfl rfl (Nat.le_of_ble_eq_true rfl) ?_
                      refine ja_goto (tgt := 30) dX8_canStand_129 (by decide) ?_
                      refine ja_forget (i := 6) ?_
                      refine ja_forget (i := 7) ?_
                      exact ih30 (k + 1) (by omega) (by omega) (by omega) (fun k2 e1 e2 => by by_cases e : k2 = k; (subst e; have hb3 := bP_of (hb.symm.trans c121); rw [show s = 4 by omega] at hb3; exact ⟨hb3.1, fun s2 j2 => hb3.2 s2 j2⟩); exact hc k2 e1 (by omega))
                    ·
                      refine ja_iconst (v := nI 0) dX8_canStand_124 (by decide +kernel) ?_
                      refine ja_iret rfl (by decide +kernel) dX8_canStand_125 (Nat.zero_le _) (Nat.zero_le _) ?_
                      exact ⟨congrArg (fun x => some (Value.int x)) (bP_F (fun h => by have h5 := h.2 k (by omega) (by omega); exact bP_no (hb.symm.trans c121) ⟨h5.1, fun s2 j2 e1 e2 => h5.2 s2 j2 (by omega) e2⟩)), rfl, rfl⟩
                  ·
                    refine ja_iload (i := 5) dX8_canStand_76 rfl ?_
                    refine ja_iload (i := 7) dX8_canStand_78 rfl ?_
                    refine ja_cSr (st := []) (s_beside l (q := k) (side := s) (by omega) (by omega)) rfl rfl (ce_X8_beside 0 0) st_X8_beside lk_X8_129 ⟨(Nat.le_of_ble_eq_true rfl), (Nat.le_of_ble_eq_true rfl)⟩ dX8_canStand_80 rfl rfl (Nat.le_of_ble_eq_true rfl) (Nat.zero_le _) (Nat.zero_le _) ?_
                    refine ja_istore (i := 8) dX8_canStand_83 rfl (Nat.le_of_ble_eq_true rfl) ?_
                    rcases hnb : nbM s k with _ | j
                    ·
                      refine ja_iload (i := 6) dX8_canStand_85 rfl ?_
                      refine ja_ifB_eq (tgt := 110) dX8_canStand_87 (by decide) (fun c87 => ?_) (fun c87 => ?_)
                      ·
                        refine ja_iconst (v := nI 0) dX8_canStand_110 (by decide +kernel) ?_
                        refine ja_istore (i := 6) dX8_canStand_111 rfl (Nat.le_of_ble_eq_true rfl) ?_
                        refine ja_iincN dX8_canStand_113 rfl rfl (Nat.le_of_ble_eq_true rfl) ?_
                        refine ja_goto (tgt := 70) dX8_canStand_116 (by decide) ?_
                        refine ja_forget (i := 8) ?_
                        exact ih70 (s + 1) false (by omega) (by omega) (by first | (have hb3 := bP_no (hb.symm.trans c87); exact (bP_f (fun h => hb3 ⟨h.1, fun s2 j2 e1 e2 => h.2 s2 j2 (by omega) e2⟩)).symm) | exact (bP_f (fun h => c103 (h.2 s j (by omega) hnb))).symm)
                      ·
                        refine ja_iload (i := 8) dX8_canStand_90 rfl ?_
                        refine ja_iconst (v := (-1)) dX8_canStand_92 (by decide +kernel) ?_
                        refine ja_icmp_eq (tgt := 106) dX8_canStand_93 (by decide) (fun c93 => ?_) (fun c93 => absurd rfl c93)
                        refine ja_iconst (v := nI 1) dX8_canStand_106 (by decide +kernel) ?_
                        refine ja_goto (tgt := 111) dX8_canStand_107 (by decide) ?_
                        refine ja_istore (i := 6) dX8_canStand_111 rfl (Nat.le_of_ble_eq_true rfl) ?_
                        refine ja_iincN dX8_canStand_113 rfl rfl (Nat.le_of_ble_eq_true rfl) ?_
                        refine ja_goto (tgt := 70) dX8_canStand_116 (by decide) ?_
                        refine ja_forget (i := 8) ?_
                        exact ih70 (s + 1) true (by omega) (by omega) (by have hb3 := bP_of (hb.symm.trans c87); exact (bP_t ⟨hb3.1, fun s2 j2 e1 e2 => by by_cases e : s2 = s; (subst e; rw [hnb] at e2; cases e2; try exact c103); exact hb3.2 s2 j2 (by omega) e2⟩).symm)
                    ·
                      have hj := nbM_lt (by omega) hnb
                      refine ja_iload (i := 6) dX8_canStand_85 rfl ?_
                      refine ja_ifB_eq (tgt := 110) dX8_canStand_87 (by decide) (fun c87 => ?_) (fun c87 => ?_)
                      ·
                        refine ja_iconst (v := nI 0) dX8_canStand_110 (by decide +kernel) ?_
                        refine ja_istore (i := 6) dX8_canStand_111 rfl (Nat.le_of_ble_eq_true rfl) ?_
                        refine ja_iincN dX8_canStand_113 rfl rfl (Nat.le_of_ble_eq_true rfl) ?_
                        refine ja_goto (tgt := 70) dX8_canStand_116 (by decide) ?_
                        refine ja_forget (i := 8) ?_
                        exact ih70 (s + 1) false (by omega) (by omega) (by first | (have hb3 := bP_no (hb.symm.trans c87); exact (bP_f (fun h => hb3 ⟨h.1, fun s2 j2 e1 e2 => h.2 s2 j2 (by omega) e2⟩)).symm) | exact (bP_f (fun h => c103 (h.2 s j (by omega) hnb))).symm)
                      ·
                        refine ja_iload (i := 8) dX8_canStand_90 rfl ?_
                        refine ja_iconst (v := (-1)) dX8_canStand_92 (by decide +kernel) ?_
                        refine ja_icmp_eq (tgt := 106) dX8_canStand_93 (by decide) (fun c93 => absurd c93 (nI_nm1 (by omega))) (fun c93 => ?_)
                        refine ja_aload_n (i := 0) dX8_canStand_96 rfl rfl ?_
                        refine ja_getR fl_X8_82 (zM_s hz) rfl (zM_p27 hz) dX8_canStand_97 ?_
                        refine ja_iload (i := 8) dX8_canStand_100 rfl ?_
                        refine ja_zald (zM_a27 hz) rfl (by omega) (by decide) dX8_canStand_102 ?_
                        refine ja_if_ne (tgt := 110) dX8_canStand_103 (by decide) (fun c103 => ?_) (fun c103 => ?_)
                        ·
                          refine ja_iconst (v := nI 0) dX8_canStand_110 (by decide +kernel) ?_
                          refine ja_istore (i := 6) dX8_canStand_111 rfl (Nat.le_of_ble_eq_true rfl) ?_
                          refine ja_iincN dX8_canStand_113 rfl rfl (Nat.le_of_ble_eq_true rfl) ?_
                          refine ja_goto (tgt := 70) dX8_canStand_116 (by decide) ?_
                          refine ja_forget (i := 8) ?_
                          exact ih70 (s + 1) false (by omega) (by omega) (by first | (have hb3 := bP_no (hb.symm.trans c87); exact (bP_f (fun h => hb3 ⟨h.1, fun s2 j2 e1 e2 => h.2 s2 j2 (by omega) e2⟩)).symm) | exact (bP_f (fun h => c103 (h.2 s j (by omega) hnb))).symm)
                        ·
                          refine ja_iconst (v := nI 1) dX8_canStand_106 (by decide +kernel) ?_
                          refine ja_goto (tgt := 111) dX8_canStand_107 (by decide) ?_
                          refine ja_istore (i := 6) dX8_canStand_111 rfl (Nat.le_of_ble_eq_true rfl) ?_
                          refine ja_iincN dX8_canStand_113 rfl rfl (Nat.le_of_ble_eq_true rfl) ?_
                          refine ja_goto (tgt := 70) dX8_canStand_116 (by decide) ?_
                          refine ja_forget (i := 8) ?_
                          exact ih70 (s + 1) true (by omega) (by omega) (by have hb3 := bP_of (hb.symm.trans c87); exact (bP_t ⟨hb3.1, fun s2 j2 e1 e2 => by by_cases e : s2 = s; (subst e; rw [hnb] at e2; cases e2; try exact c103); exact hb3.2 s2 j2 (by omega) e2⟩).symm)
              exact lp70 5 0 false (by omega) (by omega) (bP_f (fun h => by first | exact c47 h.1.1 | exact c57 h.1.2)).symm
            ·
              refine ja_iconst (v := nI 1) dX8_canStand_60 (by decide +kernel) ?_
              refine ja_goto (tgt := 65) dX8_canStand_61 (by decide) ?_
              refine ja_istore (i := 6) dX8_canStand_65 rfl (Nat.le_of_ble_eq_true rfl) ?_
              refine ja_iconst (v := nI 0) dX8_canStand_67 (by decide +kernel) ?_
              refine ja_istore (i := 7) dX8_canStand_68 rfl (Nat.le_of_ble_eq_true rfl) ?_
              have lp70 : ∀ (k70 : Nat) (s : Nat) (b : Bool), (4 < s + k70) → (s ≤ 4) → (b = bP ((D 105 (256 * ly + k) = nI a ∧ D 128 k = 0) ∧ ∀ s2 j, s2 < s → nbM s2 k = some j → D 128 j = 0)) → ja_A l (mX8_canStand 0 0) ja_sn (ja_Qf (mX8_canStand 0 0) (ja_jr (some (.int (bI (bP (cst (D 105) (D 128) ly (nI a) q m))))) Z D) ja_x0) 70 [some (.ref (100)), some (.int (nI (ly))), some (.int (nI (a))), some (.int (nI (q))), some (.int (nI (m))), some (.int (nI (k))), some (.int (bI (b))), some (.int (nI (s))), none] [] Z D 0 0 := by
                intro k70
                induction k70 with
                | zero => intro s b hj4 hs4 hb; exfalso; omega
                | succ k70 ih70 =>
                  intro s b hj4 hs4 hb
                  refine ja_iload (i := 7) dX8_canStand_70 rfl ?_
                  refine ja_iconst (v := nI 4) dX8_canStand_72 (by decide +kernel) ?_
                  refine ja_icmpN_ge (tgt := 119) dX8_canStand_73 (by decide) (by omega) (by omega) (fun c73 => ?_) (fun c73 => ?_)
                  ·
                    refine ja_iload (i := 6) dX8_canStand_119 rfl ?_
                    refine ja_ifB_ne (tgt := 126) dX8_canStand_121 (by decide) (fun c121 => ?_) (fun c121 => ?_)
                    ·
                      refine ja_iincN dX8_canStand_126 rfl rfl (Nat.le_of_ble_eq_true rfl) ?_
                      refine ja_goto (tgt := 30) dX8_canStand_129 (by decide) ?_
                      refine ja_forget (i := 6) ?_
                      refine ja_forget (i := 7) ?_
                      exact ih30 (k + 1) (by omega) (by omega) (by omega) (fun k2 e1 e2 => by by_cases e : k2 = k; (subst e; have hb3 := bP_of (hb.symm.trans c121); rw [show s = 4 by omega] at hb3; exact ⟨hb3.1, fun s2 j2 => hb3.2 s2 j2⟩); exact hc k2 e1 (by omega))
                    ·
                      refine ja_iconst (v := nI 0) dX8_canStand_124 (by decide +kernel) ?_
                      refine ja_iret rfl (by decide +kernel) dX8_canStand_125 (Nat.zero_le _) (Nat.zero_le _) ?_
                      exact ⟨congrArg (fun x => some (Value.int x)) (bP_F (fun h => by have h5 := h.2 k (by omega) (by omega); exact bP_no (hb.symm.trans c121) ⟨h5.1, fun s2 j2 e1 e2 => h5.2 s2 j2 (by omega) e2⟩)), rfl, rfl⟩
                  ·
                    refine ja_iload (i := 5) dX8_canStand_76 rfl ?_
                    refine ja_iload (i := 7) dX8_canStand_78 rfl ?_
                    refine ja_cSr (st := []) (s_beside l (q := k) (side := s) (by omega) (by omega)) rfl rfl (ce_X8_beside 0 0) st_X8_beside lk_X8_129 ⟨(Nat.le_of_ble_eq_true rfl), (Nat.le_of_ble_eq_true rfl)⟩ dX8_canStand_80 rfl rfl (Nat.le_of_ble_eq_true rfl) (Nat.zero_le _) (Nat.zero_le _) ?_
                    refine ja_istore (i := 8) dX8_canStand_83 rfl (Nat.le_of_ble_eq_true rfl) ?_
                    rcases hnb : nbM s k with _ | j
                    ·
                      refine ja_iload (i := 6) dX8_canStand_85 rfl ?_
                      refine ja_ifB_eq (tgt := 110) dX8_canStand_87 (by decide) (fun c87 => ?_) (fun c87 => ?_)
                      ·
                        refine ja_iconst (v := nI 0) dX8_canStand_110 (by decide +kernel) ?_
                        refine ja_istore (i := 6) dX8_canStand_111 rfl (Nat.le_of_ble_eq_true rfl) ?_
                        refine ja_iincN dX8_canStand_113 rfl rfl (Nat.le_of_ble_eq_true rfl) ?_
                        refine ja_goto (tgt := 70) dX8_canStand_116 (by decide) ?_
                        refine ja_forget (i := 8) ?_
                        exact ih70 (s + 1) false (by omega) (by omega) (by first | (have hb3 := bP_no (hb.symm.trans c87); exact (bP_f (fun h => hb3 ⟨h.1, fun s2 j2 e1 e2 => h.2 s2 j2 (by omega) e2⟩)).symm) | exact (bP_f (fun h => c103 (h.2 s j (by omega) hnb))).symm)
                      ·
                        refine ja_iload (i := 8) dX8_canStand_90 rfl ?_
                        refine ja_iconst (v := (-1)) dX8_canStand_92 (by decide +kernel) ?_
                        refine ja_icmp_eq (tgt := 106) dX8_canStand_93 (by decide) (fun c93 => ?_) (fun c93 => absurd rfl c93)
                        refine ja_iconst (v := nI 1) dX8_canStand_106 (by decide +kernel) ?_
                        refine ja_goto (tgt := 111) dX8_canStand_107 (by decide) ?_
                        refine ja_istore (i := 6) dX8_canStand_111 rfl (Nat.le_of_ble_eq_true rfl) ?_
                        refine ja_iincN dX8_canStand_113 rfl rfl (Nat.le_of_ble_eq_true rfl) ?_
                        refine ja_goto (tgt := 70) dX8_canStand_116 (by decide) ?_
                        refine ja_forget (i := 8) ?_
                        exact ih70 (s + 1) true (by omega) (by omega) (by have hb3 := bP_of (hb.symm.trans c87); exact (bP_t ⟨hb3.1, fun s2 j2 e1 e2 => by by_cases e : s2 = s; (subst e; rw [hnb] at e2; cases e2; try exact c103); exact hb3.2 s2 j2 (by omega) e2⟩).symm)
                    ·
                      have hj := nbM_lt (by omega) hnb
                      refine ja_iload (i := 6) dX8_canStand_85 rfl ?_
                      refine ja_ifB_eq (tgt := 110) dX8_canStand_87 (by decide) (fun c87 => ?_) (fun c87 => ?_)
                      ·
                        refine ja_iconst (v := nI 0) dX8_canStand_110 (by decide +kernel) ?_
                        refine ja_istore (i := 6) dX8_canStand_111 rfl (Nat.le_of_ble_eq_true rfl) ?_
                        refine ja_iincN dX8_canStand_113 rfl rfl (Nat.le_of_ble_eq_true rfl) ?_
                        refine ja_goto (tgt := 70) dX8_canStand_116 (by decide) ?_
                        refine ja_forget (i := 8) ?_
                        exact ih70 (s + 1) false (by omega) (by omega) (by first | (have hb3 := bP_no (hb.symm.trans c87); exact (bP_f (fun h => hb3 ⟨h.1, fun s2 j2 e1 e2 => h.2 s2 j2 (by omega) e2⟩)).symm) | exact (bP_f (fun h => c103 (h.2 s j (by omega) hnb))).symm)
                      ·
                        refine ja_iload (i := 8) dX8_canStand_90 rfl ?_
                        refine ja_iconst (v := (-1)) dX8_canStand_92 (by decide +kernel) ?_
                        refine ja_icmp_eq (tgt := 106) dX8_canStand_93 (by decide) (fun c93 => absurd c93 (nI_nm1 (by omega))) (fun c93 => ?_)
                        refine ja_aload_n (i := 0) dX8_canStand_96 rfl rfl ?_
                        refine ja_getR fl_X8_82 (zM_s hz) rfl (zM_p27 hz) dX8_canStand_97 ?_
                        refine ja_iload (i := 8) dX8_canStand_100 rfl ?_
                        refine ja_zald (zM_a27 hz) rfl (by omega) (by decide) dX8_canStand_102 ?_
                        refine ja_if_ne (tgt := 110) dX8_canStand_103 (by decide) (fun c103 => ?_) (fun c103 => ?_)
                        ·
                          refine ja_iconst (v := nI 0) dX8_canStand_110 (by decide +kernel) ?_
                          refine ja_istore (i := 6) dX8_canStand_111 rfl (Nat.le_of_ble_eq_true rfl) ?_
                          refine ja_iincN dX8_canStand_113 rfl rfl (Nat.le_of_ble_eq_true rfl) ?_
                          refine ja_goto (tgt := 70) dX8_canStand_116 (by decide) ?_
                          refine ja_forget (i := 8) ?_
                          exact ih70 (s + 1) false (by omega) (by omega) (by first | (have hb3 := bP_no (hb.symm.trans c87); exact (bP_f (fun h => hb3 ⟨h.1, fun s2 j2 e1 e2 => h.2 s2 j2 (by omega) e2⟩)).symm) | exact (bP_f (fun h => c103 (h.2 s j (by omega) hnb))).symm)
                        ·
                          refine ja_iconst (v := nI 1) dX8_canStand_106 (by decide +kernel) ?_
                          refine ja_goto (tgt := 111) dX8_canStand_107 (by decide) ?_
                          refine ja_istore (i := 6) dX8_canStand_111 rfl (Nat.le_of_ble_eq_true rfl) ?_
                          refine ja_iincN dX8_canStand_113 rfl rfl (Nat.le_of_ble_eq_true rfl) ?_
                          refine ja_goto (tgt := 70) dX8_canStand_116 (by decide) ?_
                          refine ja_forget (i := 8) ?_
                          exact ih70 (s + 1) true (by omega) (by omega) (by have hb3 := bP_of (hb.symm.trans c87); exact (bP_t ⟨hb3.1, fun s2 j2 e1 e2 => by by_cases e : s2 = s; (subst e; rw [hnb] at e2; cases e2; try exact c103); exact hb3.2 s2 j2 (by omega) e2⟩).symm)
              exact lp70 5 0 true (by omega) (by omega) (bP_t ⟨⟨c47, c57⟩, fun s2 j h => by omega⟩).symm
    exact lp30 (m + 1) q (by omega) (by omega) (by omega) (fun k2 e1 e2 => by omega)
  ·
    refine ja_iconst (v := nI 0) dX8_canStand_25 (by decide +kernel) ?_
    refine ja_iret rfl (by decide +kernel) dX8_canStand_26 (Nat.zero_le _) (Nat.zero_le _) ?_
    exact ⟨congrArg (fun x => some (Value.int x)) (bP_F (fun h => by have := h.1; omega)), rfl, rfl⟩
