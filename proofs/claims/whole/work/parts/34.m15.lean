/-! THE REFERENCE: pieces, values, covered -/
/-- an array's first n numbers -/
def fnU (D : jD) (id : Nat) (g : Nat → Int32) (n : Nat) : jD := fun a b => if a = id ∧ b < n then g b else D a b
theorem fnU_0 {D : jD} {id : Nat} {g : Nat → Int32} : D = fnU D id g 0 := by
  funext a b
  rw [fnU, if_neg (by omega)]
theorem fnU_o {D : jD} {id : Nat} {g : Nat → Int32} {n a b : Nat} (h : ¬ a = id) : fnU D id g n a b = D a b := by
  rw [fnU, if_neg (fun e => h e.1)]
theorem fnU_s {D : jD} {id : Nat} {g : Nat → Int32} {q : Nat} {x : Int32} (h : x = g q) : ja_up (fnU D id g q) id q x = fnU D id g (q + 1) := by
  subst h
  funext a b
  simp only [ja_up, fnU]
  by_cases e : a = id ∧ b = q
  · obtain ⟨rfl, rfl⟩ := e
    rw [if_pos ⟨rfl, rfl⟩, if_pos ⟨rfl, by omega⟩]
  · rw [if_neg e]
    by_cases e2 : a = id ∧ b < q
    · rw [if_pos e2, if_pos (show a = id ∧ b < q + 1 from ⟨e2.1, by omega⟩)]
    · rw [if_neg e2, if_neg (by omega)]
def rwV (D : jD) (l1 l2 q : Nat) : Int32 := if D 105 (256 * l1 + q) = -1 ∧ D 105 (256 * l2 + q) = -1 then -1 else nI 11 * (D 105 (256 * l1 + q) + nI 1) + D 105 (256 * l2 + q) + nI 1
def ovD (D : jD) (l1 l2 : Nat) : jD := fnU D 123 (rwV D l1 l2) 256
noncomputable def ovP (D : jD) (l1 l2 : Nat) : (Nat → Int32) × Nat := pcs (ovD D l1 l2 123) 256
noncomputable def ovR (D : jD) (l1 l2 : Nat) : jD := pcU (ovD D l1 l2) (ovP D l1 l2).1
theorem ovP_le (D : jD) (l1 l2 : Nat) : (ovP D l1 l2).2 ≤ 256 := pcs_le _ _
def clV (D : jD) (v ly q : Nat) : Int32 := if cfl D v ly q = true then 1 else -1
def clD (D : jD) (v ly : Nat) : jD := fnU D 123 (clV D v ly) 256
theorem ovR_o {D : jD} {l1 l2 a b : Nat} (h1 : ¬ a = 122) (h2 : ¬ a = 123) : ovR D l1 l2 a b = D a b := by
  rw [ovR, pcU_o h1, ovD, fnU_o h2]
theorem ovR_p {D : jD} {l1 l2 b : Nat} (h : b < 256) : ovR D l1 l2 122 b = (ovP D l1 l2).1 b := pcU_i h
theorem pcs_ex {r : Nat → Int32} {i : Nat} : ∀ {q}, q ≤ 256 → i < (pcs r q).2 → ∃ j, j < q ∧ (pcs r q).1 j = nI i
  | 0, _, h => absurd h (Nat.not_lt_zero _)
  | q + 1, hq, h => by
    by_cases e : r q = -1 ∨ ¬ (pcs r q).1 q = -1
    · rw [pcs_n e] at h ⊢
      obtain ⟨j, h1, h2⟩ := pcs_ex (by omega) h
      exact ⟨j, by omega, h2⟩
    · have e1 : ¬ r q = -1 := fun x => e (Or.inl x)
      have e2 : (pcs r q).1 q = -1 := Classical.byContradiction fun x => e (Or.inr x)
      rw [pcs_y e1 e2] at h ⊢
      by_cases e3 : i = (pcs r q).2
      · exact ⟨q, by omega, by rw [e3]; exact if_pos (Rch_refl r q)⟩
      · obtain ⟨j, h1, h2⟩ := pcs_ex (r := r) (q := q) (i := i) (by omega) (by have : i < (pcs r q).2 + 1 := h; omega)
        refine ⟨j, by omega, ?_⟩
        show @ite _ (Rch r q j) (Classical.propDecidable _) _ _ = nI i
        rw [if_neg (fun x => ?_)]
        · exact h2
        · have := Cl_un (by omega) (pcs_cl r (by omega)) e2 x
          have h3 := pcs_le r q
          exact nI_nm1 (by have : i < (pcs r q).2 + 1 := h; omega) (h2.symm.trans this)
/-- a layer's sum of values -/
def vsm (f : Nat → Int32) (ly : Nat) : Nat → Int64
  | 0 => 0
  | a + 1 => vsm f ly a + (f (10 * ly + a)).toInt64

set_option maxRecDepth 100000 in
set_option maxHeartbeats 4000000 in
theorem r_clashes_f1 (l : Launch) {Z : jZ} {D : jD} (hz : zM Z) {vn : Nat} (hvn : D 100 16 = nI vn) (hv3 : vn ≤ 3) {k : Int32} (hk : ¬ (0 ≤ k.toInt ∧ k.toInt < vn)) : ja_M l (mX8_clashes 0 0) [.ref (100), .int (k)] Z D (ja_jd (some (.int (nI 0))) Z (fun D2 => D2 = ja_up D 100 0 (nI 1))) ja_x0 := by
  refine ja_Mof (lv := [some (.ref (100)), some (.int (k)), none]) (by decide +kernel) rfl rfl (Nat.le_of_ble_eq_true rfl) rfl ?_
  refine ja_aload_n (i := 0) dX8_clashes_0 rfl rfl ?_
  refine ja_iconst (v := nI 0) dX8_clashes_1 (by decide +kernel) ?_
  refine ja_putI fl_X8_85 (zM_s hz) rfl rfl rfl dX8_clashes_2 ?_
  refine ja_aload_n (i := 0) dX8_clashes_5 rfl rfl ?_
  refine ja_iload_n (i := 1) dX8_clashes_6 rfl rfl ?_
  refine ja_cVr (st := []) (s_isVersionF (D := (ja_up D 100 0 (nI (0)))) l hz (hvn) (by omega) hk) rfl rfl (ce_X8_isVersion 0 0) im_X8_isVersion se_X8_isVersion lk_X8_154 k_X8 (zM_s hz) ⟨(Nat.le_of_ble_eq_true rfl), (Nat.le_of_ble_eq_true rfl)⟩ dX8_clashes_7 rfl rfl (Nat.le_of_ble_eq_true rfl) (Nat.zero_le _) (Nat.zero_le _) ?_
  refine ja_ifB_ne (tgt := 19) dX8_clashes_10 (by decide) (fun c10 => absurd c10 (by decide)) (fun c10 => ?_)
  refine ja_aload_n (i := 0) dX8_clashes_13 rfl rfl ?_
  refine ja_iconst (v := nI 1) dX8_clashes_14 (by decide +kernel) ?_
  refine ja_cVd (st := []) (s_fails l hz (nI (1))) rfl rfl (ce_X8_fails 0 0) im_X8_fails se_X8_fails lk_X8_96 k_X8 (zM_s hz) ⟨(Nat.le_of_ble_eq_true rfl), (Nat.le_of_ble_eq_true rfl)⟩ dX8_clashes_15 rfl rfl (Nat.le_of_ble_eq_true rfl) (Nat.zero_le _) (Nat.zero_le _) ?_
  intro D15 hD15
  subst hD15
  refine ja_num (D2 := ja_up D 100 0 (nI (1))) up_2 ?_
  refine ja_iret rfl rfl dX8_clashes_18 (Nat.zero_le _) (Nat.zero_le _) ?_
  exact ⟨rfl, rfl, rfl⟩

set_option maxRecDepth 100000 in
set_option maxHeartbeats 4000000 in
theorem r_clashes_ok (l : Launch) {Z : jZ} {D : jD} (hz : zM Z) {vn : Nat} (hvn : D 100 16 = nI vn) (hv3 : vn ≤ 3) {v : Nat} (hv : v < vn) {ly : Nat} (hly : D 118 v = nI ly) (h1 : ly < 3) : ja_M l (mX8_clashes 0 0) [.ref (100), .int (nI (v))] Z D (ja_jd (some (.int (nI (pcs ((clD (ja_up D 100 0 (nI 0)) v ly) 123) 256).2))) Z (fun D2 => D2 = pcU (clD (ja_up D 100 0 (nI 0)) v ly) (pcs ((clD (ja_up D 100 0 (nI 0)) v ly) 123) 256).1)) ja_x0 := by
  refine ja_Mof (lv := [some (.ref (100)), some (.int (nI (v))), none]) (by decide +kernel) rfl rfl (Nat.le_of_ble_eq_true rfl) rfl ?_
  refine ja_aload_n (i := 0) dX8_clashes_0 rfl rfl ?_
  refine ja_iconst (v := nI 0) dX8_clashes_1 (by decide +kernel) ?_
  refine ja_putI fl_X8_85 (zM_s hz) rfl rfl rfl dX8_clashes_2 ?_
  refine ja_aload_n (i := 0) dX8_clashes_5 rfl rfl ?_
  refine ja_iload_n (i := 1) dX8_clashes_6 rfl rfl ?_
  refine ja_cVr (st := []) (s_isVersionT (D := (ja_up D 100 0 (nI (0)))) l hz (hvn) (by omega) (by omega)) rfl rfl (ce_X8_isVersion 0 0) im_X8_isVersion se_X8_isVersion lk_X8_154 k_X8 (zM_s hz) ⟨(Nat.le_of_ble_eq_true rfl), (Nat.le_of_ble_eq_true rfl)⟩ dX8_clashes_7 rfl rfl (Nat.le_of_ble_eq_true rfl) (Nat.zero_le _) (Nat.zero_le _) ?_
  refine ja_ifB_ne (tgt := 19) dX8_clashes_10 (by decide) (fun c10 => ?_) (fun c10 => absurd c10 (by decide))
  refine ja_iconst (v := nI 0) dX8_clashes_19 (by decide +kernel) ?_
  refine ja_istore_n (i := 2) dX8_clashes_20 rfl rfl (Nat.le_of_ble_eq_true rfl) ?_
  have lp21 : ∀ (f21 : Nat) (q : Nat) (E : jD), (256 < q + f21) → (q ≤ 256) → (E = fnU (ja_up D 100 0 (nI 0)) 123 (clV (ja_up D 100 0 (nI 0)) v ly) q) → ja_A l (mX8_clashes 0 0) ja_sn (ja_Qf (mX8_clashes 0 0) (ja_jd (some (.int (nI (pcs ((clD (ja_up D 100 0 (nI 0)) v ly) 123) 256).2))) Z (fun D2 => D2 = pcU (clD (ja_up D 100 0 (nI 0)) v ly) (pcs ((clD (ja_up D 100 0 (nI 0)) v ly) 123) 256).1)) ja_x0) 21 [some (.ref (100)), some (.int (nI (v))), some (.int (nI (q)))] [] Z E 0 0 := by
    intro f21
    induction f21 with
    | zero => intro q E hk hq hE; exfalso; omega
    | succ f21 ih21 =>
      intro q E hk hq hE
      have hlyE : E 118 v = nI ly := by rw [hE, fnU_o (by decide)]; exact hly
      have hcE : cfl E v ly q = cfl (ja_up D 100 0 (nI 0)) v ly q := by rw [cfl, cfl, hE]; simp only [fnU_o (show ¬ 119 = 123 by decide), fnU_o (show ¬ 120 = 123 by decide), fnU_o (show ¬ 121 = 123 by decide), fnU_o (show ¬ 105 = 123 by decide)]
      refine ja_iload_n (i := 2) dX8_clashes_21 rfl rfl ?_
      refine ja_sipush (v := nI 256) dX8_clashes_22 (by decide +kernel) ?_
      refine ja_icmpN_ge (tgt := 54) dX8_clashes_25 (by decide) (by omega) (by omega) (fun c25 => ?_) (fun c25 => ?_)
      ·
        refine ja_num (D2 := (clD (ja_up D 100 0 (nI 0)) v ly)) (by rw [hE, show q = 256 by omega] <;> rfl) ?_
        refine ja_aload_n (i := 0) dX8_clashes_54 rfl rfl ?_
        refine ja_cVd (st := []) (s_parts (D := (clD (ja_up D 100 0 (nI 0)) v ly)) l hz) rfl rfl (ce_X8_parts 0 0) im_X8_parts se_X8_parts lk_X8_160 k_X8 (zM_s hz) ⟨(Nat.le_of_ble_eq_true rfl), (Nat.le_of_ble_eq_true rfl)⟩ dX8_clashes_55 rfl rfl (Nat.le_of_ble_eq_true rfl) (Nat.zero_le _) (Nat.zero_le _) ?_
        intro D55 hD55
        subst hD55
        refine ja_iret rfl rfl dX8_clashes_58 (Nat.zero_le _) (Nat.zero_le _) ?_
        exact ⟨rfl, rfl, rfl⟩
      ·
        refine ja_aload_n (i := 0) dX8_clashes_28 rfl rfl ?_
        refine ja_getR fl_X8_67 (zM_s hz) rfl (zM_p22 hz) dX8_clashes_29 ?_
        refine ja_iload_n (i := 2) dX8_clashes_32 rfl rfl ?_
        refine ja_aload_n (i := 0) dX8_clashes_33 rfl rfl ?_
        refine ja_iload_n (i := 1) dX8_clashes_34 rfl rfl ?_
        refine ja_iload_n (i := 2) dX8_clashes_35 rfl rfl ?_
        refine ja_cVr (st := [.int (nI (q)), .ref (123)]) (s_isConflict (D := E) l hz (v := v) (ly := ly) (q := q) (by omega) hlyE h1 (by omega)) rfl rfl (ce_X8_isConflict 0 0) im_X8_isConflict se_X8_isConflict lk_X8_157 k_X8 (zM_s hz) ⟨(Nat.le_of_ble_eq_true rfl), (Nat.le_of_ble_eq_true rfl)⟩ dX8_clashes_36 rfl rfl (Nat.le_of_ble_eq_true rfl) (Nat.zero_le _) (Nat.zero_le _) ?_
        refine ja_ifB_eq (tgt := 46) dX8_clashes_39 (by decide) (fun c39 => ?_) (fun c39 => ?_)
        ·
          refine ja_iconst (v := (-1)) dX8_clashes_46 (by decide +kernel) ?_
          refine ja_iast (zM_a22 hz) rfl (by omega) (by decide) dX8_clashes_47 ?_
          refine ja_iincN dX8_clashes_48 rfl rfl (Nat.le_of_ble_eq_true rfl) ?_
          refine ja_goto (tgt := 21) dX8_clashes_51 (by decide) ?_
          exact ih21 (q + 1) _ (by omega) (by omega) (by rw [hE]; exact fnU_s (by rw [clV, ← hcE, c39]; rfl))
        ·
          refine ja_iconst (v := nI 1) dX8_clashes_42 (by decide +kernel) ?_
          refine ja_goto (tgt := 47) dX8_clashes_43 (by decide) ?_
          refine ja_iast (zM_a22 hz) rfl (by omega) (by decide) dX8_clashes_47 ?_
          refine ja_iincN dX8_clashes_48 rfl rfl (Nat.le_of_ble_eq_true rfl) ?_
          refine ja_goto (tgt := 21) dX8_clashes_51 (by decide) ?_
          exact ih21 (q + 1) _ (by omega) (by omega) (by rw [hE]; exact fnU_s (by rw [clV, ← hcE, c39]; rfl))
  exact lp21 257 0 (ja_up D 100 0 (nI (0))) (by omega) (by omega) fnU_0

set_option maxRecDepth 100000 in
set_option maxHeartbeats 4000000 in
theorem s_overlay (l : Launch) {Z : jZ} {D : jD} (hz : zM Z) {l1 l2 : Nat} (h1 : l1 < 3) (h2 : l2 < 3) : ja_M l (mX8_overlay 0 0) [.ref (100), .int (nI (l1)), .int (nI (l2))] Z D (ja_jd (some (.int (nI (ovP D l1 l2).2))) Z (fun D2 => D2 = ovR D l1 l2)) ja_x0 := by
  refine ja_Mof (lv := [some (.ref (100)), some (.int (nI (l1))), some (.int (nI (l2))), none, none]) (by decide +kernel) rfl rfl (Nat.le_of_ble_eq_true rfl) rfl ?_
  refine ja_iconst (v := nI 0) dX8_overlay_0 (by decide +kernel) ?_
  refine ja_istore_n (i := 3) dX8_overlay_1 rfl rfl (Nat.le_of_ble_eq_true rfl) ?_
  have lp2 : ∀ (f2 : Nat) (q : Nat) (E : jD), (256 < q + f2) → (q ≤ 256) → (E = fnU D 123 (rwV D l1 l2) q) → ja_A l (mX8_overlay 0 0) ja_sn (ja_Qf (mX8_overlay 0 0) (ja_jd (some (.int (nI (ovP D l1 l2).2))) Z (fun D2 => D2 = ovR D l1 l2)) ja_x0) 2 [some (.ref (100)), some (.int (nI (l1))), some (.int (nI (l2))), some (.int (nI (q))), none] [] Z E 0 0 := by
    intro f2
    induction f2 with
    | zero => intro q E hk hq hE; exfalso; omega
    | succ f2 ih2 =>
      intro q E hk hq hE
      refine ja_iload_n (i := 3) dX8_overlay_2 rfl rfl ?_
      refine ja_sipush (v := nI 256) dX8_overlay_3 (by decide +kernel) ?_
      refine ja_icmpN_ge (tgt := 77) dX8_overlay_6 (by decide) (by omega) (by omega) (fun c6 => ?_) (fun c6 => ?_)
      ·
        refine ja_num (D2 := (ovD D l1 l2)) (by rw [hE, show q = 256 by omega] <;> rfl) ?_
        refine ja_aload_n (i := 0) dX8_overlay_77 rfl rfl ?_
        refine ja_cVd (st := []) (s_parts (D := (ovD D l1 l2)) l hz) rfl rfl (ce_X8_parts 0 0) im_X8_parts se_X8_parts lk_X8_160 k_X8 (zM_s hz) ⟨(Nat.le_of_ble_eq_true rfl), (Nat.le_of_ble_eq_true rfl)⟩ dX8_overlay_78 rfl rfl (Nat.le_of_ble_eq_true rfl) (Nat.zero_le _) (Nat.zero_le _) ?_
        intro D78 hD78
        subst hD78
        refine ja_iret rfl rfl dX8_overlay_81 (Nat.zero_le _) (Nat.zero_le _) ?_
        exact ⟨rfl, rfl, rfl⟩
      ·
        refine ja_aload_n (i := 0) dX8_overlay_9 rfl rfl ?_
        refine ja_iload_n (i := 1) dX8_overlay_10 rfl rfl ?_
        refine ja_iload_n (i := 3) dX8_overlay_11 rfl rfl ?_
        refine ja_cVr (st := []) (s_at (D := E) l hz (ly := l1) (q := q) (by omega) (by omega)) rfl rfl (ce_X8_at 0 0) im_X8_at se_X8_at lk_X8_92 k_X8 (zM_s hz) ⟨(Nat.le_of_ble_eq_true rfl), (Nat.le_of_ble_eq_true rfl)⟩ dX8_overlay_12 rfl rfl (Nat.le_of_ble_eq_true rfl) (Nat.zero_le _) (Nat.zero_le _) ?_
        refine ja_top (y := D 105 (256 * l1 + q)) (by rw [hE, fnU_o (by decide)]) ?_
        refine ja_iconst (v := (-1)) dX8_overlay_15 (by decide +kernel) ?_
        refine ja_icmp_ne (tgt := 33) dX8_overlay_16 (by decide) (fun c16 => ?_) (fun c16 => ?_)
        ·
          refine ja_iconst (v := nI 0) dX8_overlay_33 (by decide +kernel) ?_
          refine ja_istore (i := 4) dX8_overlay_34 rfl (Nat.le_of_ble_eq_true rfl) ?_
          refine ja_aload_n (i := 0) dX8_overlay_36 rfl rfl ?_
          refine ja_getR fl_X8_67 (zM_s hz) rfl (zM_p22 hz) dX8_overlay_37 ?_
          refine ja_iload_n (i := 3) dX8_overlay_40 rfl rfl ?_
          refine ja_iload (i := 4) dX8_overlay_41 rfl ?_
          refine ja_ifN_eq (tgt := 50) dX8_overlay_43 (by decide) (by omega) (fun c43 => ?_) (fun c43 => absurd c43 (by decide))
          refine ja_bipush (v := nI 11) dX8_overlay_50 (by decide +kernel) ?_
          refine ja_aload_n (i := 0) dX8_overlay_52 rfl rfl ?_
          refine ja_iload_n (i := 1) dX8_overlay_53 rfl rfl ?_
          refine ja_iload_n (i := 3) dX8_overlay_54 rfl rfl ?_
          refine ja_cVr (st := [.int (nI (11)), .int (nI (q)), .ref (123)]) (s_at (D := E) l hz (ly := l1) (q := q) (by omega) (by omega)) rfl rfl (ce_X8_at 0 0) im_X8_at se_X8_at lk_X8_92 k_X8 (zM_s hz) ⟨(Nat.le_of_ble_eq_true rfl), (Nat.le_of_ble_eq_true rfl)⟩ dX8_overlay_55 rfl rfl (Nat.le_of_ble_eq_true rfl) (Nat.zero_le _) (Nat.zero_le _) ?_
          refine ja_top (y := D 105 (256 * l1 + q)) (by rw [hE, fnU_o (by decide)]) ?_
          refine ja_iconst (v := nI 1) dX8_overlay_58 (by decide +kernel) ?_
          refine ja_iadd dX8_overlay_59 ?_
          refine ja_imul dX8_overlay_60 ?_
          refine ja_aload_n (i := 0) dX8_overlay_61 rfl rfl ?_
          refine ja_iload_n (i := 2) dX8_overlay_62 rfl rfl ?_
          refine ja_iload_n (i := 3) dX8_overlay_63 rfl rfl ?_
          refine ja_cVr (st := [.int ((nI (11) * (D 105 (256 * l1 + q) + nI (1)))), .int (nI (q)), .ref (123)]) (s_at (D := E) l hz (ly := l2) (q := q) (by omega) (by omega)) rfl rfl (ce_X8_at 0 0) im_X8_at se_X8_at lk_X8_92 k_X8 (zM_s hz) ⟨(Nat.le_of_ble_eq_true rfl), (Nat.le_of_ble_eq_true rfl)⟩ dX8_overlay_64 rfl rfl (Nat.le_of_ble_eq_true rfl) (Nat.zero_le _) (Nat.zero_le _) ?_
          refine ja_top (y := D 105 (256 * l2 + q)) (by rw [hE, fnU_o (by decide)]) ?_
          refine ja_iadd dX8_overlay_67 ?_
          refine ja_iconst (v := nI 1) dX8_overlay_68 (by decide +kernel) ?_
          refine ja_iadd dX8_overlay_69 ?_
          refine ja_iast (zM_a22 hz) rfl (by omega) (by decide) dX8_overlay_70 ?_
          refine ja_iincN dX8_overlay_71 rfl rfl (Nat.le_of_ble_eq_true rfl) ?_
          refine ja_goto (tgt := 2) dX8_overlay_74 (by decide) ?_
          refine ja_forget (i := 4) ?_
          exact ih2 (q + 1) _ (by omega) (by omega) (by rw [hE]; exact fnU_s (by rw [rwV]; first | exact (if_pos ⟨c16, c26⟩).symm | exact (if_neg (fun h => c16 h.1)).symm | exact (if_neg (fun h => c26 h.2)).symm))
        ·
          refine ja_aload_n (i := 0) dX8_overlay_19 rfl rfl ?_
          refine ja_iload_n (i := 2) dX8_overlay_20 rfl rfl ?_
          refine ja_iload_n (i := 3) dX8_overlay_21 rfl rfl ?_
          refine ja_cVr (st := []) (s_at (D := E) l hz (ly := l2) (q := q) (by omega) (by omega)) rfl rfl (ce_X8_at 0 0) im_X8_at se_X8_at lk_X8_92 k_X8 (zM_s hz) ⟨(Nat.le_of_ble_eq_true rfl), (Nat.le_of_ble_eq_true rfl)⟩ dX8_overlay_22 rfl rfl (Nat.le_of_ble_eq_true rfl) (Nat.zero_le _) (Nat.zero_le _) ?_
          refine ja_top (y := D 105 (256 * l2 + q)) (by rw [hE, fnU_o (by decide)]) ?_
          refine ja_iconst (v := (-1)) dX8_overlay_25 (by decide +kernel) ?_
          refine ja_icmp_ne (tgt := 33) dX8_overlay_26 (by decide) (fun c26 => ?_) (fun c26 => ?_)
          ·
            refine ja_iconst (v := nI 0) dX8_overlay_33 (by decide +kernel) ?_
            refine ja_istore (i := 4) dX8_overlay_34 rfl (Nat.le_of_ble_eq_true rfl) ?_
            refine ja_aload_n (i := 0) dX8_overlay_36 rfl rfl ?_
            refine ja_getR fl_X8_67 (zM_s hz) rfl (zM_p22 hz) dX8_overlay_37 ?_
            refine ja_iload_n (i := 3) dX8_overlay_40 rfl rfl ?_
            refine ja_iload (i := 4) dX8_overlay_41 rfl ?_
            refine ja_ifN_eq (tgt := 50) dX8_overlay_43 (by decide) (by omega) (fun c43 => ?_) (fun c43 => absurd c43 (by decide))
            refine ja_bipush (v := nI 11) dX8_overlay_50 (by decide +kernel) ?_
            refine ja_aload_n (i := 0) dX8_overlay_52 rfl rfl ?_
            refine ja_iload_n (i := 1) dX8_overlay_53 rfl rfl ?_
            refine ja_iload_n (i := 3) dX8_overlay_54 rfl rfl ?_
            refine ja_cVr (st := [.int (nI (11)), .int (nI (q)), .ref (123)]) (s_at (D := E) l hz (ly := l1) (q := q) (by omega) (by omega)) rfl rfl (ce_X8_at 0 0) im_X8_at se_X8_at lk_X8_92 k_X8 (zM_s hz) ⟨(Nat.le_of_ble_eq_true rfl), (Nat.le_of_ble_eq_true rfl)⟩ dX8_overlay_55 rfl rfl (Nat.le_of_ble_eq_true rfl) (Nat.zero_le _) (Nat.zero_le _) ?_
            refine ja_top (y := D 105 (256 * l1 + q)) (by rw [hE, fnU_o (by decide)]) ?_
            refine ja_iconst (v := nI 1) dX8_overlay_58 (by decide +kernel) ?_
            refine ja_iadd dX8_overlay_59 ?_
            refine ja_imul dX8_overlay_60 ?_
            refine ja_aload_n (i := 0) dX8_overlay_61 rfl rfl ?_
            refine ja_iload_n (i := 2) dX8_overlay_62 rfl rfl ?_
            refine ja_iload_n (i := 3) dX8_overlay_63 rfl rfl ?_
            refine ja_cVr (st := [.int ((nI (11) * (D 105 (256 * l1 + q) + nI (1)))), .int (nI (q)), .ref (123)]) (s_at (D := E) l hz (ly := l2) (q := q) (by omega) (by omega)) rfl rfl (ce_X8_at 0 0) im_X8_at se_X8_at lk_X8_92 k_X8 (zM_s hz) ⟨(Nat.le_of_ble_eq_true rfl), (Nat.le_of_ble_eq_true rfl)⟩ dX8_overlay_64 rfl rfl (Nat.le_of_ble_eq_true rfl) (Nat.zero_le _) (Nat.zero_le _) ?_
            refine ja_top (y := D 105 (256 * l2 + q)) (by rw [hE, fnU_o (by decide)]) ?_
            refine ja_iadd dX8_overlay_67 ?_
            refine ja_iconst (v := nI 1) dX8_overlay_68 (by decide +kernel) ?_
            refine ja_iadd dX8_overlay_69 ?_
            refine ja_iast (zM_a22 hz) rfl (by omega) (by decide) dX8_overlay_70 ?_
            refine ja_iincN dX8_overlay_71 rfl rfl (Nat.le_of_ble_eq_true rfl) ?_
            refine ja_goto (tgt := 2) dX8_overlay_74 (by decide) ?_
            refine ja_forget (i := 4) ?_
            exact ih2 (q + 1) _ (by omega) (by omega) (by rw [hE]; exact fnU_s (by rw [rwV]; first | exact (if_pos ⟨c16, c26⟩).symm | exact (if_neg (fun h => c16 h.1)).symm | exact (if_neg (fun h => c26 h.2)).symm))
          ·
            refine ja_iconst (v := nI 1) dX8_overlay_29 (by decide +kernel) ?_
            refine ja_goto (tgt := 34) dX8_overlay_30 (by decide) ?_
            refine ja_istore (i := 4) dX8_overlay_34 rfl (Nat.le_of_ble_eq_true rfl) ?_
            refine ja_aload_n (i := 0) dX8_overlay_36 rfl rfl ?_
            refine ja_getR fl_X8_67 (zM_s hz) rfl (zM_p22 hz) dX8_overlay_37 ?_
            refine ja_iload_n (i := 3) dX8_overlay_40 rfl rfl ?_
            refine ja_iload (i := 4) dX8_overlay_41 rfl ?_
            refine ja_ifN_eq (tgt := 50) dX8_overlay_43 (by decide) (by omega) (fun c43 => absurd c43 (by decide)) (fun c43 => ?_)
            refine ja_iconst (v := (-1)) dX8_overlay_46 (by decide +kernel) ?_
            refine ja_goto (tgt := 70) dX8_overlay_47 (by decide) ?_
            refine ja_iast (zM_a22 hz) rfl (by omega) (by decide) dX8_overlay_70 ?_
            refine ja_iincN dX8_overlay_71 rfl rfl (Nat.le_of_ble_eq_true rfl) ?_
            refine ja_goto (tgt := 2) dX8_overlay_74 (by decide) ?_
            refine ja_forget (i := 4) ?_
            exact ih2 (q + 1) _ (by omega) (by omega) (by rw [hE]; exact fnU_s (by rw [rwV]; first | exact (if_pos ⟨c16, c26⟩).symm | exact (if_neg (fun h => c16 h.1)).symm | exact (if_neg (fun h => c26 h.2)).symm))
  exact lp2 257 0 D (by omega) (by omega) fnU_0

set_option maxRecDepth 100000 in
set_option maxHeartbeats 4000000 in
theorem r_pieces_f1 (l : Launch) {Z : jZ} {D : jD} (hz : zM Z) {x y : Int32} (hal : ¬ areL x y)  : ja_M l (mX8_pieces 0 0) [.ref (100), .int (x), .int (y)] Z D (ja_jd (some (.int (nI 0))) Z (fun D2 => D2 = ja_up D 100 0 (nI 1))) ja_x0 := by
  refine ja_Mof (lv := [some (.ref (100)), some (.int (x)), some (.int (y))]) (by decide +kernel) rfl rfl (Nat.le_of_ble_eq_true rfl) rfl ?_
  refine ja_aload_n (i := 0) dX8_pieces_0 rfl rfl ?_
  refine ja_iconst (v := nI 0) dX8_pieces_1 (by decide +kernel) ?_
  refine ja_putI fl_X8_85 (zM_s hz) rfl rfl rfl dX8_pieces_2 ?_
  refine ja_iload_n (i := 1) dX8_pieces_5 rfl rfl ?_
  refine ja_iload_n (i := 2) dX8_pieces_6 rfl rfl ?_
  refine ja_cSr (st := []) (s_areLayersF l hal) rfl rfl (ce_X8_areLayers 0 0) st_X8_areLayers lk_X8_164 ⟨(Nat.le_of_ble_eq_true rfl), (Nat.le_of_ble_eq_true rfl)⟩ dX8_pieces_7 rfl rfl (Nat.le_of_ble_eq_true rfl) (Nat.zero_le _) (Nat.zero_le _) ?_
  refine ja_ifB_eq (tgt := 22) dX8_pieces_10 (by decide) (fun c10 => ?_) (fun c10 => absurd c10 (by decide))
  refine ja_aload_n (i := 0) dX8_pieces_22 rfl rfl ?_
  refine ja_iconst (v := nI 1) dX8_pieces_23 (by decide +kernel) ?_
  refine ja_cVd (st := []) (s_fails l hz (nI (1))) rfl rfl (ce_X8_fails 0 0) im_X8_fails se_X8_fails lk_X8_96 k_X8 (zM_s hz) ⟨(Nat.le_of_ble_eq_true rfl), (Nat.le_of_ble_eq_true rfl)⟩ dX8_pieces_24 rfl rfl (Nat.le_of_ble_eq_true rfl) (Nat.zero_le _) (Nat.zero_le _) ?_
  intro D24 hD24
  subst hD24
  refine ja_num (D2 := ja_up D 100 0 (nI (1))) up_2 ?_
  refine ja_iret rfl rfl dX8_pieces_27 (Nat.zero_le _) (Nat.zero_le _) ?_
  exact ⟨rfl, rfl, rfl⟩

set_option maxRecDepth 100000 in
set_option maxHeartbeats 4000000 in
theorem r_pieces_ok (l : Launch) {Z : jZ} {D : jD} (hz : zM Z) {l1 l2 : Nat} (h1 : l1 < 3) (h2 : l2 < 3) (h3 : l1 ≠ l2)  : ja_M l (mX8_pieces 0 0) [.ref (100), .int (nI (l1)), .int (nI (l2))] Z D (ja_jd (some (.int (nI (ovP (ja_up D 100 0 (nI 0)) l1 l2).2))) Z (fun D2 => D2 = (ovR (ja_up D 100 0 (nI 0)) l1 l2))) ja_x0 := by
  refine ja_Mof (lv := [some (.ref (100)), some (.int (nI (l1))), some (.int (nI (l2)))]) (by decide +kernel) rfl rfl (Nat.le_of_ble_eq_true rfl) rfl ?_
  refine ja_aload_n (i := 0) dX8_pieces_0 rfl rfl ?_
  refine ja_iconst (v := nI 0) dX8_pieces_1 (by decide +kernel) ?_
  refine ja_putI fl_X8_85 (zM_s hz) rfl rfl rfl dX8_pieces_2 ?_
  refine ja_iload_n (i := 1) dX8_pieces_5 rfl rfl ?_
  refine ja_iload_n (i := 2) dX8_pieces_6 rfl rfl ?_
  refine ja_cSr (st := []) (s_areLayersT l (by omega) (by omega) (by omega)) rfl rfl (ce_X8_areLayers 0 0) st_X8_areLayers lk_X8_164 ⟨(Nat.le_of_ble_eq_true rfl), (Nat.le_of_ble_eq_true rfl)⟩ dX8_pieces_7 rfl rfl (Nat.le_of_ble_eq_true rfl) (Nat.zero_le _) (Nat.zero_le _) ?_
  refine ja_ifB_eq (tgt := 22) dX8_pieces_10 (by decide) (fun c10 => absurd c10 (by decide)) (fun c10 => ?_)
  refine ja_aload_n (i := 0) dX8_pieces_13 rfl rfl ?_
  refine ja_iload_n (i := 1) dX8_pieces_14 rfl rfl ?_
  refine ja_iload_n (i := 2) dX8_pieces_15 rfl rfl ?_
  refine ja_cVd (st := []) (s_overlay (D := (ja_up D 100 0 (nI (0)))) l hz (l1 := l1) (l2 := l2) (by omega) (by omega)) rfl rfl (ce_X8_overlay 0 0) im_X8_overlay se_X8_overlay lk_X8_167 k_X8 (zM_s hz) ⟨(Nat.le_of_ble_eq_true rfl), (Nat.le_of_ble_eq_true rfl)⟩ dX8_pieces_16 rfl rfl (Nat.le_of_ble_eq_true rfl) (Nat.zero_le _) (Nat.zero_le _) ?_
  intro D16 hD16
  subst hD16
  have hov := ovP_le (ja_up D 100 0 (nI (0))) l1 l2
  refine ja_goto (tgt := 27) dX8_pieces_19 (by decide) ?_
  refine ja_iret rfl rfl dX8_pieces_27 (Nat.zero_le _) (Nat.zero_le _) ?_
  exact ⟨rfl, rfl, rfl⟩

set_option maxRecDepth 100000 in
set_option maxHeartbeats 4000000 in
theorem r_pieceSize_f1 (l : Launch) {Z : jZ} {D : jD} (hz : zM Z) {x y : Int32} (hal : ¬ areL x y) (k : Int32) : ja_M l (mX8_pieceSize 0 0) [.ref (100), .int (x), .int (y), .int (k)] Z D (ja_jd (some (.int (nI 0))) Z (fun D2 => D2 = ja_up D 100 0 (nI 1))) ja_x0 := by
  refine ja_Mof (lv := [some (.ref (100)), some (.int (x)), some (.int (y)), some (.int (k)), none, none]) (by decide +kernel) rfl rfl (Nat.le_of_ble_eq_true rfl) rfl ?_
  refine ja_aload_n (i := 0) dX8_pieceSize_0 rfl rfl ?_
  refine ja_iconst (v := nI 0) dX8_pieceSize_1 (by decide +kernel) ?_
  refine ja_putI fl_X8_85 (zM_s hz) rfl rfl rfl dX8_pieceSize_2 ?_
  refine ja_iload_n (i := 1) dX8_pieceSize_5 rfl rfl ?_
  refine ja_iload_n (i := 2) dX8_pieceSize_6 rfl rfl ?_
  refine ja_cSr (st := []) (s_areLayersF l hal) rfl rfl (ce_X8_areLayers 0 0) st_X8_areLayers lk_X8_164 ⟨(Nat.le_of_ble_eq_true rfl), (Nat.le_of_ble_eq_true rfl)⟩ dX8_pieceSize_7 rfl rfl (Nat.le_of_ble_eq_true rfl) (Nat.zero_le _) (Nat.zero_le _) ?_
  refine ja_ifB_ne (tgt := 19) dX8_pieceSize_10 (by decide) (fun c10 => absurd c10 (by decide)) (fun c10 => ?_)
  refine ja_aload_n (i := 0) dX8_pieceSize_13 rfl rfl ?_
  refine ja_iconst (v := nI 1) dX8_pieceSize_14 (by decide +kernel) ?_
  refine ja_cVd (st := []) (s_fails l hz (nI (1))) rfl rfl (ce_X8_fails 0 0) im_X8_fails se_X8_fails lk_X8_96 k_X8 (zM_s hz) ⟨(Nat.le_of_ble_eq_true rfl), (Nat.le_of_ble_eq_true rfl)⟩ dX8_pieceSize_15 rfl rfl (Nat.le_of_ble_eq_true rfl) (Nat.zero_le _) (Nat.zero_le _) ?_
  intro D15 hD15
  subst hD15
  refine ja_num (D2 := ja_up D 100 0 (nI (1))) up_2 ?_
  refine ja_iret rfl rfl dX8_pieceSize_18 (Nat.zero_le _) (Nat.zero_le _) ?_
  exact ⟨rfl, rfl, rfl⟩

set_option maxRecDepth 100000 in
set_option maxHeartbeats 4000000 in
theorem r_pieceSize_f2 (l : Launch) {Z : jZ} {D : jD} (hz : zM Z) {l1 l2 : Nat} (h1 : l1 < 3) (h2 : l2 < 3) (h3 : l1 ≠ l2) {k : Int32} (hk : ¬ (0 ≤ k.toInt ∧ k.toInt < ((ovP (ja_up D 100 0 (nI 0)) l1 l2).2 : Int)))  : ja_M l (mX8_pieceSize 0 0) [.ref (100), .int (nI (l1)), .int (nI (l2)), .int (k)] Z D (ja_jd (some (.int (nI 0))) Z (fun D2 => D2 = ja_up (ovR (ja_up D 100 0 (nI 0)) l1 l2) 100 0 (nI 2))) ja_x0 := by
  refine ja_Mof (lv := [some (.ref (100)), some (.int (nI (l1))), some (.int (nI (l2))), some (.int (k)), none, none]) (by decide +kernel) rfl rfl (Nat.le_of_ble_eq_true rfl) rfl ?_
  refine ja_aload_n (i := 0) dX8_pieceSize_0 rfl rfl ?_
  refine ja_iconst (v := nI 0) dX8_pieceSize_1 (by decide +kernel) ?_
  refine ja_putI fl_X8_85 (zM_s hz) rfl rfl rfl dX8_pieceSize_2 ?_
  refine ja_iload_n (i := 1) dX8_pieceSize_5 rfl rfl ?_
  refine ja_iload_n (i := 2) dX8_pieceSize_6 rfl rfl ?_
  refine ja_cSr (st := []) (s_areLayersT l (by omega) (by omega) (by omega)) rfl rfl (ce_X8_areLayers 0 0) st_X8_areLayers lk_X8_164 ⟨(Nat.le_of_ble_eq_true rfl), (Nat.le_of_ble_eq_true rfl)⟩ dX8_pieceSize_7 rfl rfl (Nat.le_of_ble_eq_true rfl) (Nat.zero_le _) (Nat.zero_le _) ?_
  refine ja_ifB_ne (tgt := 19) dX8_pieceSize_10 (by decide) (fun c10 => ?_) (fun c10 => absurd c10 (by decide))
  refine ja_iload_n (i := 3) dX8_pieceSize_19 rfl rfl ?_
  refine ja_iconst (v := nI 0) dX8_pieceSize_20 (by decide +kernel) ?_
  refine ja_aload_n (i := 0) dX8_pieceSize_21 rfl rfl ?_
  refine ja_iload_n (i := 1) dX8_pieceSize_22 rfl rfl ?_
  refine ja_iload_n (i := 2) dX8_pieceSize_23 rfl rfl ?_
  refine ja_cVd (st := [.int (nI (0)), .int (k)]) (s_overlay (D := (ja_up D 100 0 (nI (0)))) l hz (l1 := l1) (l2 := l2) (by omega) (by omega)) rfl rfl (ce_X8_overlay 0 0) im_X8_overlay se_X8_overlay lk_X8_167 k_X8 (zM_s hz) ⟨(Nat.le_of_ble_eq_true rfl), (Nat.le_of_ble_eq_true rfl)⟩ dX8_pieceSize_24 rfl rfl (Nat.le_of_ble_eq_true rfl) (Nat.zero_le _) (Nat.zero_le _) ?_
  intro D24 hD24
  subst hD24
  have hov := ovP_le (ja_up D 100 0 (nI (0))) l1 l2
  refine ja_top (y := nI (ovP (ja_up D 100 0 (nI 0)) l1 l2).2) rfl ?_
  refine ja_iconst (v := nI 1) dX8_pieceSize_27 (by decide +kernel) ?_
  refine ja_isub dX8_pieceSize_28 ?_
  refine ja_cSr (st := []) (s_inF l (k) (nI (0)) ((nI (ovP (ja_up D 100 0 (nI 0)) l1 l2).2 - nI (1))) (by rintro ⟨e1, e2⟩; rw [Int32.le_iff_toInt_le] at e1 e2; have e3 : (nI (ovP (ja_up D 100 0 (nI 0)) l1 l2).2 - nI 1).toInt = ((ovP (ja_up D 100 0 (nI 0)) l1 l2).2 : Int) - 1 := pk_sub_toInt (by omega) (by omega); rw [e3] at e2; rw [nI_toInt (by omega)] at e1; omega)) rfl rfl (ce_X8_in 0 0) st_X8_in lk_X8_88 ⟨(Nat.le_of_ble_eq_true rfl), (Nat.le_of_ble_eq_true rfl)⟩ dX8_pieceSize_29 rfl rfl (Nat.le_of_ble_eq_true rfl) (Nat.zero_le _) (Nat.zero_le _) ?_
  refine ja_ifB_ne (tgt := 41) dX8_pieceSize_32 (by decide) (fun c32 => absurd c32 (by decide)) (fun c32 => ?_)
  refine ja_aload_n (i := 0) dX8_pieceSize_35 rfl rfl ?_
  refine ja_iconst (v := nI 2) dX8_pieceSize_36 (by decide +kernel) ?_
  refine ja_cVd (st := []) (s_fails l hz (nI (2))) rfl rfl (ce_X8_fails 0 0) im_X8_fails se_X8_fails lk_X8_96 k_X8 (zM_s hz) ⟨(Nat.le_of_ble_eq_true rfl), (Nat.le_of_ble_eq_true rfl)⟩ dX8_pieceSize_37 rfl rfl (Nat.le_of_ble_eq_true rfl) (Nat.zero_le _) (Nat.zero_le _) ?_
  intro D37 hD37
  subst hD37
  refine ja_iret rfl rfl dX8_pieceSize_40 (Nat.zero_le _) (Nat.zero_le _) ?_
  exact ⟨rfl, rfl, rfl⟩

set_option maxRecDepth 100000 in
set_option maxHeartbeats 4000000 in
theorem r_pieceSize_ok (l : Launch) {Z : jZ} {D : jD} (hz : zM Z) {l1 l2 : Nat} (h1 : l1 < 3) (h2 : l2 < 3) (h3 : l1 ≠ l2) {k : Nat} (hk : k < (ovP (ja_up D 100 0 (nI 0)) l1 l2).2)  : ja_M l (mX8_pieceSize 0 0) [.ref (100), .int (nI (l1)), .int (nI (l2)), .int (nI (k))] Z D (ja_jd (some (.int (nI (fb_ct (fun q => decide ((ovP (ja_up D 100 0 (nI 0)) l1 l2).1 q = nI k)) 256)))) Z (fun D2 => D2 = (ovR (ja_up D 100 0 (nI 0)) l1 l2))) ja_x0 := by
  refine ja_Mof (lv := [some (.ref (100)), some (.int (nI (l1))), some (.int (nI (l2))), some (.int (nI (k))), none, none]) (by decide +kernel) rfl rfl (Nat.le_of_ble_eq_true rfl) rfl ?_
  refine ja_aload_n (i := 0) dX8_pieceSize_0 rfl rfl ?_
  refine ja_iconst (v := nI 0) dX8_pieceSize_1 (by decide +kernel) ?_
  refine ja_putI fl_X8_85 (zM_s hz) rfl rfl rfl dX8_pieceSize_2 ?_
  refine ja_iload_n (i := 1) dX8_pieceSize_5 rfl rfl ?_
  refine ja_iload_n (i := 2) dX8_pieceSize_6 rfl rfl ?_
  refine ja_cSr (st := []) (s_areLayersT l (by omega) (by omega) (by omega)) rfl rfl (ce_X8_areLayers 0 0) st_X8_areLayers lk_X8_164 ⟨(Nat.le_of_ble_eq_true rfl), (Nat.le_of_ble_eq_true rfl)⟩ dX8_pieceSize_7 rfl rfl (Nat.le_of_ble_eq_true rfl) (Nat.zero_le _) (Nat.zero_le _) ?_
  refine ja_ifB_ne (tgt := 19) dX8_pieceSize_10 (by decide) (fun c10 => ?_) (fun c10 => absurd c10 (by decide))
  refine ja_iload_n (i := 3) dX8_pieceSize_19 rfl rfl ?_
  refine ja_iconst (v := nI 0) dX8_pieceSize_20 (by decide +kernel) ?_
  refine ja_aload_n (i := 0) dX8_pieceSize_21 rfl rfl ?_
  refine ja_iload_n (i := 1) dX8_pieceSize_22 rfl rfl ?_
  refine ja_iload_n (i := 2) dX8_pieceSize_23 rfl rfl ?_
  refine ja_cVd (st := [.int (nI (0)), .int (nI (k))]) (s_overlay (D := (ja_up D 100 0 (nI (0)))) l hz (l1 := l1) (l2 := l2) (by omega) (by omega)) rfl rfl (ce_X8_overlay 0 0) im_X8_overlay se_X8_overlay lk_X8_167 k_X8 (zM_s hz) ⟨(Nat.le_of_ble_eq_true rfl), (Nat.le_of_ble_eq_true rfl)⟩ dX8_pieceSize_24 rfl rfl (Nat.le_of_ble_eq_true rfl) (Nat.zero_le _) (Nat.zero_le _) ?_
  intro D24 hD24
  subst hD24
  have hov := ovP_le (ja_up D 100 0 (nI (0))) l1 l2
  refine ja_iconst (v := nI 1) dX8_pieceSize_27 (by decide +kernel) ?_
  refine ja_isubN dX8_pieceSize_28 (by omega) ?_
  refine ja_cSr (st := []) (s_inT l (k) 0 (((ovP (ja_up D 100 0 (nI (0))) l1 l2).2) - (1)) (by omega) (by omega) (by omega)) rfl rfl (ce_X8_in 0 0) st_X8_in lk_X8_88 ⟨(Nat.le_of_ble_eq_true rfl), (Nat.le_of_ble_eq_true rfl)⟩ dX8_pieceSize_29 rfl rfl (Nat.le_of_ble_eq_true rfl) (Nat.zero_le _) (Nat.zero_le _) ?_
  refine ja_ifB_ne (tgt := 41) dX8_pieceSize_32 (by decide) (fun c32 => ?_) (fun c32 => absurd c32 (by decide))
  refine ja_iconst (v := nI 0) dX8_pieceSize_41 (by decide +kernel) ?_
  refine ja_istore (i := 4) dX8_pieceSize_42 rfl (Nat.le_of_ble_eq_true rfl) ?_
  refine ja_iconst (v := nI 0) dX8_pieceSize_44 (by decide +kernel) ?_
  refine ja_istore (i := 5) dX8_pieceSize_45 rfl (Nat.le_of_ble_eq_true rfl) ?_
  have lp47 : ∀ (f47 : Nat) (q n : Nat), (256 < q + f47) → (q ≤ 256) → (n = fb_ct (fun q => decide ((ovP (ja_up D 100 0 (nI 0)) l1 l2).1 q = nI k)) q) → ja_A l (mX8_pieceSize 0 0) ja_sn (ja_Qf (mX8_pieceSize 0 0) (ja_jd (some (.int (nI (fb_ct (fun q => decide ((ovP (ja_up D 100 0 (nI 0)) l1 l2).1 q = nI k)) 256)))) Z (fun D2 => D2 = (ovR (ja_up D 100 0 (nI 0)) l1 l2))) ja_x0) 47 [some (.ref (100)), some (.int (nI (l1))), some (.int (nI (l2))), some (.int (nI (k))), some (.int (nI (n))), some (.int (nI (q)))] [] Z (ovR (ja_up D 100 0 (nI (0))) l1 l2) 0 0 := by
    intro f47
    induction f47 with
    | zero => intro q n hf hq hn; exfalso; omega
    | succ f47 ih47 =>
      intro q n hf hq hn
      refine ja_iload (i := 5) dX8_pieceSize_47 rfl ?_
      refine ja_sipush (v := nI 256) dX8_pieceSize_49 (by decide +kernel) ?_
      refine ja_icmpN_ge (tgt := 82) dX8_pieceSize_52 (by decide) (by omega) (by omega) (fun c52 => ?_) (fun c52 => ?_)
      ·
        refine ja_iload (i := 4) dX8_pieceSize_82 rfl ?_
        refine ja_iret rfl rfl dX8_pieceSize_84 (Nat.zero_le _) (Nat.zero_le _) ?_
        exact ⟨by rw [hn, show q = 256 by omega], rfl, rfl⟩
      ·
        refine ja_iload (i := 4) dX8_pieceSize_55 rfl ?_
        refine ja_aload_n (i := 0) dX8_pieceSize_57 rfl rfl ?_
        refine ja_getR fl_X8_64 (zM_s hz) rfl (zM_p21 hz) dX8_pieceSize_58 ?_
        refine ja_iload (i := 5) dX8_pieceSize_61 rfl ?_
        refine ja_iald (zM_a21 hz) rfl (by omega) (by decide) dX8_pieceSize_63 ?_
        refine ja_top (y := (ovP (ja_up D 100 0 (nI 0)) l1 l2).1 q) (ovR_p (by omega)) ?_
        refine ja_iload_n (i := 3) dX8_pieceSize_64 rfl rfl ?_
        refine ja_icmp_ne (tgt := 72) dX8_pieceSize_65 (by decide) (fun c65 => ?_) (fun c65 => ?_)
        ·
          refine ja_iconst (v := nI 0) dX8_pieceSize_72 (by decide +kernel) ?_
          refine ja_iaddN dX8_pieceSize_73 ?_
          refine ja_istore (i := 4) dX8_pieceSize_74 rfl (Nat.le_of_ble_eq_true rfl) ?_
          refine ja_iincN dX8_pieceSize_76 rfl rfl (Nat.le_of_ble_eq_true rfl) ?_
          refine ja_goto (tgt := 47) dX8_pieceSize_79 (by decide) ?_
          exact ih47 (q + 1) _ (by omega) (by omega) (by rw [hn, fb_ct_succ]; simp [c65])
        ·
          refine ja_iconst (v := nI 1) dX8_pieceSize_68 (by decide +kernel) ?_
          refine ja_goto (tgt := 73) dX8_pieceSize_69 (by decide) ?_
          refine ja_iaddN dX8_pieceSize_73 ?_
          refine ja_istore (i := 4) dX8_pieceSize_74 rfl (Nat.le_of_ble_eq_true rfl) ?_
          refine ja_iincN dX8_pieceSize_76 rfl rfl (Nat.le_of_ble_eq_true rfl) ?_
          refine ja_goto (tgt := 47) dX8_pieceSize_79 (by decide) ?_
          exact ih47 (q + 1) _ (by omega) (by omega) (by rw [hn, fb_ct_succ]; simp [c65])
  exact lp47 257 0 0 (by omega) (by omega) rfl

set_option maxRecDepth 100000 in
set_option maxHeartbeats 4000000 in
theorem r_parent_f1 (l : Launch) {Z : jZ} {D : jD} (hz : zM Z) {x y : Int32} (hal : ¬ areL x y) (k : Int32) (sc : Bool) : ja_M l (mX8_parent 0 0) [.ref (100), .int (x), .int (y), .int (k), .int (bI (sc))] Z D (ja_jd (some (.int (nI 0))) Z (fun D2 => D2 = ja_up D 100 0 (nI 1))) ja_x0 := by
  refine ja_Mof (lv := [some (.ref (100)), some (.int (x)), some (.int (y)), some (.int (k)), some (.int (bI (sc))), none]) (by decide +kernel) rfl rfl (Nat.le_of_ble_eq_true rfl) rfl ?_
  refine ja_aload_n (i := 0) dX8_parent_0 rfl rfl ?_
  refine ja_iconst (v := nI 0) dX8_parent_1 (by decide +kernel) ?_
  refine ja_putI fl_X8_85 (zM_s hz) rfl rfl rfl dX8_parent_2 ?_
  refine ja_iload_n (i := 1) dX8_parent_5 rfl rfl ?_
  refine ja_iload_n (i := 2) dX8_parent_6 rfl rfl ?_
  refine ja_cSr (st := []) (s_areLayersF l hal) rfl rfl (ce_X8_areLayers 0 0) st_X8_areLayers lk_X8_164 ⟨(Nat.le_of_ble_eq_true rfl), (Nat.le_of_ble_eq_true rfl)⟩ dX8_parent_7 rfl rfl (Nat.le_of_ble_eq_true rfl) (Nat.zero_le _) (Nat.zero_le _) ?_
  refine ja_ifB_ne (tgt := 19) dX8_parent_10 (by decide) (fun c10 => absurd c10 (by decide)) (fun c10 => ?_)
  refine ja_aload_n (i := 0) dX8_parent_13 rfl rfl ?_
  refine ja_iconst (v := nI 1) dX8_parent_14 (by decide +kernel) ?_
  refine ja_cVd (st := []) (s_fails l hz (nI (1))) rfl rfl (ce_X8_fails 0 0) im_X8_fails se_X8_fails lk_X8_96 k_X8 (zM_s hz) ⟨(Nat.le_of_ble_eq_true rfl), (Nat.le_of_ble_eq_true rfl)⟩ dX8_parent_15 rfl rfl (Nat.le_of_ble_eq_true rfl) (Nat.zero_le _) (Nat.zero_le _) ?_
  intro D15 hD15
  subst hD15
  refine ja_num (D2 := ja_up D 100 0 (nI (1))) up_2 ?_
  refine ja_iret rfl rfl dX8_parent_18 (Nat.zero_le _) (Nat.zero_le _) ?_
  exact ⟨rfl, rfl, rfl⟩

set_option maxRecDepth 100000 in
set_option maxHeartbeats 4000000 in
theorem r_parent_f2 (l : Launch) {Z : jZ} {D : jD} (hz : zM Z) {l1 l2 : Nat} (h1 : l1 < 3) (h2 : l2 < 3) (h3 : l1 ≠ l2) {k : Int32} (hk : ¬ (0 ≤ k.toInt ∧ k.toInt < ((ovP (ja_up D 100 0 (nI 0)) l1 l2).2 : Int))) (sc : Bool) : ja_M l (mX8_parent 0 0) [.ref (100), .int (nI (l1)), .int (nI (l2)), .int (k), .int (bI (sc))] Z D (ja_jd (some (.int (nI 0))) Z (fun D2 => D2 = ja_up (ovR (ja_up D 100 0 (nI 0)) l1 l2) 100 0 (nI 2))) ja_x0 := by
  refine ja_Mof (lv := [some (.ref (100)), some (.int (nI (l1))), some (.int (nI (l2))), some (.int (k)), some (.int (bI (sc))), none]) (by decide +kernel) rfl rfl (Nat.le_of_ble_eq_true rfl) rfl ?_
  refine ja_aload_n (i := 0) dX8_parent_0 rfl rfl ?_
  refine ja_iconst (v := nI 0) dX8_parent_1 (by decide +kernel) ?_
  refine ja_putI fl_X8_85 (zM_s hz) rfl rfl rfl dX8_parent_2 ?_
  refine ja_iload_n (i := 1) dX8_parent_5 rfl rfl ?_
  refine ja_iload_n (i := 2) dX8_parent_6 rfl rfl ?_
  refine ja_cSr (st := []) (s_areLayersT l (by omega) (by omega) (by omega)) rfl rfl (ce_X8_areLayers 0 0) st_X8_areLayers lk_X8_164 ⟨(Nat.le_of_ble_eq_true rfl), (Nat.le_of_ble_eq_true rfl)⟩ dX8_parent_7 rfl rfl (Nat.le_of_ble_eq_true rfl) (Nat.zero_le _) (Nat.zero_le _) ?_
  refine ja_ifB_ne (tgt := 19) dX8_parent_10 (by decide) (fun c10 => ?_) (fun c10 => absurd c10 (by decide))
  refine ja_iload_n (i := 3) dX8_parent_19 rfl rfl ?_
  refine ja_iconst (v := nI 0) dX8_parent_20 (by decide +kernel) ?_
  refine ja_aload_n (i := 0) dX8_parent_21 rfl rfl ?_
  refine ja_iload_n (i := 1) dX8_parent_22 rfl rfl ?_
  refine ja_iload_n (i := 2) dX8_parent_23 rfl rfl ?_
  refine ja_cVd (st := [.int (nI (0)), .int (k)]) (s_overlay (D := (ja_up D 100 0 (nI (0)))) l hz (l1 := l1) (l2 := l2) (by omega) (by omega)) rfl rfl (ce_X8_overlay 0 0) im_X8_overlay se_X8_overlay lk_X8_167 k_X8 (zM_s hz) ⟨(Nat.le_of_ble_eq_true rfl), (Nat.le_of_ble_eq_true rfl)⟩ dX8_parent_24 rfl rfl (Nat.le_of_ble_eq_true rfl) (Nat.zero_le _) (Nat.zero_le _) ?_
  intro D24 hD24
  subst hD24
  have hov := ovP_le (ja_up D 100 0 (nI (0))) l1 l2
  refine ja_top (y := nI (ovP (ja_up D 100 0 (nI 0)) l1 l2).2) rfl ?_
  refine ja_iconst (v := nI 1) dX8_parent_27 (by decide +kernel) ?_
  refine ja_isub dX8_parent_28 ?_
  refine ja_cSr (st := []) (s_inF l (k) (nI (0)) ((nI (ovP (ja_up D 100 0 (nI 0)) l1 l2).2 - nI (1))) (by rintro ⟨e1, e2⟩; rw [Int32.le_iff_toInt_le] at e1 e2; have e3 : (nI (ovP (ja_up D 100 0 (nI 0)) l1 l2).2 - nI 1).toInt = ((ovP (ja_up D 100 0 (nI 0)) l1 l2).2 : Int) - 1 := pk_sub_toInt (by omega) (by omega); rw [e3] at e2; rw [nI_toInt (by omega)] at e1; omega)) rfl rfl (ce_X8_in 0 0) st_X8_in lk_X8_88 ⟨(Nat.le_of_ble_eq_true rfl), (Nat.le_of_ble_eq_true rfl)⟩ dX8_parent_29 rfl rfl (Nat.le_of_ble_eq_true rfl) (Nat.zero_le _) (Nat.zero_le _) ?_
  refine ja_ifB_ne (tgt := 41) dX8_parent_32 (by decide) (fun c32 => absurd c32 (by decide)) (fun c32 => ?_)
  refine ja_aload_n (i := 0) dX8_parent_35 rfl rfl ?_
  refine ja_iconst (v := nI 2) dX8_parent_36 (by decide +kernel) ?_
  refine ja_cVd (st := []) (s_fails l hz (nI (2))) rfl rfl (ce_X8_fails 0 0) im_X8_fails se_X8_fails lk_X8_96 k_X8 (zM_s hz) ⟨(Nat.le_of_ble_eq_true rfl), (Nat.le_of_ble_eq_true rfl)⟩ dX8_parent_37 rfl rfl (Nat.le_of_ble_eq_true rfl) (Nat.zero_le _) (Nat.zero_le _) ?_
  intro D37 hD37
  subst hD37
  refine ja_iret rfl rfl dX8_parent_40 (Nat.zero_le _) (Nat.zero_le _) ?_
  exact ⟨rfl, rfl, rfl⟩

set_option maxRecDepth 100000 in
set_option maxHeartbeats 4000000 in
theorem r_parent_okt (l : Launch) {Z : jZ} {D : jD} (hz : zM Z) {l1 l2 : Nat} (h1 : l1 < 3) (h2 : l2 < 3) (h3 : l1 ≠ l2) {k : Nat} (hk : k < (ovP (ja_up D 100 0 (nI 0)) l1 l2).2) {q0 : Nat} (hq0 : q0 < 256) (hp : (ovP (ja_up D 100 0 (nI 0)) l1 l2).1 q0 = nI k) (hp2 : ∀ j, j < q0 → ¬ (ovP (ja_up D 100 0 (nI 0)) l1 l2).1 j = nI k) : ja_M l (mX8_parent 0 0) [.ref (100), .int (nI (l1)), .int (nI (l2)), .int (nI (k)), .int (bI (true))] Z D (ja_jd (some (.int (D 105 (256 * l2 + q0)))) Z (fun D2 => D2 = (ovR (ja_up D 100 0 (nI 0)) l1 l2))) ja_x0 := by
  refine ja_Mof (lv := [some (.ref (100)), some (.int (nI (l1))), some (.int (nI (l2))), some (.int (nI (k))), some (.int (bI (true))), none]) (by decide +kernel) rfl rfl (Nat.le_of_ble_eq_true rfl) rfl ?_
  refine ja_aload_n (i := 0) dX8_parent_0 rfl rfl ?_
  refine ja_iconst (v := nI 0) dX8_parent_1 (by decide +kernel) ?_
  refine ja_putI fl_X8_85 (zM_s hz) rfl rfl rfl dX8_parent_2 ?_
  refine ja_iload_n (i := 1) dX8_parent_5 rfl rfl ?_
  refine ja_iload_n (i := 2) dX8_parent_6 rfl rfl ?_
  refine ja_cSr (st := []) (s_areLayersT l (by omega) (by omega) (by omega)) rfl rfl (ce_X8_areLayers 0 0) st_X8_areLayers lk_X8_164 ⟨(Nat.le_of_ble_eq_true rfl), (Nat.le_of_ble_eq_true rfl)⟩ dX8_parent_7 rfl rfl (Nat.le_of_ble_eq_true rfl) (Nat.zero_le _) (Nat.zero_le _) ?_
  refine ja_ifB_ne (tgt := 19) dX8_parent_10 (by decide) (fun c10 => ?_) (fun c10 => absurd c10 (by decide))
  refine ja_iload_n (i := 3) dX8_parent_19 rfl rfl ?_
  refine ja_iconst (v := nI 0) dX8_parent_20 (by decide +kernel) ?_
  refine ja_aload_n (i := 0) dX8_parent_21 rfl rfl ?_
  refine ja_iload_n (i := 1) dX8_parent_22 rfl rfl ?_
  refine ja_iload_n (i := 2) dX8_parent_23 rfl rfl ?_
  refine ja_cVd (st := [.int (nI (0)), .int (nI (k))]) (s_overlay (D := (ja_up D 100 0 (nI (0)))) l hz (l1 := l1) (l2 := l2) (by omega) (by omega)) rfl rfl (ce_X8_overlay 0 0) im_X8_overlay se_X8_overlay lk_X8_167 k_X8 (zM_s hz) ⟨(Nat.le_of_ble_eq_true rfl), (Nat.le_of_ble_eq_true rfl)⟩ dX8_parent_24 rfl rfl (Nat.le_of_ble_eq_true rfl) (Nat.zero_le _) (Nat.zero_le _) ?_
  intro D24 hD24
  subst hD24
  have hov := ovP_le (ja_up D 100 0 (nI (0))) l1 l2
  refine ja_iconst (v := nI 1) dX8_parent_27 (by decide +kernel) ?_
  refine ja_isubN dX8_parent_28 (by omega) ?_
  refine ja_cSr (st := []) (s_inT l (k) 0 (((ovP (ja_up D 100 0 (nI (0))) l1 l2).2) - (1)) (by omega) (by omega) (by omega)) rfl rfl (ce_X8_in 0 0) st_X8_in lk_X8_88 ⟨(Nat.le_of_ble_eq_true rfl), (Nat.le_of_ble_eq_true rfl)⟩ dX8_parent_29 rfl rfl (Nat.le_of_ble_eq_true rfl) (Nat.zero_le _) (Nat.zero_le _) ?_
  refine ja_ifB_ne (tgt := 41) dX8_parent_32 (by decide) (fun c32 => ?_) (fun c32 => absurd c32 (by decide))
  refine ja_iconst (v := nI 0) dX8_parent_41 (by decide +kernel) ?_
  refine ja_istore (i := 5) dX8_parent_42 rfl (Nat.le_of_ble_eq_true rfl) ?_
  have lp44 : ∀ (f44 : Nat) (q : Nat), (256 < q + f44) → (q ≤ q0) → ja_A l (mX8_parent 0 0) ja_sn (ja_Qf (mX8_parent 0 0) (ja_jd (some (.int (D 105 (256 * l2 + q0)))) Z (fun D2 => D2 = (ovR (ja_up D 100 0 (nI 0)) l1 l2))) ja_x0) 44 [some (.ref (100)), some (.int (nI (l1))), some (.int (nI (l2))), some (.int (nI (k))), some (.int (bI (true))), some (.int (nI (q)))] [] Z (ovR (ja_up D 100 0 (nI (0))) l1 l2) 0 0 := by
    intro f44
    induction f44 with
    | zero => intro q hf hq; exfalso; omega
    | succ f44 ih44 =>
      intro q hf hq
      refine ja_aload_n (i := 0) dX8_parent_44 rfl rfl ?_
      refine ja_getR fl_X8_64 (zM_s hz) rfl (zM_p21 hz) dX8_parent_45 ?_
      refine ja_iload (i := 5) dX8_parent_48 rfl ?_
      refine ja_iald (zM_a21 hz) rfl (by omega) (by decide) dX8_parent_50 ?_
      refine ja_top (y := (ovP (ja_up D 100 0 (nI 0)) l1 l2).1 q) (ovR_p (by omega)) ?_
      refine ja_iload_n (i := 3) dX8_parent_51 rfl rfl ?_
      refine ja_icmp_eq (tgt := 61) dX8_parent_52 (by decide) (fun c52 => ?_) (fun c52 => ?_)
      ·
        refine ja_aload_n (i := 0) dX8_parent_61 rfl rfl ?_
        refine ja_iload (i := 4) dX8_parent_62 rfl ?_
        refine ja_ifB_eq (tgt := 71) dX8_parent_64 (by decide) (fun c64 => absurd c64 (by decide)) (fun c64 => ?_)
        refine ja_iload_n (i := 2) dX8_parent_67 rfl rfl ?_
        refine ja_goto (tgt := 72) dX8_parent_68 (by decide) ?_
        refine ja_iload (i := 5) dX8_parent_72 rfl ?_
        refine ja_cVr (st := []) (s_at (D := (ovR (ja_up D 100 0 (nI (0))) l1 l2)) l hz (ly := l2) (q := q) (by omega) (by omega)) rfl rfl (ce_X8_at 0 0) im_X8_at se_X8_at lk_X8_92 k_X8 (zM_s hz) ⟨(Nat.le_of_ble_eq_true rfl), (Nat.le_of_ble_eq_true rfl)⟩ dX8_parent_74 rfl rfl (Nat.le_of_ble_eq_true rfl) (Nat.zero_le _) (Nat.zero_le _) ?_
        refine ja_iret rfl rfl dX8_parent_77 (Nat.zero_le _) (Nat.zero_le _) ?_
        have e : q = q0 := by
          have : ¬ q < q0 := fun e => hp2 q e c52
          omega
        subst e
        exact ⟨by rw [ovR_o (by decide) (by decide)]; rfl, rfl, rfl⟩
      ·
        refine ja_iincN dX8_parent_55 rfl rfl (Nat.le_of_ble_eq_true rfl) ?_
        refine ja_goto (tgt := 44) dX8_parent_58 (by decide) ?_
        exact ih44 (q + 1) (by omega) (by have : ¬ q = q0 := fun e => c52 (e ▸ hp); omega)
  exact lp44 257 0 (by omega) (by omega)

set_option maxRecDepth 100000 in
set_option maxHeartbeats 4000000 in
theorem r_parent_okf (l : Launch) {Z : jZ} {D : jD} (hz : zM Z) {l1 l2 : Nat} (h1 : l1 < 3) (h2 : l2 < 3) (h3 : l1 ≠ l2) {k : Nat} (hk : k < (ovP (ja_up D 100 0 (nI 0)) l1 l2).2) {q0 : Nat} (hq0 : q0 < 256) (hp : (ovP (ja_up D 100 0 (nI 0)) l1 l2).1 q0 = nI k) (hp2 : ∀ j, j < q0 → ¬ (ovP (ja_up D 100 0 (nI 0)) l1 l2).1 j = nI k) : ja_M l (mX8_parent 0 0) [.ref (100), .int (nI (l1)), .int (nI (l2)), .int (nI (k)), .int (bI (false))] Z D (ja_jd (some (.int (D 105 (256 * l1 + q0)))) Z (fun D2 => D2 = (ovR (ja_up D 100 0 (nI 0)) l1 l2))) ja_x0 := by
  refine ja_Mof (lv := [some (.ref (100)), some (.int (nI (l1))), some (.int (nI (l2))), some (.int (nI (k))), some (.int (bI (false))), none]) (by decide +kernel) rfl rfl (Nat.le_of_ble_eq_true rfl) rfl ?_
  refine ja_aload_n (i := 0) dX8_parent_0 rfl rfl ?_
  refine ja_iconst (v := nI 0) dX8_parent_1 (by decide +kernel) ?_
  refine ja_putI fl_X8_85 (zM_s hz) rfl rfl rfl dX8_parent_2 ?_
  refine ja_iload_n (i := 1) dX8_parent_5 rfl rfl ?_
  refine ja_iload_n (i := 2) dX8_parent_6 rfl rfl ?_
  refine ja_cSr (st := []) (s_areLayersT l (by omega) (by omega) (by omega)) rfl rfl (ce_X8_areLayers 0 0) st_X8_areLayers lk_X8_164 ⟨(Nat.le_of_ble_eq_true rfl), (Nat.le_of_ble_eq_true rfl)⟩ dX8_parent_7 rfl rfl (Nat.le_of_ble_eq_true rfl) (Nat.zero_le _) (Nat.zero_le _) ?_
  refine ja_ifB_ne (tgt := 19) dX8_parent_10 (by decide) (fun c10 => ?_) (fun c10 => absurd c10 (by decide))
  refine ja_iload_n (i := 3) dX8_parent_19 rfl rfl ?_
  refine ja_iconst (v := nI 0) dX8_parent_20 (by decide +kernel) ?_
  refine ja_aload_n (i := 0) dX8_parent_21 rfl rfl ?_
  refine ja_iload_n (i := 1) dX8_parent_22 rfl rfl ?_
  refine ja_iload_n (i := 2) dX8_parent_23 rfl rfl ?_
  refine ja_cVd (st := [.int (nI (0)), .int (nI (k))]) (s_overlay (D := (ja_up D 100 0 (nI (0)))) l hz (l1 := l1) (l2 := l2) (by omega) (by omega)) rfl rfl (ce_X8_overlay 0 0) im_X8_overlay se_X8_overlay lk_X8_167 k_X8 (zM_s hz) ⟨(Nat.le_of_ble_eq_true rfl), (Nat.le_of_ble_eq_true rfl)⟩ dX8_parent_24 rfl rfl (Nat.le_of_ble_eq_true rfl) (Nat.zero_le _) (Nat.zero_le _) ?_
  intro D24 hD24
  subst hD24
  have hov := ovP_le (ja_up D 100 0 (nI (0))) l1 l2
  refine ja_iconst (v := nI 1) dX8_parent_27 (by decide +kernel) ?_
  refine ja_isubN dX8_parent_28 (by omega) ?_
  refine ja_cSr (st := []) (s_inT l (k) 0 (((ovP (ja_up D 100 0 (nI (0))) l1 l2).2) - (1)) (by omega) (by omega) (by omega)) rfl rfl (ce_X8_in 0 0) st_X8_in lk_X8_88 ⟨(Nat.le_of_ble_eq_true rfl), (Nat.le_of_ble_eq_true rfl)⟩ dX8_parent_29 rfl rfl (Nat.le_of_ble_eq_true rfl) (Nat.zero_le _) (Nat.zero_le _) ?_
  refine ja_ifB_ne (tgt := 41) dX8_parent_32 (by decide) (fun c32 => ?_) (fun c32 => absurd c32 (by decide))
  refine ja_iconst (v := nI 0) dX8_parent_41 (by decide +kernel) ?_
  refine ja_istore (i := 5) dX8_parent_42 rfl (Nat.le_of_ble_eq_true rfl) ?_
  have lp44 : ∀ (f44 : Nat) (q : Nat), (256 < q + f44) → (q ≤ q0) → ja_A l (mX8_parent 0 0) ja_sn (ja_Qf (mX8_parent 0 0) (ja_jd (some (.int (D 105 (256 * l1 + q0)))) Z (fun D2 => D2 = (ovR (ja_up D 100 0 (nI 0)) l1 l2))) ja_x0) 44 [some (.ref (100)), some (.int (nI (l1))), some (.int (nI (l2))), some (.int (nI (k))), some (.int (bI (false))), some (.int (nI (q)))] [] Z (ovR (ja_up D 100 0 (nI (0))) l1 l2) 0 0 := by
    intro f44
    induction f44 with
    | zero => intro q hf hq; exfalso; omega
    | succ f44 ih44 =>
      intro q hf hq
      refine ja_aload_n (i := 0) dX8_parent_44 rfl rfl ?_
      refine ja_getR fl_X8_64 (zM_s hz) rfl (zM_p21 hz) dX8_parent_45 ?_
      refine ja_iload (i := 5) dX8_parent_48 rfl ?_
      refine ja_iald (zM_a21 hz) rfl (by omega) (by decide) dX8_parent_50 ?_
      refine ja_top (y := (ovP (ja_up D 100 0 (nI 0)) l1 l2).1 q) (ovR_p (by omega)) ?_
      refine ja_iload_n (i := 3) dX8_parent_51 rfl rfl ?_
      refine ja_icmp_eq (tgt := 61) dX8_parent_52 (by decide) (fun c52 => ?_) (fun c52 => ?_)
      ·
        refine ja_aload_n (i := 0) dX8_parent_61 rfl rfl ?_
        refine ja_iload (i := 4) dX8_parent_62 rfl ?_
        refine ja_ifB_eq (tgt := 71) dX8_parent_64 (by decide) (fun c64 => ?_) (fun c64 => absurd c64 (by decide))
        refine ja_iload_n (i := 1) dX8_parent_71 rfl rfl ?_
        refine ja_iload (i := 5) dX8_parent_72 rfl ?_
        refine ja_cVr (st := []) (s_at (D := (ovR (ja_up D 100 0 (nI (0))) l1 l2)) l hz (ly := l1) (q := q) (by omega) (by omega)) rfl rfl (ce_X8_at 0 0) im_X8_at se_X8_at lk_X8_92 k_X8 (zM_s hz) ⟨(Nat.le_of_ble_eq_true rfl), (Nat.le_of_ble_eq_true rfl)⟩ dX8_parent_74 rfl rfl (Nat.le_of_ble_eq_true rfl) (Nat.zero_le _) (Nat.zero_le _) ?_
        refine ja_iret rfl rfl dX8_parent_77 (Nat.zero_le _) (Nat.zero_le _) ?_
        have e : q = q0 := by
          have : ¬ q < q0 := fun e => hp2 q e c52
          omega
        subst e
        exact ⟨by rw [ovR_o (by decide) (by decide)]; rfl, rfl, rfl⟩
      ·
        refine ja_iincN dX8_parent_55 rfl rfl (Nat.le_of_ble_eq_true rfl) ?_
        refine ja_goto (tgt := 44) dX8_parent_58 (by decide) ?_
        exact ih44 (q + 1) (by omega) (by have : ¬ q = q0 := fun e => c52 (e ▸ hp); omega)
  exact lp44 257 0 (by omega) (by omega)

set_option maxRecDepth 100000 in
set_option maxHeartbeats 4000000 in
theorem r_values_f1 (l : Launch) {Z : jZ} {D : jD} (hz : zM Z) {ly : Int32} (hl : ¬ (nI 0 ≤ ly ∧ ly ≤ nI 2)) : ja_M l (mX8_values 0 0) [.ref (100), .int (ly)] Z D (ja_jd (some (.long 0)) Z (fun D2 => D2 = ja_up D 100 0 (nI 1))) ja_x0 := by
  refine ja_Mof (lv := [some (.ref (100)), some (.int (ly)), none, none, none]) (by decide +kernel) rfl rfl (Nat.le_of_ble_eq_true rfl) rfl ?_
  refine ja_aload_n (i := 0) dX8_values_0 rfl rfl ?_
  refine ja_iload_n (i := 1) dX8_values_1 rfl rfl ?_
  refine ja_cSr (st := [.ref (100)]) (s_isLayerF l hl) rfl rfl (ce_X8_isLayer 0 0) st_X8_isLayer lk_X8_106 ⟨(Nat.le_of_ble_eq_true rfl), (Nat.le_of_ble_eq_true rfl)⟩ dX8_values_2 rfl rfl (Nat.le_of_ble_eq_true rfl) (Nat.zero_le _) (Nat.zero_le _) ?_
  refine ja_ifB_eq (tgt := 12) dX8_values_5 (by decide) (fun c5 => ?_) (fun c5 => absurd c5 (by decide))
  refine ja_iconst (v := nI 1) dX8_values_12 (by decide +kernel) ?_
  refine ja_putI fl_X8_85 (zM_s hz) rfl rfl rfl dX8_values_13 ?_
  refine ja_lconst (v := 0) dX8_values_16 (by decide +kernel) ?_
  refine ja_lstore_n (i := 2) dX8_values_17 rfl rfl (Nat.le_of_ble_eq_true rfl) ?_
  refine ja_iconst (v := nI 0) dX8_values_18 (by decide +kernel) ?_
  refine ja_istore (i := 4) dX8_values_19 rfl (Nat.le_of_ble_eq_true rfl) ?_
  have lp21 : ∀ (f21 : Nat) (a : Nat), (a < f21) → (a = 0) → ja_A l (mX8_values 0 0) ja_sn (ja_Qf (mX8_values 0 0) (ja_jd (some (.long 0)) Z (fun D2 => D2 = ja_up D 100 0 (nI 1))) ja_x0) 21 [some (.ref (100)), some (.int (ly)), some (.long (0)), none, some (.int (nI (a)))] [] Z (ja_up D 100 0 (nI (1))) 0 0 := by
    intro f21
    induction f21 with
    | zero => intro a hf ha0; exfalso; omega
    | succ f21 ih21 =>
      intro a hf ha0
      refine ja_iload (i := 4) dX8_values_21 rfl ?_
      refine ja_bipush (v := nI 10) dX8_values_23 (by decide +kernel) ?_
      refine ja_icmpN_ge (tgt := 57) dX8_values_25 (by decide) (by omega) (by omega) (fun c25 => ?_) (fun c25 => ?_)
      ·
        exfalso; omega
      ·
        refine ja_aload_n (i := 0) dX8_values_28 rfl rfl ?_
        refine ja_getI fl_X8_85 (zM_s hz) rfl dX8_values_29 ?_
        refine ja_top (y := nI (1)) up_s ?_
        refine ja_ifN_ne (tgt := 57) dX8_values_32 (by decide) (by omega) (fun c32 => ?_) (fun c32 => absurd c32 (by decide))
        refine ja_lload_n (i := 2) dX8_values_57 rfl rfl ?_
        refine ja_lret rfl dX8_values_58 (Nat.zero_le _) (Nat.zero_le _) ?_
        exact ⟨rfl, rfl, rfl⟩
  exact lp21 1 0 (by omega) rfl

set_option maxRecDepth 100000 in
set_option maxHeartbeats 4000000 in
theorem r_values_ok (l : Launch) {Z : jZ} {D : jD} (hz : zM Z) {ly : Nat} (h1 : ly < 3) : ja_M l (mX8_values 0 0) [.ref (100), .int (nI (ly))] Z D (ja_jd (some (.long (vsm (D 106) ly 10))) Z (fun D2 => D2 = ja_up D 100 0 (nI 0))) ja_x0 := by
  refine ja_Mof (lv := [some (.ref (100)), some (.int (nI (ly))), none, none, none]) (by decide +kernel) rfl rfl (Nat.le_of_ble_eq_true rfl) rfl ?_
  refine ja_aload_n (i := 0) dX8_values_0 rfl rfl ?_
  refine ja_iload_n (i := 1) dX8_values_1 rfl rfl ?_
  refine ja_cSr (st := [.ref (100)]) (s_isLayerT l (by omega)) rfl rfl (ce_X8_isLayer 0 0) st_X8_isLayer lk_X8_106 ⟨(Nat.le_of_ble_eq_true rfl), (Nat.le_of_ble_eq_true rfl)⟩ dX8_values_2 rfl rfl (Nat.le_of_ble_eq_true rfl) (Nat.zero_le _) (Nat.zero_le _) ?_
  refine ja_ifB_eq (tgt := 12) dX8_values_5 (by decide) (fun c5 => absurd c5 (by decide)) (fun c5 => ?_)
  refine ja_iconst (v := nI 0) dX8_values_8 (by decide +kernel) ?_
  refine ja_goto (tgt := 13) dX8_values_9 (by decide) ?_
  refine ja_putI fl_X8_85 (zM_s hz) rfl rfl rfl dX8_values_13 ?_
  refine ja_lconst (v := 0) dX8_values_16 (by decide +kernel) ?_
  refine ja_lstore_n (i := 2) dX8_values_17 rfl rfl (Nat.le_of_ble_eq_true rfl) ?_
  refine ja_iconst (v := nI 0) dX8_values_18 (by decide +kernel) ?_
  refine ja_istore (i := 4) dX8_values_19 rfl (Nat.le_of_ble_eq_true rfl) ?_
  have lp21 : ∀ (f21 : Nat) (a : Nat) (s : Int64), (10 < a + f21) → (a ≤ 10) → (s = vsm (D 106) ly a) → ja_A l (mX8_values 0 0) ja_sn (ja_Qf (mX8_values 0 0) (ja_jd (some (.long (vsm (D 106) ly 10))) Z (fun D2 => D2 = ja_up D 100 0 (nI 0))) ja_x0) 21 [some (.ref (100)), some (.int (nI (ly))), some (.long (s)), none, some (.int (nI (a)))] [] Z (ja_up D 100 0 (nI (0))) 0 0 := by
    intro f21
    induction f21 with
    | zero => intro a s hf ha hs; exfalso; omega
    | succ f21 ih21 =>
      intro a s hf ha hs
      refine ja_iload (i := 4) dX8_values_21 rfl ?_
      refine ja_bipush (v := nI 10) dX8_values_23 (by decide +kernel) ?_
      refine ja_icmpN_ge (tgt := 57) dX8_values_25 (by decide) (by omega) (by omega) (fun c25 => ?_) (fun c25 => ?_)
      ·
        refine ja_lload_n (i := 2) dX8_values_57 rfl rfl ?_
        refine ja_lret rfl dX8_values_58 (Nat.zero_le _) (Nat.zero_le _) ?_
        exact ⟨by rw [hs, show a = 10 by omega], rfl, rfl⟩
      ·
        refine ja_aload_n (i := 0) dX8_values_28 rfl rfl ?_
        refine ja_getI fl_X8_85 (zM_s hz) rfl dX8_values_29 ?_
        refine ja_top (y := nI (0)) up_s ?_
        refine ja_ifN_ne (tgt := 57) dX8_values_32 (by decide) (by omega) (fun c32 => absurd c32 (by decide)) (fun c32 => ?_)
        refine ja_lload_n (i := 2) dX8_values_35 rfl rfl ?_
        refine ja_aload_n (i := 0) dX8_values_36 rfl rfl ?_
        refine ja_getR fl_X8_21 (zM_s hz) rfl (zM_p5 hz) dX8_values_37 ?_
        refine ja_bipush (v := nI 10) dX8_values_40 (by decide +kernel) ?_
        refine ja_iload_n (i := 1) dX8_values_42 rfl rfl ?_
        refine ja_imulN dX8_values_43 ?_
        refine ja_iload (i := 4) dX8_values_44 rfl ?_
        refine ja_iaddN dX8_values_46 ?_
        refine ja_iald (zM_a5 hz) rfl (by omega) (by decide) dX8_values_47 ?_
        refine ja_i2l dX8_values_48 rfl ?_
        refine ja_ladd dX8_values_49 ?_
        refine ja_lstore_n (i := 2) dX8_values_50 rfl rfl (Nat.le_of_ble_eq_true rfl) ?_
        refine ja_iincN dX8_values_51 rfl rfl (Nat.le_of_ble_eq_true rfl) ?_
        refine ja_goto (tgt := 21) dX8_values_54 (by decide) ?_
        exact ih21 (a + 1) _ (by omega) (by omega) (by rw [vsm, ← hs]; rfl)
  exact lp21 11 0 0 (by omega) (by omega) rfl

set_option maxRecDepth 100000 in
set_option maxHeartbeats 4000000 in
theorem r_covered_f1 (l : Launch) {Z : jZ} {D : jD} (hz : zM Z) {ly : Int32} (hl : ¬ (nI 0 ≤ ly ∧ ly ≤ nI 2)) : ja_M l (mX8_covered 0 0) [.ref (100), .int (ly)] Z D (ja_jd (some (.float FP.fconst0)) Z (fun D2 => D2 = ja_up D 100 0 (nI 1))) ja_x0 := by
  refine ja_Mof (lv := [some (.ref (100)), some (.int (ly))]) (by decide +kernel) rfl rfl (Nat.le_of_ble_eq_true rfl) rfl ?_
  refine ja_aload_n (i := 0) dX8_covered_0 rfl rfl ?_
  refine ja_iload_n (i := 1) dX8_covered_1 rfl rfl ?_
  refine ja_cSr (st := [.ref (100)]) (s_isLayerF l hl) rfl rfl (ce_X8_isLayer 0 0) st_X8_isLayer lk_X8_106 ⟨(Nat.le_of_ble_eq_true rfl), (Nat.le_of_ble_eq_true rfl)⟩ dX8_covered_2 rfl rfl (Nat.le_of_ble_eq_true rfl) (Nat.zero_le _) (Nat.zero_le _) ?_
  refine ja_ifB_eq (tgt := 12) dX8_covered_5 (by decide) (fun c5 => ?_) (fun c5 => absurd c5 (by decide))
  refine ja_iconst (v := nI 1) dX8_covered_12 (by decide +kernel) ?_
  refine ja_putI fl_X8_85 (zM_s hz) rfl rfl rfl dX8_covered_13 ?_
  refine ja_aload_n (i := 0) dX8_covered_16 rfl rfl ?_
  refine ja_getI fl_X8_85 (zM_s hz) rfl dX8_covered_17 ?_
  refine ja_top (y := nI (1)) up_s ?_
  refine ja_ifN_le (tgt := 27) dX8_covered_20 (by decide) (by omega) (fun c20 => absurd c20 (by decide)) (fun c20 => ?_)
  refine ja_fconst0 dX8_covered_23 ?_
  refine ja_goto (tgt := 41) dX8_covered_24 (by decide) ?_
  refine ja_fret rfl dX8_covered_41 (Nat.zero_le _) (Nat.zero_le _) ?_
  exact ⟨rfl, rfl, rfl⟩

set_option maxRecDepth 100000 in
set_option maxHeartbeats 4000000 in
theorem r_covered_ok (l : Launch) {Z : jZ} {D : jD} (hz : zM Z) {ly : Nat} (h1 : ly < 3) (hnn : ∀ n, n ≤ 256 → vf_n32 (FP.fdiv (FP.i2f (nI n)) 1132462080)) : ja_M l (mX8_covered 0 0) [.ref (100), .int (nI (ly))] Z D (ja_jd (some (.float (FP.fdiv (FP.i2f (nI (256 - cSz (D 105) ly (-1) 256))) 1132462080))) Z (fun D2 => D2 = ja_up D 100 0 (nI 0))) ja_x0 := by
  refine ja_Mof (lv := [some (.ref (100)), some (.int (nI (ly)))]) (by decide +kernel) rfl rfl (Nat.le_of_ble_eq_true rfl) rfl ?_
  refine ja_aload_n (i := 0) dX8_covered_0 rfl rfl ?_
  refine ja_iload_n (i := 1) dX8_covered_1 rfl rfl ?_
  refine ja_cSr (st := [.ref (100)]) (s_isLayerT l (by omega)) rfl rfl (ce_X8_isLayer 0 0) st_X8_isLayer lk_X8_106 ⟨(Nat.le_of_ble_eq_true rfl), (Nat.le_of_ble_eq_true rfl)⟩ dX8_covered_2 rfl rfl (Nat.le_of_ble_eq_true rfl) (Nat.zero_le _) (Nat.zero_le _) ?_
  refine ja_ifB_eq (tgt := 12) dX8_covered_5 (by decide) (fun c5 => absurd c5 (by decide)) (fun c5 => ?_)
  refine ja_iconst (v := nI 0) dX8_covered_8 (by decide +kernel) ?_
  refine ja_goto (tgt := 13) dX8_covered_9 (by decide) ?_
  refine ja_putI fl_X8_85 (zM_s hz) rfl rfl rfl dX8_covered_13 ?_
  refine ja_aload_n (i := 0) dX8_covered_16 rfl rfl ?_
  refine ja_getI fl_X8_85 (zM_s hz) rfl dX8_covered_17 ?_
  refine ja_top (y := nI (0)) up_s ?_
  refine ja_ifN_le (tgt := 27) dX8_covered_20 (by decide) (by omega) (fun c20 => ?_) (fun c20 => absurd c20 (by decide))
  refine ja_sipush (v := nI 256) dX8_covered_27 (by decide +kernel) ?_
  refine ja_aload_n (i := 0) dX8_covered_30 rfl rfl ?_
  refine ja_iload_n (i := 1) dX8_covered_31 rfl rfl ?_
  refine ja_iconst (v := (-1)) dX8_covered_32 (by decide +kernel) ?_
  refine ja_cVr (st := [.int (nI (256))]) (s_sizeOf (D := (ja_up D 100 0 (nI (0)))) l hz (ly := ly) (by omega) ((-1))) rfl rfl (ce_X8_sizeOf 0 0) im_X8_sizeOf se_X8_sizeOf lk_X8_103 k_X8 (zM_s hz) ⟨(Nat.le_of_ble_eq_true rfl), (Nat.le_of_ble_eq_true rfl)⟩ dX8_covered_33 rfl rfl (Nat.le_of_ble_eq_true rfl) (Nat.zero_le _) (Nat.zero_le _) ?_
  have z1 := cSz_le ((ja_up D 100 0 (nI 0)) 105) ly (-1) 256
  refine ja_isubN dX8_covered_36 (by omega) ?_
  refine ja_i2f dX8_covered_37 ?_
  refine ja_ldcf (v := 1132462080) dX8_covered_38 cf_X8 ?_
  refine ja_fdiv dX8_covered_40 (hnn _ (by omega)) ?_
  refine ja_fret rfl dX8_covered_41 (Nat.zero_le _) (Nat.zero_le _) ?_
  exact ⟨rfl, rfl, rfl⟩
