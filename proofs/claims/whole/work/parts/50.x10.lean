/-! THE CLASS: a version, 2 -/
theorem xcf_fn {D : jD} {v l n k q : Nat} {g g2 : Nat → Bool} {f : Nat → Int32} (h : k = 72 + 4 * v) (hl : l < 3) : xcf (fnU D k f n) v l g q = xcf D v l g q := by
  subst h
  rw [xcf, xcf, xch, xch, fnU_o (by omega), fnU_o (by omega), fnU_o (by omega)]
theorem vbx_fn {D : jD} {v x y w h n : Nat} {f : Nat → Int32} (hb : vbx D v x y w h) : vbx (fnU D (72 + 4 * v) f n) v x y w h := by
  obtain ⟨b1, b2, b3, b4, b5⟩ := hb
  exact ⟨(fnU_o (by omega)).trans b1, (fnU_o (by omega)).trans b2, (fnU_o (by omega)).trans b3, (fnU_o (by omega)).trans b4, b5⟩

set_option maxRecDepth 100000 in
set_option maxHeartbeats 4000000 in
theorem c_markConflicts (l : Launch) {Z : jZ} {D : jD} (hx : zX Z) {vn v x y w h : Nat} {vl : Nat → Nat} (hv : zXv Z vn vl) (hvn : v < vn) (hb : vbx D v x y w h)  : ja_M l (mX6_markConflicts 0 0) [.ref (70 + 4 * v)] Z D (ja_jd (some (.int (nI (fb_ct (xcf D v (vl v) (inB x y w h)) 256)))) Z (fun D2 => D2 = fnU D (72 + 4 * v) (fun q => if (xcf D v (vl v) (inB x y w h)) q = true then 0 else -1) 256)) ja_x0 := by
  refine ja_Mof (lv := [some (.ref (70 + 4 * v)), none, none, none]) (by decide +kernel) rfl rfl (Nat.le_of_ble_eq_true rfl) rfl ?_
  refine ja_iconst (v := nI 0) dX6_markConflicts_0 (by decide +kernel) ?_
  refine ja_istore_n (i := 1) dX6_markConflicts_1 rfl rfl (Nat.le_of_ble_eq_true rfl) ?_
  refine ja_iconst (v := nI 0) dX6_markConflicts_2 (by decide +kernel) ?_
  refine ja_istore_n (i := 2) dX6_markConflicts_3 rfl rfl (Nat.le_of_ble_eq_true rfl) ?_
  have lp4 : ∀ (f4 : Nat) (q n : Nat) (E : jD), (256 < q + f4) → (q ≤ 256) → (n = fb_ct (xcf D v (vl v) (inB x y w h)) q) → (E = fnU D (72 + 4 * v) (fun q => if (xcf D v (vl v) (inB x y w h)) q = true then 0 else -1) q) → ja_A l (mX6_markConflicts 0 0) ja_sn (ja_Qf (mX6_markConflicts 0 0) (ja_jd (some (.int (nI (fb_ct (xcf D v (vl v) (inB x y w h)) 256)))) Z (fun D2 => D2 = fnU D (72 + 4 * v) (fun q => if (xcf D v (vl v) (inB x y w h)) q = true then 0 else -1) 256)) ja_x0) 4 [some (.ref (70 + 4 * v)), some (.int (nI (n))), some (.int (nI (q))), none] [] Z E 0 0 := by
    intro f4
    induction f4 with
    | zero => intro q n E hf hq hn hE; exfalso; omega
    | succ f4 ih4 =>
      intro q n E hf hq hn hE
      have hbE : vbx E v x y w h := by rw [hE]; exact vbx_fn hb
      have hcE : xcf E v (vl v) (inB x y w h) q = xcf D v (vl v) (inB x y w h) q := by rw [hE]; exact xcf_fn (g2 := inB x y w h) rfl (zV_l0 hv hvn)
      refine ja_iload_n (i := 2) dX6_markConflicts_4 rfl rfl ?_
      refine ja_sipush (v := nI 256) dX6_markConflicts_5 (by decide +kernel) ?_
      refine ja_icmpN_ge (tgt := 50) dX6_markConflicts_8 (by decide) (by omega) (by omega) (fun c8 => ?_) (fun c8 => ?_)
      ·
        refine ja_iload_n (i := 1) dX6_markConflicts_50 rfl rfl ?_
        refine ja_iret rfl rfl dX6_markConflicts_51 (Nat.zero_le _) (Nat.zero_le _) ?_
        exact ⟨by rw [hn, show q = 256 by omega], rfl, by rw [hE, show q = 256 by omega]⟩
      ·
        refine ja_aload_n (i := 0) dX6_markConflicts_11 rfl rfl ?_
        refine ja_iload_n (i := 2) dX6_markConflicts_12 rfl rfl ?_
        refine ja_cVr (st := []) (c_isConflict (D := E) l hx hv hvn hbE (q := q) (by omega)) rfl rfl (ce_X6_isConflict 0 0) im_X6_isConflict se_X6_isConflict lk_X6_47 k_X6 (zV_o hv (v := v) (by omega)) ⟨(Nat.le_of_ble_eq_true rfl), (Nat.le_of_ble_eq_true rfl)⟩ dX6_markConflicts_13 rfl rfl (Nat.le_of_ble_eq_true rfl) (Nat.zero_le _) (Nat.zero_le _) ?_
        refine ja_istore_n (i := 3) dX6_markConflicts_16 rfl rfl (Nat.le_of_ble_eq_true rfl) ?_
        refine ja_aload_n (i := 0) dX6_markConflicts_17 rfl rfl ?_
        refine ja_getR fl_X6_15 (zV_o hv (v := v) (by omega)) rfl (zV_p2 hv (v := v) (by omega)) dX6_markConflicts_18 ?_
        refine ja_iload_n (i := 2) dX6_markConflicts_21 rfl rfl ?_
        refine ja_iload_n (i := 3) dX6_markConflicts_22 rfl rfl ?_
        refine ja_ifB_eq (tgt := 30) dX6_markConflicts_23 (by decide) (fun c23 => ?_) (fun c23 => ?_)
        ·
          refine ja_iconst (v := (-1)) dX6_markConflicts_30 (by decide +kernel) ?_
          refine ja_iast (zV_a2 hv (v := v) (by omega)) rfl (by omega) (by decide) dX6_markConflicts_31 ?_
          refine ja_iload_n (i := 1) dX6_markConflicts_32 rfl rfl ?_
          refine ja_iload_n (i := 3) dX6_markConflicts_33 rfl rfl ?_
          refine ja_ifB_eq (tgt := 41) dX6_markConflicts_34 (by decide) (fun c34 => ?_) (fun c34 => ?_)
          ·
            refine ja_iconst (v := nI 0) dX6_markConflicts_41 (by decide +kernel) ?_
            refine ja_iaddN dX6_markConflicts_42 ?_
            refine ja_istore_n (i := 1) dX6_markConflicts_43 rfl rfl (Nat.le_of_ble_eq_true rfl) ?_
            refine ja_iincN dX6_markConflicts_44 rfl rfl (Nat.le_of_ble_eq_true rfl) ?_
            refine ja_goto (tgt := 4) dX6_markConflicts_47 (by decide) ?_
            refine ja_forget (i := 3) ?_
            exact ih4 (q + 1) _ _ (by omega) (by omega) (by rw [hn, fb_ct_succ, ← hcE]; first | (rw [c34]; done) | (rw [c34]; rfl) | (rw [c23]; rfl)) (by rw [hE]; exact fnU_s (by rw [← hcE]; first | exact (if_pos c23).symm | exact (if_neg (by rw [c23]; decide)).symm))
          ·
            refine ja_iconst (v := nI 1) dX6_markConflicts_37 (by decide +kernel) ?_
            refine ja_goto (tgt := 42) dX6_markConflicts_38 (by decide) ?_
            refine ja_iaddN dX6_markConflicts_42 ?_
            refine ja_istore_n (i := 1) dX6_markConflicts_43 rfl rfl (Nat.le_of_ble_eq_true rfl) ?_
            refine ja_iincN dX6_markConflicts_44 rfl rfl (Nat.le_of_ble_eq_true rfl) ?_
            refine ja_goto (tgt := 4) dX6_markConflicts_47 (by decide) ?_
            refine ja_forget (i := 3) ?_
            exact ih4 (q + 1) _ _ (by omega) (by omega) (by rw [hn, fb_ct_succ, ← hcE]; first | (rw [c34]; done) | (rw [c34]; rfl) | (rw [c23]; rfl)) (by rw [hE]; exact fnU_s (by rw [← hcE]; first | exact (if_pos c23).symm | exact (if_neg (by rw [c23]; decide)).symm))
        ·
          refine ja_iconst (v := nI 0) dX6_markConflicts_26 (by decide +kernel) ?_
          refine ja_goto (tgt := 31) dX6_markConflicts_27 (by decide) ?_
          refine ja_iast (zV_a2 hv (v := v) (by omega)) rfl (by omega) (by decide) dX6_markConflicts_31 ?_
          refine ja_iload_n (i := 1) dX6_markConflicts_32 rfl rfl ?_
          refine ja_iload_n (i := 3) dX6_markConflicts_33 rfl rfl ?_
          refine ja_ifB_eq (tgt := 41) dX6_markConflicts_34 (by decide) (fun c34 => ?_) (fun c34 => ?_)
          ·
            refine ja_iconst (v := nI 0) dX6_markConflicts_41 (by decide +kernel) ?_
            refine ja_iaddN dX6_markConflicts_42 ?_
            refine ja_istore_n (i := 1) dX6_markConflicts_43 rfl rfl (Nat.le_of_ble_eq_true rfl) ?_
            refine ja_iincN dX6_markConflicts_44 rfl rfl (Nat.le_of_ble_eq_true rfl) ?_
            refine ja_goto (tgt := 4) dX6_markConflicts_47 (by decide) ?_
            refine ja_forget (i := 3) ?_
            exact ih4 (q + 1) _ _ (by omega) (by omega) (by rw [hn, fb_ct_succ, ← hcE]; first | (rw [c34]; done) | (rw [c34]; rfl) | (rw [c23]; rfl)) (by rw [hE]; exact fnU_s (by rw [← hcE]; first | exact (if_pos c23).symm | exact (if_neg (by rw [c23]; decide)).symm))
          ·
            refine ja_iconst (v := nI 1) dX6_markConflicts_37 (by decide +kernel) ?_
            refine ja_goto (tgt := 42) dX6_markConflicts_38 (by decide) ?_
            refine ja_iaddN dX6_markConflicts_42 ?_
            refine ja_istore_n (i := 1) dX6_markConflicts_43 rfl rfl (Nat.le_of_ble_eq_true rfl) ?_
            refine ja_iincN dX6_markConflicts_44 rfl rfl (Nat.le_of_ble_eq_true rfl) ?_
            refine ja_goto (tgt := 4) dX6_markConflicts_47 (by decide) ?_
            refine ja_forget (i := 3) ?_
            exact ih4 (q + 1) _ _ (by omega) (by omega) (by rw [hn, fb_ct_succ, ← hcE]; first | (rw [c34]; done) | (rw [c34]; rfl) | (rw [c23]; rfl)) (by rw [hE]; exact fnU_s (by rw [← hcE]; first | exact (if_pos c23).symm | exact (if_neg (by rw [c23]; decide)).symm))
  exact lp4 257 0 0 D (by omega) (by omega) rfl fnU_0

set_option maxRecDepth 100000 in
set_option maxHeartbeats 4000000 in
theorem c_rebase (l : Launch) {Z : jZ} {D : jD} (hx : zX Z) {vn v x y w h : Nat} {vl : Nat → Nat} (hv : zXv Z vn vl) (hvn : v < vn) (hb : vbx D v x y w h)  : ja_M l (mX6_rebase 0 0) [.ref (70 + 4 * v)] Z D (ja_jd none Z (fun D2 => D2 = ja_cp (ja_cp D (31 + 10 * vl v) 0 (73 + 4 * v) 0 256) (31 + 10 * vl v) 0 (71 + 4 * v) 0 256)) ja_x0 := by
  refine ja_Mof (lv := [some (.ref (70 + 4 * v))]) (by decide +kernel) rfl rfl (Nat.le_of_ble_eq_true rfl) rfl ?_
  refine ja_aload_n (i := 0) dX6_rebase_0 rfl rfl ?_
  refine ja_getR fl_X6_21 (zV_o hv (v := v) (by omega)) rfl (zV_p0 hv (v := v) (by omega)) dX6_rebase_1 ?_
  refine ja_getR fl_X6_38 (zL_o hx (l := vl v) (zV_l0 hv (v := v) (by omega))) rfl (zL_p0 hx (l := vl v) (zV_l0 hv (v := v) (by omega))) dX6_rebase_4 ?_
  refine ja_iconst (v := nI 0) dX6_rebase_7 (by decide +kernel) ?_
  refine ja_aload_n (i := 0) dX6_rebase_8 rfl rfl ?_
  refine ja_getR fl_X6_18 (zV_o hv (v := v) (by omega)) rfl (zV_p3 hv (v := v) (by omega)) dX6_rebase_9 ?_
  refine ja_iconst (v := nI 0) dX6_rebase_12 (by decide +kernel) ?_
  refine ja_sipush (v := nI 256) dX6_rebase_13 (by decide +kernel) ?_
  refine ja_copy lk_X6_41 ac_na ac_st ac_in (zL_a0 hx (l := vl v) (zV_l0 hv (v := v) (by omega))) (zV_a3 hv (v := v) (by omega)) rfl rfl rfl (by omega) (by omega) (by decide) (by decide) (Nat.le_of_ble_eq_true rfl) (Nat.le_of_ble_eq_true rfl) dX6_rebase_16 ?_
  refine ja_aload_n (i := 0) dX6_rebase_19 rfl rfl ?_
  refine ja_getR fl_X6_21 (zV_o hv (v := v) (by omega)) rfl (zV_p0 hv (v := v) (by omega)) dX6_rebase_20 ?_
  refine ja_getR fl_X6_38 (zL_o hx (l := vl v) (zV_l0 hv (v := v) (by omega))) rfl (zL_p0 hx (l := vl v) (zV_l0 hv (v := v) (by omega))) dX6_rebase_23 ?_
  refine ja_iconst (v := nI 0) dX6_rebase_26 (by decide +kernel) ?_
  refine ja_aload_n (i := 0) dX6_rebase_27 rfl rfl ?_
  refine ja_getR fl_X6_9 (zV_o hv (v := v) (by omega)) rfl (zV_p1 hv (v := v) (by omega)) dX6_rebase_28 ?_
  refine ja_iconst (v := nI 0) dX6_rebase_31 (by decide +kernel) ?_
  refine ja_sipush (v := nI 256) dX6_rebase_32 (by decide +kernel) ?_
  refine ja_copy lk_X6_41 ac_na ac_st ac_in (zL_a0 hx (l := vl v) (zV_l0 hv (v := v) (by omega))) (zV_a1 hv (v := v) (by omega)) rfl rfl rfl (by omega) (by omega) (by decide) (by decide) (Nat.le_of_ble_eq_true rfl) (Nat.le_of_ble_eq_true rfl) dX6_rebase_35 ?_
  refine ja_vret rfl dX6_rebase_38 (Nat.zero_le _) (Nat.zero_le _) ?_
  exact ⟨rfl, rfl, rfl⟩
