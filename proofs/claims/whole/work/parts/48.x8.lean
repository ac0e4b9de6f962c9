/-! THE CLASS: a rule -/
def xbQ (D : jD) (kd : Int32) (l1 l2 q : Nat) : Nat := if kd = nI 97 then xbS D l1 l2 q 0 + xbS D l1 l2 q 1 else xbA D kd l1 l2 q
def xbk (D : jD) (kd : Int32) (l1 l2 n : Nat) : Nat := fb_sm (xbQ D kd l1 l2) n

set_option maxRecDepth 100000 in
set_option maxHeartbeats 4000000 in
theorem c_breaks (l : Launch) {Z : jZ} {D : jD} (hx : zX Z) {n r : Nat} {fl sl : Nat → Nat} (hr : zXr Z n fl sl) (hrn : r < n) {kd : Int32} (hkd : D (60 + r) 0 = kd) : ja_M l (mX4_breaks 0 0) [.ref (60 + r)] Z D (ja_jr (some (.int (nI (xbk D kd (fl r) (sl r) 256)))) Z D) ja_x0 := by
  refine ja_Mof (lv := [some (.ref (60 + r)), none, none]) (by decide +kernel) rfl rfl (Nat.le_of_ble_eq_true rfl) rfl ?_
  refine ja_iconst (v := nI 0) dX4_breaks_0 (by decide +kernel) ?_
  refine ja_istore_n (i := 1) dX4_breaks_1 rfl rfl (Nat.le_of_ble_eq_true rfl) ?_
  refine ja_iconst (v := nI 0) dX4_breaks_2 (by decide +kernel) ?_
  refine ja_istore_n (i := 2) dX4_breaks_3 rfl rfl (Nat.le_of_ble_eq_true rfl) ?_
  have lp4 : ∀ (f4 : Nat) (q n : Nat), (256 < q + f4) → (q ≤ 256) → (n = xbk D kd (fl r) (sl r) q) → ja_A l (mX4_breaks 0 0) ja_sn (ja_Qf (mX4_breaks 0 0) (ja_jr (some (.int (nI (xbk D kd (fl r) (sl r) 256)))) Z D) ja_x0) 4 [some (.ref (60 + r)), some (.int (nI (n))), some (.int (nI (q)))] [] Z D 0 0 := by
    intro f4
    induction f4 with
    | zero => intro q n hf hq hn; exfalso; omega
    | succ f4 ih4 =>
      intro q n hf hq hn
      refine ja_iload_n (i := 2) dX4_breaks_4 rfl rfl ?_
      refine ja_sipush (v := nI 256) dX4_breaks_5 (by decide +kernel) ?_
      refine ja_icmpN_ge (tgt := 53) dX4_breaks_8 (by decide) (by omega) (by omega) (fun c8 => ?_) (fun c8 => ?_)
      ·
        refine ja_iload_n (i := 1) dX4_breaks_53 rfl rfl ?_
        refine ja_iret rfl rfl dX4_breaks_54 (Nat.zero_le _) (Nat.zero_le _) ?_
        exact ⟨by rw [hn, show q = 256 by omega], rfl, rfl⟩
      ·
        refine ja_aload_n (i := 0) dX4_breaks_11 rfl rfl ?_
        refine ja_getI fl_X4_9 (zR_o hr (r := r) (by omega)) rfl dX4_breaks_12 ?_
        refine ja_top (y := kd) hkd ?_
        refine ja_bipush (v := nI 97) dX4_breaks_15 (by decide +kernel) ?_
        refine ja_icmp_ne (tgt := 39) dX4_breaks_17 (by decide) (fun c17 => ?_) (fun c17 => ?_)
        ·
          refine ja_iload_n (i := 1) dX4_breaks_39 rfl rfl ?_
          refine ja_aload_n (i := 0) dX4_breaks_40 rfl rfl ?_
          refine ja_iload_n (i := 2) dX4_breaks_41 rfl rfl ?_
          refine ja_cVr (st := [.int (nI (n))]) (c_breaksAt (D := D) l hx hr (r := r) hrn (q := q) (kd := kd) (by omega) hkd) rfl rfl (ce_X4_breaksAt 0 0) im_X4_breaksAt se_X4_breaksAt lk_X4_26 k_X4 (zR_o hr (r := r) (by omega)) ⟨(Nat.le_of_ble_eq_true rfl), (Nat.le_of_ble_eq_true rfl)⟩ dX4_breaks_42 rfl rfl (Nat.le_of_ble_eq_true rfl) (Nat.zero_le _) (Nat.zero_le _) ?_
          refine ja_iaddN dX4_breaks_45 ?_
          refine ja_istore_n (i := 1) dX4_breaks_46 rfl rfl (Nat.le_of_ble_eq_true rfl) ?_
          refine ja_iincN dX4_breaks_47 rfl rfl (Nat.le_of_ble_eq_true rfl) ?_
          refine ja_goto (tgt := 4) dX4_breaks_50 (by decide) ?_
          exact ih4 (q + 1) _ (by omega) (by omega) (by rw [hn, xbk, xbk, fb_sm_succ, xbQ]; first | rw [if_pos (by assumption)] | rw [if_neg (by assumption)])
        ·
          refine ja_iload_n (i := 1) dX4_breaks_20 rfl rfl ?_
          refine ja_aload_n (i := 0) dX4_breaks_21 rfl rfl ?_
          refine ja_iload_n (i := 2) dX4_breaks_22 rfl rfl ?_
          refine ja_iconst (v := nI 0) dX4_breaks_23 (by decide +kernel) ?_
          refine ja_cVr (st := [.int (nI (n))]) (c_breaksAlong (D := D) l hx hr (r := r) hrn (q := q) (s := 0) (by omega) (by omega)) rfl rfl (ce_X4_breaksAlong 0 0) im_X4_breaksAlong se_X4_breaksAlong lk_X4_22 k_X4 (zR_o hr (r := r) (by omega)) ⟨(Nat.le_of_ble_eq_true rfl), (Nat.le_of_ble_eq_true rfl)⟩ dX4_breaks_24 rfl rfl (Nat.le_of_ble_eq_true rfl) (Nat.zero_le _) (Nat.zero_le _) ?_
          refine ja_aload_n (i := 0) dX4_breaks_27 rfl rfl ?_
          refine ja_iload_n (i := 2) dX4_breaks_28 rfl rfl ?_
          refine ja_iconst (v := nI 1) dX4_breaks_29 (by decide +kernel) ?_
          refine ja_cVr (st := [.int (nI (xbS D (fl r) (sl r) q 0)), .int (nI (n))]) (c_breaksAlong (D := D) l hx hr (r := r) hrn (q := q) (s := 1) (by omega) (by omega)) rfl rfl (ce_X4_breaksAlong 0 0) im_X4_breaksAlong se_X4_breaksAlong lk_X4_22 k_X4 (zR_o hr (r := r) (by omega)) ⟨(Nat.le_of_ble_eq_true rfl), (Nat.le_of_ble_eq_true rfl)⟩ dX4_breaks_30 rfl rfl (Nat.le_of_ble_eq_true rfl) (Nat.zero_le _) (Nat.zero_le _) ?_
          refine ja_iaddN dX4_breaks_33 ?_
          refine ja_iaddN dX4_breaks_34 ?_
          refine ja_istore_n (i := 1) dX4_breaks_35 rfl rfl (Nat.le_of_ble_eq_true rfl) ?_
          refine ja_goto (tgt := 47) dX4_breaks_36 (by decide) ?_
          refine ja_iincN dX4_breaks_47 rfl rfl (Nat.le_of_ble_eq_true rfl) ?_
          refine ja_goto (tgt := 4) dX4_breaks_50 (by decide) ?_
          exact ih4 (q + 1) _ (by omega) (by omega) (by rw [hn, xbk, xbk, fb_sm_succ, xbQ]; first | rw [if_pos (by assumption)] | rw [if_neg (by assumption)])
  exact lp4 257 0 0 (by omega) (by omega) rfl
