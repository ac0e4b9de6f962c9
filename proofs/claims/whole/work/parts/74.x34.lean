/-! THE CLASS: isSound -/
def ofO (D E : jD) : Prop := ∀ a b, ¬ (5 ≤ a ∧ a ≤ 10) → E a b = D a b
def szX (D : jD) : Prop := ∀ ly, ly < 3 → ∀ a, a < 10 → D (32 + 10 * ly) a = nI (fb_ct (fun q => decide (D (31 + 10 * ly) q = nI a)) 256)
theorem ofO_f {D E : jD} (h : ofO D E) {a : Nat} (ha : ¬ (5 ≤ a ∧ a ≤ 10)) : E a = D a := funext fun b => h a b ha
theorem wfX_f {D E : jD} (h : ofO D E) (hw : wfX D) : wfX E := fun ly hly => by
  rw [ofO_f h (by omega)]; exact hw ly hly
theorem szX_f {D E : jD} (h : ofO D E) (hw : szX D) : szX E := fun ly hly => by
  rw [ofO_f h (by omega), ofO_f h (by omega)]; exact hw ly hly

set_option maxRecDepth 100000 in
set_option maxHeartbeats 4000000 in
theorem c_isSound (l : Launch) {Z : jZ} {D : jD} (hx : zX Z) {wv sa : Nat → Nat → Nat} {ins : Bool} {tn : Nat} (hwf : wfX D) (hsz : szX D) (hwv : ∀ ly, ly < 3 → ∀ a, a < 10 → D (33 + 10 * ly) a = nI (wv ly a) ∧ wv ly a < 2 ^ 31) (hsa : ∀ ly, ly < 3 → ∀ a, a < 10 → D (32 + 10 * ly) a = nI (sa ly a) ∧ sa ly a ≤ 256) (hz0 : ∀ ly, ly < 3 → ∀ a, a < 10 → sa ly a = 0 → wv ly a = 0) (hin : D 0 7 = bI ins) (hnow : D 0 6 = nI tn) (htn : tn ≤ 40) (hst : ins = false → ∀ ly, ly < 3 → ∀ q, q < 256 → D (31 + 10 * ly) q = D (36 + 10 * ly) (tn * 256 + q)) : ja_M l (mX7_isSound 0 0) [.ref (0)] Z D (ja_jd (some (.int (bI true))) Z (fun D2 => ofO D D2)) ja_x0 := by
  refine ja_Mof (lv := [some (.ref (0)), none, none]) (by decide +kernel) rfl rfl (Nat.le_of_ble_eq_true rfl) rfl ?_
  refine ja_iconst (v := nI 0) dX7_isSound_0 (by decide +kernel) ?_
  refine ja_istore_n (i := 1) dX7_isSound_1 rfl rfl (Nat.le_of_ble_eq_true rfl) ?_
  have lp2 : ∀ (f2 : Nat) (i : Nat) (E : jD), (3 < i + f2) → (i ≤ 3) → (ofO D E) → ja_A l (mX7_isSound 0 0) ja_sn (ja_Qf (mX7_isSound 0 0) (ja_jd (some (.int (bI true))) Z (fun D2 => ofO D D2)) ja_x0) 2 [some (.ref (0)), some (.int (nI (i))), none] [] Z E 0 0 := by
    intro f2
    induction f2 with
    | zero => intro i E hf hi hE; exfalso; omega
    | succ f2 ih2 =>
      intro i E hf hi hE
      refine ja_iload_n (i := 1) dX7_isSound_2 rfl rfl ?_
      refine ja_iconst (v := nI 3) dX7_isSound_3 (by decide +kernel) ?_
      refine ja_icmpN_ge (tgt := 39) dX7_isSound_4 (by decide) (by omega) (by omega) (fun c4 => ?_) (fun c4 => ?_)
      ·
        refine ja_iconst (v := nI 0) dX7_isSound_39 (by decide +kernel) ?_
        refine ja_istore_n (i := 1) dX7_isSound_40 rfl rfl (Nat.le_of_ble_eq_true rfl) ?_
        have lp41 : ∀ (f41 : Nat) (i : Nat), (3 < i + f41) → (i ≤ 3) → ja_A l (mX7_isSound 0 0) ja_sn (ja_Qf (mX7_isSound 0 0) (ja_jd (some (.int (bI true))) Z (fun D2 => ofO D D2)) ja_x0) 41 [some (.ref (0)), some (.int (nI (i))), none] [] Z E 0 0 := by
          intro f41
          induction f41 with
          | zero => intro i hf hi; exfalso; omega
          | succ f41 ih41 =>
            intro i hf hi
            refine ja_iload_n (i := 1) dX7_isSound_41 rfl rfl ?_
            refine ja_iconst (v := nI 3) dX7_isSound_42 (by decide +kernel) ?_
            refine ja_icmpN_ge (tgt := 85) dX7_isSound_43 (by decide) (by omega) (by omega) (fun c43 => ?_) (fun c43 => ?_)
            ·
              refine ja_iconst (v := nI 1) dX7_isSound_85 (by decide +kernel) ?_
              refine ja_iret rfl (by decide +kernel) dX7_isSound_86 (Nat.zero_le _) (Nat.zero_le _) ?_
              exact ⟨rfl, rfl, hE⟩
            ·
              refine ja_aload_n (i := 0) dX7_isSound_46 rfl rfl ?_
              refine ja_iload_n (i := 1) dX7_isSound_47 rfl rfl ?_
              refine ja_cVr (st := []) (c_layerOf (D := E) l hx (ly := i) (by omega)) rfl rfl (ce_X7_layerOf 0 0) im_X7_layerOf se_X7_layerOf lk_X7_93 k_X7 (zX_o0 hx) ⟨(Nat.le_of_ble_eq_true rfl), (Nat.le_of_ble_eq_true rfl)⟩ dX7_isSound_48 rfl rfl (Nat.le_of_ble_eq_true rfl) (Nat.zero_le _) (Nat.zero_le _) ?_
              refine ja_astore_n (i := 2) dX7_isSound_51 rfl rfl (Nat.le_of_ble_eq_true rfl) ?_
              refine ja_aload_n (i := 2) dX7_isSound_52 rfl rfl ?_
              refine ja_cVr (st := []) (c_hasSoundWorths (D := E) l hx (ly := i) (by omega) (w := wv i) (sa := sa i) (fun a ha => by rw [ofO_f hE (by omega)]; exact hwv i (by omega) a ha) (fun a ha => by rw [ofO_f hE (by omega)]; exact hsa i (by omega) a ha) (hz0 i (by omega))) rfl rfl (ce_X1_hasSoundWorths 0 0) im_X1_hasSoundWorths se_X1_hasSoundWorths lk_X7_319 k_X1 (zL_o hx (l := i) (by omega)) ⟨(Nat.le_of_ble_eq_true rfl), (Nat.le_of_ble_eq_true rfl)⟩ dX7_isSound_53 rfl rfl (Nat.le_of_ble_eq_true rfl) (Nat.zero_le _) (Nat.zero_le _) ?_
              refine ja_ifB_eq (tgt := 77) dX7_isSound_56 (by decide) (fun c56 => absurd c56 (by decide)) (fun c56 => ?_)
              refine ja_aload_n (i := 0) dX7_isSound_59 rfl rfl ?_
              refine ja_getI fl_X7_67 (zX_o0 hx) rfl dX7_isSound_60 ?_
              refine ja_top (y := bI (ins)) (by rw [ofO_f hE (by omega)]; exact hin) ?_
              refine ja_ifB_ne (tgt := 79) dX7_isSound_63 (by decide) (fun c63 => ?_) (fun c63 => ?_)
              ·
                refine ja_iincN dX7_isSound_79 rfl rfl (Nat.le_of_ble_eq_true rfl) ?_
                refine ja_goto (tgt := 41) dX7_isSound_82 (by decide) ?_
                refine ja_forget (i := 2) ?_
                exact ih41 (i + 1) (by omega) (by omega)
              ·
                refine ja_aload_n (i := 2) dX7_isSound_66 rfl rfl ?_
                refine ja_aload_n (i := 0) dX7_isSound_67 rfl rfl ?_
                refine ja_getI fl_X7_71 (zX_o0 hx) rfl dX7_isSound_68 ?_
                refine ja_top (y := nI (tn)) (by rw [ofO_f hE (by omega)]; exact hnow) ?_
                refine ja_cVr (st := []) (c_isAsStored (D := E) l hx (ly := i) (by omega) (t := tn) (by omega) (fun q hq => by rw [ofO_f hE (by omega), ofO_f hE (by omega)]; exact hst c63 i (by omega) q hq)) rfl rfl (ce_X1_isAsStored 0 0) im_X1_isAsStored se_X1_isAsStored lk_X7_323 k_X1 (zL_o hx (l := i) (by omega)) ⟨(Nat.le_of_ble_eq_true rfl), (Nat.le_of_ble_eq_true rfl)⟩ dX7_isSound_71 rfl rfl (Nat.le_of_ble_eq_true rfl) (Nat.zero_le _) (Nat.zero_le _) ?_
                refine ja_ifB_ne (tgt := 79) dX7_isSound_74 (by decide) (fun c74 => ?_) (fun c74 => absurd c74 (by decide))
                refine ja_iincN dX7_isSound_79 rfl rfl (Nat.le_of_ble_eq_true rfl) ?_
                refine ja_goto (tgt := 41) dX7_isSound_82 (by decide) ?_
                refine ja_forget (i := 2) ?_
                exact ih41 (i + 1) (by omega) (by omega)
        exact lp41 4 0 (by omega) (by omega)
      ·
        refine ja_iload_n (i := 1) dX7_isSound_7 rfl rfl ?_
        refine ja_iconst (v := nI 1) dX7_isSound_8 (by decide +kernel) ?_
        refine ja_iaddN dX7_isSound_9 ?_
        refine ja_istore_n (i := 2) dX7_isSound_10 rfl rfl (Nat.le_of_ble_eq_true rfl) ?_
        have lp11 : ∀ (f11 : Nat) (j : Nat) (E : jD), (3 < j + f11) → (j ≤ 3) → (i < 3) → (ofO D E) → ja_A l (mX7_isSound 0 0) ja_sn (ja_Qf (mX7_isSound 0 0) (ja_jd (some (.int (bI true))) Z (fun D2 => ofO D D2)) ja_x0) 11 [some (.ref (0)), some (.int (nI (i))), some (.int (nI (j)))] [] Z E 0 0 := by
          intro f11
          induction f11 with
          | zero => intro j E hf hj hi3 hE; exfalso; omega
          | succ f11 ih11 =>
            intro j E hf hj hi3 hE
            refine ja_iload_n (i := 2) dX7_isSound_11 rfl rfl ?_
            refine ja_iconst (v := nI 3) dX7_isSound_12 (by decide +kernel) ?_
            refine ja_icmpN_ge (tgt := 33) dX7_isSound_13 (by decide) (by omega) (by omega) (fun c13 => ?_) (fun c13 => ?_)
            ·
              refine ja_iincN dX7_isSound_33 rfl rfl (Nat.le_of_ble_eq_true rfl) ?_
              refine ja_goto (tgt := 2) dX7_isSound_36 (by decide) ?_
              refine ja_forget (i := 2) ?_
              exact ih2 (i + 1) E (by omega) (by omega) hE
            ·
              refine ja_aload_n (i := 0) dX7_isSound_16 rfl rfl ?_
              refine ja_iload_n (i := 1) dX7_isSound_17 rfl rfl ?_
              refine ja_iload_n (i := 2) dX7_isSound_18 rfl rfl ?_
              refine ja_cVd (st := []) (c_addsUp (D := E) l hx (wfX_f hE hwf) (szX_f hE hsz) (l1 := i) (l2 := j) (by omega) (by omega)) rfl rfl (ce_X7_addsUp 0 0) im_X7_addsUp se_X7_addsUp lk_X7_315 k_X7 (zX_o0 hx) ⟨(Nat.le_of_ble_eq_true rfl), (Nat.le_of_ble_eq_true rfl)⟩ dX7_isSound_19 rfl rfl (Nat.le_of_ble_eq_true rfl) (Nat.zero_le _) (Nat.zero_le _) ?_
              intro E2 hE2
              have hE2 : ofO D E2 := fun a b hab => (hE2.1 a b hab).trans (hE a b hab)
              refine ja_ifB_ne (tgt := 27) dX7_isSound_22 (by decide) (fun c22 => ?_) (fun c22 => absurd c22 (by decide))
              refine ja_iincN dX7_isSound_27 rfl rfl (Nat.le_of_ble_eq_true rfl) ?_
              refine ja_goto (tgt := 11) dX7_isSound_30 (by decide) ?_
              exact ih11 (j + 1) E2 (by omega) (by omega) (by omega) hE2
        exact lp11 (3 + 1 - i) (i + 1) E (by omega) (by omega) (by omega) hE
  exact lp2 4 0 D (by omega) (by omega) (fun _ _ _ => rfl)
