/-! THE CLASS: its calls, 2 -/
set_option maxRecDepth 100000 in
set_option maxHeartbeats 4000000 in
theorem c_begin_f1 (l : Launch) {Z : jZ} {D : jD} (hx : zX Z) {w : Int32} (hw : ¬ (nI 0 ≤ w ∧ w ≤ nI 5)) : ja_M l (mX7_begin 1 6) [.ref (0), .int (w)] Z D ja_r0 (ja_jx "java/lang/IllegalArgumentException" Z D) := by
  refine ja_Mof (lv := [some (.ref (0)), some (.int (w)), none]) (by decide +kernel) rfl rfl (Nat.le_of_ble_eq_true rfl) rfl ?_
  refine ja_iload_n (i := 1) dX7_begin_0 rfl rfl ?_
  refine ja_if_lt (tgt := 10) dX7_begin_1 (by decide) (fun c1 => ?_) (fun c1 => ?_)
  ·
    refine ja_throw ts_X7_60_62_64 rfl dX7_begin_10 dX7_begin_13 dX7_begin_14 dX7_begin_16 dX7_begin_19 (Nat.le_of_ble_eq_true rfl) (Nat.le_of_ble_eq_true rfl) (Nat.le_of_ble_eq_true rfl) (Nat.le_of_ble_eq_true rfl) ?_
    exact ⟨rfl, rfl, rfl⟩
  ·
    refine ja_iload_n (i := 1) dX7_begin_4 rfl rfl ?_
    refine ja_bipush (v := nI 6) dX7_begin_5 (by decide +kernel) ?_
    refine ja_icmp_lt (tgt := 20) dX7_begin_7 (by decide) (fun c7 => ?_) (fun c7 => ?_)
    ·
      exact absurd (bnd (by decide) c1 (Int32.not_le.mpr c7)) hw
    ·
      refine ja_throw ts_X7_60_62_64 rfl dX7_begin_10 dX7_begin_13 dX7_begin_14 dX7_begin_16 dX7_begin_19 (Nat.le_of_ble_eq_true rfl) (Nat.le_of_ble_eq_true rfl) (Nat.le_of_ble_eq_true rfl) (Nat.le_of_ble_eq_true rfl) ?_
      exact ⟨rfl, rfl, rfl⟩

set_option maxRecDepth 100000 in
set_option maxHeartbeats 4000000 in
theorem c_begin_f2 (l : Launch) {Z : jZ} {D : jD} (hx : zX Z) (hin : D 0 7 = bI true) {w : Nat} (hw : w ≤ 5) : ja_M l (mX7_begin 1 6) [.ref (0), .int (nI (w))] Z D ja_r0 (ja_jx "java/lang/IllegalStateException" Z D) := by
  refine ja_Mof (lv := [some (.ref (0)), some (.int (nI (w))), none]) (by decide +kernel) rfl rfl (Nat.le_of_ble_eq_true rfl) rfl ?_
  refine ja_iload_n (i := 1) dX7_begin_0 rfl rfl ?_
  refine ja_ifN_lt dX7_begin_1 (tgt := 10) (by decide) (by omega) ?_
  refine ja_iload_n (i := 1) dX7_begin_4 rfl rfl ?_
  refine ja_bipush (v := nI 6) dX7_begin_5 (by decide +kernel) ?_
  refine ja_icmpN_lt (tgt := 20) dX7_begin_7 (by decide) (by omega) (by omega) (fun c7 => ?_) (fun c7 => (by exfalso; omega))
  refine ja_aload_n (i := 0) dX7_begin_20 rfl rfl ?_
  refine ja_getI fl_X7_67 (zX_o0 hx) rfl dX7_begin_21 ?_
  refine ja_top (y := bI (true)) hin ?_
  refine ja_ifB_ne (tgt := 36) dX7_begin_24 (by decide) (fun c24 => ?_) (fun c24 => absurd c24 (by decide))
  refine ja_throw ts_X7_75_77_79 rfl dX7_begin_36 dX7_begin_39 dX7_begin_40 dX7_begin_42 dX7_begin_45 (Nat.le_of_ble_eq_true rfl) (Nat.le_of_ble_eq_true rfl) (Nat.le_of_ble_eq_true rfl) (Nat.le_of_ble_eq_true rfl) ?_
  exact ⟨rfl, rfl, rfl⟩

set_option maxRecDepth 100000 in
set_option maxHeartbeats 4000000 in
theorem c_begin_f2b (l : Launch) {Z : jZ} {D : jD} (hx : zX Z) (hin : D 0 7 = bI false) (hnow : D 0 6 = nI 40) {w : Nat} (hw : w ≤ 5) : ja_M l (mX7_begin 1 6) [.ref (0), .int (nI (w))] Z D ja_r0 (ja_jx "java/lang/IllegalStateException" Z D) := by
  refine ja_Mof (lv := [some (.ref (0)), some (.int (nI (w))), none]) (by decide +kernel) rfl rfl (Nat.le_of_ble_eq_true rfl) rfl ?_
  refine ja_iload_n (i := 1) dX7_begin_0 rfl rfl ?_
  refine ja_ifN_lt dX7_begin_1 (tgt := 10) (by decide) (by omega) ?_
  refine ja_iload_n (i := 1) dX7_begin_4 rfl rfl ?_
  refine ja_bipush (v := nI 6) dX7_begin_5 (by decide +kernel) ?_
  refine ja_icmpN_lt (tgt := 20) dX7_begin_7 (by decide) (by omega) (by omega) (fun c7 => ?_) (fun c7 => (by exfalso; omega))
  refine ja_aload_n (i := 0) dX7_begin_20 rfl rfl ?_
  refine ja_getI fl_X7_67 (zX_o0 hx) rfl dX7_begin_21 ?_
  refine ja_top (y := bI (false)) hin ?_
  refine ja_ifB_ne (tgt := 36) dX7_begin_24 (by decide) (fun c24 => absurd c24 (by decide)) (fun c24 => ?_)
  refine ja_aload_n (i := 0) dX7_begin_27 rfl rfl ?_
  refine ja_getI fl_X7_71 (zX_o0 hx) rfl dX7_begin_28 ?_
  refine ja_top (y := nI (40)) hnow ?_
  refine ja_bipush (v := nI 40) dX7_begin_31 (by decide +kernel) ?_
  refine ja_icmpN_lt (tgt := 46) dX7_begin_33 (by decide) (by omega) (by omega) (fun c33 => absurd c33 (by decide)) (fun c33 => ?_)
  refine ja_throw ts_X7_75_77_79 rfl dX7_begin_36 dX7_begin_39 dX7_begin_40 dX7_begin_42 dX7_begin_45 (Nat.le_of_ble_eq_true rfl) (Nat.le_of_ble_eq_true rfl) (Nat.le_of_ble_eq_true rfl) (Nat.le_of_ble_eq_true rfl) ?_
  exact ⟨rfl, rfl, rfl⟩

def rsU (X : jD) : Nat → jD
  | 0 => X
  | n + 1 => ja_up (rsU X n) (60 + n) 3 0
def wcU (X : jD) : Nat → jD
  | 0 => X
  | n + 1 => ja_cp (wcU X n) (33 + 10 * n) 0 (35 + 10 * n) 0 10
def kpU (X : jD) (t : Nat) : Nat → jD
  | 0 => X
  | n + 1 => ja_cp (kpU X t n) (31 + 10 * n) 0 (36 + 10 * n) (t * 256) 256
theorem rsU_o {X : jD} {a b : Nat} (h : ¬ (60 ≤ a ∧ a < 70 ∧ b = 3)) : ∀ {n}, n ≤ 6 → rsU X n a b = X a b
  | 0, _ => rfl
  | n + 1, hn => by rw [rsU, up_n (by omega)]; exact rsU_o h (by omega)
theorem wcU_o {X : jD} {a b : Nat} (h : ¬ (a = 35 ∨ a = 45 ∨ a = 55)) : ∀ {n}, n ≤ 3 → wcU X n a b = X a b
  | 0, _ => rfl
  | n + 1, hn => by rw [wcU, ja_cp, if_neg (by omega)]; exact wcU_o h (by omega)
theorem kpU_o {X : jD} {t a b : Nat} (h : ¬ (a = 36 ∨ a = 46 ∨ a = 56)) : ∀ {n}, n ≤ 3 → kpU X t n a b = X a b
  | 0, _ => rfl
  | n + 1, hn => by rw [kpU, ja_cp, if_neg (by omega)]; exact kpU_o h (by omega)

set_option maxRecDepth 100000 in
set_option maxHeartbeats 4000000 in
theorem c_begin_ok (l : Launch) {Z : jZ} {D : jD} (hx : zX Z) {n : Nat} {fl sl : Nat → Nat} (hr : zXr Z n fl sl) (hn6 : n ≤ 6) (hrn : D 0 4 = nI n) (hin : D 0 7 = bI false) {tn : Nat} (hnow : D 0 6 = nI tn) (htn : tn < 40) {w : Nat} (hw : w ≤ 5) : ja_M l (mX7_begin 0 0) [.ref (0), .int (nI (w))] Z D (ja_jd (some (.int (nI tn))) Z (fun D2 => D2 = wcU (rsU (ja_up (ja_up D 0 7 (nI 1)) 0 8 (nI w)) n) 3)) ja_x0 := by
  refine ja_Mof (lv := [some (.ref (0)), some (.int (nI (w))), none]) (by decide +kernel) rfl rfl (Nat.le_of_ble_eq_true rfl) rfl ?_
  refine ja_iload_n (i := 1) dX7_begin_0 rfl rfl ?_
  refine ja_ifN_lt dX7_begin_1 (tgt := 10) (by decide) (by omega) ?_
  refine ja_iload_n (i := 1) dX7_begin_4 rfl rfl ?_
  refine ja_bipush (v := nI 6) dX7_begin_5 (by decide +kernel) ?_
  refine ja_icmpN_lt (tgt := 20) dX7_begin_7 (by decide) (by omega) (by omega) (fun c7 => ?_) (fun c7 => (by exfalso; omega))
  refine ja_aload_n (i := 0) dX7_begin_20 rfl rfl ?_
  refine ja_getI fl_X7_67 (zX_o0 hx) rfl dX7_begin_21 ?_
  refine ja_top (y := bI (false)) hin ?_
  refine ja_ifB_ne (tgt := 36) dX7_begin_24 (by decide) (fun c24 => absurd c24 (by decide)) (fun c24 => ?_)
  refine ja_aload_n (i := 0) dX7_begin_27 rfl rfl ?_
  refine ja_getI fl_X7_71 (zX_o0 hx) rfl dX7_begin_28 ?_
  refine ja_top (y := nI (tn)) hnow ?_
  refine ja_bipush (v := nI 40) dX7_begin_31 (by decide +kernel) ?_
  refine ja_icmpN_lt (tgt := 46) dX7_begin_33 (by decide) (by omega) (by omega) (fun c33 => ?_) (fun c33 => (by exfalso; omega))
  refine ja_aload_n (i := 0) dX7_begin_46 rfl rfl ?_
  refine ja_iconst (v := nI 1) dX7_begin_47 (by decide +kernel) ?_
  refine ja_putI fl_X7_67 (zX_o0 hx) rfl (by decide +kernel) (by decide +kernel) dX7_begin_48 ?_
  refine ja_aload_n (i := 0) dX7_begin_51 rfl rfl ?_
  refine ja_iload_n (i := 1) dX7_begin_52 rfl rfl ?_
  refine ja_putI fl_X7_80 (zX_o0 hx) rfl rfl rfl dX7_begin_53 ?_
  refine ja_iconst (v := nI 0) dX7_begin_56 (by decide +kernel) ?_
  refine ja_istore_n (i := 2) dX7_begin_57 rfl rfl (Nat.le_of_ble_eq_true rfl) ?_
  have lp58 : ∀ (f58 : Nat) (k : Nat) (E : jD), (n < k + f58) → (k ≤ n) → (E = rsU (ja_up (ja_up D 0 7 (nI 1)) 0 8 (nI w)) k) → ja_A l (mX7_begin 0 0) ja_sn (ja_Qf (mX7_begin 0 0) (ja_jd (some (.int (nI tn))) Z (fun D2 => D2 = wcU (rsU (ja_up (ja_up D 0 7 (nI 1)) 0 8 (nI w)) n) 3)) ja_x0) 58 [some (.ref (0)), some (.int (nI (w))), some (.int (nI (k)))] [] Z E 0 0 := by
    intro f58
    induction f58 with
    | zero => intro k E hf hk hE; exfalso; omega
    | succ f58 ih58 =>
      intro k E hf hk hE
      refine ja_iload_n (i := 2) dX7_begin_58 rfl rfl ?_
      refine ja_aload_n (i := 0) dX7_begin_59 rfl rfl ?_
      refine ja_getI fl_X7_83 (zX_o0 hx) rfl dX7_begin_60 ?_
      refine ja_top (y := nI (n)) (by rw [hE, rsU_o (by omega) (by omega), up_n (by omega), up_n (by omega)]; exact hrn) ?_
      refine ja_icmpN_ge (tgt := 81) dX7_begin_63 (by decide) (by omega) (by omega) (fun c63 => ?_) (fun c63 => ?_)
      ·
        refine ja_iconst (v := nI 0) dX7_begin_81 (by decide +kernel) ?_
        refine ja_istore_n (i := 2) dX7_begin_82 rfl rfl (Nat.le_of_ble_eq_true rfl) ?_
        have lp83 : ∀ (f83 : Nat) (k : Nat) (E2 : jD), (3 < k + f83) → (k ≤ 3) → (E2 = wcU (rsU (ja_up (ja_up D 0 7 (nI 1)) 0 8 (nI w)) n) k) → ja_A l (mX7_begin 0 0) ja_sn (ja_Qf (mX7_begin 0 0) (ja_jd (some (.int (nI tn))) Z (fun D2 => D2 = wcU (rsU (ja_up (ja_up D 0 7 (nI 1)) 0 8 (nI w)) n) 3)) ja_x0) 83 [some (.ref (0)), some (.int (nI (w))), some (.int (nI (k)))] [] Z E2 0 0 := by
          intro f83
          induction f83 with
          | zero => intro k E2 hf hk hE2; exfalso; omega
          | succ f83 ih83 =>
            intro k E2 hf hk hE2
            refine ja_iload_n (i := 2) dX7_begin_83 rfl rfl ?_
            refine ja_iconst (v := nI 3) dX7_begin_84 (by decide +kernel) ?_
            refine ja_icmpN_ge (tgt := 102) dX7_begin_85 (by decide) (by omega) (by omega) (fun c85 => ?_) (fun c85 => ?_)
            ·
              refine ja_aload_n (i := 0) dX7_begin_102 rfl rfl ?_
              refine ja_getI fl_X7_71 (zX_o0 hx) rfl dX7_begin_103 ?_
              refine ja_top (y := nI (tn)) (by rw [hE2, wcU_o (by omega) (by omega), rsU_o (by omega) (by omega), up_n (by omega), up_n (by omega)]; exact hnow) ?_
              refine ja_iret rfl rfl dX7_begin_106 (Nat.zero_le _) (Nat.zero_le _) ?_
              exact ⟨rfl, rfl, by rw [hE2, show k = 3 by omega]⟩
            ·
              refine ja_aload_n (i := 0) dX7_begin_88 rfl rfl ?_
              refine ja_iload_n (i := 2) dX7_begin_89 rfl rfl ?_
              refine ja_cVr (st := []) (c_layerOf (D := E2) l hx (ly := k) (by omega)) rfl rfl (ce_X7_layerOf 0 0) im_X7_layerOf se_X7_layerOf lk_X7_93 k_X7 (zX_o0 hx) ⟨(Nat.le_of_ble_eq_true rfl), (Nat.le_of_ble_eq_true rfl)⟩ dX7_begin_90 rfl rfl (Nat.le_of_ble_eq_true rfl) (Nat.zero_le _) (Nat.zero_le _) ?_
              refine ja_cVd0 (st := []) (c_rememberWorths (D := E2) l hx (ly := k) (by omega)) rfl rfl (ce_X1_rememberWorths 0 0) im_X1_rememberWorths se_X1_rememberWorths lk_X7_97 k_X1 (zL_o hx (l := k) (by omega)) ⟨(Nat.le_of_ble_eq_true rfl), (Nat.le_of_ble_eq_true rfl)⟩ dX7_begin_93 rfl rfl (Nat.le_of_ble_eq_true rfl) (Nat.zero_le _) (Nat.zero_le _) ?_
              intro D93 hD93
              subst hD93
              refine ja_iincN dX7_begin_96 rfl rfl (Nat.le_of_ble_eq_true rfl) ?_
              refine ja_goto (tgt := 83) dX7_begin_99 (by decide) ?_
              exact ih83 (k + 1) _ (by omega) (by omega) (by rw [hE2]; rfl)
        exact lp83 4 0 _ (by omega) (by omega) (by rw [hE, show k = n by omega]; rfl)
      ·
        refine ja_aload_n (i := 0) dX7_begin_66 rfl rfl ?_
        refine ja_iload_n (i := 2) dX7_begin_67 rfl rfl ?_
        refine ja_cVr (st := []) (c_ruleOf (D := E) l hx hr hn6 (r := k) (by omega)) rfl rfl (ce_X7_ruleOf 0 0) im_X7_ruleOf se_X7_ruleOf lk_X7_86 k_X7 (zX_o0 hx) ⟨(Nat.le_of_ble_eq_true rfl), (Nat.le_of_ble_eq_true rfl)⟩ dX7_begin_68 rfl rfl (Nat.le_of_ble_eq_true rfl) (Nat.zero_le _) (Nat.zero_le _) ?_
        refine ja_iconst (v := nI 0) dX7_begin_71 (by decide +kernel) ?_
        refine ja_putI fl_X7_90 (zR_o hr (r := k) (by omega)) rfl (by decide +kernel) (by decide +kernel) dX7_begin_72 ?_
        refine ja_iincN dX7_begin_75 rfl rfl (Nat.le_of_ble_eq_true rfl) ?_
        refine ja_goto (tgt := 58) dX7_begin_78 (by decide) ?_
        exact ih58 (k + 1) _ (by omega) (by omega) (by rw [hE]; rfl)
  exact lp58 (n + 1) 0 _ (by omega) (by omega) rfl

set_option maxRecDepth 100000 in
set_option maxHeartbeats 4000000 in
theorem c_setValue_f1 (l : Launch) {Z : jZ} {D : jD} (hx : zX Z) {ly : Int32} (a nx : Int32) (hl : ¬ (nI 0 ≤ ly ∧ ly ≤ nI 2))  : ja_M l (mX7_setValue 1 6) [.ref (0), .int (ly), .int (a), .int (nx)] Z D ja_r0 (ja_jx "java/lang/IndexOutOfBoundsException" Z D) := by
  refine ja_Mof (lv := [some (.ref (0)), some (.int (ly)), some (.int (a)), some (.int (nx)), none, none]) (by decide +kernel) rfl rfl (Nat.le_of_ble_eq_true rfl) rfl ?_
  refine ja_aload_n (i := 0) dX7_setValue_0 rfl rfl ?_
  refine ja_iload_n (i := 1) dX7_setValue_1 rfl rfl ?_
  refine ja_cVx (st := []) (c_layerOf_x (D := D) l hx hl) (ce_X7_layerOf 1 6) im_X7_layerOf se_X7_layerOf lk_X7_93 k_X7 (zX_o0 hx) ⟨(Nat.le_of_ble_eq_true rfl), (Nat.le_of_ble_eq_true rfl)⟩ dX7_setValue_2 rfl rfl (Nat.le_of_ble_eq_true rfl) (Nat.le_of_ble_eq_true rfl) (Nat.le_of_ble_eq_true rfl) ?_
  refine ja_out rfl (Nat.le_of_ble_eq_true rfl) (Nat.le_of_ble_eq_true rfl) ?_
  exact ⟨rfl, rfl, rfl⟩

set_option maxRecDepth 100000 in
set_option maxHeartbeats 4000000 in
theorem c_setValue_f2 (l : Launch) {Z : jZ} {D : jD} (hx : zX Z) {ly : Nat} (h1 : ly < 3) {a : Int32} (nx : Int32) (ha : ¬ (nI 0 ≤ a ∧ a ≤ nI 9))  : ja_M l (mX7_setValue 1 6) [.ref (0), .int (nI (ly)), .int (a), .int (nx)] Z D ja_r0 (ja_jx "java/lang/IllegalArgumentException" Z D) := by
  refine ja_Mof (lv := [some (.ref (0)), some (.int (nI (ly))), some (.int (a)), some (.int (nx)), none, none]) (by decide +kernel) rfl rfl (Nat.le_of_ble_eq_true rfl) rfl ?_
  refine ja_aload_n (i := 0) dX7_setValue_0 rfl rfl ?_
  refine ja_iload_n (i := 1) dX7_setValue_1 rfl rfl ?_
  refine ja_cVr (st := []) (c_layerOf (D := D) l hx (ly := ly) (by omega)) rfl rfl (ce_X7_layerOf 0 0) im_X7_layerOf se_X7_layerOf lk_X7_93 k_X7 (zX_o0 hx) ⟨(Nat.le_of_ble_eq_true rfl), (Nat.le_of_ble_eq_true rfl)⟩ dX7_setValue_2 rfl rfl (Nat.le_of_ble_eq_true rfl) (Nat.zero_le _) (Nat.zero_le _) ?_
  refine ja_astore (i := 4) dX7_setValue_5 rfl (Nat.le_of_ble_eq_true rfl) ?_
  refine ja_iload_n (i := 2) dX7_setValue_7 rfl rfl ?_
  refine ja_cSx (st := []) (c_needArea_x (D := D) l ha) (ce_X7_needArea 1 6) st_X7_needArea lk_X7_138 ⟨(Nat.le_of_ble_eq_true rfl), (Nat.le_of_ble_eq_true rfl)⟩ dX7_setValue_8 rfl rfl (Nat.le_of_ble_eq_true rfl) (Nat.le_of_ble_eq_true rfl) (Nat.le_of_ble_eq_true rfl) ?_
  refine ja_out rfl (Nat.le_of_ble_eq_true rfl) (Nat.le_of_ble_eq_true rfl) ?_
  exact ⟨rfl, rfl, rfl⟩

set_option maxRecDepth 100000 in
set_option maxHeartbeats 4000000 in
theorem c_setValue_f2b (l : Launch) {Z : jZ} {D : jD} (hx : zX Z) {ly : Nat} (h1 : ly < 3) {a : Nat} (h2 : a < 10) {nx : Int32} (hnx : ¬ (nI 0 ≤ nx ∧ nx ≤ nI 9999)) : ja_M l (mX7_setValue 1 6) [.ref (0), .int (nI (ly)), .int (nI (a)), .int (nx)] Z D ja_r0 (ja_jx "java/lang/IllegalArgumentException" Z D) := by
  refine ja_Mof (lv := [some (.ref (0)), some (.int (nI (ly))), some (.int (nI (a))), some (.int (nx)), none, none]) (by decide +kernel) rfl rfl (Nat.le_of_ble_eq_true rfl) rfl ?_
  refine ja_aload_n (i := 0) dX7_setValue_0 rfl rfl ?_
  refine ja_iload_n (i := 1) dX7_setValue_1 rfl rfl ?_
  refine ja_cVr (st := []) (c_layerOf (D := D) l hx (ly := ly) (by omega)) rfl rfl (ce_X7_layerOf 0 0) im_X7_layerOf se_X7_layerOf lk_X7_93 k_X7 (zX_o0 hx) ⟨(Nat.le_of_ble_eq_true rfl), (Nat.le_of_ble_eq_true rfl)⟩ dX7_setValue_2 rfl rfl (Nat.le_of_ble_eq_true rfl) (Nat.zero_le _) (Nat.zero_le _) ?_
  refine ja_astore (i := 4) dX7_setValue_5 rfl (Nat.le_of_ble_eq_true rfl) ?_
  refine ja_iload_n (i := 2) dX7_setValue_7 rfl rfl ?_
  refine ja_cSr0 (st := []) (c_needArea (D := D) l (a := a) (by omega)) rfl rfl (ce_X7_needArea 0 0) st_X7_needArea lk_X7_138 ⟨(Nat.le_of_ble_eq_true rfl), (Nat.le_of_ble_eq_true rfl)⟩ dX7_setValue_8 rfl rfl (Nat.le_of_ble_eq_true rfl) (Nat.zero_le _) (Nat.zero_le _) ?_
  refine ja_iload_n (i := 3) dX7_setValue_11 rfl rfl ?_
  refine ja_if_lt (tgt := 22) dX7_setValue_12 (by decide) (fun c12 => ?_) (fun c12 => ?_)
  ·
    refine ja_throw ts_X7_60_141_64 rfl dX7_setValue_22 dX7_setValue_25 dX7_setValue_26 dX7_setValue_28 dX7_setValue_31 (Nat.le_of_ble_eq_true rfl) (Nat.le_of_ble_eq_true rfl) (Nat.le_of_ble_eq_true rfl) (Nat.le_of_ble_eq_true rfl) ?_
    exact ⟨rfl, rfl, rfl⟩
  ·
    refine ja_iload_n (i := 3) dX7_setValue_15 rfl rfl ?_
    refine ja_sipush (v := nI 9999) dX7_setValue_16 (by decide +kernel) ?_
    refine ja_icmp_le (tgt := 32) dX7_setValue_19 (by decide) (fun c19 => ?_) (fun c19 => ?_)
    ·
      exact absurd ⟨Int32.not_lt.mp c12, c19⟩ hnx
    ·
      refine ja_throw ts_X7_60_141_64 rfl dX7_setValue_22 dX7_setValue_25 dX7_setValue_26 dX7_setValue_28 dX7_setValue_31 (Nat.le_of_ble_eq_true rfl) (Nat.le_of_ble_eq_true rfl) (Nat.le_of_ble_eq_true rfl) (Nat.le_of_ble_eq_true rfl) ?_
      exact ⟨rfl, rfl, rfl⟩

set_option maxRecDepth 100000 in
set_option maxHeartbeats 4000000 in
theorem c_setValue_f3 (l : Launch) {Z : jZ} {D : jD} (hx : zX Z) {ly : Nat} (h1 : ly < 3) (hin : D 0 7 = bI false) {a : Nat} (h2 : a < 10) {nx : Nat} (hnx : nx ≤ 9999) : ja_M l (mX7_setValue 1 6) [.ref (0), .int (nI (ly)), .int (nI (a)), .int (nI (nx))] Z D ja_r0 (ja_jx "java/lang/IllegalStateException" Z D) := by
  refine ja_Mof (lv := [some (.ref (0)), some (.int (nI (ly))), some (.int (nI (a))), some (.int (nI (nx))), none, none]) (by decide +kernel) rfl rfl (Nat.le_of_ble_eq_true rfl) rfl ?_
  refine ja_aload_n (i := 0) dX7_setValue_0 rfl rfl ?_
  refine ja_iload_n (i := 1) dX7_setValue_1 rfl rfl ?_
  refine ja_cVr (st := []) (c_layerOf (D := D) l hx (ly := ly) (by omega)) rfl rfl (ce_X7_layerOf 0 0) im_X7_layerOf se_X7_layerOf lk_X7_93 k_X7 (zX_o0 hx) ⟨(Nat.le_of_ble_eq_true rfl), (Nat.le_of_ble_eq_true rfl)⟩ dX7_setValue_2 rfl rfl (Nat.le_of_ble_eq_true rfl) (Nat.zero_le _) (Nat.zero_le _) ?_
  refine ja_astore (i := 4) dX7_setValue_5 rfl (Nat.le_of_ble_eq_true rfl) ?_
  refine ja_iload_n (i := 2) dX7_setValue_7 rfl rfl ?_
  refine ja_cSr0 (st := []) (c_needArea (D := D) l (a := a) (by omega)) rfl rfl (ce_X7_needArea 0 0) st_X7_needArea lk_X7_138 ⟨(Nat.le_of_ble_eq_true rfl), (Nat.le_of_ble_eq_true rfl)⟩ dX7_setValue_8 rfl rfl (Nat.le_of_ble_eq_true rfl) (Nat.zero_le _) (Nat.zero_le _) ?_
  refine ja_iload_n (i := 3) dX7_setValue_11 rfl rfl ?_
  refine ja_ifN_lt dX7_setValue_12 (tgt := 22) (by decide) (by omega) ?_
  refine ja_iload_n (i := 3) dX7_setValue_15 rfl rfl ?_
  refine ja_sipush (v := nI 9999) dX7_setValue_16 (by decide +kernel) ?_
  refine ja_icmpN_le (tgt := 32) dX7_setValue_19 (by decide) (by omega) (by omega) (fun c19 => ?_) (fun c19 => (by exfalso; omega))
  refine ja_aload_n (i := 0) dX7_setValue_32 rfl rfl ?_
  refine ja_cVx (st := []) (c_needSession_x (D := D) l hx hin) (ce_X7_needSession 1 6) im_X7_needSession se_X7_needSession lk_X7_108 k_X7 (zX_o0 hx) ⟨(Nat.le_of_ble_eq_true rfl), (Nat.le_of_ble_eq_true rfl)⟩ dX7_setValue_33 rfl rfl (Nat.le_of_ble_eq_true rfl) (Nat.le_of_ble_eq_true rfl) (Nat.le_of_ble_eq_true rfl) ?_
  refine ja_out rfl (Nat.le_of_ble_eq_true rfl) (Nat.le_of_ble_eq_true rfl) ?_
  exact ⟨rfl, rfl, rfl⟩

set_option maxRecDepth 100000 in
set_option maxHeartbeats 4000000 in
theorem c_setValue_f4 (l : Launch) {Z : jZ} {D : jD} (hx : zX Z) {ly : Nat} (h1 : ly < 3) (hin : D 0 7 = bI true) {f : Nat → Int32} (hz : ∀ a, a < 10 → D (32 + 10 * ly) a = nI (cSz f ly (nI a) 256)) {a : Nat} (h2 : a < 10) {nx : Nat} (hnx : nx ≤ 9999) (hs : cSz f ly (nI a) 256 = 0) : ja_M l (mX7_setValue 1 6) [.ref (0), .int (nI (ly)), .int (nI (a)), .int (nI (nx))] Z D ja_r0 (ja_jx "java/lang/UnsupportedOperationException" Z D) := by
  refine ja_Mof (lv := [some (.ref (0)), some (.int (nI (ly))), some (.int (nI (a))), some (.int (nI (nx))), none, none]) (by decide +kernel) rfl rfl (Nat.le_of_ble_eq_true rfl) rfl ?_
  refine ja_aload_n (i := 0) dX7_setValue_0 rfl rfl ?_
  refine ja_iload_n (i := 1) dX7_setValue_1 rfl rfl ?_
  refine ja_cVr (st := []) (c_layerOf (D := D) l hx (ly := ly) (by omega)) rfl rfl (ce_X7_layerOf 0 0) im_X7_layerOf se_X7_layerOf lk_X7_93 k_X7 (zX_o0 hx) ⟨(Nat.le_of_ble_eq_true rfl), (Nat.le_of_ble_eq_true rfl)⟩ dX7_setValue_2 rfl rfl (Nat.le_of_ble_eq_true rfl) (Nat.zero_le _) (Nat.zero_le _) ?_
  refine ja_astore (i := 4) dX7_setValue_5 rfl (Nat.le_of_ble_eq_true rfl) ?_
  refine ja_iload_n (i := 2) dX7_setValue_7 rfl rfl ?_
  refine ja_cSr0 (st := []) (c_needArea (D := D) l (a := a) (by omega)) rfl rfl (ce_X7_needArea 0 0) st_X7_needArea lk_X7_138 ⟨(Nat.le_of_ble_eq_true rfl), (Nat.le_of_ble_eq_true rfl)⟩ dX7_setValue_8 rfl rfl (Nat.le_of_ble_eq_true rfl) (Nat.zero_le _) (Nat.zero_le _) ?_
  refine ja_iload_n (i := 3) dX7_setValue_11 rfl rfl ?_
  refine ja_ifN_lt dX7_setValue_12 (tgt := 22) (by decide) (by omega) ?_
  refine ja_iload_n (i := 3) dX7_setValue_15 rfl rfl ?_
  refine ja_sipush (v := nI 9999) dX7_setValue_16 (by decide +kernel) ?_
  refine ja_icmpN_le (tgt := 32) dX7_setValue_19 (by decide) (by omega) (by omega) (fun c19 => ?_) (fun c19 => (by exfalso; omega))
  refine ja_aload_n (i := 0) dX7_setValue_32 rfl rfl ?_
  refine ja_cVr0 (st := []) (c_needSession (D := D) l hx hin) rfl rfl (ce_X7_needSession 0 0) im_X7_needSession se_X7_needSession lk_X7_108 k_X7 (zX_o0 hx) ⟨(Nat.le_of_ble_eq_true rfl), (Nat.le_of_ble_eq_true rfl)⟩ dX7_setValue_33 rfl rfl (Nat.le_of_ble_eq_true rfl) (Nat.zero_le _) (Nat.zero_le _) ?_
  have z1 := cSz_le f ly (nI a) 256
  refine ja_aload (i := 4) dX7_setValue_36 rfl ?_
  refine ja_getR fl_X7_127 (zL_o hx (l := ly) (by omega)) rfl (zL_p1 hx (l := ly) (by omega)) dX7_setValue_38 ?_
  refine ja_iload_n (i := 2) dX7_setValue_41 rfl rfl ?_
  refine ja_iald (zL_a1 hx (l := ly) (by omega)) rfl (by omega) (by decide) dX7_setValue_42 ?_
  refine ja_top (y := nI (cSz f ly (nI a) 256)) (hz a h2) ?_
  refine ja_ifN_ne (tgt := 56) dX7_setValue_43 (by decide) (by omega) (fun c43 => (by exfalso; omega)) (fun c43 => ?_)
  refine ja_throw ts_X7_130_143_134 rfl dX7_setValue_46 dX7_setValue_49 dX7_setValue_50 dX7_setValue_52 dX7_setValue_55 (Nat.le_of_ble_eq_true rfl) (Nat.le_of_ble_eq_true rfl) (Nat.le_of_ble_eq_true rfl) (Nat.le_of_ble_eq_true rfl) ?_
  exact ⟨rfl, rfl, rfl⟩

set_option maxRecDepth 100000 in
set_option maxHeartbeats 4000000 in
theorem c_setValue_ok (l : Launch) {Z : jZ} {D : jD} (hx : zX Z) {ly : Nat} (h1 : ly < 3) (hin : D 0 7 = bI true) {f : Nat → Int32} (hz : ∀ a, a < 10 → D (32 + 10 * ly) a = nI (cSz f ly (nI a) 256)) {a : Nat} (h2 : a < 10) {nx : Nat} (hnx : nx ≤ 9999) (hs : ¬ cSz f ly (nI a) 256 = 0) : ja_M l (mX7_setValue 0 0) [.ref (0), .int (nI (ly)), .int (nI (a)), .int (nI (nx))] Z D (ja_jd (some (.int (D (33 + 10 * ly) a))) Z (fun D2 => D2 = ja_up D (33 + 10 * ly) a (nI nx))) ja_x0 := by
  refine ja_Mof (lv := [some (.ref (0)), some (.int (nI (ly))), some (.int (nI (a))), some (.int (nI (nx))), none, none]) (by decide +kernel) rfl rfl (Nat.le_of_ble_eq_true rfl) rfl ?_
  refine ja_aload_n (i := 0) dX7_setValue_0 rfl rfl ?_
  refine ja_iload_n (i := 1) dX7_setValue_1 rfl rfl ?_
  refine ja_cVr (st := []) (c_layerOf (D := D) l hx (ly := ly) (by omega)) rfl rfl (ce_X7_layerOf 0 0) im_X7_layerOf se_X7_layerOf lk_X7_93 k_X7 (zX_o0 hx) ⟨(Nat.le_of_ble_eq_true rfl), (Nat.le_of_ble_eq_true rfl)⟩ dX7_setValue_2 rfl rfl (Nat.le_of_ble_eq_true rfl) (Nat.zero_le _) (Nat.zero_le _) ?_
  refine ja_astore (i := 4) dX7_setValue_5 rfl (Nat.le_of_ble_eq_true rfl) ?_
  refine ja_iload_n (i := 2) dX7_setValue_7 rfl rfl ?_
  refine ja_cSr0 (st := []) (c_needArea (D := D) l (a := a) (by omega)) rfl rfl (ce_X7_needArea 0 0) st_X7_needArea lk_X7_138 ⟨(Nat.le_of_ble_eq_true rfl), (Nat.le_of_ble_eq_true rfl)⟩ dX7_setValue_8 rfl rfl (Nat.le_of_ble_eq_true rfl) (Nat.zero_le _) (Nat.zero_le _) ?_
  refine ja_iload_n (i := 3) dX7_setValue_11 rfl rfl ?_
  refine ja_ifN_lt dX7_setValue_12 (tgt := 22) (by decide) (by omega) ?_
  refine ja_iload_n (i := 3) dX7_setValue_15 rfl rfl ?_
  refine ja_sipush (v := nI 9999) dX7_setValue_16 (by decide +kernel) ?_
  refine ja_icmpN_le (tgt := 32) dX7_setValue_19 (by decide) (by omega) (by omega) (fun c19 => ?_) (fun c19 => (by exfalso; omega))
  refine ja_aload_n (i := 0) dX7_setValue_32 rfl rfl ?_
  refine ja_cVr0 (st := []) (c_needSession (D := D) l hx hin) rfl rfl (ce_X7_needSession 0 0) im_X7_needSession se_X7_needSession lk_X7_108 k_X7 (zX_o0 hx) ⟨(Nat.le_of_ble_eq_true rfl), (Nat.le_of_ble_eq_true rfl)⟩ dX7_setValue_33 rfl rfl (Nat.le_of_ble_eq_true rfl) (Nat.zero_le _) (Nat.zero_le _) ?_
  have z1 := cSz_le f ly (nI a) 256
  refine ja_aload (i := 4) dX7_setValue_36 rfl ?_
  refine ja_getR fl_X7_127 (zL_o hx (l := ly) (by omega)) rfl (zL_p1 hx (l := ly) (by omega)) dX7_setValue_38 ?_
  refine ja_iload_n (i := 2) dX7_setValue_41 rfl rfl ?_
  refine ja_iald (zL_a1 hx (l := ly) (by omega)) rfl (by omega) (by decide) dX7_setValue_42 ?_
  refine ja_top (y := nI (cSz f ly (nI a) 256)) (hz a h2) ?_
  refine ja_ifN_ne (tgt := 56) dX7_setValue_43 (by decide) (by omega) (fun c43 => ?_) (fun c43 => (by exfalso; omega))
  refine ja_aload (i := 4) dX7_setValue_56 rfl ?_
  refine ja_getR fl_X7_145 (zL_o hx (l := ly) (by omega)) rfl (zL_p2 hx (l := ly) (by omega)) dX7_setValue_58 ?_
  refine ja_iload_n (i := 2) dX7_setValue_61 rfl rfl ?_
  refine ja_iald (zL_a2 hx (l := ly) (by omega)) rfl (by omega) (by decide) dX7_setValue_62 ?_
  refine ja_istore (i := 5) dX7_setValue_63 rfl (Nat.le_of_ble_eq_true rfl) ?_
  refine ja_aload (i := 4) dX7_setValue_65 rfl ?_
  refine ja_getR fl_X7_145 (zL_o hx (l := ly) (by omega)) rfl (zL_p2 hx (l := ly) (by omega)) dX7_setValue_67 ?_
  refine ja_iload_n (i := 2) dX7_setValue_70 rfl rfl ?_
  refine ja_iload_n (i := 3) dX7_setValue_71 rfl rfl ?_
  refine ja_iast (zL_a2 hx (l := ly) (by omega)) rfl (by omega) (by decide) dX7_setValue_72 ?_
  refine ja_iload (i := 5) dX7_setValue_73 rfl ?_
  refine ja_iret rfl rfl dX7_setValue_75 (Nat.zero_le _) (Nat.zero_le _) ?_
  exact ⟨rfl, rfl, rfl⟩

set_option maxRecDepth 100000 in
set_option maxHeartbeats 4000000 in
theorem c_setDivides_f1 (l : Launch) {Z : jZ} {D : jD} (hx : zX Z) {ly : Int32} {dv : Bool} (hl : ¬ (nI 0 ≤ ly ∧ ly ≤ nI 2))  : ja_M l (mX7_setDivides 1 6) [.ref (0), .int (ly), .int (bI (dv))] Z D ja_r0 (ja_jx "java/lang/IndexOutOfBoundsException" Z D) := by
  refine ja_Mof (lv := [some (.ref (0)), some (.int (ly)), some (.int (bI (dv))), none, none]) (by decide +kernel) rfl rfl (Nat.le_of_ble_eq_true rfl) rfl ?_
  refine ja_aload_n (i := 0) dX7_setDivides_0 rfl rfl ?_
  refine ja_iload_n (i := 1) dX7_setDivides_1 rfl rfl ?_
  refine ja_cVx (st := []) (c_layerOf_x (D := D) l hx hl) (ce_X7_layerOf 1 6) im_X7_layerOf se_X7_layerOf lk_X7_93 k_X7 (zX_o0 hx) ⟨(Nat.le_of_ble_eq_true rfl), (Nat.le_of_ble_eq_true rfl)⟩ dX7_setDivides_2 rfl rfl (Nat.le_of_ble_eq_true rfl) (Nat.le_of_ble_eq_true rfl) (Nat.le_of_ble_eq_true rfl) ?_
  refine ja_out rfl (Nat.le_of_ble_eq_true rfl) (Nat.le_of_ble_eq_true rfl) ?_
  exact ⟨rfl, rfl, rfl⟩

set_option maxRecDepth 100000 in
set_option maxHeartbeats 4000000 in
theorem c_setDivides_ok (l : Launch) {Z : jZ} {D : jD} (hx : zX Z) {ly : Nat} (h1 : ly < 3) {dv od : Bool} (h4 : D (30 + 10 * ly) 4 = bI od) : ja_M l (mX7_setDivides 0 0) [.ref (0), .int (nI (ly)), .int (bI (dv))] Z D (ja_jd (some (.int (bI od))) Z (fun D2 => D2 = ja_up D (30 + 10 * ly) 4 (bI dv))) ja_x0 := by
  refine ja_Mof (lv := [some (.ref (0)), some (.int (nI (ly))), some (.int (bI (dv))), none, none]) (by decide +kernel) rfl rfl (Nat.le_of_ble_eq_true rfl) rfl ?_
  refine ja_aload_n (i := 0) dX7_setDivides_0 rfl rfl ?_
  refine ja_iload_n (i := 1) dX7_setDivides_1 rfl rfl ?_
  refine ja_cVr (st := []) (c_layerOf (D := D) l hx (ly := ly) (by omega)) rfl rfl (ce_X7_layerOf 0 0) im_X7_layerOf se_X7_layerOf lk_X7_93 k_X7 (zX_o0 hx) ⟨(Nat.le_of_ble_eq_true rfl), (Nat.le_of_ble_eq_true rfl)⟩ dX7_setDivides_2 rfl rfl (Nat.le_of_ble_eq_true rfl) (Nat.zero_le _) (Nat.zero_le _) ?_
  refine ja_astore_n (i := 3) dX7_setDivides_5 rfl rfl (Nat.le_of_ble_eq_true rfl) ?_
  refine ja_aload_n (i := 3) dX7_setDivides_6 rfl rfl ?_
  refine ja_getI fl_X7_148 (zL_o hx (l := ly) (by omega)) rfl dX7_setDivides_7 ?_
  refine ja_top (y := bI (od)) h4 ?_
  refine ja_istore (i := 4) dX7_setDivides_10 rfl (Nat.le_of_ble_eq_true rfl) ?_
  refine ja_aload_n (i := 3) dX7_setDivides_12 rfl rfl ?_
  refine ja_iload_n (i := 2) dX7_setDivides_13 rfl rfl ?_
  refine ja_putI fl_X7_148 (zL_o hx (l := ly) (by omega)) rfl (bI_nar _) (bI_fit _) dX7_setDivides_14 ?_
  refine ja_iload (i := 4) dX7_setDivides_17 rfl ?_
  refine ja_iret rfl (bI_nar _) dX7_setDivides_19 (Nat.zero_le _) (Nat.zero_le _) ?_
  exact ⟨rfl, rfl, rfl⟩

set_option maxRecDepth 100000 in
set_option maxHeartbeats 4000000 in
theorem c_sign_f1 (l : Launch) {Z : jZ} {D : jD} (hx : zX Z) {n : Nat} {fl sl : Nat → Nat} (hr : zXr Z n fl sl) {k : Int32} (hk : ¬ (0 ≤ k.toInt ∧ k.toInt < n)) : ja_M l (mX7_sign 1 6) [.ref (0), .int (k)] Z D ja_r0 (ja_jx "java/util/NoSuchElementException" Z D) := by
  refine ja_Mof (lv := [some (.ref (0)), some (.int (k)), none, none, none]) (by decide +kernel) rfl rfl (Nat.le_of_ble_eq_true rfl) rfl ?_
  refine ja_aload_n (i := 0) dX7_sign_0 rfl rfl ?_
  refine ja_iload_n (i := 1) dX7_sign_1 rfl rfl ?_
  refine ja_cVx (st := []) (c_ruleOf_x (D := D) l hx hr hk) (ce_X7_ruleOf 1 6) im_X7_ruleOf se_X7_ruleOf lk_X7_86 k_X7 (zX_o0 hx) ⟨(Nat.le_of_ble_eq_true rfl), (Nat.le_of_ble_eq_true rfl)⟩ dX7_sign_2 rfl rfl (Nat.le_of_ble_eq_true rfl) (Nat.le_of_ble_eq_true rfl) (Nat.le_of_ble_eq_true rfl) ?_
  refine ja_out rfl (Nat.le_of_ble_eq_true rfl) (Nat.le_of_ble_eq_true rfl) ?_
  exact ⟨rfl, rfl, rfl⟩

set_option maxRecDepth 100000 in
set_option maxHeartbeats 4000000 in
theorem c_sign_f2 (l : Launch) {Z : jZ} {D : jD} (hx : zX Z) {n : Nat} {fl sl : Nat → Nat} (hr : zXr Z n fl sl) (hn6 : n ≤ 6) (hrn : D 0 4 = nI n) (hin : D 0 7 = bI false) {r : Nat} (hrl : r < n) : ja_M l (mX7_sign 1 6) [.ref (0), .int (nI (r))] Z D ja_r0 (ja_jx "java/lang/IllegalStateException" Z D) := by
  refine ja_Mof (lv := [some (.ref (0)), some (.int (nI (r))), none, none, none]) (by decide +kernel) rfl rfl (Nat.le_of_ble_eq_true rfl) rfl ?_
  refine ja_aload_n (i := 0) dX7_sign_0 rfl rfl ?_
  refine ja_iload_n (i := 1) dX7_sign_1 rfl rfl ?_
  refine ja_cVr (st := []) (c_ruleOf (D := D) l hx hr hn6 (r := r) (by omega)) rfl rfl (ce_X7_ruleOf 0 0) im_X7_ruleOf se_X7_ruleOf lk_X7_86 k_X7 (zX_o0 hx) ⟨(Nat.le_of_ble_eq_true rfl), (Nat.le_of_ble_eq_true rfl)⟩ dX7_sign_2 rfl rfl (Nat.le_of_ble_eq_true rfl) (Nat.zero_le _) (Nat.zero_le _) ?_
  refine ja_astore_n (i := 2) dX7_sign_5 rfl rfl (Nat.le_of_ble_eq_true rfl) ?_
  refine ja_aload_n (i := 0) dX7_sign_6 rfl rfl ?_
  refine ja_cVx (st := []) (c_needSession_x (D := D) l hx hin) (ce_X7_needSession 1 6) im_X7_needSession se_X7_needSession lk_X7_108 k_X7 (zX_o0 hx) ⟨(Nat.le_of_ble_eq_true rfl), (Nat.le_of_ble_eq_true rfl)⟩ dX7_sign_7 rfl rfl (Nat.le_of_ble_eq_true rfl) (Nat.le_of_ble_eq_true rfl) (Nat.le_of_ble_eq_true rfl) ?_
  refine ja_out rfl (Nat.le_of_ble_eq_true rfl) (Nat.le_of_ble_eq_true rfl) ?_
  exact ⟨rfl, rfl, rfl⟩

set_option maxRecDepth 100000 in
set_option maxHeartbeats 4000000 in
theorem c_sign_ok (l : Launch) {Z : jZ} {D : jD} (hx : zX Z) {n : Nat} {fl sl : Nat → Nat} (hr : zXr Z n fl sl) (hn6 : n ≤ 6) (hrn : D 0 4 = nI n) {sg : Nat → Bool} (hsg : ∀ k, k < n → D (60 + k) 3 = bI (sg k)) (hin : D 0 7 = bI true) {r : Nat} (hrl : r < n) : ja_M l (mX7_sign 0 0) [.ref (0), .int (nI (r))] Z D (ja_jd (some (.int (nI (fb_ct (fun k => decide (k = r) || sg k) n)))) Z (fun D2 => D2 = ja_up D (60 + r) 3 1)) ja_x0 := by
  have hsg2 : ∀ k, k < n → ja_up D (60 + r) 3 (nI 1) (60 + k) 3 = bI (decide (k = r) || sg k) := fun k hk => by
    by_cases e : k = r
    · subst e; rw [up_s, decide_eq_true rfl]; rfl
    · rw [up_n (by omega), hsg k hk, decide_eq_false e]; rfl
  refine ja_Mof (lv := [some (.ref (0)), some (.int (nI (r))), none, none, none]) (by decide +kernel) rfl rfl (Nat.le_of_ble_eq_true rfl) rfl ?_
  refine ja_aload_n (i := 0) dX7_sign_0 rfl rfl ?_
  refine ja_iload_n (i := 1) dX7_sign_1 rfl rfl ?_
  refine ja_cVr (st := []) (c_ruleOf (D := D) l hx hr hn6 (r := r) (by omega)) rfl rfl (ce_X7_ruleOf 0 0) im_X7_ruleOf se_X7_ruleOf lk_X7_86 k_X7 (zX_o0 hx) ⟨(Nat.le_of_ble_eq_true rfl), (Nat.le_of_ble_eq_true rfl)⟩ dX7_sign_2 rfl rfl (Nat.le_of_ble_eq_true rfl) (Nat.zero_le _) (Nat.zero_le _) ?_
  refine ja_astore_n (i := 2) dX7_sign_5 rfl rfl (Nat.le_of_ble_eq_true rfl) ?_
  refine ja_aload_n (i := 0) dX7_sign_6 rfl rfl ?_
  refine ja_cVr0 (st := []) (c_needSession (D := D) l hx hin) rfl rfl (ce_X7_needSession 0 0) im_X7_needSession se_X7_needSession lk_X7_108 k_X7 (zX_o0 hx) ⟨(Nat.le_of_ble_eq_true rfl), (Nat.le_of_ble_eq_true rfl)⟩ dX7_sign_7 rfl rfl (Nat.le_of_ble_eq_true rfl) (Nat.zero_le _) (Nat.zero_le _) ?_
  refine ja_aload_n (i := 2) dX7_sign_10 rfl rfl ?_
  refine ja_iconst (v := nI 1) dX7_sign_11 (by decide +kernel) ?_
  refine ja_putI fl_X7_90 (zR_o hr (r := r) (by omega)) rfl (by decide +kernel) (by decide +kernel) dX7_sign_12 ?_
  refine ja_iconst (v := nI 0) dX7_sign_15 (by decide +kernel) ?_
  refine ja_istore_n (i := 3) dX7_sign_16 rfl rfl (Nat.le_of_ble_eq_true rfl) ?_
  refine ja_iconst (v := nI 0) dX7_sign_17 (by decide +kernel) ?_
  refine ja_istore (i := 4) dX7_sign_18 rfl (Nat.le_of_ble_eq_true rfl) ?_
  have lp20 : ∀ (f20 : Nat) (k m : Nat), (n < k + f20) → (k ≤ n) → (m = fb_ct (fun k => decide (k = r) || sg k) k) → ja_A l (mX7_sign 0 0) ja_sn (ja_Qf (mX7_sign 0 0) (ja_jd (some (.int (nI (fb_ct (fun k => decide (k = r) || sg k) n)))) Z (fun D2 => D2 = ja_up D (60 + r) 3 1)) ja_x0) 20 [some (.ref (0)), some (.int (nI (r))), some (.ref (60 + r)), some (.int (nI (m))), some (.int (nI (k)))] [] Z (ja_up D (60 + r) 3 (nI (1))) 0 0 := by
    intro f20
    induction f20 with
    | zero => intro k m hf hk hm; exfalso; omega
    | succ f20 ih20 =>
      intro k m hf hk hm
      refine ja_iload (i := 4) dX7_sign_20 rfl ?_
      refine ja_aload_n (i := 0) dX7_sign_22 rfl rfl ?_
      refine ja_getI fl_X7_83 (zX_o0 hx) rfl dX7_sign_23 ?_
      refine ja_top (y := nI (n)) (by rw [up_n (by omega)]; exact hrn) ?_
      refine ja_icmpN_ge (tgt := 50) dX7_sign_26 (by decide) (by omega) (by omega) (fun c26 => ?_) (fun c26 => ?_)
      ·
        refine ja_iload_n (i := 3) dX7_sign_50 rfl rfl ?_
        refine ja_iret rfl rfl dX7_sign_51 (Nat.zero_le _) (Nat.zero_le _) ?_
        exact ⟨by rw [hm, show k = n by omega], rfl, rfl⟩
      ·
        refine ja_aload_n (i := 0) dX7_sign_29 rfl rfl ?_
        refine ja_iload (i := 4) dX7_sign_30 rfl ?_
        refine ja_cVr (st := []) (c_ruleOf (D := (ja_up D (60 + r) 3 (nI (1)))) l hx hr hn6 (r := k) (by omega)) rfl rfl (ce_X7_ruleOf 0 0) im_X7_ruleOf se_X7_ruleOf lk_X7_86 k_X7 (zX_o0 hx) ⟨(Nat.le_of_ble_eq_true rfl), (Nat.le_of_ble_eq_true rfl)⟩ dX7_sign_32 rfl rfl (Nat.le_of_ble_eq_true rfl) (Nat.zero_le _) (Nat.zero_le _) ?_
        refine ja_getI fl_X7_90 (zR_o hr (r := k) (by omega)) rfl dX7_sign_35 ?_
        refine ja_top (y := bI (decide (k = r) || sg k)) (hsg2 k (by omega)) ?_
        refine ja_ifB_eq (tgt := 44) dX7_sign_38 (by decide) (fun c38 => ?_) (fun c38 => ?_)
        ·
          refine ja_iincN dX7_sign_44 rfl rfl (Nat.le_of_ble_eq_true rfl) ?_
          refine ja_goto (tgt := 20) dX7_sign_47 (by decide) ?_
          exact ih20 (k + 1) _ (by omega) (by omega) (by rw [hm, fb_ct_succ, c38]; rfl)
        ·
          refine ja_iincN dX7_sign_41 rfl rfl (Nat.le_of_ble_eq_true rfl) ?_
          refine ja_iincN dX7_sign_44 rfl rfl (Nat.le_of_ble_eq_true rfl) ?_
          refine ja_goto (tgt := 20) dX7_sign_47 (by decide) ?_
          exact ih20 (k + 1) _ (by omega) (by omega) (by rw [hm, fb_ct_succ, c38]; rfl)
  exact lp20 (n + 1) 0 0 (by omega) (by omega) rfl

set_option maxRecDepth 100000 in
set_option maxHeartbeats 4000000 in
theorem c_broken_f1 (l : Launch) {Z : jZ} {D : jD} (hx : zX Z) {n : Nat} {fl sl : Nat → Nat} (hr : zXr Z n fl sl) {k : Int32} (hk : ¬ (0 ≤ k.toInt ∧ k.toInt < n)) : ja_M l (mX7_broken 1 6) [.ref (0), .int (k)] Z D ja_r0 (ja_jx "java/util/NoSuchElementException" Z D) := by
  refine ja_Mof (lv := [some (.ref (0)), some (.int (k))]) (by decide +kernel) rfl rfl (Nat.le_of_ble_eq_true rfl) rfl ?_
  refine ja_aload_n (i := 0) dX7_broken_0 rfl rfl ?_
  refine ja_iload_n (i := 1) dX7_broken_1 rfl rfl ?_
  refine ja_cVx (st := []) (c_ruleOf_x (D := D) l hx hr hk) (ce_X7_ruleOf 1 6) im_X7_ruleOf se_X7_ruleOf lk_X7_86 k_X7 (zX_o0 hx) ⟨(Nat.le_of_ble_eq_true rfl), (Nat.le_of_ble_eq_true rfl)⟩ dX7_broken_2 rfl rfl (Nat.le_of_ble_eq_true rfl) (Nat.le_of_ble_eq_true rfl) (Nat.le_of_ble_eq_true rfl) ?_
  refine ja_out rfl (Nat.le_of_ble_eq_true rfl) (Nat.le_of_ble_eq_true rfl) ?_
  exact ⟨rfl, rfl, rfl⟩

set_option maxRecDepth 100000 in
set_option maxHeartbeats 4000000 in
theorem c_broken_ok (l : Launch) {Z : jZ} {D : jD} (hx : zX Z) {n : Nat} {fl sl : Nat → Nat} (hr : zXr Z n fl sl) (hn6 : n ≤ 6) {r : Nat} (hrl : r < n) : ja_M l (mX7_broken 0 0) [.ref (0), .int (nI (r))] Z D (ja_jr (some (.int (nI (xbk D (D (60 + r) 0) (fl r) (sl r) 256)))) Z D) ja_x0 := by
  refine ja_Mof (lv := [some (.ref (0)), some (.int (nI (r)))]) (by decide +kernel) rfl rfl (Nat.le_of_ble_eq_true rfl) rfl ?_
  refine ja_aload_n (i := 0) dX7_broken_0 rfl rfl ?_
  refine ja_iload_n (i := 1) dX7_broken_1 rfl rfl ?_
  refine ja_cVr (st := []) (c_ruleOf (D := D) l hx hr hn6 (r := r) (by omega)) rfl rfl (ce_X7_ruleOf 0 0) im_X7_ruleOf se_X7_ruleOf lk_X7_86 k_X7 (zX_o0 hx) ⟨(Nat.le_of_ble_eq_true rfl), (Nat.le_of_ble_eq_true rfl)⟩ dX7_broken_2 rfl rfl (Nat.le_of_ble_eq_true rfl) (Nat.zero_le _) (Nat.zero_le _) ?_
  refine ja_cVr (st := []) (c_breaks (D := D) l hx hr (r := r) (by omega) (kd := D (60 + r) 0) rfl) rfl rfl (ce_X4_breaks 0 0) im_X4_breaks se_X4_breaks lk_X7_151 k_X4 (zR_o hr (r := r) (by omega)) ⟨(Nat.le_of_ble_eq_true rfl), (Nat.le_of_ble_eq_true rfl)⟩ dX7_broken_5 rfl rfl (Nat.le_of_ble_eq_true rfl) (Nat.zero_le _) (Nat.zero_le _) ?_
  refine ja_iret rfl rfl dX7_broken_8 (Nat.zero_le _) (Nat.zero_le _) ?_
  exact ⟨rfl, rfl, rfl⟩

def brX (D : jD) (fl sl : Nat → Nat) (r : Nat) : Nat := xbk D (D (60 + r) 0) (fl r) (sl r) 256
theorem lbk_y {g : Nat → Nat} {r : Nat} {b : Option Nat} (h : b = lbk g r) (h1 : 0 < g r) (h2 : ∀ x, b = some x → g r < g x) : some r = lbk g (r + 1) := by
  rw [lbk, ← h]
  cases b with
  | none => exact (if_pos h1).symm
  | some x => exact (if_pos ⟨h1, h2 x rfl⟩).symm
theorem lbk_n {g : Nat → Nat} {r : Nat} {b : Option Nat} (h : b = lbk g r) (h1 : g r = 0 ∨ ∃ x, b = some x ∧ ¬ g r < g x) : b = lbk g (r + 1) := by
  rw [lbk, ← h]
  cases b with
  | none =>
    rcases h1 with h1 | ⟨x, h1, -⟩
    · exact (if_neg (by omega)).symm
    · cases h1
  | some y =>
    rcases h1 with h1 | ⟨x, h1, h2⟩
    · exact (if_neg (by omega)).symm
    · cases h1; exact (if_neg (fun q => h2 q.2)).symm
theorem it_1 {P : Prop} [Decidable P] : (if P then 1 else 0) ≤ 1 := by split <;> omega
theorem xbk_le (D : jD) (kd : Int32) (l1 l2 n : Nat) : xbk D kd l1 l2 n ≤ n * 3 := fb_sm_bound fun q _ => by
  have h1 : ∀ s, xbS D l1 l2 q s ≤ 1 := fun s => by unfold xbS; split; omega; split <;> omega
  have := h1 0
  have := h1 1
  have h3 : xbA D kd l1 l2 q ≤ 1 := it_1
  unfold xbQ
  split
  · omega
  · omega

set_option maxRecDepth 100000 in
set_option maxHeartbeats 4000000 in
theorem c_leastBroken_ok (l : Launch) {Z : jZ} {D : jD} (hx : zX Z) {n : Nat} {fl sl : Nat → Nat} (hr : zXr Z n fl sl) (hn6 : n ≤ 6) (hrn : D 0 4 = nI n) {b9 : Nat} (hb9 : lbk (brX D fl sl) n = some b9) (hb8 : b9 < n) : ja_M l (mX7_leastBroken 0 0) [.ref (0)] Z D (ja_jr (some (.int (nI b9))) Z D) ja_x0 := by
  refine ja_Mof (lv := [some (.ref (0)), none, none, none, none]) (by decide +kernel) rfl rfl (Nat.le_of_ble_eq_true rfl) rfl ?_
  refine ja_iconst (v := (-1)) dX7_leastBroken_0 (by decide +kernel) ?_
  refine ja_istore_n (i := 1) dX7_leastBroken_1 rfl rfl (Nat.le_of_ble_eq_true rfl) ?_
  refine ja_iconst (v := nI 0) dX7_leastBroken_2 (by decide +kernel) ?_
  refine ja_istore_n (i := 2) dX7_leastBroken_3 rfl rfl (Nat.le_of_ble_eq_true rfl) ?_
  refine ja_iconst (v := nI 0) dX7_leastBroken_4 (by decide +kernel) ?_
  refine ja_istore_n (i := 3) dX7_leastBroken_5 rfl rfl (Nat.le_of_ble_eq_true rfl) ?_
  have lp6 : ∀ (f6 : Nat) (r m : Nat) (b : Option Nat), (n < r + f6) → (r ≤ n) → (b = lbk (brX D fl sl) r) → (m = bMg (brX D fl sl) b) → ja_A l (mX7_leastBroken 0 0) ja_sn (ja_Qf (mX7_leastBroken 0 0) (ja_jr (some (.int (nI b9))) Z D) ja_x0) 6 [some (.ref (0)), some (.int (oI b)), some (.int (nI (m))), some (.int (nI (r))), none] [] Z D 0 0 := by
    intro f6
    induction f6 with
    | zero => intro r m b hf hrl hb hm; exfalso; omega
    | succ f6 ih6 =>
      intro r m b hf hrl hb hm
      have hbx : brX D fl sl r ≤ 256 * 3 := xbk_le _ _ _ _ _
      have hmx : m ≤ 256 * 3 := by cases b with
                  | none => have hm : m = 0 := hm; omega
                  | some x => have hm : m = brX D fl sl x := hm; have : brX D fl sl x ≤ 256 * 3 := xbk_le _ _ _ _ _; omega
      refine ja_iload_n (i := 3) dX7_leastBroken_6 rfl rfl ?_
      refine ja_aload_n (i := 0) dX7_leastBroken_7 rfl rfl ?_
      refine ja_getI fl_X7_83 (zX_o0 hx) rfl dX7_leastBroken_8 ?_
      refine ja_top (y := nI (n)) hrn ?_
      refine ja_icmpN_ge (tgt := 51) dX7_leastBroken_11 (by decide) (by omega) (by omega) (fun c11 => ?_) (fun c11 => ?_)
      ·
        obtain rfl : r = n := by omega
        rw [hb9] at hb
        subst hb
        refine ja_iload_n (i := 1) dX7_leastBroken_51 rfl rfl ?_
        refine ja_iconst (v := (-1)) dX7_leastBroken_52 (by decide +kernel) ?_
        refine ja_icmp_ne (tgt := 66) dX7_leastBroken_53 (by decide) (fun c53 => ?_) (fun c53 => absurd c53 (nI_nm1 (by omega)))
        refine ja_iload_n (i := 1) dX7_leastBroken_66 rfl rfl ?_
        refine ja_iret rfl rfl dX7_leastBroken_67 (Nat.zero_le _) (Nat.zero_le _) ?_
        exact ⟨rfl, rfl, rfl⟩
      ·
        refine ja_aload_n (i := 0) dX7_leastBroken_14 rfl rfl ?_
        refine ja_iload_n (i := 3) dX7_leastBroken_15 rfl rfl ?_
        refine ja_cVr (st := []) (c_ruleOf (D := D) l hx hr hn6 (r := r) (by omega)) rfl rfl (ce_X7_ruleOf 0 0) im_X7_ruleOf se_X7_ruleOf lk_X7_86 k_X7 (zX_o0 hx) ⟨(Nat.le_of_ble_eq_true rfl), (Nat.le_of_ble_eq_true rfl)⟩ dX7_leastBroken_16 rfl rfl (Nat.le_of_ble_eq_true rfl) (Nat.zero_le _) (Nat.zero_le _) ?_
        refine ja_cVr (st := []) (c_breaks (D := D) l hx hr (r := r) (by omega) (kd := D (60 + r) 0) rfl) rfl rfl (ce_X4_breaks 0 0) im_X4_breaks se_X4_breaks lk_X7_151 k_X4 (zR_o hr (r := r) (by omega)) ⟨(Nat.le_of_ble_eq_true rfl), (Nat.le_of_ble_eq_true rfl)⟩ dX7_leastBroken_19 rfl rfl (Nat.le_of_ble_eq_true rfl) (Nat.zero_le _) (Nat.zero_le _) ?_
        refine ja_top (y := nI (brX D fl sl r)) rfl ?_
        refine ja_istore (i := 4) dX7_leastBroken_22 rfl (Nat.le_of_ble_eq_true rfl) ?_
        refine ja_iload (i := 4) dX7_leastBroken_24 rfl ?_
        refine ja_ifN_le (tgt := 45) dX7_leastBroken_26 (by decide) (by omega) (fun c26 => ?_) (fun c26 => ?_)
        ·
          refine ja_iincN dX7_leastBroken_45 rfl rfl (Nat.le_of_ble_eq_true rfl) ?_
          refine ja_goto (tgt := 6) dX7_leastBroken_48 (by decide) ?_
          refine ja_forget (i := 4) ?_
          exact ih6 (r + 1) m b (by omega) (by omega) (lbk_n hb (by first | exact Or.inl (by omega) | (right; cases b with
            | none => exact absurd rfl c31
            | some x => have hm : m = brX D fl sl x := hm
                        exact ⟨x, rfl, by omega⟩))) hm
        ·
          have c26p : 0 < brX D fl sl r := by omega
          refine ja_iload_n (i := 1) dX7_leastBroken_29 rfl rfl ?_
          refine ja_iconst (v := (-1)) dX7_leastBroken_30 (by decide +kernel) ?_
          refine ja_icmp_eq (tgt := 40) dX7_leastBroken_31 (by decide) (fun c31 => ?_) (fun c31 => ?_)
          ·
            refine ja_iload_n (i := 3) dX7_leastBroken_40 rfl rfl ?_
            refine ja_istore_n (i := 1) dX7_leastBroken_41 rfl rfl (Nat.le_of_ble_eq_true rfl) ?_
            refine ja_iload (i := 4) dX7_leastBroken_42 rfl ?_
            refine ja_istore_n (i := 2) dX7_leastBroken_44 rfl rfl (Nat.le_of_ble_eq_true rfl) ?_
            refine ja_iincN dX7_leastBroken_45 rfl rfl (Nat.le_of_ble_eq_true rfl) ?_
            refine ja_goto (tgt := 6) dX7_leastBroken_48 (by decide) ?_
            refine ja_forget (i := 4) ?_
            exact ih6 (r + 1) _ (some r) (by omega) (by omega) (lbk_y hb c26p (fun x e => by first | (rw [e] at c31; exact absurd c31 (nI_nm1 (by have := lbk_lt (hb.symm.trans e); omega))) | (rw [e] at hm; have hm : m = brX D fl sl x := hm; omega))) rfl
          ·
            refine ja_iload (i := 4) dX7_leastBroken_34 rfl ?_
            refine ja_iload_n (i := 2) dX7_leastBroken_36 rfl rfl ?_
            refine ja_icmpN_ge (tgt := 45) dX7_leastBroken_37 (by decide) (by omega) (by omega) (fun c37 => ?_) (fun c37 => ?_)
            ·
              refine ja_iincN dX7_leastBroken_45 rfl rfl (Nat.le_of_ble_eq_true rfl) ?_
              refine ja_goto (tgt := 6) dX7_leastBroken_48 (by decide) ?_
              refine ja_forget (i := 4) ?_
              exact ih6 (r + 1) m b (by omega) (by omega) (lbk_n hb (by first | exact Or.inl (by omega) | (right; cases b with
            | none => exact absurd rfl c31
            | some x => have hm : m = brX D fl sl x := hm
                        exact ⟨x, rfl, by omega⟩))) hm
            ·
              refine ja_iload_n (i := 3) dX7_leastBroken_40 rfl rfl ?_
              refine ja_istore_n (i := 1) dX7_leastBroken_41 rfl rfl (Nat.le_of_ble_eq_true rfl) ?_
              refine ja_iload (i := 4) dX7_leastBroken_42 rfl ?_
              refine ja_istore_n (i := 2) dX7_leastBroken_44 rfl rfl (Nat.le_of_ble_eq_true rfl) ?_
              refine ja_iincN dX7_leastBroken_45 rfl rfl (Nat.le_of_ble_eq_true rfl) ?_
              refine ja_goto (tgt := 6) dX7_leastBroken_48 (by decide) ?_
              refine ja_forget (i := 4) ?_
              exact ih6 (r + 1) _ (some r) (by omega) (by omega) (lbk_y hb c26p (fun x e => by first | (rw [e] at c31; exact absurd c31 (nI_nm1 (by have := lbk_lt (hb.symm.trans e); omega))) | (rw [e] at hm; have hm : m = brX D fl sl x := hm; omega))) rfl
  exact lp6 (n + 1) 0 0 none (by omega) (by omega) rfl rfl

set_option maxRecDepth 100000 in
set_option maxHeartbeats 4000000 in
theorem c_leastBroken_f1 (l : Launch) {Z : jZ} {D : jD} (hx : zX Z) {n : Nat} {fl sl : Nat → Nat} (hr : zXr Z n fl sl) (hn6 : n ≤ 6) (hrn : D 0 4 = nI n) (hb9 : lbk (brX D fl sl) n = none) : ja_M l (mX7_leastBroken 1 6) [.ref (0)] Z D ja_r0 (ja_jx "java/util/NoSuchElementException" Z D) := by
  refine ja_Mof (lv := [some (.ref (0)), none, none, none, none]) (by decide +kernel) rfl rfl (Nat.le_of_ble_eq_true rfl) rfl ?_
  refine ja_iconst (v := (-1)) dX7_leastBroken_0 (by decide +kernel) ?_
  refine ja_istore_n (i := 1) dX7_leastBroken_1 rfl rfl (Nat.le_of_ble_eq_true rfl) ?_
  refine ja_iconst (v := nI 0) dX7_leastBroken_2 (by decide +kernel) ?_
  refine ja_istore_n (i := 2) dX7_leastBroken_3 rfl rfl (Nat.le_of_ble_eq_true rfl) ?_
  refine ja_iconst (v := nI 0) dX7_leastBroken_4 (by decide +kernel) ?_
  refine ja_istore_n (i := 3) dX7_leastBroken_5 rfl rfl (Nat.le_of_ble_eq_true rfl) ?_
  have lp6 : ∀ (f6 : Nat) (r m : Nat) (b : Option Nat), (n < r + f6) → (r ≤ n) → (b = lbk (brX D fl sl) r) → (m = bMg (brX D fl sl) b) → ja_A l (mX7_leastBroken 1 6) ja_sn (ja_Qf (mX7_leastBroken 1 6) ja_r0 (ja_jx "java/util/NoSuchElementException" Z D)) 6 [some (.ref (0)), some (.int (oI b)), some (.int (nI (m))), some (.int (nI (r))), none] [] Z D 0 0 := by
    intro f6
    induction f6 with
    | zero => intro r m b hf hrl hb hm; exfalso; omega
    | succ f6 ih6 =>
      intro r m b hf hrl hb hm
      have hbx : brX D fl sl r ≤ 256 * 3 := xbk_le _ _ _ _ _
      have hmx : m ≤ 256 * 3 := by cases b with
                  | none => have hm : m = 0 := hm; omega
                  | some x => have hm : m = brX D fl sl x := hm; have : brX D fl sl x ≤ 256 * 3 := xbk_le _ _ _ _ _; omega
      refine ja_iload_n (i := 3) dX7_leastBroken_6 rfl rfl ?_
      refine ja_aload_n (i := 0) dX7_leastBroken_7 rfl rfl ?_
      refine ja_getI fl_X7_83 (zX_o0 hx) rfl dX7_leastBroken_8 ?_
      refine ja_top (y := nI (n)) hrn ?_
      refine ja_icmpN_ge (tgt := 51) dX7_leastBroken_11 (by decide) (by omega) (by omega) (fun c11 => ?_) (fun c11 => ?_)
      ·
        obtain rfl : r = n := by omega
        rw [hb9] at hb
        subst hb
        refine ja_iload_n (i := 1) dX7_leastBroken_51 rfl rfl ?_
        refine ja_iconst (v := (-1)) dX7_leastBroken_52 (by decide +kernel) ?_
        refine ja_icmp_ne (tgt := 66) dX7_leastBroken_53 (by decide) (fun c53 => absurd rfl c53) (fun c53 => ?_)
        refine ja_throwE ts_X7_173_175_177 rfl dX7_leastBroken_56 dX7_leastBroken_59 dX7_leastBroken_60 dX7_leastBroken_62 dX7_leastBroken_65 (Nat.le_of_ble_eq_true rfl) (Nat.le_of_ble_eq_true rfl) (Nat.le_of_ble_eq_true rfl) (Nat.le_of_ble_eq_true rfl) ?_
        exact ⟨rfl, rfl, rfl⟩
      ·
        refine ja_aload_n (i := 0) dX7_leastBroken_14 rfl rfl ?_
        refine ja_iload_n (i := 3) dX7_leastBroken_15 rfl rfl ?_
        refine ja_cVr (st := []) (c_ruleOf (D := D) l hx hr hn6 (r := r) (by omega)) rfl rfl (ce_X7_ruleOf 0 0) im_X7_ruleOf se_X7_ruleOf lk_X7_86 k_X7 (zX_o0 hx) ⟨(Nat.le_of_ble_eq_true rfl), (Nat.le_of_ble_eq_true rfl)⟩ dX7_leastBroken_16 rfl rfl (Nat.le_of_ble_eq_true rfl) (Nat.zero_le _) (Nat.zero_le _) ?_
        refine ja_cVr (st := []) (c_breaks (D := D) l hx hr (r := r) (by omega) (kd := D (60 + r) 0) rfl) rfl rfl (ce_X4_breaks 0 0) im_X4_breaks se_X4_breaks lk_X7_151 k_X4 (zR_o hr (r := r) (by omega)) ⟨(Nat.le_of_ble_eq_true rfl), (Nat.le_of_ble_eq_true rfl)⟩ dX7_leastBroken_19 rfl rfl (Nat.le_of_ble_eq_true rfl) (Nat.zero_le _) (Nat.zero_le _) ?_
        refine ja_top (y := nI (brX D fl sl r)) rfl ?_
        refine ja_istore (i := 4) dX7_leastBroken_22 rfl (Nat.le_of_ble_eq_true rfl) ?_
        refine ja_iload (i := 4) dX7_leastBroken_24 rfl ?_
        refine ja_ifN_le (tgt := 45) dX7_leastBroken_26 (by decide) (by omega) (fun c26 => ?_) (fun c26 => ?_)
        ·
          refine ja_iincN dX7_leastBroken_45 rfl rfl (Nat.le_of_ble_eq_true rfl) ?_
          refine ja_goto (tgt := 6) dX7_leastBroken_48 (by decide) ?_
          refine ja_forget (i := 4) ?_
          exact ih6 (r + 1) m b (by omega) (by omega) (lbk_n hb (by first | exact Or.inl (by omega) | (right; cases b with
            | none => exact absurd rfl c31
            | some x => have hm : m = brX D fl sl x := hm
                        exact ⟨x, rfl, by omega⟩))) hm
        ·
          have c26p : 0 < brX D fl sl r := by omega
          refine ja_iload_n (i := 1) dX7_leastBroken_29 rfl rfl ?_
          refine ja_iconst (v := (-1)) dX7_leastBroken_30 (by decide +kernel) ?_
          refine ja_icmp_eq (tgt := 40) dX7_leastBroken_31 (by decide) (fun c31 => ?_) (fun c31 => ?_)
          ·
            refine ja_iload_n (i := 3) dX7_leastBroken_40 rfl rfl ?_
            refine ja_istore_n (i := 1) dX7_leastBroken_41 rfl rfl (Nat.le_of_ble_eq_true rfl) ?_
            refine ja_iload (i := 4) dX7_leastBroken_42 rfl ?_
            refine ja_istore_n (i := 2) dX7_leastBroken_44 rfl rfl (Nat.le_of_ble_eq_true rfl) ?_
            refine ja_iincN dX7_leastBroken_45 rfl rfl (Nat.le_of_ble_eq_true rfl) ?_
            refine ja_goto (tgt := 6) dX7_leastBroken_48 (by decide) ?_
            refine ja_forget (i := 4) ?_
            exact ih6 (r + 1) _ (some r) (by omega) (by omega) (lbk_y hb c26p (fun x e => by first | (rw [e] at c31; exact absurd c31 (nI_nm1 (by have := lbk_lt (hb.symm.trans e); omega))) | (rw [e] at hm; have hm : m = brX D fl sl x := hm; omega))) rfl
          ·
            refine ja_iload (i := 4) dX7_leastBroken_34 rfl ?_
            refine ja_iload_n (i := 2) dX7_leastBroken_36 rfl rfl ?_
            refine ja_icmpN_ge (tgt := 45) dX7_leastBroken_37 (by decide) (by omega) (by omega) (fun c37 => ?_) (fun c37 => ?_)
            ·
              refine ja_iincN dX7_leastBroken_45 rfl rfl (Nat.le_of_ble_eq_true rfl) ?_
              refine ja_goto (tgt := 6) dX7_leastBroken_48 (by decide) ?_
              refine ja_forget (i := 4) ?_
              exact ih6 (r + 1) m b (by omega) (by omega) (lbk_n hb (by first | exact Or.inl (by omega) | (right; cases b with
            | none => exact absurd rfl c31
            | some x => have hm : m = brX D fl sl x := hm
                        exact ⟨x, rfl, by omega⟩))) hm
            ·
              refine ja_iload_n (i := 3) dX7_leastBroken_40 rfl rfl ?_
              refine ja_istore_n (i := 1) dX7_leastBroken_41 rfl rfl (Nat.le_of_ble_eq_true rfl) ?_
              refine ja_iload (i := 4) dX7_leastBroken_42 rfl ?_
              refine ja_istore_n (i := 2) dX7_leastBroken_44 rfl rfl (Nat.le_of_ble_eq_true rfl) ?_
              refine ja_iincN dX7_leastBroken_45 rfl rfl (Nat.le_of_ble_eq_true rfl) ?_
              refine ja_goto (tgt := 6) dX7_leastBroken_48 (by decide) ?_
              refine ja_forget (i := 4) ?_
              exact ih6 (r + 1) _ (some r) (by omega) (by omega) (lbk_y hb c26p (fun x e => by first | (rw [e] at c31; exact absurd c31 (nI_nm1 (by have := lbk_lt (hb.symm.trans e); omega))) | (rw [e] at hm; have hm : m = brX D fl sl x := hm; omega))) rfl
  exact lp6 (n + 1) 0 0 none (by omega) (by omega) rfl rfl

set_option maxRecDepth 100000 in
set_option maxHeartbeats 4000000 in
theorem c_name_f1 (l : Launch) {Z : jZ} {D : jD} (hx : zX Z) {ly : Int32} (a nx : Int32) (hl : ¬ (nI 0 ≤ ly ∧ ly ≤ nI 2))  : ja_M l (mX7_name 1 6) [.ref (0), .int (ly), .int (a), .int (nx)] Z D ja_r0 (ja_jx "java/lang/IndexOutOfBoundsException" Z D) := by
  refine ja_Mof (lv := [some (.ref (0)), some (.int (ly)), some (.int (a)), some (.int (nx)), none, none]) (by decide +kernel) rfl rfl (Nat.le_of_ble_eq_true rfl) rfl ?_
  refine ja_aload_n (i := 0) dX7_name_0 rfl rfl ?_
  refine ja_iload_n (i := 1) dX7_name_1 rfl rfl ?_
  refine ja_cVx (st := []) (c_layerOf_x (D := D) l hx hl) (ce_X7_layerOf 1 6) im_X7_layerOf se_X7_layerOf lk_X7_93 k_X7 (zX_o0 hx) ⟨(Nat.le_of_ble_eq_true rfl), (Nat.le_of_ble_eq_true rfl)⟩ dX7_name_2 rfl rfl (Nat.le_of_ble_eq_true rfl) (Nat.le_of_ble_eq_true rfl) (Nat.le_of_ble_eq_true rfl) ?_
  refine ja_out rfl (Nat.le_of_ble_eq_true rfl) (Nat.le_of_ble_eq_true rfl) ?_
  exact ⟨rfl, rfl, rfl⟩

set_option maxRecDepth 100000 in
set_option maxHeartbeats 4000000 in
theorem c_name_f2 (l : Launch) {Z : jZ} {D : jD} (hx : zX Z) {ly : Nat} (h1 : ly < 3) {a : Int32} (nx : Int32) (ha : ¬ (nI 0 ≤ a ∧ a ≤ nI 9))  : ja_M l (mX7_name 1 6) [.ref (0), .int (nI (ly)), .int (a), .int (nx)] Z D ja_r0 (ja_jx "java/lang/IllegalArgumentException" Z D) := by
  refine ja_Mof (lv := [some (.ref (0)), some (.int (nI (ly))), some (.int (a)), some (.int (nx)), none, none]) (by decide +kernel) rfl rfl (Nat.le_of_ble_eq_true rfl) rfl ?_
  refine ja_aload_n (i := 0) dX7_name_0 rfl rfl ?_
  refine ja_iload_n (i := 1) dX7_name_1 rfl rfl ?_
  refine ja_cVr (st := []) (c_layerOf (D := D) l hx (ly := ly) (by omega)) rfl rfl (ce_X7_layerOf 0 0) im_X7_layerOf se_X7_layerOf lk_X7_93 k_X7 (zX_o0 hx) ⟨(Nat.le_of_ble_eq_true rfl), (Nat.le_of_ble_eq_true rfl)⟩ dX7_name_2 rfl rfl (Nat.le_of_ble_eq_true rfl) (Nat.zero_le _) (Nat.zero_le _) ?_
  refine ja_astore (i := 4) dX7_name_5 rfl (Nat.le_of_ble_eq_true rfl) ?_
  refine ja_iload_n (i := 2) dX7_name_7 rfl rfl ?_
  refine ja_cSx (st := []) (c_needArea_x (D := D) l ha) (ce_X7_needArea 1 6) st_X7_needArea lk_X7_138 ⟨(Nat.le_of_ble_eq_true rfl), (Nat.le_of_ble_eq_true rfl)⟩ dX7_name_8 rfl rfl (Nat.le_of_ble_eq_true rfl) (Nat.le_of_ble_eq_true rfl) (Nat.le_of_ble_eq_true rfl) ?_
  refine ja_out rfl (Nat.le_of_ble_eq_true rfl) (Nat.le_of_ble_eq_true rfl) ?_
  exact ⟨rfl, rfl, rfl⟩

set_option maxRecDepth 100000 in
set_option maxHeartbeats 4000000 in
theorem c_name_f2b (l : Launch) {Z : jZ} {D : jD} (hx : zX Z) {ly : Nat} (h1 : ly < 3) {a : Nat} (h2 : a < 10) {nx : Int32} (hnx : ¬ (nI 0 ≤ nx ∧ nx ≤ nI 6)) : ja_M l (mX7_name 1 6) [.ref (0), .int (nI (ly)), .int (nI (a)), .int (nx)] Z D ja_r0 (ja_jx "java/lang/IllegalArgumentException" Z D) := by
  refine ja_Mof (lv := [some (.ref (0)), some (.int (nI (ly))), some (.int (nI (a))), some (.int (nx)), none, none]) (by decide +kernel) rfl rfl (Nat.le_of_ble_eq_true rfl) rfl ?_
  refine ja_aload_n (i := 0) dX7_name_0 rfl rfl ?_
  refine ja_iload_n (i := 1) dX7_name_1 rfl rfl ?_
  refine ja_cVr (st := []) (c_layerOf (D := D) l hx (ly := ly) (by omega)) rfl rfl (ce_X7_layerOf 0 0) im_X7_layerOf se_X7_layerOf lk_X7_93 k_X7 (zX_o0 hx) ⟨(Nat.le_of_ble_eq_true rfl), (Nat.le_of_ble_eq_true rfl)⟩ dX7_name_2 rfl rfl (Nat.le_of_ble_eq_true rfl) (Nat.zero_le _) (Nat.zero_le _) ?_
  refine ja_astore (i := 4) dX7_name_5 rfl (Nat.le_of_ble_eq_true rfl) ?_
  refine ja_iload_n (i := 2) dX7_name_7 rfl rfl ?_
  refine ja_cSr0 (st := []) (c_needArea (D := D) l (a := a) (by omega)) rfl rfl (ce_X7_needArea 0 0) st_X7_needArea lk_X7_138 ⟨(Nat.le_of_ble_eq_true rfl), (Nat.le_of_ble_eq_true rfl)⟩ dX7_name_8 rfl rfl (Nat.le_of_ble_eq_true rfl) (Nat.zero_le _) (Nat.zero_le _) ?_
  refine ja_iload_n (i := 3) dX7_name_11 rfl rfl ?_
  refine ja_if_lt (tgt := 21) dX7_name_12 (by decide) (fun c12 => ?_) (fun c12 => ?_)
  ·
    refine ja_throwW ts_X7_60_299_64 rfl dX7_name_21 dX7_name_24 dX7_name_25 dX7_name_28 dX7_name_31 (Nat.le_of_ble_eq_true rfl) (Nat.le_of_ble_eq_true rfl) (Nat.le_of_ble_eq_true rfl) (Nat.le_of_ble_eq_true rfl) ?_
    exact ⟨rfl, rfl, rfl⟩
  ·
    refine ja_iload_n (i := 3) dX7_name_15 rfl rfl ?_
    refine ja_bipush (v := nI 6) dX7_name_16 (by decide +kernel) ?_
    refine ja_icmp_le (tgt := 32) dX7_name_18 (by decide) (fun c18 => ?_) (fun c18 => ?_)
    ·
      exact absurd ⟨Int32.not_lt.mp c12, c18⟩ hnx
    ·
      refine ja_throwW ts_X7_60_299_64 rfl dX7_name_21 dX7_name_24 dX7_name_25 dX7_name_28 dX7_name_31 (Nat.le_of_ble_eq_true rfl) (Nat.le_of_ble_eq_true rfl) (Nat.le_of_ble_eq_true rfl) (Nat.le_of_ble_eq_true rfl) ?_
      exact ⟨rfl, rfl, rfl⟩

set_option maxRecDepth 100000 in
set_option maxHeartbeats 4000000 in
theorem c_name_ok (l : Launch) {Z : jZ} {D : jD} (hx : zX Z) {ly : Nat} (h1 : ly < 3) {a : Nat} (h2 : a < 10) {nx : Nat} (hnx : nx ≤ 6) : ja_M l (mX7_name 0 0) [.ref (0), .int (nI (ly)), .int (nI (a)), .int (nI (nx))] Z D (ja_jd (some (.int (D (34 + 10 * ly) a))) Z (fun D2 => D2 = ja_up D (34 + 10 * ly) a (nI nx))) ja_x0 := by
  refine ja_Mof (lv := [some (.ref (0)), some (.int (nI (ly))), some (.int (nI (a))), some (.int (nI (nx))), none, none]) (by decide +kernel) rfl rfl (Nat.le_of_ble_eq_true rfl) rfl ?_
  refine ja_aload_n (i := 0) dX7_name_0 rfl rfl ?_
  refine ja_iload_n (i := 1) dX7_name_1 rfl rfl ?_
  refine ja_cVr (st := []) (c_layerOf (D := D) l hx (ly := ly) (by omega)) rfl rfl (ce_X7_layerOf 0 0) im_X7_layerOf se_X7_layerOf lk_X7_93 k_X7 (zX_o0 hx) ⟨(Nat.le_of_ble_eq_true rfl), (Nat.le_of_ble_eq_true rfl)⟩ dX7_name_2 rfl rfl (Nat.le_of_ble_eq_true rfl) (Nat.zero_le _) (Nat.zero_le _) ?_
  refine ja_astore (i := 4) dX7_name_5 rfl (Nat.le_of_ble_eq_true rfl) ?_
  refine ja_iload_n (i := 2) dX7_name_7 rfl rfl ?_
  refine ja_cSr0 (st := []) (c_needArea (D := D) l (a := a) (by omega)) rfl rfl (ce_X7_needArea 0 0) st_X7_needArea lk_X7_138 ⟨(Nat.le_of_ble_eq_true rfl), (Nat.le_of_ble_eq_true rfl)⟩ dX7_name_8 rfl rfl (Nat.le_of_ble_eq_true rfl) (Nat.zero_le _) (Nat.zero_le _) ?_
  refine ja_iload_n (i := 3) dX7_name_11 rfl rfl ?_
  refine ja_ifN_lt dX7_name_12 (tgt := 21) (by decide) (by omega) ?_
  refine ja_iload_n (i := 3) dX7_name_15 rfl rfl ?_
  refine ja_bipush (v := nI 6) dX7_name_16 (by decide +kernel) ?_
  refine ja_icmpN_le (tgt := 32) dX7_name_18 (by decide) (by omega) (by omega) (fun c18 => ?_) (fun c18 => (by exfalso; omega))
  refine ja_aload (i := 4) dX7_name_32 rfl ?_
  refine ja_getR fl_X7_301 (zL_o hx (l := ly) (by omega)) rfl (zL_p3 hx (l := ly) (by omega)) dX7_name_34 ?_
  refine ja_iload_n (i := 2) dX7_name_37 rfl rfl ?_
  refine ja_iald (zL_a3 hx (l := ly) (by omega)) rfl (by omega) (by decide) dX7_name_38 ?_
  refine ja_istore (i := 5) dX7_name_39 rfl (Nat.le_of_ble_eq_true rfl) ?_
  refine ja_aload (i := 4) dX7_name_41 rfl ?_
  refine ja_getR fl_X7_301 (zL_o hx (l := ly) (by omega)) rfl (zL_p3 hx (l := ly) (by omega)) dX7_name_43 ?_
  refine ja_iload_n (i := 2) dX7_name_46 rfl rfl ?_
  refine ja_iload_n (i := 3) dX7_name_47 rfl rfl ?_
  refine ja_iast (zL_a3 hx (l := ly) (by omega)) rfl (by omega) (by decide) dX7_name_48 ?_
  refine ja_iload (i := 5) dX7_name_49 rfl ?_
  refine ja_iret rfl rfl dX7_name_51 (Nat.zero_le _) (Nat.zero_le _) ?_
  exact ⟨rfl, rfl, rfl⟩

set_option maxRecDepth 100000 in
set_option maxHeartbeats 4000000 in
theorem c_keep_f1 (l : Launch) {Z : jZ} {D : jD} (hx : zX Z) (hin : D 0 7 = bI false)  : ja_M l (mX7_keep 1 6) [.ref (0)] Z D ja_r0 (ja_jx "java/lang/IllegalStateException" Z D) := by
  refine ja_Mof (lv := [some (.ref (0)), none, none]) (by decide +kernel) rfl rfl (Nat.le_of_ble_eq_true rfl) rfl ?_
  refine ja_aload_n (i := 0) dX7_keep_0 rfl rfl ?_
  refine ja_cVx (st := []) (c_needSession_x (D := D) l hx hin) (ce_X7_needSession 1 6) im_X7_needSession se_X7_needSession lk_X7_108 k_X7 (zX_o0 hx) ⟨(Nat.le_of_ble_eq_true rfl), (Nat.le_of_ble_eq_true rfl)⟩ dX7_keep_1 rfl rfl (Nat.le_of_ble_eq_true rfl) (Nat.le_of_ble_eq_true rfl) (Nat.le_of_ble_eq_true rfl) ?_
  refine ja_out rfl (Nat.le_of_ble_eq_true rfl) (Nat.le_of_ble_eq_true rfl) ?_
  exact ⟨rfl, rfl, rfl⟩

set_option maxRecDepth 100000 in
set_option maxHeartbeats 4000000 in
theorem c_keep_f2 (l : Launch) {Z : jZ} {D : jD} (hx : zX Z) {n : Nat} {fl sl : Nat → Nat} (hr : zXr Z n fl sl) (hn6 : n ≤ 6) (hrn : D 0 4 = nI n) {sg : Nat → Bool} (hsg : ∀ k, k < n → D (60 + k) 3 = bI (sg k)) (hin : D 0 7 = bI true) (hbad : ∃ j, j < n ∧ sg j = false ∧ 0 < brX D fl sl j) : ja_M l (mX7_keep 1 6) [.ref (0)] Z D ja_r0 (ja_jx "java/lang/UnsupportedOperationException" Z D) := by
  refine ja_Mof (lv := [some (.ref (0)), none, none]) (by decide +kernel) rfl rfl (Nat.le_of_ble_eq_true rfl) rfl ?_
  refine ja_aload_n (i := 0) dX7_keep_0 rfl rfl ?_
  refine ja_cVr0 (st := []) (c_needSession (D := D) l hx hin) rfl rfl (ce_X7_needSession 0 0) im_X7_needSession se_X7_needSession lk_X7_108 k_X7 (zX_o0 hx) ⟨(Nat.le_of_ble_eq_true rfl), (Nat.le_of_ble_eq_true rfl)⟩ dX7_keep_1 rfl rfl (Nat.le_of_ble_eq_true rfl) (Nat.zero_le _) (Nat.zero_le _) ?_
  refine ja_iconst (v := nI 0) dX7_keep_4 (by decide +kernel) ?_
  refine ja_istore_n (i := 1) dX7_keep_5 rfl rfl (Nat.le_of_ble_eq_true rfl) ?_
  have lp6 : ∀ (f6 : Nat) (r : Nat), (n < r + f6) → (r ≤ n) → (∀ j, j < r → sg j = true ∨ brX D fl sl j = 0) → ja_A l (mX7_keep 1 6) ja_sn (ja_Qf (mX7_keep 1 6) ja_r0 (ja_jx "java/lang/UnsupportedOperationException" Z D)) 6 [some (.ref (0)), some (.int (nI (r))), none] [] Z D 0 0 := by
    intro f6
    induction f6 with
    | zero => intro r hf hrl hb; exfalso; omega
    | succ f6 ih6 =>
      intro r hf hrl hb
      have hbx : brX D fl sl r ≤ 256 * 3 := xbk_le _ _ _ _ _
      refine ja_iload_n (i := 1) dX7_keep_6 rfl rfl ?_
      refine ja_aload_n (i := 0) dX7_keep_7 rfl rfl ?_
      refine ja_getI fl_X7_83 (zX_o0 hx) rfl dX7_keep_8 ?_
      refine ja_top (y := nI (n)) hrn ?_
      refine ja_icmpN_ge (tgt := 50) dX7_keep_11 (by decide) (by omega) (by omega) (fun c11 => ?_) (fun c11 => ?_)
      ·
        exfalso
        obtain ⟨j, j1, j2, j3⟩ := hbad
        rcases hb j (by omega) with e | e
        · rw [e] at j2; cases j2
        · omega
      ·
        refine ja_aload_n (i := 0) dX7_keep_14 rfl rfl ?_
        refine ja_iload_n (i := 1) dX7_keep_15 rfl rfl ?_
        refine ja_cVr (st := []) (c_ruleOf (D := D) l hx hr hn6 (r := r) (by omega)) rfl rfl (ce_X7_ruleOf 0 0) im_X7_ruleOf se_X7_ruleOf lk_X7_86 k_X7 (zX_o0 hx) ⟨(Nat.le_of_ble_eq_true rfl), (Nat.le_of_ble_eq_true rfl)⟩ dX7_keep_16 rfl rfl (Nat.le_of_ble_eq_true rfl) (Nat.zero_le _) (Nat.zero_le _) ?_
        refine ja_astore_n (i := 2) dX7_keep_19 rfl rfl (Nat.le_of_ble_eq_true rfl) ?_
        refine ja_aload_n (i := 2) dX7_keep_20 rfl rfl ?_
        refine ja_getI fl_X7_90 (zR_o hr (r := r) (by omega)) rfl dX7_keep_21 ?_
        refine ja_top (y := bI (sg r)) (hsg r (by omega)) ?_
        refine ja_ifB_ne (tgt := 44) dX7_keep_24 (by decide) (fun c24 => ?_) (fun c24 => ?_)
        ·
          refine ja_iincN dX7_keep_44 rfl rfl (Nat.le_of_ble_eq_true rfl) ?_
          refine ja_goto (tgt := 6) dX7_keep_47 (by decide) ?_
          refine ja_forget (i := 2) ?_
          exact ih6 (r + 1) (by omega) (by omega) (fun j hj => if e : j = r then (by subst e; first | exact Or.inl c24 | exact Or.inr (by omega)) else hb j (by omega))
        ·
          refine ja_aload_n (i := 2) dX7_keep_27 rfl rfl ?_
          refine ja_cVr (st := []) (c_breaks (D := D) l hx hr (r := r) (by omega) (kd := D (60 + r) 0) rfl) rfl rfl (ce_X4_breaks 0 0) im_X4_breaks se_X4_breaks lk_X7_151 k_X4 (zR_o hr (r := r) (by omega)) ⟨(Nat.le_of_ble_eq_true rfl), (Nat.le_of_ble_eq_true rfl)⟩ dX7_keep_28 rfl rfl (Nat.le_of_ble_eq_true rfl) (Nat.zero_le _) (Nat.zero_le _) ?_
          refine ja_top (y := nI (brX D fl sl r)) rfl ?_
          refine ja_ifN_le (tgt := 44) dX7_keep_31 (by decide) (by omega) (fun c31 => ?_) (fun c31 => ?_)
          ·
            refine ja_iincN dX7_keep_44 rfl rfl (Nat.le_of_ble_eq_true rfl) ?_
            refine ja_goto (tgt := 6) dX7_keep_47 (by decide) ?_
            refine ja_forget (i := 2) ?_
            exact ih6 (r + 1) (by omega) (by omega) (fun j hj => if e : j = r then (by subst e; first | exact Or.inl c24 | exact Or.inr (by omega)) else hb j (by omega))
          ·
            refine ja_throw ts_X7_130_155_134 rfl dX7_keep_34 dX7_keep_37 dX7_keep_38 dX7_keep_40 dX7_keep_43 (Nat.le_of_ble_eq_true rfl) (Nat.le_of_ble_eq_true rfl) (Nat.le_of_ble_eq_true rfl) (Nat.le_of_ble_eq_true rfl) ?_
            exact ⟨rfl, rfl, rfl⟩
  exact lp6 (n + 1) 0 (by omega) (by omega) (fun j hj => absurd hj (Nat.not_lt_zero j))

set_option maxRecDepth 100000 in
set_option maxHeartbeats 4000000 in
theorem c_keep_ok (l : Launch) {Z : jZ} {D : jD} (hx : zX Z) {n : Nat} {fl sl : Nat → Nat} (hr : zXr Z n fl sl) (hn6 : n ≤ 6) (hrn : D 0 4 = nI n) {sg : Nat → Bool} (hsg : ∀ k, k < n → D (60 + k) 3 = bI (sg k)) (hin : D 0 7 = bI true) {tn : Nat} (hnow : D 0 6 = nI tn) (htn : tn < 40) {w0 : Nat} (hw0 : D 0 8 = nI w0) (hgd : ∀ j, j < n → sg j = true ∨ brX D fl sl j = 0) : ja_M l (mX7_keep 0 0) [.ref (0)] Z D (ja_jd (some (.int (nI (tn + 1)))) Z (fun D2 => D2 = ja_up (kpU (ja_up (ja_up D 0 6 (nI (tn + 1))) 4 (tn + 1) (nI w0)) (tn + 1) 3) 0 7 0)) ja_x0 := by
  refine ja_Mof (lv := [some (.ref (0)), none, none]) (by decide +kernel) rfl rfl (Nat.le_of_ble_eq_true rfl) rfl ?_
  refine ja_aload_n (i := 0) dX7_keep_0 rfl rfl ?_
  refine ja_cVr0 (st := []) (c_needSession (D := D) l hx hin) rfl rfl (ce_X7_needSession 0 0) im_X7_needSession se_X7_needSession lk_X7_108 k_X7 (zX_o0 hx) ⟨(Nat.le_of_ble_eq_true rfl), (Nat.le_of_ble_eq_true rfl)⟩ dX7_keep_1 rfl rfl (Nat.le_of_ble_eq_true rfl) (Nat.zero_le _) (Nat.zero_le _) ?_
  refine ja_iconst (v := nI 0) dX7_keep_4 (by decide +kernel) ?_
  refine ja_istore_n (i := 1) dX7_keep_5 rfl rfl (Nat.le_of_ble_eq_true rfl) ?_
  have lp6 : ∀ (f6 : Nat) (r : Nat), (n < r + f6) → (r ≤ n) → (∀ j, j < r → sg j = true ∨ brX D fl sl j = 0) → ja_A l (mX7_keep 0 0) ja_sn (ja_Qf (mX7_keep 0 0) (ja_jd (some (.int (nI (tn + 1)))) Z (fun D2 => D2 = ja_up (kpU (ja_up (ja_up D 0 6 (nI (tn + 1))) 4 (tn + 1) (nI w0)) (tn + 1) 3) 0 7 0)) ja_x0) 6 [some (.ref (0)), some (.int (nI (r))), none] [] Z D 0 0 := by
    intro f6
    induction f6 with
    | zero => intro r hf hrl hb; exfalso; omega
    | succ f6 ih6 =>
      intro r hf hrl hb
      have hbx : brX D fl sl r ≤ 256 * 3 := xbk_le _ _ _ _ _
      refine ja_iload_n (i := 1) dX7_keep_6 rfl rfl ?_
      refine ja_aload_n (i := 0) dX7_keep_7 rfl rfl ?_
      refine ja_getI fl_X7_83 (zX_o0 hx) rfl dX7_keep_8 ?_
      refine ja_top (y := nI (n)) hrn ?_
      refine ja_icmpN_ge (tgt := 50) dX7_keep_11 (by decide) (by omega) (by omega) (fun c11 => ?_) (fun c11 => ?_)
      ·
        refine ja_aload_n (i := 0) dX7_keep_50 rfl rfl ?_
        refine ja_getI fl_X7_71 (zX_o0 hx) rfl dX7_keep_51 ?_
        refine ja_top (y := nI (tn)) hnow ?_
        refine ja_bipush (v := nI 40) dX7_keep_54 (by decide +kernel) ?_
        refine ja_icmpN_ge (tgt := 107) dX7_keep_56 (by decide) (by omega) (by omega) (fun c56 => (by exfalso; omega)) (fun c56 => ?_)
        refine ja_aload_n (i := 0) dX7_keep_59 rfl rfl ?_
        refine ja_dup dX7_keep_60 rfl ?_
        refine ja_getI fl_X7_71 (zX_o0 hx) rfl dX7_keep_61 ?_
        refine ja_top (y := nI (tn)) hnow ?_
        refine ja_iconst (v := nI 1) dX7_keep_64 (by decide +kernel) ?_
        refine ja_iaddN dX7_keep_65 ?_
        refine ja_putI fl_X7_71 (zX_o0 hx) rfl rfl rfl dX7_keep_66 ?_
        refine ja_aload_n (i := 0) dX7_keep_69 rfl rfl ?_
        refine ja_getR fl_X7_27 (zX_o0 hx) rfl (zX_p0_3 hx) dX7_keep_70 ?_
        refine ja_aload_n (i := 0) dX7_keep_73 rfl rfl ?_
        refine ja_getI fl_X7_71 (zX_o0 hx) rfl dX7_keep_74 ?_
        refine ja_top (y := nI (tn + 1)) up_s ?_
        refine ja_aload_n (i := 0) dX7_keep_77 rfl rfl ?_
        refine ja_getI fl_X7_80 (zX_o0 hx) rfl dX7_keep_78 ?_
        refine ja_top (y := nI w0) (by rw [up_n (by omega)]; exact hw0) ?_
        refine ja_iast (zX_o4 hx) rfl (by omega) (by decide) dX7_keep_81 ?_
        refine ja_iconst (v := nI 0) dX7_keep_82 (by decide +kernel) ?_
        refine ja_istore_n (i := 1) dX7_keep_83 rfl rfl (Nat.le_of_ble_eq_true rfl) ?_
        have lp84 : ∀ (f84 : Nat) (k : Nat) (E : jD), (3 < k + f84) → (k ≤ 3) → (E = kpU (ja_up (ja_up D 0 6 (nI (tn + 1))) 4 (tn + 1) (nI w0)) (tn + 1) k) → ja_A l (mX7_keep 0 0) ja_sn (ja_Qf (mX7_keep 0 0) (ja_jd (some (.int (nI (tn + 1)))) Z (fun D2 => D2 = ja_up (kpU (ja_up (ja_up D 0 6 (nI (tn + 1))) 4 (tn + 1) (nI w0)) (tn + 1) 3) 0 7 0)) ja_x0) 84 [some (.ref (0)), some (.int (nI (k))), none] [] Z E 0 0 := by
          intro f84
          induction f84 with
          | zero => intro k E hf hk hE; exfalso; omega
          | succ f84 ih84 =>
            intro k E hf hk hE
            refine ja_iload_n (i := 1) dX7_keep_84 rfl rfl ?_
            refine ja_iconst (v := nI 3) dX7_keep_85 (by decide +kernel) ?_
            refine ja_icmpN_ge (tgt := 107) dX7_keep_86 (by decide) (by omega) (by omega) (fun c86 => ?_) (fun c86 => ?_)
            ·
              refine ja_aload_n (i := 0) dX7_keep_107 rfl rfl ?_
              refine ja_iconst (v := nI 0) dX7_keep_108 (by decide +kernel) ?_
              refine ja_putI fl_X7_67 (zX_o0 hx) rfl (by decide +kernel) (by decide +kernel) dX7_keep_109 ?_
              refine ja_aload_n (i := 0) dX7_keep_112 rfl rfl ?_
              refine ja_getI fl_X7_71 (zX_o0 hx) rfl dX7_keep_113 ?_
              refine ja_top (y := nI (tn + 1)) (by rw [up_n (by omega), hE, kpU_o (by omega) (by omega), up_n (by omega), up_s]) ?_
              refine ja_iret rfl rfl dX7_keep_116 (Nat.zero_le _) (Nat.zero_le _) ?_
              exact ⟨rfl, rfl, by rw [hE, show k = 3 by omega]; rfl⟩
            ·
              refine ja_aload_n (i := 0) dX7_keep_89 rfl rfl ?_
              refine ja_iload_n (i := 1) dX7_keep_90 rfl rfl ?_
              refine ja_cVr (st := []) (c_layerOf (D := E) l hx (ly := k) (by omega)) rfl rfl (ce_X7_layerOf 0 0) im_X7_layerOf se_X7_layerOf lk_X7_93 k_X7 (zX_o0 hx) ⟨(Nat.le_of_ble_eq_true rfl), (Nat.le_of_ble_eq_true rfl)⟩ dX7_keep_91 rfl rfl (Nat.le_of_ble_eq_true rfl) (Nat.zero_le _) (Nat.zero_le _) ?_
              refine ja_aload_n (i := 0) dX7_keep_94 rfl rfl ?_
              refine ja_getI fl_X7_71 (zX_o0 hx) rfl dX7_keep_95 ?_
              refine ja_top (y := nI (tn + 1)) (by rw [hE, kpU_o (by omega) (by omega), up_n (by omega), up_s]) ?_
              refine ja_cVd0 (st := []) (c_store (D := E) l hx (ly := k) (by omega) (t := tn + 1) (by omega)) rfl rfl (ce_X1_store 0 0) im_X1_store se_X1_store lk_X7_157 k_X1 (zL_o hx (l := k) (by omega)) ⟨(Nat.le_of_ble_eq_true rfl), (Nat.le_of_ble_eq_true rfl)⟩ dX7_keep_98 rfl rfl (Nat.le_of_ble_eq_true rfl) (Nat.zero_le _) (Nat.zero_le _) ?_
              intro D98 hD98
              subst hD98
              refine ja_iincN dX7_keep_101 rfl rfl (Nat.le_of_ble_eq_true rfl) ?_
              refine ja_goto (tgt := 84) dX7_keep_104 (by decide) ?_
              exact ih84 (k + 1) _ (by omega) (by omega) (by rw [hE]; rfl)
        exact lp84 4 0 _ (by omega) (by omega) rfl
      ·
        refine ja_aload_n (i := 0) dX7_keep_14 rfl rfl ?_
        refine ja_iload_n (i := 1) dX7_keep_15 rfl rfl ?_
        refine ja_cVr (st := []) (c_ruleOf (D := D) l hx hr hn6 (r := r) (by omega)) rfl rfl (ce_X7_ruleOf 0 0) im_X7_ruleOf se_X7_ruleOf lk_X7_86 k_X7 (zX_o0 hx) ⟨(Nat.le_of_ble_eq_true rfl), (Nat.le_of_ble_eq_true rfl)⟩ dX7_keep_16 rfl rfl (Nat.le_of_ble_eq_true rfl) (Nat.zero_le _) (Nat.zero_le _) ?_
        refine ja_astore_n (i := 2) dX7_keep_19 rfl rfl (Nat.le_of_ble_eq_true rfl) ?_
        refine ja_aload_n (i := 2) dX7_keep_20 rfl rfl ?_
        refine ja_getI fl_X7_90 (zR_o hr (r := r) (by omega)) rfl dX7_keep_21 ?_
        refine ja_top (y := bI (sg r)) (hsg r (by omega)) ?_
        refine ja_ifB_ne (tgt := 44) dX7_keep_24 (by decide) (fun c24 => ?_) (fun c24 => ?_)
        ·
          refine ja_iincN dX7_keep_44 rfl rfl (Nat.le_of_ble_eq_true rfl) ?_
          refine ja_goto (tgt := 6) dX7_keep_47 (by decide) ?_
          refine ja_forget (i := 2) ?_
          exact ih6 (r + 1) (by omega) (by omega) (fun j hj => if e : j = r then (by subst e; first | exact Or.inl c24 | exact Or.inr (by omega)) else hb j (by omega))
        ·
          refine ja_aload_n (i := 2) dX7_keep_27 rfl rfl ?_
          refine ja_cVr (st := []) (c_breaks (D := D) l hx hr (r := r) (by omega) (kd := D (60 + r) 0) rfl) rfl rfl (ce_X4_breaks 0 0) im_X4_breaks se_X4_breaks lk_X7_151 k_X4 (zR_o hr (r := r) (by omega)) ⟨(Nat.le_of_ble_eq_true rfl), (Nat.le_of_ble_eq_true rfl)⟩ dX7_keep_28 rfl rfl (Nat.le_of_ble_eq_true rfl) (Nat.zero_le _) (Nat.zero_le _) ?_
          refine ja_top (y := nI (brX D fl sl r)) rfl ?_
          refine ja_ifN_le (tgt := 44) dX7_keep_31 (by decide) (by omega) (fun c31 => ?_) (fun c31 => ?_)
          ·
            refine ja_iincN dX7_keep_44 rfl rfl (Nat.le_of_ble_eq_true rfl) ?_
            refine ja_goto (tgt := 6) dX7_keep_47 (by decide) ?_
            refine ja_forget (i := 2) ?_
            exact ih6 (r + 1) (by omega) (by omega) (fun j hj => if e : j = r then (by subst e; first | exact Or.inl c24 | exact Or.inr (by omega)) else hb j (by omega))
          ·
            exfalso
            rcases hgd r (by omega) with e | e
            · rw [e] at c24; cases c24
            · omega
  exact lp6 (n + 1) 0 (by omega) (by omega) (fun j hj => absurd hj (Nat.not_lt_zero j))

set_option maxRecDepth 100000 in
set_option maxHeartbeats 4000000 in
theorem c_drop_f1 (l : Launch) {Z : jZ} {D : jD} (hx : zX Z) (hin : D 0 7 = bI false)  : ja_M l (mX7_drop 1 6) [.ref (0)] Z D ja_r0 (ja_jx "java/lang/IllegalStateException" Z D) := by
  refine ja_Mof (lv := [some (.ref (0)), none, none]) (by decide +kernel) rfl rfl (Nat.le_of_ble_eq_true rfl) rfl ?_
  refine ja_aload_n (i := 0) dX7_drop_0 rfl rfl ?_
  refine ja_cVx (st := []) (c_needSession_x (D := D) l hx hin) (ce_X7_needSession 1 6) im_X7_needSession se_X7_needSession lk_X7_108 k_X7 (zX_o0 hx) ⟨(Nat.le_of_ble_eq_true rfl), (Nat.le_of_ble_eq_true rfl)⟩ dX7_drop_1 rfl rfl (Nat.le_of_ble_eq_true rfl) (Nat.le_of_ble_eq_true rfl) (Nat.le_of_ble_eq_true rfl) ?_
  refine ja_out rfl (Nat.le_of_ble_eq_true rfl) (Nat.le_of_ble_eq_true rfl) ?_
  exact ⟨rfl, rfl, rfl⟩

def drU (X : jD) (c h : Nat → Nat → Option Nat) : Nat → jD
  | 0 => X
  | n + 1 => ja_cp (bkU (drU X c h n) n (c n) (h n) 256) (35 + 10 * n) 0 (33 + 10 * n) 0 10
theorem drU_o {X : jD} {c h : Nat → Nat → Option Nat} {a b : Nat} : ∀ {n}, (∀ m, m < n → ¬ a = 31 + 10 * m ∧ ¬ a = 32 + 10 * m ∧ ¬ a = 33 + 10 * m) → drU X c h n a b = X a b
  | 0, _ => rfl
  | n + 1, hn => by
    have h1 := hn n (by omega)
    rw [drU, ja_cp, if_neg h1.2.2, bkU_o h1.1 h1.2.1]
    exact drU_o (fun m hm => hn m (by omega))

set_option maxRecDepth 100000 in
set_option maxHeartbeats 4000000 in
theorem c_drop_ok (l : Launch) {Z : jZ} {D : jD} (hx : zX Z) (hin : D 0 7 = bI true) {tn : Nat} (hnow : D 0 6 = nI tn) (htn : tn ≤ 40) {c h : Nat → Nat → Option Nat} (hw : ∀ ly, ly < 3 → ∀ k x, c ly k = some x → x < 10) (hh : ∀ ly, ly < 3 → ∀ k x, h ly k = some x → x < 10) (hc : ∀ ly, ly < 3 → ∀ q, q < 256 → D (31 + 10 * ly) q = oI (c ly q)) (hcn : ∀ ly, ly < 3 → ∀ a, a < 10 → D (32 + 10 * ly) a = nI (eN (c ly) a)) (hst : ∀ ly, ly < 3 → ∀ q, q < 256 → D (36 + 10 * ly) (tn * 256 + q) = oI (h ly q))  : ja_M l (mX7_drop 0 0) [.ref (0)] Z D (ja_jd (some (.int (nI (fb_sm (fun ly => fb_ct (fun q => decide (¬ c ly q = h ly q)) 256) 3)))) Z (fun D2 => D2 = ja_up (drU D c h 3) 0 7 0)) ja_x0 := by
  refine ja_Mof (lv := [some (.ref (0)), none, none]) (by decide +kernel) rfl rfl (Nat.le_of_ble_eq_true rfl) rfl ?_
  refine ja_aload_n (i := 0) dX7_drop_0 rfl rfl ?_
  refine ja_cVr0 (st := []) (c_needSession (D := D) l hx hin) rfl rfl (ce_X7_needSession 0 0) im_X7_needSession se_X7_needSession lk_X7_108 k_X7 (zX_o0 hx) ⟨(Nat.le_of_ble_eq_true rfl), (Nat.le_of_ble_eq_true rfl)⟩ dX7_drop_1 rfl rfl (Nat.le_of_ble_eq_true rfl) (Nat.zero_le _) (Nat.zero_le _) ?_
  refine ja_iconst (v := nI 0) dX7_drop_4 (by decide +kernel) ?_
  refine ja_istore_n (i := 1) dX7_drop_5 rfl rfl (Nat.le_of_ble_eq_true rfl) ?_
  refine ja_iconst (v := nI 0) dX7_drop_6 (by decide +kernel) ?_
  refine ja_istore_n (i := 2) dX7_drop_7 rfl rfl (Nat.le_of_ble_eq_true rfl) ?_
  have lp8 : ∀ (f8 : Nat) (k m : Nat) (E : jD), (3 < k + f8) → (k ≤ 3) → (E = drU D c h k) → (m = fb_sm (fun ly => fb_ct (fun q => decide (¬ c ly q = h ly q)) 256) k) → ja_A l (mX7_drop 0 0) ja_sn (ja_Qf (mX7_drop 0 0) (ja_jd (some (.int (nI (fb_sm (fun ly => fb_ct (fun q => decide (¬ c ly q = h ly q)) 256) 3)))) Z (fun D2 => D2 = ja_up (drU D c h 3) 0 7 0)) ja_x0) 8 [some (.ref (0)), some (.int (nI (m))), some (.int (nI (k)))] [] Z E 0 0 := by
    intro f8
    induction f8 with
    | zero => intro k m E hf hk hE hm; exfalso; omega
    | succ f8 ih8 =>
      intro k m E hf hk hE hm
      refine ja_iload_n (i := 2) dX7_drop_8 rfl rfl ?_
      refine ja_iconst (v := nI 3) dX7_drop_9 (by decide +kernel) ?_
      refine ja_icmpN_ge (tgt := 34) dX7_drop_10 (by decide) (by omega) (by omega) (fun c10 => ?_) (fun c10 => ?_)
      ·
        refine ja_aload_n (i := 0) dX7_drop_34 rfl rfl ?_
        refine ja_iconst (v := nI 0) dX7_drop_35 (by decide +kernel) ?_
        refine ja_putI fl_X7_67 (zX_o0 hx) rfl (by decide +kernel) (by decide +kernel) dX7_drop_36 ?_
        refine ja_iload_n (i := 1) dX7_drop_39 rfl rfl ?_
        refine ja_iret rfl rfl dX7_drop_40 (Nat.zero_le _) (Nat.zero_le _) ?_
        exact ⟨by rw [hm, show k = 3 by omega], rfl, by rw [hE, show k = 3 by omega]; rfl⟩
      ·
        refine ja_iload_n (i := 1) dX7_drop_13 rfl rfl ?_
        refine ja_aload_n (i := 0) dX7_drop_14 rfl rfl ?_
        refine ja_iload_n (i := 2) dX7_drop_15 rfl rfl ?_
        refine ja_cVr (st := [.int (nI (m))]) (c_layerOf (D := E) l hx (ly := k) (by omega)) rfl rfl (ce_X7_layerOf 0 0) im_X7_layerOf se_X7_layerOf lk_X7_93 k_X7 (zX_o0 hx) ⟨(Nat.le_of_ble_eq_true rfl), (Nat.le_of_ble_eq_true rfl)⟩ dX7_drop_16 rfl rfl (Nat.le_of_ble_eq_true rfl) (Nat.zero_le _) (Nat.zero_le _) ?_
        refine ja_aload_n (i := 0) dX7_drop_19 rfl rfl ?_
        refine ja_getI fl_X7_71 (zX_o0 hx) rfl dX7_drop_20 ?_
        refine ja_top (y := nI (tn)) (by rw [hE, drU_o (by omega)]; exact hnow) ?_
        refine ja_cVd (st := [.int (nI (m))]) (c_goBack (D := E) l hx (ly := k) (by omega) (t := tn) (by omega) (c := c k) (h := h k) (hw k (by omega)) (hh k (by omega)) (fun q hq => by rw [hE, drU_o (by omega)]; exact hc k (by omega) q hq) (fun a ha => by rw [hE, drU_o (by omega)]; exact hcn k (by omega) a ha) (fun q hq => by rw [hE, drU_o (by omega)]; exact hst k (by omega) q hq)) rfl rfl (ce_X1_goBack 0 0) im_X1_goBack se_X1_goBack lk_X7_160 k_X1 (zL_o hx (l := k) (by omega)) ⟨(Nat.le_of_ble_eq_true rfl), (Nat.le_of_ble_eq_true rfl)⟩ dX7_drop_23 rfl rfl (Nat.le_of_ble_eq_true rfl) (Nat.zero_le _) (Nat.zero_le _) ?_
        intro D23 hD23
        subst hD23
        refine ja_iaddN dX7_drop_26 ?_
        refine ja_istore_n (i := 1) dX7_drop_27 rfl rfl (Nat.le_of_ble_eq_true rfl) ?_
        refine ja_iincN dX7_drop_28 rfl rfl (Nat.le_of_ble_eq_true rfl) ?_
        refine ja_goto (tgt := 8) dX7_drop_31 (by decide) ?_
        exact ih8 (k + 1) _ _ (by omega) (by omega) (by rw [hE]; rfl) (by rw [hm, fb_sm_succ])
  exact lp8 4 0 0 _ (by omega) (by omega) rfl rfl
