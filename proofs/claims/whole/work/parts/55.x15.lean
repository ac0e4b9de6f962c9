/-! THE CLASS: a layer goes back; is it as stored, are its worths sound -/
def mxO (c h : Nat → Option Nat) (n q : Nat) : Option Nat := if q < n then h q else c q
def bkU (D : jD) (ly : Nat) (c h : Nat → Option Nat) (n : Nat) : jD := fun a b => if a = 31 + 10 * ly ∧ b < 256 then oI (mxO c h n b) else if a = 32 + 10 * ly ∧ b < 10 then nI (eN (mxO c h n) b) else D a b
theorem bkU_o {D : jD} {ly n a b : Nat} {c h : Nat → Option Nat} (h1 : ¬ a = 31 + 10 * ly) (h2 : ¬ a = 32 + 10 * ly) : bkU D ly c h n a b = D a b := by
  rw [bkU, if_neg (fun x => h1 x.1), if_neg (fun x => h2 x.1)]
theorem bkU_q {D : jD} {ly n q : Nat} {c h : Nat → Option Nat} (hq : q < 256) : bkU D ly c h n (31 + 10 * ly) q = oI (mxO c h n q) := by rw [bkU, if_pos ⟨rfl, hq⟩]
theorem bkU_n {D : jD} {ly n q : Nat} {c h : Nat → Option Nat} (hq : q < 10) : bkU D ly c h n (32 + 10 * ly) q = nI (eN (mxO c h n) q) := by rw [bkU, if_neg (by omega), if_pos ⟨rfl, hq⟩]
theorem bkU_0 {D : jD} {ly : Nat} {c h : Nat → Option Nat} (hc : ∀ q, q < 256 → D (31 + 10 * ly) q = oI (c q)) (hn : ∀ a, a < 10 → D (32 + 10 * ly) a = nI (eN c a)) : D = bkU D ly c h 0 := by
  have z : mxO c h 0 = c := funext fun q => if_neg (Nat.not_lt_zero q)
  funext a b
  rw [bkU, z]
  by_cases e1 : a = 31 + 10 * ly ∧ b < 256
  · rw [if_pos e1, e1.1]; exact hc b e1.2
  · rw [if_neg e1]
    by_cases e2 : a = 32 + 10 * ly ∧ b < 10
    · rw [if_pos e2, e2.1]; exact hn b e2.2
    · rw [if_neg e2]
theorem mxO_s {c h : Nat → Option Nat} {n k : Nat} : mxO c h (n + 1) k = if k = n then h n else mxO c h n k := by
  unfold mxO
  by_cases e : k = n
  · rw [if_pos e, if_pos (by omega), e]
  · rw [if_neg e]
    by_cases e2 : k < n
    · rw [if_pos e2, if_pos (by omega)]
    · rw [if_neg e2, if_neg (by omega)]
theorem mxO_n {c h : Nat → Option Nat} {n : Nat} : mxO c h n n = c n := if_neg (Nat.lt_irrefl n)
theorem bkU_k {D : jD} {ly n : Nat} {c h : Nat → Option Nat} (e : c n = h n) : bkU D ly c h n = bkU D ly c h (n + 1) := by
  have z : mxO c h (n + 1) = mxO c h n := funext fun q => by
    rw [mxO_s]
    by_cases e2 : q = n
    · rw [if_pos e2, e2, mxO_n, e]
    · rw [if_neg e2]
  unfold bkU
  rw [z]
theorem mxO_e {c h : Nat → Option Nat} {n : Nat} (hn : n < 256) (a : Nat) : eN (mxO c h (n + 1)) a + (if c n = some a then 1 else 0) = eN (mxO c h n) a + (if h n = some a then 1 else 0) := by
  have h1 := fb_ct_upd (fun k => decide (mxO c h n k = some a)) (decide (h n = some a)) (i := n) (n := 256) hn
  have e : eN (mxO c h (n + 1)) a = fb_ct (fun k => if k = n then decide (h n = some a) else decide (mxO c h n k = some a)) 256 := fb_ct_cong fun k _ => by
    rw [mxO_s]
    by_cases e : k = n
    · rw [if_pos e, if_pos e]
    · rw [if_neg e, if_neg e]
  rw [e, eN]
  have g1 : (if (decide (mxO c h n n = some a)) = true then 1 else 0) = (if c n = some a then 1 else 0) := by rw [mxO_n]; simp only [decide_eq_true_eq]
  have g2 : (if (decide (h n = some a)) = true then 1 else 0) = (if h n = some a then 1 else 0) := by simp only [decide_eq_true_eq]
  rw [g1, g2] at h1
  exact h1
theorem bkU_s {D : jD} {ly n : Nat} {c h : Nat → Option Nat} (hw : ∀ k x, c k = some x → x < 10) (hh : ∀ k x, h k = some x → x < 10) (hn : n < 256) : ptU (bkU D ly c h n) ly n (c n) (h n) = bkU D ly c h (n + 1) := by
  funext a b
  rw [ptU]
  by_cases e1 : a = 31 + 10 * ly ∧ b < 256
  · obtain ⟨rfl, hb⟩ := e1
    rw [bkU_q hb, mxO_s]
    by_cases e : b = n
    · rw [if_pos e, e, up_s]
    · rw [if_neg e, up_n (fun h => e h.2), szD_o (by omega), bkU_q hb]
  rw [up_n (fun h => e1 ⟨h.1, by omega⟩)]
  by_cases e2 : a = 32 + 10 * ly ∧ b < 10
  · obtain ⟨rfl, hb⟩ := e2
    rw [bkU_n hb, szD_n, bkU_n hb]
    have h1 := mxO_e (c := c) (h := h) hn b
    have h2 : (if c n = some b then 1 else 0) ≤ eN (mxO c h n) b := by
      split
      · next h => exact fb_ct_pos.mpr ⟨n, hn, decide_eq_true (by rw [mxO_n]; exact h)⟩
      · omega
    rw [pk_sub h2, nI_add]
    exact congrArg nI (by omega)
  have e5 : ∀ m, bkU D ly c h m a b = D a b := fun m => by rw [bkU, if_neg e1, if_neg e2]
  rw [e5, ← e5 n]
  by_cases e7 : b < 10
  · rw [szD_o (fun h => e2 ⟨h, e7⟩)]
  · rw [szD_b (hw n) (hh n) (by omega)]
theorem oI_inj {x y : Option Nat} (hx : ∀ a, x = some a → a < 10) (hy : ∀ a, y = some a → a < 10) (h : oI x = oI y) : x = y := by
  cases x with
  | none => cases y with
    | none => rfl
    | some b => have := hy b rfl; exact absurd h.symm (nI_nm1 (by omega))
  | some a =>
    have := hx a rfl
    cases y with
    | none => exact absurd h (nI_nm1 (by omega))
    | some b => have := hy b rfl; rw [nI_j (by omega) (by omega) h]

set_option maxRecDepth 100000 in
set_option maxHeartbeats 4000000 in
theorem c_goBack (l : Launch) {Z : jZ} {D : jD} (hx : zX Z) {ly : Nat} (h1 : ly < 3) {t : Nat} (ht : t ≤ 40) {c h : Nat → Option Nat} (hw : ∀ k x, c k = some x → x < 10) (hh : ∀ k x, h k = some x → x < 10) (hc : ∀ q, q < 256 → D (31 + 10 * ly) q = oI (c q)) (hn : ∀ a, a < 10 → D (32 + 10 * ly) a = nI (eN c a)) (hs : ∀ q, q < 256 → D (36 + 10 * ly) (t * 256 + q) = oI (h q)) : ja_M l (mX1_goBack 0 0) [.ref (30 + 10 * ly), .int (nI (t))] Z D (ja_jd (some (.int (nI (fb_ct (fun q => decide (¬ c q = h q)) 256)))) Z (fun D2 => D2 = ja_cp (bkU D ly c h 256) (35 + 10 * ly) 0 (33 + 10 * ly) 0 10)) ja_x0 := by
  refine ja_Mof (lv := [some (.ref (30 + 10 * ly)), some (.int (nI (t))), none, none, none]) (by decide +kernel) rfl rfl (Nat.le_of_ble_eq_true rfl) rfl ?_
  refine ja_iconst (v := nI 0) dX1_goBack_0 (by decide +kernel) ?_
  refine ja_istore_n (i := 2) dX1_goBack_1 rfl rfl (Nat.le_of_ble_eq_true rfl) ?_
  refine ja_iconst (v := nI 0) dX1_goBack_2 (by decide +kernel) ?_
  refine ja_istore_n (i := 3) dX1_goBack_3 rfl rfl (Nat.le_of_ble_eq_true rfl) ?_
  have lp4 : ∀ (f4 : Nat) (q n : Nat) (E : jD), (256 < q + f4) → (q ≤ 256) → (E = bkU D ly c h q) → (n = fb_ct (fun q => decide (¬ c q = h q)) q) → ja_A l (mX1_goBack 0 0) ja_sn (ja_Qf (mX1_goBack 0 0) (ja_jd (some (.int (nI (fb_ct (fun q => decide (¬ c q = h q)) 256)))) Z (fun D2 => D2 = ja_cp (bkU D ly c h 256) (35 + 10 * ly) 0 (33 + 10 * ly) 0 10)) ja_x0) 4 [some (.ref (30 + 10 * ly)), some (.int (nI (t))), some (.int (nI (n))), some (.int (nI (q))), none] [] Z E 0 0 := by
    intro f4
    induction f4 with
    | zero => intro q n E hf hq hE hm; exfalso; omega
    | succ f4 ih4 =>
      intro q n E hf hq hE hm
      refine ja_iload_n (i := 3) dX1_goBack_4 rfl rfl ?_
      refine ja_sipush (v := nI 256) dX1_goBack_5 (by decide +kernel) ?_
      refine ja_icmpN_ge (tgt := 46) dX1_goBack_8 (by decide) (by omega) (by omega) (fun c8 => ?_) (fun c8 => ?_)
      ·
        subst hE
        obtain rfl : q = 256 := by omega
        subst hm
        refine ja_aload_n (i := 0) dX1_goBack_46 rfl rfl ?_
        refine ja_getR fl_X1_28 (zL_o hx (l := ly) (by omega)) rfl (zL_p5 hx (l := ly) (by omega)) dX1_goBack_47 ?_
        refine ja_iconst (v := nI 0) dX1_goBack_50 (by decide +kernel) ?_
        refine ja_aload_n (i := 0) dX1_goBack_51 rfl rfl ?_
        refine ja_getR fl_X1_18 (zL_o hx (l := ly) (by omega)) rfl (zL_p2 hx (l := ly) (by omega)) dX1_goBack_52 ?_
        refine ja_iconst (v := nI 0) dX1_goBack_55 (by decide +kernel) ?_
        refine ja_bipush (v := nI 10) dX1_goBack_56 (by decide +kernel) ?_
        refine ja_copy lk_X1_58 ac_na ac_st ac_in (zL_a5 hx (l := ly) (by omega)) (zL_a2 hx (l := ly) (by omega)) rfl rfl rfl (by omega) (by omega) (by decide) (by decide) (Nat.le_of_ble_eq_true rfl) (Nat.le_of_ble_eq_true rfl) dX1_goBack_58 ?_
        refine ja_iload_n (i := 2) dX1_goBack_61 rfl rfl ?_
        refine ja_iret rfl rfl dX1_goBack_62 (Nat.zero_le _) (Nat.zero_le _) ?_
        exact ⟨rfl, rfl, rfl⟩
      ·
        subst hE
        refine ja_aload_n (i := 0) dX1_goBack_11 rfl rfl ?_
        refine ja_iload_n (i := 1) dX1_goBack_12 rfl rfl ?_
        refine ja_iload_n (i := 3) dX1_goBack_13 rfl rfl ?_
        refine ja_cVr (st := []) (c_areaBy (D := (bkU D ly c h q)) l hx h1 (t := t) (q := q) (by omega) (by omega)) rfl rfl (ce_X1_areaBy 0 0) im_X1_areaBy se_X1_areaBy lk_X1_64 k_X1 (zL_o hx (l := ly) (by omega)) ⟨(Nat.le_of_ble_eq_true rfl), (Nat.le_of_ble_eq_true rfl)⟩ dX1_goBack_14 rfl rfl (Nat.le_of_ble_eq_true rfl) (Nat.zero_le _) (Nat.zero_le _) ?_
        refine ja_top (y := oI (h q)) (by rw [bkU_o (by omega) (by omega)]; exact hs q (by omega)) ?_
        refine ja_istore (i := 4) dX1_goBack_17 rfl (Nat.le_of_ble_eq_true rfl) ?_
        refine ja_aload_n (i := 0) dX1_goBack_19 rfl rfl ?_
        refine ja_getR fl_X1_9 (zL_o hx (l := ly) (by omega)) rfl (zL_p0 hx (l := ly) (by omega)) dX1_goBack_20 ?_
        refine ja_iload_n (i := 3) dX1_goBack_23 rfl rfl ?_
        refine ja_iald (zL_a0 hx (l := ly) (by omega)) rfl (by omega) (by decide) dX1_goBack_24 ?_
        refine ja_top (y := oI (c q)) (by rw [bkU_q (by omega), mxO_n]) ?_
        refine ja_iload (i := 4) dX1_goBack_25 rfl ?_
        refine ja_icmp_eq (tgt := 40) dX1_goBack_27 (by decide) (fun c27 => ?_) (fun c27 => ?_)
        ·
          refine ja_iincN dX1_goBack_40 rfl rfl (Nat.le_of_ble_eq_true rfl) ?_
          refine ja_goto (tgt := 4) dX1_goBack_43 (by decide) ?_
          refine ja_forget (i := 4) ?_
          exact ih4 (q + 1) n _ (by omega) (by omega) (bkU_k (oI_inj (hw q) (hh q) c27)) (by rw [hm, fb_ct_succ, decide_eq_false (show ¬ ¬ c q = h q from fun e => e (oI_inj (hw q) (hh q) c27)), if_neg (by decide), Nat.add_zero])
        ·
          refine ja_aload_n (i := 0) dX1_goBack_30 rfl rfl ?_
          refine ja_iload_n (i := 3) dX1_goBack_31 rfl rfl ?_
          refine ja_iload (i := 4) dX1_goBack_32 rfl ?_
          refine ja_cVd0 (st := []) (c_put (D := (bkU D ly c h q)) l hx h1 (b := c q) (t := h q) (by omega) (hw q) (hh q) (by rw [bkU_q (by omega), mxO_n])) rfl rfl (ce_X1_put 0 0) im_X1_put se_X1_put lk_X1_51 k_X1 (zL_o hx (l := ly) (by omega)) ⟨(Nat.le_of_ble_eq_true rfl), (Nat.le_of_ble_eq_true rfl)⟩ dX1_goBack_34 rfl rfl (Nat.le_of_ble_eq_true rfl) (Nat.zero_le _) (Nat.zero_le _) ?_
          intro D34 hD34
          subst hD34
          refine ja_iincN dX1_goBack_37 rfl rfl (Nat.le_of_ble_eq_true rfl) ?_
          refine ja_iincN dX1_goBack_40 rfl rfl (Nat.le_of_ble_eq_true rfl) ?_
          refine ja_goto (tgt := 4) dX1_goBack_43 (by decide) ?_
          refine ja_forget (i := 4) ?_
          exact ih4 (q + 1) _ _ (by omega) (by omega) (bkU_s hw hh (by omega)) (by rw [hm, fb_ct_succ, decide_eq_true (show ¬ c q = h q from fun e => c27 (by rw [e])), if_pos rfl])
  exact lp4 257 0 0 D (by omega) (by omega) (bkU_0 hc hn) rfl

set_option maxRecDepth 100000 in
set_option maxHeartbeats 4000000 in
theorem c_isAsStored (l : Launch) {Z : jZ} {D : jD} (hx : zX Z) {ly : Nat} (h1 : ly < 3) {t : Nat} (ht : t ≤ 40) (hs : ∀ q, q < 256 → D (31 + 10 * ly) q = D (36 + 10 * ly) (t * 256 + q)) : ja_M l (mX1_isAsStored 0 0) [.ref (30 + 10 * ly), .int (nI (t))] Z D (ja_jr (some (.int (bI true))) Z D) ja_x0 := by
  refine ja_Mof (lv := [some (.ref (30 + 10 * ly)), some (.int (nI (t))), none]) (by decide +kernel) rfl rfl (Nat.le_of_ble_eq_true rfl) rfl ?_
  refine ja_iconst (v := nI 0) dX1_isAsStored_0 (by decide +kernel) ?_
  refine ja_istore_n (i := 2) dX1_isAsStored_1 rfl rfl (Nat.le_of_ble_eq_true rfl) ?_
  have lp2 : ∀ (f2 : Nat) (q : Nat), (256 < q + f2) → (q ≤ 256) → ja_A l (mX1_isAsStored 0 0) ja_sn (ja_Qf (mX1_isAsStored 0 0) (ja_jr (some (.int (bI true))) Z D) ja_x0) 2 [some (.ref (30 + 10 * ly)), some (.int (nI (t))), some (.int (nI (q)))] [] Z D 0 0 := by
    intro f2
    induction f2 with
    | zero => intro q hf hq; exfalso; omega
    | succ f2 ih2 =>
      intro q hf hq
      refine ja_iload_n (i := 2) dX1_isAsStored_2 rfl rfl ?_
      refine ja_sipush (v := nI 256) dX1_isAsStored_3 (by decide +kernel) ?_
      refine ja_icmpN_ge (tgt := 32) dX1_isAsStored_6 (by decide) (by omega) (by omega) (fun c6 => ?_) (fun c6 => ?_)
      ·
        refine ja_iconst (v := nI 1) dX1_isAsStored_32 (by decide +kernel) ?_
        refine ja_iret rfl (by decide +kernel) dX1_isAsStored_33 (Nat.zero_le _) (Nat.zero_le _) ?_
        exact ⟨rfl, rfl, rfl⟩
      ·
        refine ja_aload_n (i := 0) dX1_isAsStored_9 rfl rfl ?_
        refine ja_getR fl_X1_9 (zL_o hx (l := ly) (by omega)) rfl (zL_p0 hx (l := ly) (by omega)) dX1_isAsStored_10 ?_
        refine ja_iload_n (i := 2) dX1_isAsStored_13 rfl rfl ?_
        refine ja_iald (zL_a0 hx (l := ly) (by omega)) rfl (by omega) (by decide) dX1_isAsStored_14 ?_
        refine ja_aload_n (i := 0) dX1_isAsStored_15 rfl rfl ?_
        refine ja_iload_n (i := 1) dX1_isAsStored_16 rfl rfl ?_
        refine ja_iload_n (i := 2) dX1_isAsStored_17 rfl rfl ?_
        refine ja_cVr (st := [.int (D (31 + 10 * ly) q)]) (c_areaBy (D := D) l hx h1 (t := t) (q := q) (by omega) (by omega)) rfl rfl (ce_X1_areaBy 0 0) im_X1_areaBy se_X1_areaBy lk_X1_64 k_X1 (zL_o hx (l := ly) (by omega)) ⟨(Nat.le_of_ble_eq_true rfl), (Nat.le_of_ble_eq_true rfl)⟩ dX1_isAsStored_18 rfl rfl (Nat.le_of_ble_eq_true rfl) (Nat.zero_le _) (Nat.zero_le _) ?_
        refine ja_icmp_eq (tgt := 26) dX1_isAsStored_21 (by decide) (fun c21 => ?_) (fun c21 => absurd (hs q (by omega)) c21)
        refine ja_iincN dX1_isAsStored_26 rfl rfl (Nat.le_of_ble_eq_true rfl) ?_
        refine ja_goto (tgt := 2) dX1_isAsStored_29 (by decide) ?_
        exact ih2 (q + 1) (by omega) (by omega)
  exact lp2 257 0 (by omega) (by omega)

set_option maxRecDepth 100000 in
set_option maxHeartbeats 4000000 in
theorem c_hasSoundWorths (l : Launch) {Z : jZ} {D : jD} (hx : zX Z) {ly : Nat} (h1 : ly < 3) {w sa : Nat → Nat} (hw : ∀ a, a < 10 → D (33 + 10 * ly) a = nI (w a) ∧ w a < 2 ^ 31) (hsa : ∀ a, a < 10 → D (32 + 10 * ly) a = nI (sa a) ∧ sa a ≤ 256) (h0 : ∀ a, a < 10 → sa a = 0 → w a = 0) : ja_M l (mX1_hasSoundWorths 0 0) [.ref (30 + 10 * ly)] Z D (ja_jr (some (.int (bI true))) Z D) ja_x0 := by
  refine ja_Mof (lv := [some (.ref (30 + 10 * ly)), none]) (by decide +kernel) rfl rfl (Nat.le_of_ble_eq_true rfl) rfl ?_
  refine ja_iconst (v := nI 0) dX1_hasSoundWorths_0 (by decide +kernel) ?_
  refine ja_istore_n (i := 1) dX1_hasSoundWorths_1 rfl rfl (Nat.le_of_ble_eq_true rfl) ?_
  have lp2 : ∀ (f2 : Nat) (q : Nat), (10 < q + f2) → (q ≤ 10) → ja_A l (mX1_hasSoundWorths 0 0) ja_sn (ja_Qf (mX1_hasSoundWorths 0 0) (ja_jr (some (.int (bI true))) Z D) ja_x0) 2 [some (.ref (30 + 10 * ly)), some (.int (nI (q)))] [] Z D 0 0 := by
    intro f2
    induction f2 with
    | zero => intro q hf hq; exfalso; omega
    | succ f2 ih2 =>
      intro q hf hq
      refine ja_iload_n (i := 1) dX1_hasSoundWorths_2 rfl rfl ?_
      refine ja_bipush (v := nI 10) dX1_hasSoundWorths_3 (by decide +kernel) ?_
      refine ja_icmpN_ge (tgt := 43) dX1_hasSoundWorths_5 (by decide) (by omega) (by omega) (fun c5 => ?_) (fun c5 => ?_)
      ·
        refine ja_iconst (v := nI 1) dX1_hasSoundWorths_43 (by decide +kernel) ?_
        refine ja_iret rfl (by decide +kernel) dX1_hasSoundWorths_44 (Nat.zero_le _) (Nat.zero_le _) ?_
        exact ⟨rfl, rfl, rfl⟩
      ·
        obtain ⟨w1, w2⟩ := hw q (by omega)
        obtain ⟨s1, s2⟩ := hsa q (by omega)
        have z0 := h0 q (by omega)
        refine ja_aload_n (i := 0) dX1_hasSoundWorths_8 rfl rfl ?_
        refine ja_getR fl_X1_18 (zL_o hx (l := ly) (by omega)) rfl (zL_p2 hx (l := ly) (by omega)) dX1_hasSoundWorths_9 ?_
        refine ja_iload_n (i := 1) dX1_hasSoundWorths_12 rfl rfl ?_
        refine ja_iald (zL_a2 hx (l := ly) (by omega)) rfl (by omega) (by decide) dX1_hasSoundWorths_13 ?_
        refine ja_top (y := nI (w q)) w1 ?_
        refine ja_ifN_lt dX1_hasSoundWorths_14 (tgt := 35) (by decide) (by omega) ?_
        refine ja_aload_n (i := 0) dX1_hasSoundWorths_17 rfl rfl ?_
        refine ja_getR fl_X1_15 (zL_o hx (l := ly) (by omega)) rfl (zL_p1 hx (l := ly) (by omega)) dX1_hasSoundWorths_18 ?_
        refine ja_iload_n (i := 1) dX1_hasSoundWorths_21 rfl rfl ?_
        refine ja_iald (zL_a1 hx (l := ly) (by omega)) rfl (by omega) (by decide) dX1_hasSoundWorths_22 ?_
        refine ja_top (y := nI (sa q)) s1 ?_
        refine ja_ifN_ne (tgt := 37) dX1_hasSoundWorths_23 (by decide) (by omega) (fun c23 => ?_) (fun c23 => ?_)
        ·
          refine ja_iincN dX1_hasSoundWorths_37 rfl rfl (Nat.le_of_ble_eq_true rfl) ?_
          refine ja_goto (tgt := 2) dX1_hasSoundWorths_40 (by decide) ?_
          exact ih2 (q + 1) (by omega) (by omega)
        ·
          refine ja_aload_n (i := 0) dX1_hasSoundWorths_26 rfl rfl ?_
          refine ja_getR fl_X1_18 (zL_o hx (l := ly) (by omega)) rfl (zL_p2 hx (l := ly) (by omega)) dX1_hasSoundWorths_27 ?_
          refine ja_iload_n (i := 1) dX1_hasSoundWorths_30 rfl rfl ?_
          refine ja_iald (zL_a2 hx (l := ly) (by omega)) rfl (by omega) (by decide) dX1_hasSoundWorths_31 ?_
          refine ja_top (y := nI (w q)) w1 ?_
          refine ja_ifN_eq (tgt := 37) dX1_hasSoundWorths_32 (by decide) (by omega) (fun c32 => ?_) (fun c32 => absurd (z0 (by omega)) c32)
          refine ja_iincN dX1_hasSoundWorths_37 rfl rfl (Nat.le_of_ble_eq_true rfl) ?_
          refine ja_goto (tgt := 2) dX1_hasSoundWorths_40 (by decide) ?_
          exact ih2 (q + 1) (by omega) (by omega)
  exact lp2 11 0 (by omega) (by omega)
