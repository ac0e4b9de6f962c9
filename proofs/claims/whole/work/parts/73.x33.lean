/-! THE CLASS: reconcile -/
theorem gq_dec {q : Nat} : gq (fun _ => false) q = fun x => decide (x = q) := funext fun x => by
  unfold gq
  by_cases e : x = q
  · rw [if_pos e, decide_eq_true e]
  · rw [if_neg e, decide_eq_false e]
theorem toO_o {t : Option Nat} (ht : ∀ a, t = some a → a < 10) : toO (oI t) = t := by
  cases t with
  | none => rfl
  | some a => exact toO_N (ht a rfl)
/-- an edit that changes nothing -/
theorem ED_0 {E M : jD} {ly q : Nat} {c : Nat → Option Nat} {w : Nat → Nat} {t : Option Nat} {dv : Bool} (hc : c q = t) (h : MLd E M ly c w) (hz : ∀ a, a < 10 → eN c a = 0 → w a = 0) : MLd (edE E ly c t (gq (fun _ => false) q) w dv) M ly c w ∧ eT c t (gq (fun _ => false) q) = 0 := by
  obtain ⟨m1, m2, m3, m4, m5, m6, m7⟩ := h
  have eC1 : eC c t (gq (fun _ => false) q) = c := funext fun k => by
    rw [eC_s]
    by_cases e : k = q
    · rw [if_pos e, e, hc]
    · rw [if_neg e]; exact if_neg (show ¬ (false = true) by decide)
  have eg : ∀ k, (gq (fun _ => false) q k && decide (¬ c k = t)) = false := fun k => by
    unfold gq
    by_cases e : k = q
    · rw [if_pos e, e, decide_eq_false (fun x => x hc)]; rfl
    · rw [if_neg e]; rfl
  have eL0 : ∀ a, eL c t (gq (fun _ => false) q) a = 0 := fun a => fb_ct_zero.mpr fun k _ => by rw [eg k]; rfl
  have hR := wcl_R (dv := dv) (w := w) (ls := eL c t (gq (fun _ => false) q)) (sz := eN c) (sa := eN c) (t := t) (fun k _ => Or.inl (eL0 k)) (fun _ _ _ k => eL0 k) 10 (Nat.le_refl _)
  have hW : ∀ k, wrR dv w (eL c t (gq (fun _ => false) q)) (eN c) t k = w := fun k => by
    induction k with
    | zero => simp only [wrR]
    | succ k ih =>
      rw [wrR, ih, eL0, hov_0]
      split <;> rfl
  have hw : ∀ a, a < 10 → wcl dv w (eL c t (gq (fun _ => false) q)) (eN c) t 10 a = w a := fun a ha => by
    rw [hR a, hW]
    by_cases e : a < 10 ∧ eN c a = 0
    · rw [if_pos e, hz a ha e.2]
    · rw [if_neg e]
  refine ⟨⟨fun k hk => ?_, m2, m3, fun a ha => ?_, fun a ha => ?_, m6, m7⟩, fb_ct_zero.mpr fun k _ => eg k⟩
  · rw [edE, wtU_o (by omega), edU_q hk, eC1]
  · rw [edE, wtU_o (by omega), edU_n ha, eC1]
  · rw [edE, wtU_i ha, eC1, hw a ha]
/-- behind the squares below q -/
def RCI (D E X : jD) (v ly : Nat) (sv cp : Bool) (w0 : Nat → Nat) (q n : Nat) (c : Nat → Option Nat) (w : Nat → Nat) : Prop :=
  (∀ a b, ¬ a = 31 + 10 * ly → ¬ a = 32 + 10 * ly → ¬ a = 33 + 10 * ly → ¬ a = 37 + 10 * ly → ¬ (a = 30 + 10 * ly ∧ b = 8) → E a b = D a b) ∧ MLd E (rcE X v ly sv cp q) ly c w ∧ (∀ a, a < 10 → eN c a = 0 → w a = 0) ∧ fb_sm w 10 ≤ fb_sm w0 10 ∧ n = rcN X v ly sv cp q
theorem RC_d {M : jD} {v ly q : Nat} {sv : Bool} {i : Bool} {x71 x73 x31 : Int32} (h1 : M 119 (256 * v + q) = bI i) (h2 : M 120 (256 * v + q) = x73) (h3 : M 121 (256 * v + q) = x71) (h4 : M 105 (256 * ly + q) = x31) :
    ((i && decide (¬ x71 = x73) && (sv || decide (x31 = x73))) = false → rcB M v ly sv q = false) ∧ ((i && decide (¬ x71 = x73) && (sv || decide (x31 = x73))) = true → rcB M v ly sv q = true ∨ (rcB M v ly sv q = false ∧ x31 = x71)) := by
  unfold rcB cfl
  rw [h1, h2, h3, h4]
  have e1 : decide (¬ bI i = 0) = i := by cases i <;> decide
  have e2 : (¬ bI i = 0) ↔ i = true := bI_n0
  rw [e1]
  simp only [e2]
  cases i <;> cases sv <;> by_cases a : x71 = x73 <;> by_cases b : x31 = x73 <;> by_cases d : x71 = x31 <;> simp [a, b, d] <;> grind
theorem RC_s {D E X : jD} {v ly q n : Nat} {sv cp : Bool} {w0 w : Nat → Nat} {c cv : Nat → Option Nat} (hI : RCI D E X v ly sv cp w0 q n c w) (hcv : X 121 (256 * v + q) = oI (cv q)) (hcv2 : ∀ a, cv q = some a → a < 10)
    (hd : rcB (rcE X v ly sv cp q) v ly sv q = true ∨ (rcB (rcE X v ly sv cp q) v ly sv q = false ∧ c q = cv q)) :
    RCI D (edE E ly c (cv q) (gq (fun _ => false) q) w (!cp)) X v ly sv cp w0 (q + 1) (n + eT c (cv q) (gq (fun _ => false) q)) (eC c (cv q) (gq (fun _ => false) q)) (wcl (!cp) w (eL c (cv q) (gq (fun _ => false) q)) (eN (eC c (cv q) (gq (fun _ => false) q))) (cv q) 10) ∨
    RCI D (edE E ly c (cv q) (gq (fun _ => false) q) w (!cp)) X v ly sv cp w0 (q + 1) (n + eT c (cv q) (gq (fun _ => false) q)) c w := by
  obtain ⟨f1, f2, f3, f4, f5⟩ := hI
  have fr : ∀ a b, ¬ a = 31 + 10 * ly → ¬ a = 32 + 10 * ly → ¬ a = 33 + 10 * ly → ¬ a = 37 + 10 * ly → ¬ (a = 30 + 10 * ly ∧ b = 8) → edE E ly c (cv q) (gq (fun _ => false) q) w (!cp) a b = D a b := fun a b h1 h2 h3 h4 h5 => (edE_o h1 h2 h3 h4 h5).trans (f1 a b h1 h2 h3 h4 h5)
  have e121 : rcE X v ly sv cp q 121 (256 * v + q) = oI (cv q) := (rcE_o (by decide) (by decide) (by decide) (by decide)).trans hcv
  rcases hd with hd | ⟨hd, hc⟩
  · left
    have hm := ED_m (t := cv q) (g := gq (fun _ => false) q) (dv := !cp) hcv2 f2
    have eM : rcE X v ly sv cp (q + 1) = gvR (giU (rcE X v ly sv cp q) (gq (fun _ => false) q) 256) ly (cv q) (!!cp) := by
      rw [rcE, rcS, if_pos hd, e121, toO_o hcv2, gq_dec, Bool.not_not]
    refine ⟨fr, by rw [eM]; exact hm.1, hm.2.2.2, Nat.le_trans hm.2.2.1 f4, ?_⟩
    rw [rcN, rcC, if_pos hd, e121, ← gq_dec, ← hm.2.1, f5]
  · right
    have hm := ED_0 (dv := !cp) hc f2 f3
    have eM : rcE X v ly sv cp (q + 1) = rcE X v ly sv cp q := by
      rw [rcE, rcS, if_neg (by rw [hd]; decide)]
    refine ⟨fr, by rw [eM]; exact hm.1, f3, f4, ?_⟩
    rw [rcN, rcC, if_neg (by rw [hd]; decide), hm.2, f5]
theorem RC_n {D E X : jD} {v ly q n : Nat} {sv cp : Bool} {w0 w : Nat → Nat} {c : Nat → Option Nat} (hI : RCI D E X v ly sv cp w0 q n c w) (hd : rcB (rcE X v ly sv cp q) v ly sv q = false) : RCI D E X v ly sv cp w0 (q + 1) n c w := by
  obtain ⟨f1, f2, f3, f4, f5⟩ := hI
  have eM : rcE X v ly sv cp (q + 1) = rcE X v ly sv cp q := by
    rw [rcE, rcS, if_neg (by rw [hd]; decide)]
  refine ⟨f1, by rw [eM]; exact f2, f3, f4, ?_⟩
  rw [rcN, rcC, if_neg (by rw [hd]; decide), f5]; rfl

set_option maxRecDepth 100000 in
set_option maxHeartbeats 4000000 in
theorem c_reconcile_f1 (l : Launch) {Z : jZ} {D : jD} (hx : zX Z) {vn : Nat} {vl : Nat → Nat} (hv : zXv Z vn vl) (hv3 : vn ≤ 3) {k : Int32} (hk : ¬ (0 ≤ k.toInt ∧ k.toInt < vn)) (sd : Int32) : ja_M l (mX7_reconcile 1 6) [.ref (0), .int (k), .int (sd)] Z D ja_r0 (ja_jx "java/util/NoSuchElementException" Z D) := by
  refine ja_Mof (lv := [some (.ref (0)), some (.int (k)), some (.int (sd)), none, none, none, none]) (by decide +kernel) rfl rfl (Nat.le_of_ble_eq_true rfl) rfl ?_
  refine ja_aload_n (i := 0) dX7_reconcile_0 rfl rfl ?_
  refine ja_iload_n (i := 1) dX7_reconcile_1 rfl rfl ?_
  refine ja_cVx (st := []) (c_versionOf_x (D := D) l hx hv hk) (ce_X7_versionOf 1 6) im_X7_versionOf se_X7_versionOf lk_X7_224 k_X7 (zX_o0 hx) ⟨(Nat.le_of_ble_eq_true rfl), (Nat.le_of_ble_eq_true rfl)⟩ dX7_reconcile_2 rfl rfl (Nat.le_of_ble_eq_true rfl) (Nat.le_of_ble_eq_true rfl) (Nat.le_of_ble_eq_true rfl) ?_
  refine ja_out rfl (Nat.le_of_ble_eq_true rfl) (Nat.le_of_ble_eq_true rfl) ?_
  exact ⟨rfl, rfl, rfl⟩

set_option maxRecDepth 100000 in
set_option maxHeartbeats 4000000 in
theorem c_reconcile_f2 (l : Launch) {Z : jZ} {D : jD} (hx : zX Z) {vn : Nat} {vl : Nat → Nat} (hv : zXv Z vn vl) (hv3 : vn ≤ 3) {v : Nat} (hvl : v < vn) {sd : Int32} (hsd : ¬ (sd = nI 118 ∨ sd = nI 108)) : ja_M l (mX7_reconcile 1 6) [.ref (0), .int (nI (v)), .int (sd)] Z D ja_r0 (ja_jx "java/lang/IllegalArgumentException" Z D) := by
  refine ja_Mof (lv := [some (.ref (0)), some (.int (nI (v))), some (.int (sd)), none, none, none, none]) (by decide +kernel) rfl rfl (Nat.le_of_ble_eq_true rfl) rfl ?_
  refine ja_aload_n (i := 0) dX7_reconcile_0 rfl rfl ?_
  refine ja_iload_n (i := 1) dX7_reconcile_1 rfl rfl ?_
  refine ja_cVr (st := []) (c_versionOf (D := D) l hx hv hv3 (r := v) (by omega)) rfl rfl (ce_X7_versionOf 0 0) im_X7_versionOf se_X7_versionOf lk_X7_224 k_X7 (zX_o0 hx) ⟨(Nat.le_of_ble_eq_true rfl), (Nat.le_of_ble_eq_true rfl)⟩ dX7_reconcile_2 rfl rfl (Nat.le_of_ble_eq_true rfl) (Nat.zero_le _) (Nat.zero_le _) ?_
  refine ja_astore_n (i := 3) dX7_reconcile_5 rfl rfl (Nat.le_of_ble_eq_true rfl) ?_
  refine ja_iload_n (i := 2) dX7_reconcile_6 rfl rfl ?_
  refine ja_bipush (v := nI 118) dX7_reconcile_7 (by decide +kernel) ?_
  refine ja_icmp_eq (tgt := 28) dX7_reconcile_9 (by decide) (fun c9 => ?_) (fun c9 => ?_)
  ·
    exfalso; first | exact hsd (Or.inl c9) | exact hsd (Or.inr c15)
  ·
    refine ja_iload_n (i := 2) dX7_reconcile_12 rfl rfl ?_
    refine ja_bipush (v := nI 108) dX7_reconcile_13 (by decide +kernel) ?_
    refine ja_icmp_eq (tgt := 28) dX7_reconcile_15 (by decide) (fun c15 => ?_) (fun c15 => ?_)
    ·
      exfalso; first | exact hsd (Or.inl c9) | exact hsd (Or.inr c15)
    ·
      refine ja_throw ts_X7_60_251_64 rfl dX7_reconcile_18 dX7_reconcile_21 dX7_reconcile_22 dX7_reconcile_24 dX7_reconcile_27 (Nat.le_of_ble_eq_true rfl) (Nat.le_of_ble_eq_true rfl) (Nat.le_of_ble_eq_true rfl) (Nat.le_of_ble_eq_true rfl) ?_
      exact ⟨rfl, rfl, rfl⟩

set_option maxRecDepth 100000 in
set_option maxHeartbeats 4000000 in
theorem c_reconcile_f3t (l : Launch) {Z : jZ} {D : jD} (hx : zX Z) {vn : Nat} {vl : Nat → Nat} (hv : zXv Z vn vl) (hv3 : vn ≤ 3) (hin : D 0 7 = bI false) {v : Nat} (hvl : v < vn) : ja_M l (mX7_reconcile 1 6) [.ref (0), .int (nI (v)), .int (nI (118))] Z D ja_r0 (ja_jx "java/lang/IllegalStateException" Z D) := by
  refine ja_Mof (lv := [some (.ref (0)), some (.int (nI (v))), some (.int (nI (118))), none, none, none, none]) (by decide +kernel) rfl rfl (Nat.le_of_ble_eq_true rfl) rfl ?_
  refine ja_aload_n (i := 0) dX7_reconcile_0 rfl rfl ?_
  refine ja_iload_n (i := 1) dX7_reconcile_1 rfl rfl ?_
  refine ja_cVr (st := []) (c_versionOf (D := D) l hx hv hv3 (r := v) (by omega)) rfl rfl (ce_X7_versionOf 0 0) im_X7_versionOf se_X7_versionOf lk_X7_224 k_X7 (zX_o0 hx) ⟨(Nat.le_of_ble_eq_true rfl), (Nat.le_of_ble_eq_true rfl)⟩ dX7_reconcile_2 rfl rfl (Nat.le_of_ble_eq_true rfl) (Nat.zero_le _) (Nat.zero_le _) ?_
  refine ja_astore_n (i := 3) dX7_reconcile_5 rfl rfl (Nat.le_of_ble_eq_true rfl) ?_
  refine ja_iload_n (i := 2) dX7_reconcile_6 rfl rfl ?_
  refine ja_bipush (v := nI 118) dX7_reconcile_7 (by decide +kernel) ?_
  refine ja_icmpN_eq (tgt := 28) dX7_reconcile_9 (by decide) (by omega) (by omega) (fun c9 => ?_) (fun c9 => absurd c9 (by decide))
  refine ja_aload_n (i := 0) dX7_reconcile_28 rfl rfl ?_
  refine ja_cVx (st := []) (c_needSession_x (D := D) l hx hin) (ce_X7_needSession 1 6) im_X7_needSession se_X7_needSession lk_X7_108 k_X7 (zX_o0 hx) ⟨(Nat.le_of_ble_eq_true rfl), (Nat.le_of_ble_eq_true rfl)⟩ dX7_reconcile_29 rfl rfl (Nat.le_of_ble_eq_true rfl) (Nat.le_of_ble_eq_true rfl) (Nat.le_of_ble_eq_true rfl) ?_
  refine ja_out rfl (Nat.le_of_ble_eq_true rfl) (Nat.le_of_ble_eq_true rfl) ?_
  exact ⟨rfl, rfl, rfl⟩

set_option maxRecDepth 100000 in
set_option maxHeartbeats 4000000 in
theorem c_reconcile_okt (l : Launch) {Z : jZ} {D : jD} (hx : zX Z) {vn : Nat} {vl : Nat → Nat} (hv : zXv Z vn vl) (hv3 : vn ≤ 3) {v x y w h : Nat} (hvl : v < vn) (hb : vbx D v x y w h) (hin : D 0 7 = bI true) {X : jD} {c0 cv : Nat → Option Nat} {w0 : Nat → Nat} {cp : Bool} (hM0 : MLd D X (vl v) c0 w0) (hz0 : ∀ a, a < 10 → eN c0 a = 0 → w0 a = 0) (h4d : D (30 + 10 * vl v) 4 = bI (!cp)) (h119 : ∀ q, q < 256 → X 119 (256 * v + q) = bI (inB x y w h q)) (h120 : ∀ q, q < 256 → X 120 (256 * v + q) = D (73 + 4 * v) q) (h121 : ∀ q, q < 256 → X 121 (256 * v + q) = D (71 + 4 * v) q) (hcv : ∀ q, q < 256 → D (71 + 4 * v) q = oI (cv q)) (hcv2 : ∀ q a, cv q = some a → a < 10)  : ja_M l (mX7_reconcile 0 0) [.ref (0), .int (nI (v)), .int (nI (118))] Z D (fun v2 Z2 D2 => ∃ E c wv, v2 = some (.int (nI (rcN X v (vl v) true cp 256))) ∧ Z2 = Z ∧ D2 = ja_cp (ja_cp E (31 + 10 * vl v) 0 (73 + 4 * v) 0 256) (31 + 10 * vl v) 0 (71 + 4 * v) 0 256 ∧ RCI D E X v (vl v) true cp w0 256 (rcN X v (vl v) true cp 256) c wv) ja_x0 := by
  have hl3 : vl v < 3 := zV_l0 hv hvl
  refine ja_Mof (lv := [some (.ref (0)), some (.int (nI (v))), some (.int (nI (118))), none, none, none, none]) (by decide +kernel) rfl rfl (Nat.le_of_ble_eq_true rfl) rfl ?_
  refine ja_aload_n (i := 0) dX7_reconcile_0 rfl rfl ?_
  refine ja_iload_n (i := 1) dX7_reconcile_1 rfl rfl ?_
  refine ja_cVr (st := []) (c_versionOf (D := D) l hx hv hv3 (r := v) (by omega)) rfl rfl (ce_X7_versionOf 0 0) im_X7_versionOf se_X7_versionOf lk_X7_224 k_X7 (zX_o0 hx) ⟨(Nat.le_of_ble_eq_true rfl), (Nat.le_of_ble_eq_true rfl)⟩ dX7_reconcile_2 rfl rfl (Nat.le_of_ble_eq_true rfl) (Nat.zero_le _) (Nat.zero_le _) ?_
  refine ja_astore_n (i := 3) dX7_reconcile_5 rfl rfl (Nat.le_of_ble_eq_true rfl) ?_
  refine ja_iload_n (i := 2) dX7_reconcile_6 rfl rfl ?_
  refine ja_bipush (v := nI 118) dX7_reconcile_7 (by decide +kernel) ?_
  refine ja_icmpN_eq (tgt := 28) dX7_reconcile_9 (by decide) (by omega) (by omega) (fun c9 => ?_) (fun c9 => absurd c9 (by decide))
  refine ja_aload_n (i := 0) dX7_reconcile_28 rfl rfl ?_
  refine ja_cVr0 (st := []) (c_needSession (D := D) l hx hin) rfl rfl (ce_X7_needSession 0 0) im_X7_needSession se_X7_needSession lk_X7_108 k_X7 (zX_o0 hx) ⟨(Nat.le_of_ble_eq_true rfl), (Nat.le_of_ble_eq_true rfl)⟩ dX7_reconcile_29 rfl rfl (Nat.le_of_ble_eq_true rfl) (Nat.zero_le _) (Nat.zero_le _) ?_
  refine ja_iconst (v := nI 0) dX7_reconcile_32 (by decide +kernel) ?_
  refine ja_istore (i := 4) dX7_reconcile_33 rfl (Nat.le_of_ble_eq_true rfl) ?_
  refine ja_iconst (v := nI 0) dX7_reconcile_35 (by decide +kernel) ?_
  refine ja_istore (i := 5) dX7_reconcile_36 rfl (Nat.le_of_ble_eq_true rfl) ?_
  have lp38 : ∀ (f38 : Nat) (q n : Nat) (E : jD) (c : Nat → Option Nat) (wv : Nat → Nat), (256 < q + f38) → (q ≤ 256) → (RCI D E X v (vl v) true cp w0 q n c wv) → ja_A l (mX7_reconcile 0 0) ja_sn (ja_Qf (mX7_reconcile 0 0) (fun v2 Z2 D2 => ∃ E c wv, v2 = some (.int (nI (rcN X v (vl v) true cp 256))) ∧ Z2 = Z ∧ D2 = ja_cp (ja_cp E (31 + 10 * vl v) 0 (73 + 4 * v) 0 256) (31 + 10 * vl v) 0 (71 + 4 * v) 0 256 ∧ RCI D E X v (vl v) true cp w0 256 (rcN X v (vl v) true cp 256) c wv) ja_x0) 38 [some (.ref (0)), some (.int (nI (v))), some (.int (nI (118))), some (.ref (70 + 4 * v)), some (.int (nI (n))), some (.int (nI (q))), none] [] Z E 0 0 := by
    intro f38
    induction f38 with
    | zero => intro q n E c wv hf hq hI; exfalso; omega
    | succ f38 ih38 =>
      intro q n E c wv hf hq hI
      have hbE : vbx E v x y w h := ⟨(hI.1 _ _ (by omega) (by omega) (by omega) (by omega) (by omega)).trans hb.1, (hI.1 _ _ (by omega) (by omega) (by omega) (by omega) (by omega)).trans hb.2.1, (hI.1 _ _ (by omega) (by omega) (by omega) (by omega) (by omega)).trans hb.2.2.1, (hI.1 _ _ (by omega) (by omega) (by omega) (by omega) (by omega)).trans hb.2.2.2.1, hb.2.2.2.2⟩
      have h4E : E (30 + 10 * vl v) 4 = bI (!cp) := (hI.1 _ _ (by omega) (by omega) (by omega) (by omega) (by omega)).trans h4d
      refine ja_iload (i := 5) dX7_reconcile_38 rfl ?_
      refine ja_sipush (v := nI 256) dX7_reconcile_40 (by decide +kernel) ?_
      refine ja_icmpN_ge (tgt := 113) dX7_reconcile_43 (by decide) (by omega) (by omega) (fun c43 => ?_) (fun c43 => ?_)
      ·
        refine ja_aload_n (i := 3) dX7_reconcile_113 rfl rfl ?_
        refine ja_cVd0 (st := []) (c_rebase (D := E) l hx hv hvl hbE) rfl rfl (ce_X6_rebase 0 0) im_X6_rebase se_X6_rebase lk_X7_221 k_X6 (zV_o hv (v := v) (by omega)) ⟨(Nat.le_of_ble_eq_true rfl), (Nat.le_of_ble_eq_true rfl)⟩ dX7_reconcile_114 rfl rfl (Nat.le_of_ble_eq_true rfl) (Nat.zero_le _) (Nat.zero_le _) ?_
        intro D114 hD114
        subst hD114
        refine ja_iload (i := 4) dX7_reconcile_117 rfl ?_
        refine ja_iret rfl rfl dX7_reconcile_119 (Nat.zero_le _) (Nat.zero_le _) ?_
        obtain rfl : q = 256 := by omega
        exact ⟨E, c, wv, by rw [hI.2.2.2.2], rfl, rfl, hI.1, hI.2.1, hI.2.2.1, hI.2.2.2.1, rfl⟩
      ·
        have hq6 : q < 256 := by omega
        have h119E : rcE X v (vl v) true cp q 119 (256 * v + q) = bI (inB x y w h q) := (rcE_o (by decide) (by decide) (by decide) (by decide)).trans (h119 q hq6)
        have h120E : rcE X v (vl v) true cp q 120 (256 * v + q) = E (73 + 4 * v) q := (rcE_o (by decide) (by decide) (by decide) (by decide)).trans ((h120 q hq6).trans (hI.1 _ _ (by omega) (by omega) (by omega) (by omega) (by omega)).symm)
        have h121E : rcE X v (vl v) true cp q 121 (256 * v + q) = E (71 + 4 * v) q := (rcE_o (by decide) (by decide) (by decide) (by decide)).trans ((h121 q hq6).trans (hI.1 _ _ (by omega) (by omega) (by omega) (by omega) (by omega)).symm)
        have h71E : E (71 + 4 * v) q = oI (cv q) := (hI.1 _ _ (by omega) (by omega) (by omega) (by omega) (by omega)).trans (hcv q hq6)
        have h105E : rcE X v (vl v) true cp q 105 (256 * vl v + q) = E (31 + 10 * vl v) q := (hI.2.1.2.1 q hq6).trans (hI.2.1.1 q hq6).symm
        refine ja_aload_n (i := 3) dX7_reconcile_46 rfl rfl ?_
        refine ja_iload (i := 5) dX7_reconcile_47 rfl ?_
        refine ja_iload_n (i := 2) dX7_reconcile_49 rfl rfl ?_
        refine ja_bipush (v := nI 118) dX7_reconcile_50 (by decide +kernel) ?_
        refine ja_icmpN_ne (tgt := 59) dX7_reconcile_52 (by decide) (by omega) (by omega) (fun c52 => absurd c52 (by decide)) (fun c52 => ?_)
        refine ja_iconst (v := nI 1) dX7_reconcile_55 (by decide +kernel) ?_
        refine ja_goto (tgt := 60) dX7_reconcile_56 (by decide) ?_
        refine ja_cVr (st := []) (c_isDue (D := E) l hx hv hvl hbE (q := q) (sv := true) (by omega)) rfl rfl (ce_X6_isDue 0 0) im_X6_isDue se_X6_isDue lk_X7_253 k_X6 (zV_o hv (v := v) (by omega)) ⟨(Nat.le_of_ble_eq_true rfl), (Nat.le_of_ble_eq_true rfl)⟩ dX7_reconcile_60 rfl rfl (Nat.le_of_ble_eq_true rfl) (Nat.zero_le _) (Nat.zero_le _) ?_
        refine ja_ifB_eq (tgt := 107) dX7_reconcile_63 (by decide) (fun c63 => ?_) (fun c63 => ?_)
        ·
          refine ja_iincN dX7_reconcile_107 rfl rfl (Nat.le_of_ble_eq_true rfl) ?_
          refine ja_goto (tgt := 38) dX7_reconcile_110 (by decide) ?_
          exact ih38 (q + 1) n E c wv (by omega) (by omega) (RC_n hI ((RC_d h119E h120E h121E h105E).1 c63))
        ·
          refine ja_aload_n (i := 3) dX7_reconcile_66 rfl rfl ?_
          refine ja_getR fl_X7_237 (zV_o hv (v := v) (by omega)) rfl (zV_p1 hv (v := v) (by omega)) dX7_reconcile_67 ?_
          refine ja_iload (i := 5) dX7_reconcile_70 rfl ?_
          refine ja_iald (zV_a1 hv (v := v) (by omega)) rfl (by omega) (by decide) dX7_reconcile_72 ?_
          refine ja_top (y := oI (cv q)) h71E ?_
          refine ja_istore (i := 6) dX7_reconcile_73 rfl (Nat.le_of_ble_eq_true rfl) ?_
          refine ja_aload_n (i := 3) dX7_reconcile_75 rfl rfl ?_
          refine ja_getR fl_X7_257 (zV_o hv (v := v) (by omega)) rfl (zV_p0 hv (v := v) (by omega)) dX7_reconcile_76 ?_
          refine ja_cVd0 (st := []) (c_openE (D := E) l hx hl3 (c := c) (cv q) hI.2.1.1 hI.2.1.2.2.2.1) rfl rfl (ce_X1_openEdit 0 0) im_X1_openEdit se_X1_openEdit lk_X7_111 k_X1 (zL_o hx (l := vl v) (zV_l0 hv (v := v) (by omega))) ⟨(Nat.le_of_ble_eq_true rfl), (Nat.le_of_ble_eq_true rfl)⟩ dX7_reconcile_79 rfl rfl (Nat.le_of_ble_eq_true rfl) (Nat.zero_le _) (Nat.zero_le _) ?_
          intro D79 hD79
          subst hD79
          refine ja_aload_n (i := 3) dX7_reconcile_82 rfl rfl ?_
          refine ja_getR fl_X7_257 (zV_o hv (v := v) (by omega)) rfl (zV_p0 hv (v := v) (by omega)) dX7_reconcile_83 ?_
          refine ja_iload (i := 5) dX7_reconcile_86 rfl ?_
          refine ja_iload (i := 6) dX7_reconcile_88 rfl ?_
          refine ja_cVd0 (st := []) (c_giveE (D := E) l hx hl3 (c := c) (t := cv q) (g := fun _ => false) hI.2.1.2.2.1 (hcv2 q) (q := q) (by omega) rfl) rfl rfl (ce_X1_give 0 0) im_X1_give se_X1_give lk_X7_114 k_X1 (zL_o hx (l := vl v) (zV_l0 hv (v := v) (by omega))) ⟨(Nat.le_of_ble_eq_true rfl), (Nat.le_of_ble_eq_true rfl)⟩ dX7_reconcile_90 rfl rfl (Nat.le_of_ble_eq_true rfl) (Nat.zero_le _) (Nat.zero_le _) ?_
          intro D90 hD90
          subst hD90
          refine ja_iload (i := 4) dX7_reconcile_93 rfl ?_
          refine ja_aload_n (i := 3) dX7_reconcile_95 rfl rfl ?_
          refine ja_getR fl_X7_257 (zV_o hv (v := v) (by omega)) rfl (zV_p0 hv (v := v) (by omega)) dX7_reconcile_96 ?_
          refine ja_iload (i := 6) dX7_reconcile_99 rfl ?_
          refine ja_cVd (st := [.int (nI (n))]) (c_closeE (D := E) l hx hl3 (c := c) (t := cv q) (g := gq (fun _ => false) q) (w := wv) (dv := !cp) (hcv2 q) h4E hI.2.1.2.2.2.2.1 hI.2.1.2.2.2.2.2.2) rfl rfl (ce_X1_closeEdit 0 0) im_X1_closeEdit se_X1_closeEdit lk_X7_118 k_X1 (zL_o hx (l := vl v) (zV_l0 hv (v := v) (by omega))) ⟨(Nat.le_of_ble_eq_true rfl), (Nat.le_of_ble_eq_true rfl)⟩ dX7_reconcile_101 rfl rfl (Nat.le_of_ble_eq_true rfl) (Nat.zero_le _) (Nat.zero_le _) ?_
          intro D101 hD101
          subst hD101
          refine ja_iaddN dX7_reconcile_104 ?_
          refine ja_istore (i := 4) dX7_reconcile_105 rfl (Nat.le_of_ble_eq_true rfl) ?_
          rcases RC_s hI (by rw [h121 q hq6, hcv q hq6]) (hcv2 q) (((RC_d h119E h120E h121E h105E).2 c63).imp_right (fun z => ⟨z.1, oI_inj (hI.2.1.2.2.1 q) (hcv2 q) ((hI.2.1.1 q hq6).symm.trans (z.2.trans h71E))⟩)) with hI2 | hI2
          ·
            refine ja_iincN (i := 5) dX7_reconcile_107 rfl rfl (Nat.le_of_ble_eq_true rfl) ?_
            refine ja_goto (tgt := 38) dX7_reconcile_110 (by decide) ?_
            refine ja_forget (i := 6) ?_
            exact ih38 (q + 1) _ _ _ _ (by omega) (by omega) hI2
          ·
            refine ja_iincN (i := 5) dX7_reconcile_107 rfl rfl (Nat.le_of_ble_eq_true rfl) ?_
            refine ja_goto (tgt := 38) dX7_reconcile_110 (by decide) ?_
            refine ja_forget (i := 6) ?_
            exact ih38 (q + 1) _ _ _ _ (by omega) (by omega) hI2
  exact lp38 257 0 0 D c0 w0 (by omega) (by omega) ⟨fun _ _ _ _ _ _ _ => rfl, hM0, hz0, Nat.le_refl _, rfl⟩

set_option maxRecDepth 100000 in
set_option maxHeartbeats 4000000 in
theorem c_reconcile_f3f (l : Launch) {Z : jZ} {D : jD} (hx : zX Z) {vn : Nat} {vl : Nat → Nat} (hv : zXv Z vn vl) (hv3 : vn ≤ 3) (hin : D 0 7 = bI false) {v : Nat} (hvl : v < vn) : ja_M l (mX7_reconcile 1 6) [.ref (0), .int (nI (v)), .int (nI (108))] Z D ja_r0 (ja_jx "java/lang/IllegalStateException" Z D) := by
  refine ja_Mof (lv := [some (.ref (0)), some (.int (nI (v))), some (.int (nI (108))), none, none, none, none]) (by decide +kernel) rfl rfl (Nat.le_of_ble_eq_true rfl) rfl ?_
  refine ja_aload_n (i := 0) dX7_reconcile_0 rfl rfl ?_
  refine ja_iload_n (i := 1) dX7_reconcile_1 rfl rfl ?_
  refine ja_cVr (st := []) (c_versionOf (D := D) l hx hv hv3 (r := v) (by omega)) rfl rfl (ce_X7_versionOf 0 0) im_X7_versionOf se_X7_versionOf lk_X7_224 k_X7 (zX_o0 hx) ⟨(Nat.le_of_ble_eq_true rfl), (Nat.le_of_ble_eq_true rfl)⟩ dX7_reconcile_2 rfl rfl (Nat.le_of_ble_eq_true rfl) (Nat.zero_le _) (Nat.zero_le _) ?_
  refine ja_astore_n (i := 3) dX7_reconcile_5 rfl rfl (Nat.le_of_ble_eq_true rfl) ?_
  refine ja_iload_n (i := 2) dX7_reconcile_6 rfl rfl ?_
  refine ja_bipush (v := nI 118) dX7_reconcile_7 (by decide +kernel) ?_
  refine ja_icmpN_eq (tgt := 28) dX7_reconcile_9 (by decide) (by omega) (by omega) (fun c9 => absurd c9 (by decide)) (fun c9 => ?_)
  refine ja_iload_n (i := 2) dX7_reconcile_12 rfl rfl ?_
  refine ja_bipush (v := nI 108) dX7_reconcile_13 (by decide +kernel) ?_
  refine ja_icmpN_eq (tgt := 28) dX7_reconcile_15 (by decide) (by omega) (by omega) (fun c15 => ?_) (fun c15 => absurd c15 (by decide))
  refine ja_aload_n (i := 0) dX7_reconcile_28 rfl rfl ?_
  refine ja_cVx (st := []) (c_needSession_x (D := D) l hx hin) (ce_X7_needSession 1 6) im_X7_needSession se_X7_needSession lk_X7_108 k_X7 (zX_o0 hx) ⟨(Nat.le_of_ble_eq_true rfl), (Nat.le_of_ble_eq_true rfl)⟩ dX7_reconcile_29 rfl rfl (Nat.le_of_ble_eq_true rfl) (Nat.le_of_ble_eq_true rfl) (Nat.le_of_ble_eq_true rfl) ?_
  refine ja_out rfl (Nat.le_of_ble_eq_true rfl) (Nat.le_of_ble_eq_true rfl) ?_
  exact ⟨rfl, rfl, rfl⟩

set_option maxRecDepth 100000 in
set_option maxHeartbeats 4000000 in
theorem c_reconcile_okf (l : Launch) {Z : jZ} {D : jD} (hx : zX Z) {vn : Nat} {vl : Nat → Nat} (hv : zXv Z vn vl) (hv3 : vn ≤ 3) {v x y w h : Nat} (hvl : v < vn) (hb : vbx D v x y w h) (hin : D 0 7 = bI true) {X : jD} {c0 cv : Nat → Option Nat} {w0 : Nat → Nat} {cp : Bool} (hM0 : MLd D X (vl v) c0 w0) (hz0 : ∀ a, a < 10 → eN c0 a = 0 → w0 a = 0) (h4d : D (30 + 10 * vl v) 4 = bI (!cp)) (h119 : ∀ q, q < 256 → X 119 (256 * v + q) = bI (inB x y w h q)) (h120 : ∀ q, q < 256 → X 120 (256 * v + q) = D (73 + 4 * v) q) (h121 : ∀ q, q < 256 → X 121 (256 * v + q) = D (71 + 4 * v) q) (hcv : ∀ q, q < 256 → D (71 + 4 * v) q = oI (cv q)) (hcv2 : ∀ q a, cv q = some a → a < 10)  : ja_M l (mX7_reconcile 0 0) [.ref (0), .int (nI (v)), .int (nI (108))] Z D (fun v2 Z2 D2 => ∃ E c wv, v2 = some (.int (nI (rcN X v (vl v) false cp 256))) ∧ Z2 = Z ∧ D2 = ja_cp (ja_cp E (31 + 10 * vl v) 0 (73 + 4 * v) 0 256) (31 + 10 * vl v) 0 (71 + 4 * v) 0 256 ∧ RCI D E X v (vl v) false cp w0 256 (rcN X v (vl v) false cp 256) c wv) ja_x0 := by
  have hl3 : vl v < 3 := zV_l0 hv hvl
  refine ja_Mof (lv := [some (.ref (0)), some (.int (nI (v))), some (.int (nI (108))), none, none, none, none]) (by decide +kernel) rfl rfl (Nat.le_of_ble_eq_true rfl) rfl ?_
  refine ja_aload_n (i := 0) dX7_reconcile_0 rfl rfl ?_
  refine ja_iload_n (i := 1) dX7_reconcile_1 rfl rfl ?_
  refine ja_cVr (st := []) (c_versionOf (D := D) l hx hv hv3 (r := v) (by omega)) rfl rfl (ce_X7_versionOf 0 0) im_X7_versionOf se_X7_versionOf lk_X7_224 k_X7 (zX_o0 hx) ⟨(Nat.le_of_ble_eq_true rfl), (Nat.le_of_ble_eq_true rfl)⟩ dX7_reconcile_2 rfl rfl (Nat.le_of_ble_eq_true rfl) (Nat.zero_le _) (Nat.zero_le _) ?_
  refine ja_astore_n (i := 3) dX7_reconcile_5 rfl rfl (Nat.le_of_ble_eq_true rfl) ?_
  refine ja_iload_n (i := 2) dX7_reconcile_6 rfl rfl ?_
  refine ja_bipush (v := nI 118) dX7_reconcile_7 (by decide +kernel) ?_
  refine ja_icmpN_eq (tgt := 28) dX7_reconcile_9 (by decide) (by omega) (by omega) (fun c9 => absurd c9 (by decide)) (fun c9 => ?_)
  refine ja_iload_n (i := 2) dX7_reconcile_12 rfl rfl ?_
  refine ja_bipush (v := nI 108) dX7_reconcile_13 (by decide +kernel) ?_
  refine ja_icmpN_eq (tgt := 28) dX7_reconcile_15 (by decide) (by omega) (by omega) (fun c15 => ?_) (fun c15 => absurd c15 (by decide))
  refine ja_aload_n (i := 0) dX7_reconcile_28 rfl rfl ?_
  refine ja_cVr0 (st := []) (c_needSession (D := D) l hx hin) rfl rfl (ce_X7_needSession 0 0) im_X7_needSession se_X7_needSession lk_X7_108 k_X7 (zX_o0 hx) ⟨(Nat.le_of_ble_eq_true rfl), (Nat.le_of_ble_eq_true rfl)⟩ dX7_reconcile_29 rfl rfl (Nat.le_of_ble_eq_true rfl) (Nat.zero_le _) (Nat.zero_le _) ?_
  refine ja_iconst (v := nI 0) dX7_reconcile_32 (by decide +kernel) ?_
  refine ja_istore (i := 4) dX7_reconcile_33 rfl (Nat.le_of_ble_eq_true rfl) ?_
  refine ja_iconst (v := nI 0) dX7_reconcile_35 (by decide +kernel) ?_
  refine ja_istore (i := 5) dX7_reconcile_36 rfl (Nat.le_of_ble_eq_true rfl) ?_
  have lp38 : ∀ (f38 : Nat) (q n : Nat) (E : jD) (c : Nat → Option Nat) (wv : Nat → Nat), (256 < q + f38) → (q ≤ 256) → (RCI D E X v (vl v) false cp w0 q n c wv) → ja_A l (mX7_reconcile 0 0) ja_sn (ja_Qf (mX7_reconcile 0 0) (fun v2 Z2 D2 => ∃ E c wv, v2 = some (.int (nI (rcN X v (vl v) false cp 256))) ∧ Z2 = Z ∧ D2 = ja_cp (ja_cp E (31 + 10 * vl v) 0 (73 + 4 * v) 0 256) (31 + 10 * vl v) 0 (71 + 4 * v) 0 256 ∧ RCI D E X v (vl v) false cp w0 256 (rcN X v (vl v) false cp 256) c wv) ja_x0) 38 [some (.ref (0)), some (.int (nI (v))), some (.int (nI (108))), some (.ref (70 + 4 * v)), some (.int (nI (n))), some (.int (nI (q))), none] [] Z E 0 0 := by
    intro f38
    induction f38 with
    | zero => intro q n E c wv hf hq hI; exfalso; omega
    | succ f38 ih38 =>
      intro q n E c wv hf hq hI
      have hbE : vbx E v x y w h := ⟨(hI.1 _ _ (by omega) (by omega) (by omega) (by omega) (by omega)).trans hb.1, (hI.1 _ _ (by omega) (by omega) (by omega) (by omega) (by omega)).trans hb.2.1, (hI.1 _ _ (by omega) (by omega) (by omega) (by omega) (by omega)).trans hb.2.2.1, (hI.1 _ _ (by omega) (by omega) (by omega) (by omega) (by omega)).trans hb.2.2.2.1, hb.2.2.2.2⟩
      have h4E : E (30 + 10 * vl v) 4 = bI (!cp) := (hI.1 _ _ (by omega) (by omega) (by omega) (by omega) (by omega)).trans h4d
      refine ja_iload (i := 5) dX7_reconcile_38 rfl ?_
      refine ja_sipush (v := nI 256) dX7_reconcile_40 (by decide +kernel) ?_
      refine ja_icmpN_ge (tgt := 113) dX7_reconcile_43 (by decide) (by omega) (by omega) (fun c43 => ?_) (fun c43 => ?_)
      ·
        refine ja_aload_n (i := 3) dX7_reconcile_113 rfl rfl ?_
        refine ja_cVd0 (st := []) (c_rebase (D := E) l hx hv hvl hbE) rfl rfl (ce_X6_rebase 0 0) im_X6_rebase se_X6_rebase lk_X7_221 k_X6 (zV_o hv (v := v) (by omega)) ⟨(Nat.le_of_ble_eq_true rfl), (Nat.le_of_ble_eq_true rfl)⟩ dX7_reconcile_114 rfl rfl (Nat.le_of_ble_eq_true rfl) (Nat.zero_le _) (Nat.zero_le _) ?_
        intro D114 hD114
        subst hD114
        refine ja_iload (i := 4) dX7_reconcile_117 rfl ?_
        refine ja_iret rfl rfl dX7_reconcile_119 (Nat.zero_le _) (Nat.zero_le _) ?_
        obtain rfl : q = 256 := by omega
        exact ⟨E, c, wv, by rw [hI.2.2.2.2], rfl, rfl, hI.1, hI.2.1, hI.2.2.1, hI.2.2.2.1, rfl⟩
      ·
        have hq6 : q < 256 := by omega
        have h119E : rcE X v (vl v) false cp q 119 (256 * v + q) = bI (inB x y w h q) := (rcE_o (by decide) (by decide) (by decide) (by decide)).trans (h119 q hq6)
        have h120E : rcE X v (vl v) false cp q 120 (256 * v + q) = E (73 + 4 * v) q := (rcE_o (by decide) (by decide) (by decide) (by decide)).trans ((h120 q hq6).trans (hI.1 _ _ (by omega) (by omega) (by omega) (by omega) (by omega)).symm)
        have h121E : rcE X v (vl v) false cp q 121 (256 * v + q) = E (71 + 4 * v) q := (rcE_o (by decide) (by decide) (by decide) (by decide)).trans ((h121 q hq6).trans (hI.1 _ _ (by omega) (by omega) (by omega) (by omega) (by omega)).symm)
        have h71E : E (71 + 4 * v) q = oI (cv q) := (hI.1 _ _ (by omega) (by omega) (by omega) (by omega) (by omega)).trans (hcv q hq6)
        have h105E : rcE X v (vl v) false cp q 105 (256 * vl v + q) = E (31 + 10 * vl v) q := (hI.2.1.2.1 q hq6).trans (hI.2.1.1 q hq6).symm
        refine ja_aload_n (i := 3) dX7_reconcile_46 rfl rfl ?_
        refine ja_iload (i := 5) dX7_reconcile_47 rfl ?_
        refine ja_iload_n (i := 2) dX7_reconcile_49 rfl rfl ?_
        refine ja_bipush (v := nI 118) dX7_reconcile_50 (by decide +kernel) ?_
        refine ja_icmpN_ne (tgt := 59) dX7_reconcile_52 (by decide) (by omega) (by omega) (fun c52 => ?_) (fun c52 => absurd c52 (by decide))
        refine ja_iconst (v := nI 0) dX7_reconcile_59 (by decide +kernel) ?_
        refine ja_cVr (st := []) (c_isDue (D := E) l hx hv hvl hbE (q := q) (sv := false) (by omega)) rfl rfl (ce_X6_isDue 0 0) im_X6_isDue se_X6_isDue lk_X7_253 k_X6 (zV_o hv (v := v) (by omega)) ⟨(Nat.le_of_ble_eq_true rfl), (Nat.le_of_ble_eq_true rfl)⟩ dX7_reconcile_60 rfl rfl (Nat.le_of_ble_eq_true rfl) (Nat.zero_le _) (Nat.zero_le _) ?_
        refine ja_ifB_eq (tgt := 107) dX7_reconcile_63 (by decide) (fun c63 => ?_) (fun c63 => ?_)
        ·
          refine ja_iincN dX7_reconcile_107 rfl rfl (Nat.le_of_ble_eq_true rfl) ?_
          refine ja_goto (tgt := 38) dX7_reconcile_110 (by decide) ?_
          exact ih38 (q + 1) n E c wv (by omega) (by omega) (RC_n hI ((RC_d h119E h120E h121E h105E).1 c63))
        ·
          refine ja_aload_n (i := 3) dX7_reconcile_66 rfl rfl ?_
          refine ja_getR fl_X7_237 (zV_o hv (v := v) (by omega)) rfl (zV_p1 hv (v := v) (by omega)) dX7_reconcile_67 ?_
          refine ja_iload (i := 5) dX7_reconcile_70 rfl ?_
          refine ja_iald (zV_a1 hv (v := v) (by omega)) rfl (by omega) (by decide) dX7_reconcile_72 ?_
          refine ja_top (y := oI (cv q)) h71E ?_
          refine ja_istore (i := 6) dX7_reconcile_73 rfl (Nat.le_of_ble_eq_true rfl) ?_
          refine ja_aload_n (i := 3) dX7_reconcile_75 rfl rfl ?_
          refine ja_getR fl_X7_257 (zV_o hv (v := v) (by omega)) rfl (zV_p0 hv (v := v) (by omega)) dX7_reconcile_76 ?_
          refine ja_cVd0 (st := []) (c_openE (D := E) l hx hl3 (c := c) (cv q) hI.2.1.1 hI.2.1.2.2.2.1) rfl rfl (ce_X1_openEdit 0 0) im_X1_openEdit se_X1_openEdit lk_X7_111 k_X1 (zL_o hx (l := vl v) (zV_l0 hv (v := v) (by omega))) ⟨(Nat.le_of_ble_eq_true rfl), (Nat.le_of_ble_eq_true rfl)⟩ dX7_reconcile_79 rfl rfl (Nat.le_of_ble_eq_true rfl) (Nat.zero_le _) (Nat.zero_le _) ?_
          intro D79 hD79
          subst hD79
          refine ja_aload_n (i := 3) dX7_reconcile_82 rfl rfl ?_
          refine ja_getR fl_X7_257 (zV_o hv (v := v) (by omega)) rfl (zV_p0 hv (v := v) (by omega)) dX7_reconcile_83 ?_
          refine ja_iload (i := 5) dX7_reconcile_86 rfl ?_
          refine ja_iload (i := 6) dX7_reconcile_88 rfl ?_
          refine ja_cVd0 (st := []) (c_giveE (D := E) l hx hl3 (c := c) (t := cv q) (g := fun _ => false) hI.2.1.2.2.1 (hcv2 q) (q := q) (by omega) rfl) rfl rfl (ce_X1_give 0 0) im_X1_give se_X1_give lk_X7_114 k_X1 (zL_o hx (l := vl v) (zV_l0 hv (v := v) (by omega))) ⟨(Nat.le_of_ble_eq_true rfl), (Nat.le_of_ble_eq_true rfl)⟩ dX7_reconcile_90 rfl rfl (Nat.le_of_ble_eq_true rfl) (Nat.zero_le _) (Nat.zero_le _) ?_
          intro D90 hD90
          subst hD90
          refine ja_iload (i := 4) dX7_reconcile_93 rfl ?_
          refine ja_aload_n (i := 3) dX7_reconcile_95 rfl rfl ?_
          refine ja_getR fl_X7_257 (zV_o hv (v := v) (by omega)) rfl (zV_p0 hv (v := v) (by omega)) dX7_reconcile_96 ?_
          refine ja_iload (i := 6) dX7_reconcile_99 rfl ?_
          refine ja_cVd (st := [.int (nI (n))]) (c_closeE (D := E) l hx hl3 (c := c) (t := cv q) (g := gq (fun _ => false) q) (w := wv) (dv := !cp) (hcv2 q) h4E hI.2.1.2.2.2.2.1 hI.2.1.2.2.2.2.2.2) rfl rfl (ce_X1_closeEdit 0 0) im_X1_closeEdit se_X1_closeEdit lk_X7_118 k_X1 (zL_o hx (l := vl v) (zV_l0 hv (v := v) (by omega))) ⟨(Nat.le_of_ble_eq_true rfl), (Nat.le_of_ble_eq_true rfl)⟩ dX7_reconcile_101 rfl rfl (Nat.le_of_ble_eq_true rfl) (Nat.zero_le _) (Nat.zero_le _) ?_
          intro D101 hD101
          subst hD101
          refine ja_iaddN dX7_reconcile_104 ?_
          refine ja_istore (i := 4) dX7_reconcile_105 rfl (Nat.le_of_ble_eq_true rfl) ?_
          rcases RC_s hI (by rw [h121 q hq6, hcv q hq6]) (hcv2 q) (((RC_d h119E h120E h121E h105E).2 c63).imp_right (fun z => ⟨z.1, oI_inj (hI.2.1.2.2.1 q) (hcv2 q) ((hI.2.1.1 q hq6).symm.trans (z.2.trans h71E))⟩)) with hI2 | hI2
          ·
            refine ja_iincN (i := 5) dX7_reconcile_107 rfl rfl (Nat.le_of_ble_eq_true rfl) ?_
            refine ja_goto (tgt := 38) dX7_reconcile_110 (by decide) ?_
            refine ja_forget (i := 6) ?_
            exact ih38 (q + 1) _ _ _ _ (by omega) (by omega) hI2
          ·
            refine ja_iincN (i := 5) dX7_reconcile_107 rfl rfl (Nat.le_of_ble_eq_true rfl) ?_
            refine ja_goto (tgt := 38) dX7_reconcile_110 (by decide) ?_
            refine ja_forget (i := 6) ?_
            exact ih38 (q + 1) _ _ _ _ (by omega) (by omega) hI2
  exact lp38 257 0 0 D c0 w0 (by omega) (by omega) ⟨fun _ _ _ _ _ _ _ => rfl, hM0, hz0, Nat.le_refl _, rfl⟩
