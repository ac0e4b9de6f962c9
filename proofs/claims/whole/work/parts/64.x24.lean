/-! THE CLASS: the coarser map drawn -/
def c0U (D : jD) (z : Nat → Nat) (k : Nat) : jD := fun a j => if a = 14 ∧ j < k then nI j else if a = 15 ∧ j < k then nI (z j) else if (20 ≤ a ∧ a < 20 + k) ∧ j < 10 then 0 else D a j
theorem c0U_0 {D : jD} {z : Nat → Nat} : D = c0U D z 0 := by
  funext a j
  unfold c0U
  rw [if_neg (by omega), if_neg (by omega), if_neg (by omega)]
theorem c0U_s {D : jD} {z : Nat → Nat} {k : Nat} (hk : k < 10) : fiU (ja_up (ja_up (c0U D z k) 14 k (nI k)) 15 k (nI (z k))) (20 + k) 10 0 = c0U D z (k + 1) := by
  funext a j
  simp only [fiU, ja_up, c0U]
  grind
theorem c0U_e {D : jD} {z : Nat → Nat} : c0U D z 10 = cmU D (fun a => a) z (fun _ _ => 0) := by
  funext a j
  unfold c0U cmU
  rw [show nI 0 = 0 from rfl]
theorem cA_0 {f : Nat → Int32} {ly q : Nat} {x : Option Nat} (hx : ∀ a, x = some a → a < 10) (h : f (256 * ly + q) = oI x) : cA f (fun a => nI a) ly q = oI x := by
  unfold cA
  rw [h]
  cases x with
  | none => rfl
  | some a =>
    have := hx a rfl
    rw [if_neg (show ¬ oI (some a) = -1 from nI_nm1 (by omega))]
    show nI (Int32.toNatClampNeg (nI a)) = nI a
    rw [nI_clamp (by omega)]
/-- the class's map behind k rounds -/
def CRS (f : Nat → Int32) (ly le k : Nat) (s z : Nat → Nat) (b : Nat → Nat → Nat) : Prop :=
  (∀ a, a < 10 → crI f ly le k a = nI (s a) ∧ s a < 10) ∧ (∀ a, a < 10 → z a = cz f (crI f ly le k) ly a) ∧ ∀ i j, i < 10 → j < 10 → b i j = if j = i then 0 else bd (cA f (crI f ly le k) ly) (nI i) (nI j) 256
theorem CRS_0 {f : Nat → Int32} {ly le : Nat} {c : Nat → Option Nat} {z : Nat → Nat} (hw : ∀ q a, c q = some a → a < 10) (hf : ∀ q, q < 256 → f (256 * ly + q) = oI (c q)) (hz : ∀ a, a < 10 → z a = eN c a) : CRS f ly le 0 (fun a => a) z (cnB (fun _ _ => 0) c 256 0) := by
  have e : ∀ q, q < 256 → cA f (crI f ly le 0) ly q = oI (c q) := fun q hq => cA_0 (hw q) (hf q hq)
  refine ⟨fun a ha => ⟨rfl, ha⟩, fun a ha => ?_, fun i j hi hj => cnB_bd hw e hi hj⟩
  rw [hz a ha]
  refine fb_ct_cong fun q hq => ?_
  rw [e q hq]
  cases h : c q with
  | none => exact decide_eq_decide.mpr ⟨fun x => by (cases x), fun x => absurd x.symm (nI_nm1 (by omega))⟩
  | some y =>
    have := hw q y h
    exact decide_eq_decide.mpr ⟨fun x => by rw [Option.some.inj x]; rfl, fun x => by rw [nI_j (by omega) (by omega) x]⟩
theorem cbM_cg {c c2 : Nat → Bool} {g g2 : Nat → Nat} : ∀ {n}, (∀ a, a < n → c a = c2 a ∧ g a = g2 a) → cbM c g n = cbM c2 g2 n
  | 0, _ => rfl
  | n + 1, h => by
    have ih := cbM_cg (n := n) (fun a ha => h a (by omega))
    obtain ⟨h1, h2⟩ := h n (by omega)
    rw [cbM, cbM, ← ih, h1, h2]
    cases hb : cbM c g n with
    | none => rfl
    | some x =>
      have := (cbM_lt hb).1
      show (if c2 n = true ∧ g2 n < g x then some n else some x) = if c2 n = true ∧ g2 n < g2 x then some n else some x
      rw [(h x (by omega)).2]
theorem CRS_b {f : Nat → Int32} {ly le k : Nat} {s z : Nat → Nat} {b : Nat → Nat → Nat} (h : CRS f ly le k s z b) {a : Nat} (ha : a < 10) : bM (b a) 10 = cb f (crI f ly le k) ly a := bM_cg fun o ho => h.2.2 a o ha ho
theorem CRS_s {f : Nat → Int32} {ly le k : Nat} {s z : Nat → Nat} {b : Nat → Nat → Nat} (h : CRS f ly le k s z b) : cbM (smC z b le) z 10 = cbs f (crI f ly le k) ly le 10 := cbM_cg fun a ha => ⟨by
  unfold smC cc
  rw [h.2.1 a ha, CRS_b h ha], h.2.1 a ha⟩
theorem CRS_j {f : Nat → Int32} {ly le k S I : Nat} {s z : Nat → Nat} {b : Nat → Nat → Nat} (h : CRS f ly le k s z b) (h1 : cbs f (crI f ly le k) ly le 10 = some S) (h2 : cb f (crI f ly le k) ly S = some I) : CRS f ly le (k + 1) (sJk s S I 10) (nup (nup z I (z I + z S)) S 0) (jBk b S I 10) := by
  have hS := (cbM_lt h1).1
  obtain ⟨hI, hIS, -⟩ := cb_pos h2
  have e := crI_step h1 h2
  have hc : ∀ q, cA f (crI f ly le (k + 1)) ly q = if cA f (crI f ly le k) ly q = nI S then nI I else cA f (crI f ly le k) ly q := fun q => by rw [e]; exact cA_jn hS
  refine ⟨fun a ha => ?_, fun a ha => cz_jn hS hI (fun x => hIS x.symm) hc h.2.1 ha, fun i j hi hj => jB_bd hS hI (fun x => hIS x.symm) hc h.2.2 hi hj⟩
  obtain ⟨a1, a2⟩ := h.1 a ha
  rw [e]
  unfold cjn sJk
  rw [a1]
  by_cases e3 : s a = S
  · rw [if_pos (by rw [e3]), if_pos ⟨ha, e3⟩]; exact ⟨rfl, hI⟩
  · rw [if_neg (fun x => e3 (nI_j (by omega) (by omega) x)), if_neg (fun x => e3 x.2)]; exact ⟨rfl, a2⟩
theorem CRS_e {f : Nat → Int32} {ly le k : Nat} {s z : Nat → Nat} {b : Nat → Nat → Nat} (h : CRS f ly le k s z b) (hk : k ≤ 10) (h1 : cbs f (crI f ly le k) ly le 10 = none) : CRS f ly le 10 s z b := by
  have e := crI_stay h1 (10 - k)
  rw [show k + (10 - k) = 10 by omega] at e
  unfold CRS
  rw [e]
  exact h
theorem CRS_i {f : Nat → Int32} {ly le k S : Nat} (h1 : cbs f (crI f ly le k) ly le 10 = some S) : ∃ I, cb f (crI f ly le k) ly S = some I := by
  have := (cbM_lt h1).2
  simp only [cc, Bool.and_eq_true] at this
  exact Option.isSome_iff_exists.mp this.2
theorem CRS_bb {f : Nat → Int32} {ly le k : Nat} {s z : Nat → Nat} {b : Nat → Nat → Nat} (h : CRS f ly le k s z b) : ∀ i j, i < 10 → j < 10 → b i j ≤ 2048 := fun i j hi hj => by
  rw [h.2.2 i j hi hj]
  split
  · omega
  · have := bd_le (cA f (crI f ly le k) ly) (nI i) (nI j) 256
    omega
theorem CRS_zz {f : Nat → Int32} {ly le k : Nat} {s z : Nat → Nat} {b : Nat → Nat → Nat} (h : CRS f ly le k s z b) : ∀ i, i < 10 → z i ≤ 256 := fun i hi => by
  rw [h.2.1 i hi]
  exact cz_le _ _ _ _

set_option maxRecDepth 100000 in
set_option maxHeartbeats 4000000 in
theorem c_draw (l : Launch) {Z : jZ} {D : jD} (hx : zX Z) {ly : Nat} (h1 : ly < 3) {le : Nat} (hle : le ≤ 256) {c : Nat → Option Nat} {z : Nat → Nat} {f : Nat → Int32} (hw : ∀ q a, c q = some a → a < 10) (hc : ∀ q, q < 256 → D (31 + 10 * ly) q = oI (c q)) (hn : ∀ a, a < 10 → D (32 + 10 * ly) a = nI (z a)) (hz : ∀ a, a < 10 → z a = eN c a) (hf : ∀ q, q < 256 → f (256 * ly + q) = oI (c q)) : ja_M l (mX0_draw 0 0) [.ref (13), .ref (30 + 10 * ly), .int (nI (le))] Z D (ja_jd none Z (fun D2 => ∃ s z b, D2 = cmU D s z b ∧ CRS f ly le 10 s z b)) ja_x0 := by
  refine ja_Mof (lv := [some (.ref (13)), some (.ref (30 + 10 * ly)), some (.int (nI (le))), none, none, none]) (by decide +kernel) rfl rfl (Nat.le_of_ble_eq_true rfl) rfl ?_
  refine ja_iconst (v := nI 0) dX0_draw_0 (by decide +kernel) ?_
  refine ja_istore_n (i := 3) dX0_draw_1 rfl rfl (Nat.le_of_ble_eq_true rfl) ?_
  have lp2 : ∀ (f2 : Nat) (k : Nat) (E : jD), (10 < k + f2) → (k ≤ 10) → (E = c0U D z k) → ja_A l (mX0_draw 0 0) ja_sn (ja_Qf (mX0_draw 0 0) (ja_jd none Z (fun D2 => ∃ s z b, D2 = cmU D s z b ∧ CRS f ly le 10 s z b)) ja_x0) 2 [some (.ref (13)), some (.ref (30 + 10 * ly)), some (.int (nI (le))), some (.int (nI (k))), none, none] [] Z E 0 0 := by
    intro f2
    induction f2 with
    | zero => intro k E hf2 hk hE; exfalso; omega
    | succ f2 ih2 =>
      intro k E hf2 hk hE
      refine ja_iload_n (i := 3) dX0_draw_2 rfl rfl ?_
      refine ja_bipush (v := nI 10) dX0_draw_3 (by decide +kernel) ?_
      refine ja_icmpN_ge (tgt := 43) dX0_draw_5 (by decide) (by omega) (by omega) (fun c5 => ?_) (fun c5 => ?_)
      ·
        obtain rfl : k = 10 := by omega
        rw [c0U_e] at hE
        subst hE
        refine ja_aload_n (i := 0) dX0_draw_43 rfl rfl ?_
        refine ja_aload_n (i := 1) dX0_draw_44 rfl rfl ?_
        refine ja_cVd0 (st := []) (c_countBorders (D := D) l hx h1 (s := fun a => a) (z := z) (b := fun _ _ => 0) hw hc) rfl rfl (ce_X0_countBorders 0 0) im_X0_countBorders se_X0_countBorders lk_X0_32 k_X0 (zX_o13 hx) ⟨(Nat.le_of_ble_eq_true rfl), (Nat.le_of_ble_eq_true rfl)⟩ dX0_draw_45 rfl rfl (Nat.le_of_ble_eq_true rfl) (Nat.zero_le _) (Nat.zero_le _) ?_
        intro D45 hD45
        subst hD45
        refine ja_iconst (v := nI 0) dX0_draw_48 (by decide +kernel) ?_
        refine ja_istore_n (i := 3) dX0_draw_49 rfl rfl (Nat.le_of_ble_eq_true rfl) ?_
        have lp50 : ∀ (f50 : Nat) (k : Nat) (s z : Nat → Nat) (b : Nat → Nat → Nat), (10 < k + f50) → (k ≤ 10) → (CRS f ly le k s z b) → ja_A l (mX0_draw 0 0) ja_sn (ja_Qf (mX0_draw 0 0) (ja_jd none Z (fun D2 => ∃ s z b, D2 = cmU D s z b ∧ CRS f ly le 10 s z b)) ja_x0) 50 [some (.ref (13)), some (.ref (30 + 10 * ly)), some (.int (nI (le))), some (.int (nI (k))), none, none] [] Z (cmU D s z b) 0 0 := by
          intro f50
          induction f50 with
          | zero => intro k s z b hf2 hk hC; exfalso; omega
          | succ f50 ih50 =>
            intro k s z b hf2 hk hC
            refine ja_iload_n (i := 3) dX0_draw_50 rfl rfl ?_
            refine ja_bipush (v := nI 10) dX0_draw_51 (by decide +kernel) ?_
            refine ja_icmpN_ge (tgt := 114) dX0_draw_53 (by decide) (by omega) (by omega) (fun c53 => ?_) (fun c53 => ?_)
            ·
              refine ja_vret rfl dX0_draw_114 (Nat.zero_le _) (Nat.zero_le _) ?_
              exact ⟨rfl, rfl, s, z, b, rfl, (show k = 10 by omega) ▸ hC⟩
            ·
              refine ja_aload_n (i := 0) dX0_draw_56 rfl rfl ?_
              refine ja_iload_n (i := 2) dX0_draw_57 rfl rfl ?_
              refine ja_cVr (st := []) (c_smallest (D := D) l hx (s := s) (z := z) (b := b) (CRS_bb hC) (CRS_zz hC) (le := le) hle) rfl rfl (ce_X0_smallest 0 0) im_X0_smallest se_X0_smallest lk_X0_36 k_X0 (zX_o13 hx) ⟨(Nat.le_of_ble_eq_true rfl), (Nat.le_of_ble_eq_true rfl)⟩ dX0_draw_58 rfl rfl (Nat.le_of_ble_eq_true rfl) (Nat.zero_le _) (Nat.zero_le _) ?_
              refine ja_top (y := oI (cbs f (crI f ly le k) ly le 10)) (by rw [CRS_s hC]) ?_
              refine ja_istore (i := 4) dX0_draw_61 rfl (Nat.le_of_ble_eq_true rfl) ?_
              rcases hS : cbs f (crI f ly le k) ly le 10 with _ | S
              ·
                refine ja_iload (i := 4) dX0_draw_63 rfl ?_
                refine ja_cNr (st := []) (c_isAreaN l) rfl rfl (ce_X7_isArea 0 0) st_X7_isArea nk_X0_40 ⟨(Nat.le_of_ble_eq_true rfl), (Nat.le_of_ble_eq_true rfl)⟩ dX0_draw_65 rfl rfl (Nat.le_of_ble_eq_true rfl) (Nat.zero_le _) (Nat.zero_le _) ?_
                refine ja_ifB_eq (tgt := 80) dX0_draw_68 (by decide) (fun c68 => ?_) (fun c68 => absurd c68 (by decide))
                refine ja_iconst (v := (-1)) dX0_draw_80 (by decide +kernel) ?_
                refine ja_istore (i := 5) dX0_draw_81 rfl (Nat.le_of_ble_eq_true rfl) ?_
                refine ja_iload (i := 4) dX0_draw_83 rfl ?_
                refine ja_cNr (st := []) (c_isAreaN l) rfl rfl (ce_X7_isArea 0 0) st_X7_isArea nk_X0_40 ⟨(Nat.le_of_ble_eq_true rfl), (Nat.le_of_ble_eq_true rfl)⟩ dX0_draw_85 rfl rfl (Nat.le_of_ble_eq_true rfl) (Nat.zero_le _) (Nat.zero_le _) ?_
                refine ja_ifB_eq (tgt := 99) dX0_draw_88 (by decide) (fun c88 => ?_) (fun c88 => absurd c88 (by decide))
                refine ja_vret rfl dX0_draw_99 (Nat.zero_le _) (Nat.zero_le _) ?_
                exact ⟨rfl, rfl, s, z, b, rfl, CRS_e hC hk hS⟩
              ·
                have hS10 := (cbM_lt hS).1
                obtain ⟨I, hI⟩ := CRS_i hS
                obtain ⟨hI10, hIS, -⟩ := cb_pos hI
                have hSI : ¬ S = I := fun x => hIS x.symm
                refine ja_iload (i := 4) dX0_draw_63 rfl ?_
                refine ja_cNr (st := []) (c_isAreaT l (by omega)) rfl rfl (ce_X7_isArea 0 0) st_X7_isArea nk_X0_40 ⟨(Nat.le_of_ble_eq_true rfl), (Nat.le_of_ble_eq_true rfl)⟩ dX0_draw_65 rfl rfl (Nat.le_of_ble_eq_true rfl) (Nat.zero_le _) (Nat.zero_le _) ?_
                refine ja_ifB_eq (tgt := 80) dX0_draw_68 (by decide) (fun c68 => absurd c68 (by decide)) (fun c68 => ?_)
                refine ja_aload_n (i := 0) dX0_draw_71 rfl rfl ?_
                refine ja_iload (i := 4) dX0_draw_72 rfl ?_
                refine ja_cVr (st := []) (c_longestBorder (D := D) l hx (s := s) (z := z) (b := b) (CRS_bb hC) (a := S) hS10) rfl rfl (ce_X0_longestBorder 0 0) im_X0_longestBorder se_X0_longestBorder lk_X0_44 k_X0 (zX_o13 hx) ⟨(Nat.le_of_ble_eq_true rfl), (Nat.le_of_ble_eq_true rfl)⟩ dX0_draw_74 rfl rfl (Nat.le_of_ble_eq_true rfl) (Nat.zero_le _) (Nat.zero_le _) ?_
                refine ja_top (y := nI (I)) (by rw [CRS_b hC hS10, hI]; rfl) ?_
                refine ja_goto (tgt := 81) dX0_draw_77 (by decide) ?_
                refine ja_istore (i := 5) dX0_draw_81 rfl (Nat.le_of_ble_eq_true rfl) ?_
                refine ja_iload (i := 4) dX0_draw_83 rfl ?_
                refine ja_cNr (st := []) (c_isAreaT l (by omega)) rfl rfl (ce_X7_isArea 0 0) st_X7_isArea nk_X0_40 ⟨(Nat.le_of_ble_eq_true rfl), (Nat.le_of_ble_eq_true rfl)⟩ dX0_draw_85 rfl rfl (Nat.le_of_ble_eq_true rfl) (Nat.zero_le _) (Nat.zero_le _) ?_
                refine ja_ifB_eq (tgt := 99) dX0_draw_88 (by decide) (fun c88 => absurd c88 (by decide)) (fun c88 => ?_)
                refine ja_iload (i := 5) dX0_draw_91 rfl ?_
                refine ja_cNr (st := []) (c_isAreaT l (by omega)) rfl rfl (ce_X7_isArea 0 0) st_X7_isArea nk_X0_40 ⟨(Nat.le_of_ble_eq_true rfl), (Nat.le_of_ble_eq_true rfl)⟩ dX0_draw_93 rfl rfl (Nat.le_of_ble_eq_true rfl) (Nat.zero_le _) (Nat.zero_le _) ?_
                refine ja_ifB_ne (tgt := 100) dX0_draw_96 (by decide) (fun c96 => ?_) (fun c96 => absurd c96 (by decide))
                refine ja_aload_n (i := 0) dX0_draw_100 rfl rfl ?_
                refine ja_iload (i := 4) dX0_draw_101 rfl ?_
                refine ja_iload (i := 5) dX0_draw_103 rfl ?_
                refine ja_cVd0 (st := []) (c_join (D := D) l hx (s := s) (z := z) (b := b) (fun a ha => (hC.1 a ha).2) (S := S) (I := I) hS10 hI10 hSI) rfl rfl (ce_X0_join 0 0) im_X0_join se_X0_join lk_X0_47 k_X0 (zX_o13 hx) ⟨(Nat.le_of_ble_eq_true rfl), (Nat.le_of_ble_eq_true rfl)⟩ dX0_draw_105 rfl rfl (Nat.le_of_ble_eq_true rfl) (Nat.zero_le _) (Nat.zero_le _) ?_
                intro D105 hD105
                subst hD105
                refine ja_iincN dX0_draw_108 rfl rfl (Nat.le_of_ble_eq_true rfl) ?_
                refine ja_goto (tgt := 50) dX0_draw_111 (by decide) ?_
                refine ja_forget (i := 4) ?_
                refine ja_forget (i := 5) ?_
                exact ih50 (k + 1) _ _ _ (by omega) (by omega) (CRS_j hC hS hI)
        exact lp50 11 0 _ _ _ (by omega) (by omega) (CRS_0 hw hf hz)
      ·
        refine ja_aload_n (i := 0) dX0_draw_8 rfl rfl ?_
        refine ja_getR fl_X0_9 (zX_o13 hx) rfl (zX_p13_0 hx) dX0_draw_9 ?_
        refine ja_iload_n (i := 3) dX0_draw_12 rfl rfl ?_
        refine ja_iload_n (i := 3) dX0_draw_13 rfl rfl ?_
        refine ja_iast (zX_o14 hx) rfl (by omega) (by decide) dX0_draw_14 ?_
        refine ja_aload_n (i := 0) dX0_draw_15 rfl rfl ?_
        refine ja_getR fl_X0_15 (zX_o13 hx) rfl (zX_p13_1 hx) dX0_draw_16 ?_
        refine ja_iload_n (i := 3) dX0_draw_19 rfl rfl ?_
        refine ja_aload_n (i := 1) dX0_draw_20 rfl rfl ?_
        refine ja_getR fl_X0_23 (zL_o hx (l := ly) (by omega)) rfl (zL_p1 hx (l := ly) (by omega)) dX0_draw_21 ?_
        refine ja_iload_n (i := 3) dX0_draw_24 rfl rfl ?_
        refine ja_iald (zL_a1 hx (l := ly) (by omega)) rfl (by omega) (by decide) dX0_draw_25 ?_
        refine ja_top (y := nI (z k)) (by rw [hE, up_n (by omega), c0U, if_neg (by omega), if_neg (by omega), if_neg (by omega)]; exact hn k (by omega)) ?_
        refine ja_iast (zX_o15 hx) rfl (by omega) (by decide) dX0_draw_26 ?_
        refine ja_aload_n (i := 0) dX0_draw_27 rfl rfl ?_
        refine ja_getR fl_X0_20 (zX_o13 hx) rfl (zX_p13_2 hx) dX0_draw_28 ?_
        refine ja_iload_n (i := 3) dX0_draw_31 rfl rfl ?_
        refine ja_aald (zX_o16 hx) (by decide) rfl (by omega) (by decide) (zC_e hx (c := k) (by omega)) dX0_draw_32 ?_
        refine ja_iconst (v := nI 0) dX0_draw_33 (by decide +kernel) ?_
        refine ja_cSd0 (st := []) (c_fill10 (D := (ja_up (ja_up E 14 k (nI (k))) 15 k (nI (z k)))) l (zC_o hx (c := k) (by omega)) (nI (0))) rfl rfl (ce_J7_fill_53178 0 0) st_J7_fill_53178 lk_X0_26 ⟨(Nat.le_of_ble_eq_true rfl), (Nat.le_of_ble_eq_true rfl)⟩ dX0_draw_34 rfl rfl (Nat.le_of_ble_eq_true rfl) (Nat.zero_le _) (Nat.zero_le _) ?_
        intro D34 hD34
        subst hD34
        refine ja_iincN dX0_draw_37 rfl rfl (Nat.le_of_ble_eq_true rfl) ?_
        refine ja_goto (tgt := 2) dX0_draw_40 (by decide) ?_
        exact ih2 (k + 1) _ (by omega) (by omega) (by rw [hE]; exact c0U_s (by omega))
  exact lp2 11 0 D (by omega) (by omega) c0U_0
