/-! THE CLASS: its calls, 4 (edits) -/
theorem c_needAON (l : Launch) {Z : jZ} {D : jD} {t : Option Nat} (ht : ∀ a, t = some a → a < 10) : ja_M l (mX7_needAreaOrNone 0 0) [.int (oI t)] Z D (ja_jr none Z D) ja_x0 := by
  cases t with
  | none => exact c_needAreaOrNone_N l
  | some a => exact c_needAreaOrNone l (ht a rfl)
theorem b_f {b : Bool} {P : Prop} (h : b = true ↔ P) (hp : ¬ P) : b = false := by
  cases b with
  | true => exact absurd (h.mp rfl) hp
  | false => rfl
theorem gq_i {g : Nat → Bool} {q k : Nat} : gq g q k = true ↔ k = q ∨ g k = true := by
  unfold gq
  by_cases e : k = q
  · rw [if_pos e]; exact ⟨fun _ => Or.inl e, fun _ => rfl⟩
  · rw [if_neg e]; exact ⟨Or.inr, fun h => h.resolve_left e⟩

set_option maxRecDepth 100000 in
set_option maxHeartbeats 4000000 in
theorem c_paint_f1 (l : Launch) {Z : jZ} {D : jD} (hx : zX Z) {ly : Int32} (a x y w h : Int32) (hl : ¬ (nI 0 ≤ ly ∧ ly ≤ nI 2))  : ja_M l (mX7_paint 1 6) [.ref (0), .int (ly), .int (a), .int (x), .int (y), .int (w), .int (h)] Z D ja_r0 (ja_jx "java/lang/IndexOutOfBoundsException" Z D) := by
  refine ja_Mof (lv := [some (.ref (0)), some (.int (ly)), some (.int (a)), some (.int (x)), some (.int (y)), some (.int (w)), some (.int (h)), none, none, none]) (by decide +kernel) rfl rfl (Nat.le_of_ble_eq_true rfl) rfl ?_
  refine ja_aload_n (i := 0) dX7_paint_0 rfl rfl ?_
  refine ja_iload_n (i := 1) dX7_paint_1 rfl rfl ?_
  refine ja_cVx (st := []) (c_layerOf_x (D := D) l hx hl) (ce_X7_layerOf 1 6) im_X7_layerOf se_X7_layerOf lk_X7_93 k_X7 (zX_o0 hx) ⟨(Nat.le_of_ble_eq_true rfl), (Nat.le_of_ble_eq_true rfl)⟩ dX7_paint_2 rfl rfl (Nat.le_of_ble_eq_true rfl) (Nat.le_of_ble_eq_true rfl) (Nat.le_of_ble_eq_true rfl) ?_
  refine ja_out rfl (Nat.le_of_ble_eq_true rfl) (Nat.le_of_ble_eq_true rfl) ?_
  exact ⟨rfl, rfl, rfl⟩

set_option maxRecDepth 100000 in
set_option maxHeartbeats 4000000 in
theorem c_paint_f2 (l : Launch) {Z : jZ} {D : jD} (hx : zX Z) {ly : Nat} (h1 : ly < 3) {a : Int32} (x y w h : Int32) (hn : ¬ a = -1) (ha : ¬ (nI 0 ≤ a ∧ a ≤ nI 9))  : ja_M l (mX7_paint 1 6) [.ref (0), .int (nI (ly)), .int (a), .int (x), .int (y), .int (w), .int (h)] Z D ja_r0 (ja_jx "java/lang/IllegalArgumentException" Z D) := by
  refine ja_Mof (lv := [some (.ref (0)), some (.int (nI (ly))), some (.int (a)), some (.int (x)), some (.int (y)), some (.int (w)), some (.int (h)), none, none, none]) (by decide +kernel) rfl rfl (Nat.le_of_ble_eq_true rfl) rfl ?_
  refine ja_aload_n (i := 0) dX7_paint_0 rfl rfl ?_
  refine ja_iload_n (i := 1) dX7_paint_1 rfl rfl ?_
  refine ja_cVr (st := []) (c_layerOf (D := D) l hx (ly := ly) (by omega)) rfl rfl (ce_X7_layerOf 0 0) im_X7_layerOf se_X7_layerOf lk_X7_93 k_X7 (zX_o0 hx) ⟨(Nat.le_of_ble_eq_true rfl), (Nat.le_of_ble_eq_true rfl)⟩ dX7_paint_2 rfl rfl (Nat.le_of_ble_eq_true rfl) (Nat.zero_le _) (Nat.zero_le _) ?_
  refine ja_astore (i := 7) dX7_paint_5 rfl (Nat.le_of_ble_eq_true rfl) ?_
  refine ja_iload_n (i := 2) dX7_paint_7 rfl rfl ?_
  refine ja_cSx (st := []) (c_needAreaOrNone_x (D := D) l hn ha) (ce_X7_needAreaOrNone 1 6) st_X7_needAreaOrNone lk_X7_100 ⟨(Nat.le_of_ble_eq_true rfl), (Nat.le_of_ble_eq_true rfl)⟩ dX7_paint_8 rfl rfl (Nat.le_of_ble_eq_true rfl) (Nat.le_of_ble_eq_true rfl) (Nat.le_of_ble_eq_true rfl) ?_
  refine ja_out rfl (Nat.le_of_ble_eq_true rfl) (Nat.le_of_ble_eq_true rfl) ?_
  exact ⟨rfl, rfl, rfl⟩

set_option maxRecDepth 100000 in
set_option maxHeartbeats 4000000 in
theorem c_paint_f2b (l : Launch) {Z : jZ} {D : jD} (hx : zX Z) {ly : Nat} (h1 : ly < 3) {t : Option Nat} (ht : ∀ a, t = some a → a < 10) {x y w h : Int32} (hb : ¬ bxOK x y w h) : ja_M l (mX7_paint 1 6) [.ref (0), .int (nI (ly)), .int (oI t), .int (x), .int (y), .int (w), .int (h)] Z D ja_r0 (ja_jx "java/lang/IllegalArgumentException" Z D) := by
  refine ja_Mof (lv := [some (.ref (0)), some (.int (nI (ly))), some (.int (oI t)), some (.int (x)), some (.int (y)), some (.int (w)), some (.int (h)), none, none, none]) (by decide +kernel) rfl rfl (Nat.le_of_ble_eq_true rfl) rfl ?_
  refine ja_aload_n (i := 0) dX7_paint_0 rfl rfl ?_
  refine ja_iload_n (i := 1) dX7_paint_1 rfl rfl ?_
  refine ja_cVr (st := []) (c_layerOf (D := D) l hx (ly := ly) (by omega)) rfl rfl (ce_X7_layerOf 0 0) im_X7_layerOf se_X7_layerOf lk_X7_93 k_X7 (zX_o0 hx) ⟨(Nat.le_of_ble_eq_true rfl), (Nat.le_of_ble_eq_true rfl)⟩ dX7_paint_2 rfl rfl (Nat.le_of_ble_eq_true rfl) (Nat.zero_le _) (Nat.zero_le _) ?_
  refine ja_astore (i := 7) dX7_paint_5 rfl (Nat.le_of_ble_eq_true rfl) ?_
  refine ja_iload_n (i := 2) dX7_paint_7 rfl rfl ?_
  refine ja_cSr0 (st := []) (c_needAON (D := D) l ht) rfl rfl (ce_X7_needAreaOrNone 0 0) st_X7_needAreaOrNone lk_X7_100 ⟨(Nat.le_of_ble_eq_true rfl), (Nat.le_of_ble_eq_true rfl)⟩ dX7_paint_8 rfl rfl (Nat.le_of_ble_eq_true rfl) (Nat.zero_le _) (Nat.zero_le _) ?_
  refine ja_iload_n (i := 3) dX7_paint_11 rfl rfl ?_
  refine ja_iload (i := 4) dX7_paint_12 rfl ?_
  refine ja_iload (i := 5) dX7_paint_14 rfl ?_
  refine ja_iload (i := 6) dX7_paint_16 rfl ?_
  refine ja_cSx (st := []) (c_needBox_x (D := D) l hb) (ce_X7_needBox 1 6) st_X7_needBox lk_X7_104 ⟨(Nat.le_of_ble_eq_true rfl), (Nat.le_of_ble_eq_true rfl)⟩ dX7_paint_18 rfl rfl (Nat.le_of_ble_eq_true rfl) (Nat.le_of_ble_eq_true rfl) (Nat.le_of_ble_eq_true rfl) ?_
  refine ja_out rfl (Nat.le_of_ble_eq_true rfl) (Nat.le_of_ble_eq_true rfl) ?_
  exact ⟨rfl, rfl, rfl⟩

set_option maxRecDepth 100000 in
set_option maxHeartbeats 4000000 in
theorem c_paint_f3 (l : Launch) {Z : jZ} {D : jD} (hx : zX Z) {ly : Nat} (h1 : ly < 3) (hin : D 0 7 = bI false) {t : Option Nat} (ht : ∀ a, t = some a → a < 10) {x y w h : Nat} (hx0 : x < 16) (hy0 : y < 16) (hw1 : 1 ≤ w) (hw2 : x + w ≤ 16) (hh1 : 1 ≤ h) (hh2 : y + h ≤ 16)  : ja_M l (mX7_paint 1 6) [.ref (0), .int (nI (ly)), .int (oI t), .int (nI (x)), .int (nI (y)), .int (nI (w)), .int (nI (h))] Z D ja_r0 (ja_jx "java/lang/IllegalStateException" Z D) := by
  refine ja_Mof (lv := [some (.ref (0)), some (.int (nI (ly))), some (.int (oI t)), some (.int (nI (x))), some (.int (nI (y))), some (.int (nI (w))), some (.int (nI (h))), none, none, none]) (by decide +kernel) rfl rfl (Nat.le_of_ble_eq_true rfl) rfl ?_
  refine ja_aload_n (i := 0) dX7_paint_0 rfl rfl ?_
  refine ja_iload_n (i := 1) dX7_paint_1 rfl rfl ?_
  refine ja_cVr (st := []) (c_layerOf (D := D) l hx (ly := ly) (by omega)) rfl rfl (ce_X7_layerOf 0 0) im_X7_layerOf se_X7_layerOf lk_X7_93 k_X7 (zX_o0 hx) ⟨(Nat.le_of_ble_eq_true rfl), (Nat.le_of_ble_eq_true rfl)⟩ dX7_paint_2 rfl rfl (Nat.le_of_ble_eq_true rfl) (Nat.zero_le _) (Nat.zero_le _) ?_
  refine ja_astore (i := 7) dX7_paint_5 rfl (Nat.le_of_ble_eq_true rfl) ?_
  refine ja_iload_n (i := 2) dX7_paint_7 rfl rfl ?_
  refine ja_cSr0 (st := []) (c_needAON (D := D) l ht) rfl rfl (ce_X7_needAreaOrNone 0 0) st_X7_needAreaOrNone lk_X7_100 ⟨(Nat.le_of_ble_eq_true rfl), (Nat.le_of_ble_eq_true rfl)⟩ dX7_paint_8 rfl rfl (Nat.le_of_ble_eq_true rfl) (Nat.zero_le _) (Nat.zero_le _) ?_
  refine ja_iload_n (i := 3) dX7_paint_11 rfl rfl ?_
  refine ja_iload (i := 4) dX7_paint_12 rfl ?_
  refine ja_iload (i := 5) dX7_paint_14 rfl ?_
  refine ja_iload (i := 6) dX7_paint_16 rfl ?_
  refine ja_cSr0 (st := []) (c_needBox (D := D) l (x := x) (y := y) (w := w) (h := h) (by omega) (by omega) (by omega) (by omega) (by omega) (by omega)) rfl rfl (ce_X7_needBox 0 0) st_X7_needBox lk_X7_104 ⟨(Nat.le_of_ble_eq_true rfl), (Nat.le_of_ble_eq_true rfl)⟩ dX7_paint_18 rfl rfl (Nat.le_of_ble_eq_true rfl) (Nat.zero_le _) (Nat.zero_le _) ?_
  refine ja_aload_n (i := 0) dX7_paint_21 rfl rfl ?_
  refine ja_cVx (st := []) (c_needSession_x (D := D) l hx hin) (ce_X7_needSession 1 6) im_X7_needSession se_X7_needSession lk_X7_108 k_X7 (zX_o0 hx) ⟨(Nat.le_of_ble_eq_true rfl), (Nat.le_of_ble_eq_true rfl)⟩ dX7_paint_22 rfl rfl (Nat.le_of_ble_eq_true rfl) (Nat.le_of_ble_eq_true rfl) (Nat.le_of_ble_eq_true rfl) ?_
  refine ja_out rfl (Nat.le_of_ble_eq_true rfl) (Nat.le_of_ble_eq_true rfl) ?_
  exact ⟨rfl, rfl, rfl⟩

set_option maxRecDepth 100000 in
set_option maxHeartbeats 4000000 in
theorem c_paint_ok (l : Launch) {Z : jZ} {D : jD} (hx : zX Z) {ly : Nat} (h1 : ly < 3) (hin : D 0 7 = bI true) {t : Option Nat} (ht : ∀ a, t = some a → a < 10) {x y w h : Nat} (hx0 : x < 16) (hy0 : y < 16) (hw1 : 1 ≤ w) (hw2 : x + w ≤ 16) (hh1 : 1 ≤ h) (hh2 : y + h ≤ 16) {c : Nat → Option Nat} {wv : Nat → Nat} {dv : Bool} (hw : ∀ q a, c q = some a → a < 10) (hc : ∀ q, q < 256 → D (31 + 10 * ly) q = oI (c q)) (hcn : ∀ a, a < 10 → D (32 + 10 * ly) a = nI (eN c a)) (h4d : D (30 + 10 * ly) 4 = bI dv) (hwv : ∀ a, a < 10 → D (33 + 10 * ly) a = nI (wv a)) (hT : fb_sm wv 10 ≤ 8388607)  : ja_M l (mX7_paint 0 0) [.ref (0), .int (nI (ly)), .int (oI t), .int (nI (x)), .int (nI (y)), .int (nI (w)), .int (nI (h))] Z D (ja_jd (some (.int (nI (eT c (t) (inB x y w h))))) Z (fun D2 => D2 = edE D ly c (t) (inB x y w h) wv dv)) ja_x0 := by
  refine ja_Mof (lv := [some (.ref (0)), some (.int (nI (ly))), some (.int (oI t)), some (.int (nI (x))), some (.int (nI (y))), some (.int (nI (w))), some (.int (nI (h))), none, none, none]) (by decide +kernel) rfl rfl (Nat.le_of_ble_eq_true rfl) rfl ?_
  refine ja_aload_n (i := 0) dX7_paint_0 rfl rfl ?_
  refine ja_iload_n (i := 1) dX7_paint_1 rfl rfl ?_
  refine ja_cVr (st := []) (c_layerOf (D := D) l hx (ly := ly) (by omega)) rfl rfl (ce_X7_layerOf 0 0) im_X7_layerOf se_X7_layerOf lk_X7_93 k_X7 (zX_o0 hx) ⟨(Nat.le_of_ble_eq_true rfl), (Nat.le_of_ble_eq_true rfl)⟩ dX7_paint_2 rfl rfl (Nat.le_of_ble_eq_true rfl) (Nat.zero_le _) (Nat.zero_le _) ?_
  refine ja_astore (i := 7) dX7_paint_5 rfl (Nat.le_of_ble_eq_true rfl) ?_
  refine ja_iload_n (i := 2) dX7_paint_7 rfl rfl ?_
  refine ja_cSr0 (st := []) (c_needAON (D := D) l ht) rfl rfl (ce_X7_needAreaOrNone 0 0) st_X7_needAreaOrNone lk_X7_100 ⟨(Nat.le_of_ble_eq_true rfl), (Nat.le_of_ble_eq_true rfl)⟩ dX7_paint_8 rfl rfl (Nat.le_of_ble_eq_true rfl) (Nat.zero_le _) (Nat.zero_le _) ?_
  refine ja_iload_n (i := 3) dX7_paint_11 rfl rfl ?_
  refine ja_iload (i := 4) dX7_paint_12 rfl ?_
  refine ja_iload (i := 5) dX7_paint_14 rfl ?_
  refine ja_iload (i := 6) dX7_paint_16 rfl ?_
  refine ja_cSr0 (st := []) (c_needBox (D := D) l (x := x) (y := y) (w := w) (h := h) (by omega) (by omega) (by omega) (by omega) (by omega) (by omega)) rfl rfl (ce_X7_needBox 0 0) st_X7_needBox lk_X7_104 ⟨(Nat.le_of_ble_eq_true rfl), (Nat.le_of_ble_eq_true rfl)⟩ dX7_paint_18 rfl rfl (Nat.le_of_ble_eq_true rfl) (Nat.zero_le _) (Nat.zero_le _) ?_
  refine ja_aload_n (i := 0) dX7_paint_21 rfl rfl ?_
  refine ja_cVr0 (st := []) (c_needSession (D := D) l hx hin) rfl rfl (ce_X7_needSession 0 0) im_X7_needSession se_X7_needSession lk_X7_108 k_X7 (zX_o0 hx) ⟨(Nat.le_of_ble_eq_true rfl), (Nat.le_of_ble_eq_true rfl)⟩ dX7_paint_22 rfl rfl (Nat.le_of_ble_eq_true rfl) (Nat.zero_le _) (Nat.zero_le _) ?_
  refine ja_aload (i := 7) dX7_paint_25 rfl ?_
  refine ja_cVd0 (st := []) (c_openE (D := D) l hx h1 (c := c) (t) hc hcn) rfl rfl (ce_X1_openEdit 0 0) im_X1_openEdit se_X1_openEdit lk_X7_111 k_X1 (zL_o hx (l := ly) (by omega)) ⟨(Nat.le_of_ble_eq_true rfl), (Nat.le_of_ble_eq_true rfl)⟩ dX7_paint_27 rfl rfl (Nat.le_of_ble_eq_true rfl) (Nat.zero_le _) (Nat.zero_le _) ?_
  intro D27 hD27
  subst hD27
  refine ja_iload (i := 4) dX7_paint_30 rfl ?_
  refine ja_istore (i := 8) dX7_paint_32 rfl (Nat.le_of_ble_eq_true rfl) ?_
  have lp34 : ∀ (f34 : Nat) (row : Nat) (g : Nat → Bool), (y + h < row + f34) → (y ≤ row) → (row ≤ y + h) → (∀ k, g k = true ↔ (y ≤ k / 16 ∧ k / 16 < row ∧ x ≤ k % 16 ∧ k % 16 < x + w)) → ja_A l (mX7_paint 0 0) ja_sn (ja_Qf (mX7_paint 0 0) (ja_jd (some (.int (nI (eT c (t) (inB x y w h))))) Z (fun D2 => D2 = edE D ly c (t) (inB x y w h) wv dv)) ja_x0) 34 [some (.ref (0)), some (.int (nI (ly))), some (.int (oI t)), some (.int (nI (x))), some (.int (nI (y))), some (.int (nI (w))), some (.int (nI (h))), some (.ref (30 + 10 * ly)), some (.int (nI (row))), none] [] Z (edU D ly c t g) 0 0 := by
    intro f34
    induction f34 with
    | zero => intro row g hf hr1 hr2 hg; exfalso; omega
    | succ f34 ih34 =>
      intro row g hf hr1 hr2 hg
      refine ja_iload (i := 8) dX7_paint_34 rfl ?_
      refine ja_iload (i := 4) dX7_paint_36 rfl ?_
      refine ja_iload (i := 6) dX7_paint_38 rfl ?_
      refine ja_iaddN dX7_paint_40 ?_
      refine ja_icmpN_ge (tgt := 82) dX7_paint_41 (by decide) (by omega) (by omega) (fun c41 => ?_) (fun c41 => ?_)
      ·
        refine ja_aload (i := 7) dX7_paint_82 rfl ?_
        refine ja_iload_n (i := 2) dX7_paint_84 rfl rfl ?_
        refine ja_cVd (st := []) (c_closeE (D := D) l hx h1 (c := c) (t := t) (g := g) (w := wv) (dv := dv) ht h4d hwv hT) rfl rfl (ce_X1_closeEdit 0 0) im_X1_closeEdit se_X1_closeEdit lk_X7_118 k_X1 (zL_o hx (l := ly) (by omega)) ⟨(Nat.le_of_ble_eq_true rfl), (Nat.le_of_ble_eq_true rfl)⟩ dX7_paint_85 rfl rfl (Nat.le_of_ble_eq_true rfl) (Nat.zero_le _) (Nat.zero_le _) ?_
        intro D85 hD85
        subst hD85
        refine ja_iret rfl rfl dX7_paint_88 (Nat.zero_le _) (Nat.zero_le _) ?_
        have eg : ∀ q, q < 256 → g q = inB x y w h q := fun q hq => by
          have e1 := hg q
          cases hgq : g q with
          | true => rw [hgq] at e1; have e2 := e1.mp rfl; unfold inB; rw [decide_eq_true (by omega), decide_eq_true (by omega)]; rfl
          | false => rw [hgq] at e1; have e2 : ¬ _ := fun z => absurd (e1.mpr z) (by decide); unfold inB; symm; simp only [Bool.and_eq_false_iff, decide_eq_false_iff_not]; omega
        exact ⟨by rw [eT_cg eg], rfl, by rw [edE_cg eg]⟩
      ·
        refine ja_iload_n (i := 3) dX7_paint_44 rfl rfl ?_
        refine ja_istore (i := 9) dX7_paint_45 rfl (Nat.le_of_ble_eq_true rfl) ?_
        have lp47 : ∀ (f47 : Nat) (col : Nat) (g : Nat → Bool), (x + w < col + f47) → (x ≤ col) → (col ≤ x + w) → (row < y + h) → (∀ k, g k = true ↔ ((y ≤ k / 16 ∧ k / 16 < row ∧ x ≤ k % 16 ∧ k % 16 < x + w) ∨ (k / 16 = row ∧ x ≤ k % 16 ∧ k % 16 < col))) → ja_A l (mX7_paint 0 0) ja_sn (ja_Qf (mX7_paint 0 0) (ja_jd (some (.int (nI (eT c (t) (inB x y w h))))) Z (fun D2 => D2 = edE D ly c (t) (inB x y w h) wv dv)) ja_x0) 47 [some (.ref (0)), some (.int (nI (ly))), some (.int (oI t)), some (.int (nI (x))), some (.int (nI (y))), some (.int (nI (w))), some (.int (nI (h))), some (.ref (30 + 10 * ly)), some (.int (nI (row))), some (.int (nI (col)))] [] Z (edU D ly c t g) 0 0 := by
          intro f47
          induction f47 with
          | zero => intro col g hf hc1 hc2 hr3 hg; exfalso; omega
          | succ f47 ih47 =>
            intro col g hf hc1 hc2 hr3 hg
            refine ja_iload (i := 9) dX7_paint_47 rfl ?_
            refine ja_iload_n (i := 3) dX7_paint_49 rfl rfl ?_
            refine ja_iload (i := 5) dX7_paint_50 rfl ?_
            refine ja_iaddN dX7_paint_52 ?_
            refine ja_icmpN_ge (tgt := 76) dX7_paint_53 (by decide) (by omega) (by omega) (fun c53 => ?_) (fun c53 => ?_)
            ·
              refine ja_iincN dX7_paint_76 rfl rfl (Nat.le_of_ble_eq_true rfl) ?_
              refine ja_goto (tgt := 34) dX7_paint_79 (by decide) ?_
              refine ja_forget (i := 9) ?_
              exact ih34 (row + 1) g (by omega) (by omega) (by omega) (fun k => (hg k).trans (by omega))
            ·
              refine ja_aload (i := 7) dX7_paint_56 rfl ?_
              refine ja_bipush (v := nI 16) dX7_paint_58 (by decide +kernel) ?_
              refine ja_iload (i := 8) dX7_paint_60 rfl ?_
              refine ja_imulN dX7_paint_62 ?_
              refine ja_iload (i := 9) dX7_paint_63 rfl ?_
              refine ja_iaddN dX7_paint_65 ?_
              refine ja_iload_n (i := 2) dX7_paint_66 rfl rfl ?_
              refine ja_cVd0 (st := []) (c_giveE (D := D) l hx h1 (c := c) (t := t) (g := g) hw ht (q := 16 * row + col) (by omega) (b_f (hg _) (by omega))) rfl rfl (ce_X1_give 0 0) im_X1_give se_X1_give lk_X7_114 k_X1 (zL_o hx (l := ly) (by omega)) ⟨(Nat.le_of_ble_eq_true rfl), (Nat.le_of_ble_eq_true rfl)⟩ dX7_paint_67 rfl rfl (Nat.le_of_ble_eq_true rfl) (Nat.zero_le _) (Nat.zero_le _) ?_
              intro D67 hD67
              subst hD67
              refine ja_iincN dX7_paint_70 rfl rfl (Nat.le_of_ble_eq_true rfl) ?_
              refine ja_goto (tgt := 47) dX7_paint_73 (by decide) ?_
              exact ih47 (col + 1) _ (by omega) (by omega) (by omega) (by omega) (fun k => gq_i.trans ((or_congr_right (hg k)).trans (by omega)))
        exact lp47 (w + 1) x g (by omega) (by omega) (by omega) (by omega) (fun k => (hg k).trans (by omega))
  exact lp34 (h + 1) y _ (by omega) (by omega) (by omega) (fun k => ⟨fun e => (by cases e), fun e => by omega⟩)

set_option maxRecDepth 100000 in
set_option maxHeartbeats 4000000 in
theorem c_split_f1 (l : Launch) {Z : jZ} {D : jD} (hx : zX Z) {ly : Int32} (a o ax li : Int32) (hl : ¬ (nI 0 ≤ ly ∧ ly ≤ nI 2))  : ja_M l (mX7_split 1 6) [.ref (0), .int (ly), .int (a), .int (o), .int (ax), .int (li)] Z D ja_r0 (ja_jx "java/lang/IndexOutOfBoundsException" Z D) := by
  refine ja_Mof (lv := [some (.ref (0)), some (.int (ly)), some (.int (a)), some (.int (o)), some (.int (ax)), some (.int (li)), none, none, none]) (by decide +kernel) rfl rfl (Nat.le_of_ble_eq_true rfl) rfl ?_
  refine ja_aload_n (i := 0) dX7_split_0 rfl rfl ?_
  refine ja_iload_n (i := 1) dX7_split_1 rfl rfl ?_
  refine ja_cVx (st := []) (c_layerOf_x (D := D) l hx hl) (ce_X7_layerOf 1 6) im_X7_layerOf se_X7_layerOf lk_X7_93 k_X7 (zX_o0 hx) ⟨(Nat.le_of_ble_eq_true rfl), (Nat.le_of_ble_eq_true rfl)⟩ dX7_split_2 rfl rfl (Nat.le_of_ble_eq_true rfl) (Nat.le_of_ble_eq_true rfl) (Nat.le_of_ble_eq_true rfl) ?_
  refine ja_out rfl (Nat.le_of_ble_eq_true rfl) (Nat.le_of_ble_eq_true rfl) ?_
  exact ⟨rfl, rfl, rfl⟩

set_option maxRecDepth 100000 in
set_option maxHeartbeats 4000000 in
theorem c_split_f2 (l : Launch) {Z : jZ} {D : jD} (hx : zX Z) {ly : Nat} (h1 : ly < 3) {a : Int32} (o ax li : Int32) (ha : ¬ (nI 0 ≤ a ∧ a ≤ nI 9))  : ja_M l (mX7_split 1 6) [.ref (0), .int (nI (ly)), .int (a), .int (o), .int (ax), .int (li)] Z D ja_r0 (ja_jx "java/lang/IllegalArgumentException" Z D) := by
  refine ja_Mof (lv := [some (.ref (0)), some (.int (nI (ly))), some (.int (a)), some (.int (o)), some (.int (ax)), some (.int (li)), none, none, none]) (by decide +kernel) rfl rfl (Nat.le_of_ble_eq_true rfl) rfl ?_
  refine ja_aload_n (i := 0) dX7_split_0 rfl rfl ?_
  refine ja_iload_n (i := 1) dX7_split_1 rfl rfl ?_
  refine ja_cVr (st := []) (c_layerOf (D := D) l hx (ly := ly) (by omega)) rfl rfl (ce_X7_layerOf 0 0) im_X7_layerOf se_X7_layerOf lk_X7_93 k_X7 (zX_o0 hx) ⟨(Nat.le_of_ble_eq_true rfl), (Nat.le_of_ble_eq_true rfl)⟩ dX7_split_2 rfl rfl (Nat.le_of_ble_eq_true rfl) (Nat.zero_le _) (Nat.zero_le _) ?_
  refine ja_astore (i := 6) dX7_split_5 rfl (Nat.le_of_ble_eq_true rfl) ?_
  refine ja_iload_n (i := 2) dX7_split_7 rfl rfl ?_
  refine ja_iload_n (i := 3) dX7_split_8 rfl rfl ?_
  refine ja_cSx (st := []) (c_needTwoAreas_x1 (D := D) l (o) ha) (ce_X7_needTwoAreas 1 6) st_X7_needTwoAreas lk_X7_122 ⟨(Nat.le_of_ble_eq_true rfl), (Nat.le_of_ble_eq_true rfl)⟩ dX7_split_9 rfl rfl (Nat.le_of_ble_eq_true rfl) (Nat.le_of_ble_eq_true rfl) (Nat.le_of_ble_eq_true rfl) ?_
  refine ja_out rfl (Nat.le_of_ble_eq_true rfl) (Nat.le_of_ble_eq_true rfl) ?_
  exact ⟨rfl, rfl, rfl⟩

set_option maxRecDepth 100000 in
set_option maxHeartbeats 4000000 in
theorem c_split_f2b (l : Launch) {Z : jZ} {D : jD} (hx : zX Z) {ly : Nat} (h1 : ly < 3) {a : Nat} (h2 : a < 10) {o : Int32} (ax li : Int32) (ho : ¬ (nI 0 ≤ o ∧ o ≤ nI 9)) : ja_M l (mX7_split 1 6) [.ref (0), .int (nI (ly)), .int (nI (a)), .int (o), .int (ax), .int (li)] Z D ja_r0 (ja_jx "java/lang/IllegalArgumentException" Z D) := by
  refine ja_Mof (lv := [some (.ref (0)), some (.int (nI (ly))), some (.int (nI (a))), some (.int (o)), some (.int (ax)), some (.int (li)), none, none, none]) (by decide +kernel) rfl rfl (Nat.le_of_ble_eq_true rfl) rfl ?_
  refine ja_aload_n (i := 0) dX7_split_0 rfl rfl ?_
  refine ja_iload_n (i := 1) dX7_split_1 rfl rfl ?_
  refine ja_cVr (st := []) (c_layerOf (D := D) l hx (ly := ly) (by omega)) rfl rfl (ce_X7_layerOf 0 0) im_X7_layerOf se_X7_layerOf lk_X7_93 k_X7 (zX_o0 hx) ⟨(Nat.le_of_ble_eq_true rfl), (Nat.le_of_ble_eq_true rfl)⟩ dX7_split_2 rfl rfl (Nat.le_of_ble_eq_true rfl) (Nat.zero_le _) (Nat.zero_le _) ?_
  refine ja_astore (i := 6) dX7_split_5 rfl (Nat.le_of_ble_eq_true rfl) ?_
  refine ja_iload_n (i := 2) dX7_split_7 rfl rfl ?_
  refine ja_iload_n (i := 3) dX7_split_8 rfl rfl ?_
  refine ja_cSx (st := []) (c_needTwoAreas_x2 (D := D) l (a := a) (by omega) ho) (ce_X7_needTwoAreas 1 6) st_X7_needTwoAreas lk_X7_122 ⟨(Nat.le_of_ble_eq_true rfl), (Nat.le_of_ble_eq_true rfl)⟩ dX7_split_9 rfl rfl (Nat.le_of_ble_eq_true rfl) (Nat.le_of_ble_eq_true rfl) (Nat.le_of_ble_eq_true rfl) ?_
  refine ja_out rfl (Nat.le_of_ble_eq_true rfl) (Nat.le_of_ble_eq_true rfl) ?_
  exact ⟨rfl, rfl, rfl⟩

set_option maxRecDepth 100000 in
set_option maxHeartbeats 4000000 in
theorem c_split_f2c (l : Launch) {Z : jZ} {D : jD} (hx : zX Z) {ly : Nat} (h1 : ly < 3) {a : Nat} (h2 : a < 10) (ax li : Int32) : ja_M l (mX7_split 1 6) [.ref (0), .int (nI (ly)), .int (nI (a)), .int (nI (a)), .int (ax), .int (li)] Z D ja_r0 (ja_jx "java/lang/IllegalArgumentException" Z D) := by
  refine ja_Mof (lv := [some (.ref (0)), some (.int (nI (ly))), some (.int (nI (a))), some (.int (nI (a))), some (.int (ax)), some (.int (li)), none, none, none]) (by decide +kernel) rfl rfl (Nat.le_of_ble_eq_true rfl) rfl ?_
  refine ja_aload_n (i := 0) dX7_split_0 rfl rfl ?_
  refine ja_iload_n (i := 1) dX7_split_1 rfl rfl ?_
  refine ja_cVr (st := []) (c_layerOf (D := D) l hx (ly := ly) (by omega)) rfl rfl (ce_X7_layerOf 0 0) im_X7_layerOf se_X7_layerOf lk_X7_93 k_X7 (zX_o0 hx) ⟨(Nat.le_of_ble_eq_true rfl), (Nat.le_of_ble_eq_true rfl)⟩ dX7_split_2 rfl rfl (Nat.le_of_ble_eq_true rfl) (Nat.zero_le _) (Nat.zero_le _) ?_
  refine ja_astore (i := 6) dX7_split_5 rfl (Nat.le_of_ble_eq_true rfl) ?_
  refine ja_iload_n (i := 2) dX7_split_7 rfl rfl ?_
  refine ja_iload_n (i := 3) dX7_split_8 rfl rfl ?_
  refine ja_cSx (st := []) (c_needTwoAreas_x3 (D := D) l (a := a) (by omega)) (ce_X7_needTwoAreas 1 6) st_X7_needTwoAreas lk_X7_122 ⟨(Nat.le_of_ble_eq_true rfl), (Nat.le_of_ble_eq_true rfl)⟩ dX7_split_9 rfl rfl (Nat.le_of_ble_eq_true rfl) (Nat.le_of_ble_eq_true rfl) (Nat.le_of_ble_eq_true rfl) ?_
  refine ja_out rfl (Nat.le_of_ble_eq_true rfl) (Nat.le_of_ble_eq_true rfl) ?_
  exact ⟨rfl, rfl, rfl⟩

set_option maxRecDepth 100000 in
set_option maxHeartbeats 4000000 in
theorem c_split_f2d (l : Launch) {Z : jZ} {D : jD} (hx : zX Z) {ly : Nat} (h1 : ly < 3) {a o : Nat} (h2 : a < 10) (h3 : o < 10) (h4 : a ≠ o) {ax : Int32} (li : Int32) (hax : ¬ (ax = nI 120 ∨ ax = nI 121)) : ja_M l (mX7_split 1 6) [.ref (0), .int (nI (ly)), .int (nI (a)), .int (nI (o)), .int (ax), .int (li)] Z D ja_r0 (ja_jx "java/lang/IllegalArgumentException" Z D) := by
  refine ja_Mof (lv := [some (.ref (0)), some (.int (nI (ly))), some (.int (nI (a))), some (.int (nI (o))), some (.int (ax)), some (.int (li)), none, none, none]) (by decide +kernel) rfl rfl (Nat.le_of_ble_eq_true rfl) rfl ?_
  refine ja_aload_n (i := 0) dX7_split_0 rfl rfl ?_
  refine ja_iload_n (i := 1) dX7_split_1 rfl rfl ?_
  refine ja_cVr (st := []) (c_layerOf (D := D) l hx (ly := ly) (by omega)) rfl rfl (ce_X7_layerOf 0 0) im_X7_layerOf se_X7_layerOf lk_X7_93 k_X7 (zX_o0 hx) ⟨(Nat.le_of_ble_eq_true rfl), (Nat.le_of_ble_eq_true rfl)⟩ dX7_split_2 rfl rfl (Nat.le_of_ble_eq_true rfl) (Nat.zero_le _) (Nat.zero_le _) ?_
  refine ja_astore (i := 6) dX7_split_5 rfl (Nat.le_of_ble_eq_true rfl) ?_
  refine ja_iload_n (i := 2) dX7_split_7 rfl rfl ?_
  refine ja_iload_n (i := 3) dX7_split_8 rfl rfl ?_
  refine ja_cSr0 (st := []) (c_needTwoAreas (D := D) l (a := a) (o := o) (by omega) (by omega) h4) rfl rfl (ce_X7_needTwoAreas 0 0) st_X7_needTwoAreas lk_X7_122 ⟨(Nat.le_of_ble_eq_true rfl), (Nat.le_of_ble_eq_true rfl)⟩ dX7_split_9 rfl rfl (Nat.le_of_ble_eq_true rfl) (Nat.zero_le _) (Nat.zero_le _) ?_
  refine ja_iload (i := 4) dX7_split_12 rfl ?_
  refine ja_bipush (v := nI 120) dX7_split_14 (by decide +kernel) ?_
  refine ja_icmp_eq (tgt := 26) dX7_split_16 (by decide) (fun c16 => ?_) (fun c16 => ?_)
  ·
    exfalso; first | exact hax (Or.inl c16) | exact hax (Or.inr c23)
  ·
    refine ja_iload (i := 4) dX7_split_19 rfl ?_
    refine ja_bipush (v := nI 121) dX7_split_21 (by decide +kernel) ?_
    refine ja_icmp_ne (tgt := 38) dX7_split_23 (by decide) (fun c23 => ?_) (fun c23 => ?_)
    ·
      refine ja_throw ts_X7_60_125_64 rfl dX7_split_38 dX7_split_41 dX7_split_42 dX7_split_44 dX7_split_47 (Nat.le_of_ble_eq_true rfl) (Nat.le_of_ble_eq_true rfl) (Nat.le_of_ble_eq_true rfl) (Nat.le_of_ble_eq_true rfl) ?_
      exact ⟨rfl, rfl, rfl⟩
    ·
      exfalso; first | exact hax (Or.inl c16) | exact hax (Or.inr c23)

set_option maxRecDepth 100000 in
set_option maxHeartbeats 4000000 in
theorem c_split_f2e (l : Launch) {Z : jZ} {D : jD} (hx : zX Z) {ly : Nat} (h1 : ly < 3) {a o : Nat} (h2 : a < 10) (h3 : o < 10) (h4 : a ≠ o) {ax : Int32} (hax : ax = nI 120 ∨ ax = nI 121) {li : Int32} (hli : ¬ (nI 0 ≤ li ∧ li ≤ nI 15)) : ja_M l (mX7_split 1 6) [.ref (0), .int (nI (ly)), .int (nI (a)), .int (nI (o)), .int (ax), .int (li)] Z D ja_r0 (ja_jx "java/lang/IllegalArgumentException" Z D) := by
  refine ja_Mof (lv := [some (.ref (0)), some (.int (nI (ly))), some (.int (nI (a))), some (.int (nI (o))), some (.int (ax)), some (.int (li)), none, none, none]) (by decide +kernel) rfl rfl (Nat.le_of_ble_eq_true rfl) rfl ?_
  refine ja_aload_n (i := 0) dX7_split_0 rfl rfl ?_
  refine ja_iload_n (i := 1) dX7_split_1 rfl rfl ?_
  refine ja_cVr (st := []) (c_layerOf (D := D) l hx (ly := ly) (by omega)) rfl rfl (ce_X7_layerOf 0 0) im_X7_layerOf se_X7_layerOf lk_X7_93 k_X7 (zX_o0 hx) ⟨(Nat.le_of_ble_eq_true rfl), (Nat.le_of_ble_eq_true rfl)⟩ dX7_split_2 rfl rfl (Nat.le_of_ble_eq_true rfl) (Nat.zero_le _) (Nat.zero_le _) ?_
  refine ja_astore (i := 6) dX7_split_5 rfl (Nat.le_of_ble_eq_true rfl) ?_
  refine ja_iload_n (i := 2) dX7_split_7 rfl rfl ?_
  refine ja_iload_n (i := 3) dX7_split_8 rfl rfl ?_
  refine ja_cSr0 (st := []) (c_needTwoAreas (D := D) l (a := a) (o := o) (by omega) (by omega) h4) rfl rfl (ce_X7_needTwoAreas 0 0) st_X7_needTwoAreas lk_X7_122 ⟨(Nat.le_of_ble_eq_true rfl), (Nat.le_of_ble_eq_true rfl)⟩ dX7_split_9 rfl rfl (Nat.le_of_ble_eq_true rfl) (Nat.zero_le _) (Nat.zero_le _) ?_
  refine ja_iload (i := 4) dX7_split_12 rfl ?_
  refine ja_bipush (v := nI 120) dX7_split_14 (by decide +kernel) ?_
  refine ja_icmp_eq (tgt := 26) dX7_split_16 (by decide) (fun c16 => ?_) (fun c16 => ?_)
  ·
    refine ja_iload (i := 5) dX7_split_26 rfl ?_
    refine ja_if_lt (tgt := 38) dX7_split_28 (by decide) (fun c28 => ?_) (fun c28 => ?_)
    ·
      refine ja_throw ts_X7_60_125_64 rfl dX7_split_38 dX7_split_41 dX7_split_42 dX7_split_44 dX7_split_47 (Nat.le_of_ble_eq_true rfl) (Nat.le_of_ble_eq_true rfl) (Nat.le_of_ble_eq_true rfl) (Nat.le_of_ble_eq_true rfl) ?_
      exact ⟨rfl, rfl, rfl⟩
    ·
      refine ja_iload (i := 5) dX7_split_31 rfl ?_
      refine ja_bipush (v := nI 16) dX7_split_33 (by decide +kernel) ?_
      refine ja_icmp_lt (tgt := 48) dX7_split_35 (by decide) (fun c35 => ?_) (fun c35 => ?_)
      ·
        exact absurd (bnd (by decide) c28 (Int32.not_le.mpr c35)) hli
      ·
        refine ja_throw ts_X7_60_125_64 rfl dX7_split_38 dX7_split_41 dX7_split_42 dX7_split_44 dX7_split_47 (Nat.le_of_ble_eq_true rfl) (Nat.le_of_ble_eq_true rfl) (Nat.le_of_ble_eq_true rfl) (Nat.le_of_ble_eq_true rfl) ?_
        exact ⟨rfl, rfl, rfl⟩
  ·
    refine ja_iload (i := 4) dX7_split_19 rfl ?_
    refine ja_bipush (v := nI 121) dX7_split_21 (by decide +kernel) ?_
    refine ja_icmp_ne (tgt := 38) dX7_split_23 (by decide) (fun c23 => (hax.elim c16 c23).elim) (fun c23 => ?_)
    refine ja_iload (i := 5) dX7_split_26 rfl ?_
    refine ja_if_lt (tgt := 38) dX7_split_28 (by decide) (fun c28 => ?_) (fun c28 => ?_)
    ·
      refine ja_throw ts_X7_60_125_64 rfl dX7_split_38 dX7_split_41 dX7_split_42 dX7_split_44 dX7_split_47 (Nat.le_of_ble_eq_true rfl) (Nat.le_of_ble_eq_true rfl) (Nat.le_of_ble_eq_true rfl) (Nat.le_of_ble_eq_true rfl) ?_
      exact ⟨rfl, rfl, rfl⟩
    ·
      refine ja_iload (i := 5) dX7_split_31 rfl ?_
      refine ja_bipush (v := nI 16) dX7_split_33 (by decide +kernel) ?_
      refine ja_icmp_lt (tgt := 48) dX7_split_35 (by decide) (fun c35 => ?_) (fun c35 => ?_)
      ·
        exact absurd (bnd (by decide) c28 (Int32.not_le.mpr c35)) hli
      ·
        refine ja_throw ts_X7_60_125_64 rfl dX7_split_38 dX7_split_41 dX7_split_42 dX7_split_44 dX7_split_47 (Nat.le_of_ble_eq_true rfl) (Nat.le_of_ble_eq_true rfl) (Nat.le_of_ble_eq_true rfl) (Nat.le_of_ble_eq_true rfl) ?_
        exact ⟨rfl, rfl, rfl⟩

set_option maxRecDepth 100000 in
set_option maxHeartbeats 4000000 in
theorem c_split_f3 (l : Launch) {Z : jZ} {D : jD} (hx : zX Z) {ly : Nat} (h1 : ly < 3) (hin : D 0 7 = bI false) {a o : Nat} (h2 : a < 10) (h3 : o < 10) (h4 : a ≠ o) {ax : Int32} (hax : ax = nI 120 ∨ ax = nI 121) {li : Nat} (hli : li ≤ 15) : ja_M l (mX7_split 1 6) [.ref (0), .int (nI (ly)), .int (nI (a)), .int (nI (o)), .int (ax), .int (nI (li))] Z D ja_r0 (ja_jx "java/lang/IllegalStateException" Z D) := by
  refine ja_Mof (lv := [some (.ref (0)), some (.int (nI (ly))), some (.int (nI (a))), some (.int (nI (o))), some (.int (ax)), some (.int (nI (li))), none, none, none]) (by decide +kernel) rfl rfl (Nat.le_of_ble_eq_true rfl) rfl ?_
  refine ja_aload_n (i := 0) dX7_split_0 rfl rfl ?_
  refine ja_iload_n (i := 1) dX7_split_1 rfl rfl ?_
  refine ja_cVr (st := []) (c_layerOf (D := D) l hx (ly := ly) (by omega)) rfl rfl (ce_X7_layerOf 0 0) im_X7_layerOf se_X7_layerOf lk_X7_93 k_X7 (zX_o0 hx) ⟨(Nat.le_of_ble_eq_true rfl), (Nat.le_of_ble_eq_true rfl)⟩ dX7_split_2 rfl rfl (Nat.le_of_ble_eq_true rfl) (Nat.zero_le _) (Nat.zero_le _) ?_
  refine ja_astore (i := 6) dX7_split_5 rfl (Nat.le_of_ble_eq_true rfl) ?_
  refine ja_iload_n (i := 2) dX7_split_7 rfl rfl ?_
  refine ja_iload_n (i := 3) dX7_split_8 rfl rfl ?_
  refine ja_cSr0 (st := []) (c_needTwoAreas (D := D) l (a := a) (o := o) (by omega) (by omega) h4) rfl rfl (ce_X7_needTwoAreas 0 0) st_X7_needTwoAreas lk_X7_122 ⟨(Nat.le_of_ble_eq_true rfl), (Nat.le_of_ble_eq_true rfl)⟩ dX7_split_9 rfl rfl (Nat.le_of_ble_eq_true rfl) (Nat.zero_le _) (Nat.zero_le _) ?_
  refine ja_iload (i := 4) dX7_split_12 rfl ?_
  refine ja_bipush (v := nI 120) dX7_split_14 (by decide +kernel) ?_
  refine ja_icmp_eq (tgt := 26) dX7_split_16 (by decide) (fun c16 => ?_) (fun c16 => ?_)
  ·
    refine ja_iload (i := 5) dX7_split_26 rfl ?_
    refine ja_ifN_lt dX7_split_28 (tgt := 38) (by decide) (by omega) ?_
    refine ja_iload (i := 5) dX7_split_31 rfl ?_
    refine ja_bipush (v := nI 16) dX7_split_33 (by decide +kernel) ?_
    refine ja_icmpN_lt (tgt := 48) dX7_split_35 (by decide) (by omega) (by omega) (fun c35 => ?_) (fun c35 => (by exfalso; omega))
    refine ja_aload_n (i := 0) dX7_split_48 rfl rfl ?_
    refine ja_cVx (st := []) (c_needSession_x (D := D) l hx hin) (ce_X7_needSession 1 6) im_X7_needSession se_X7_needSession lk_X7_108 k_X7 (zX_o0 hx) ⟨(Nat.le_of_ble_eq_true rfl), (Nat.le_of_ble_eq_true rfl)⟩ dX7_split_49 rfl rfl (Nat.le_of_ble_eq_true rfl) (Nat.le_of_ble_eq_true rfl) (Nat.le_of_ble_eq_true rfl) ?_
    refine ja_out rfl (Nat.le_of_ble_eq_true rfl) (Nat.le_of_ble_eq_true rfl) ?_
    exact ⟨rfl, rfl, rfl⟩
  ·
    refine ja_iload (i := 4) dX7_split_19 rfl ?_
    refine ja_bipush (v := nI 121) dX7_split_21 (by decide +kernel) ?_
    refine ja_icmp_ne (tgt := 38) dX7_split_23 (by decide) (fun c23 => (hax.elim c16 c23).elim) (fun c23 => ?_)
    refine ja_iload (i := 5) dX7_split_26 rfl ?_
    refine ja_ifN_lt dX7_split_28 (tgt := 38) (by decide) (by omega) ?_
    refine ja_iload (i := 5) dX7_split_31 rfl ?_
    refine ja_bipush (v := nI 16) dX7_split_33 (by decide +kernel) ?_
    refine ja_icmpN_lt (tgt := 48) dX7_split_35 (by decide) (by omega) (by omega) (fun c35 => ?_) (fun c35 => (by exfalso; omega))
    refine ja_aload_n (i := 0) dX7_split_48 rfl rfl ?_
    refine ja_cVx (st := []) (c_needSession_x (D := D) l hx hin) (ce_X7_needSession 1 6) im_X7_needSession se_X7_needSession lk_X7_108 k_X7 (zX_o0 hx) ⟨(Nat.le_of_ble_eq_true rfl), (Nat.le_of_ble_eq_true rfl)⟩ dX7_split_49 rfl rfl (Nat.le_of_ble_eq_true rfl) (Nat.le_of_ble_eq_true rfl) (Nat.le_of_ble_eq_true rfl) ?_
    refine ja_out rfl (Nat.le_of_ble_eq_true rfl) (Nat.le_of_ble_eq_true rfl) ?_
    exact ⟨rfl, rfl, rfl⟩

set_option maxRecDepth 100000 in
set_option maxHeartbeats 4000000 in
theorem c_split_f4 (l : Launch) {Z : jZ} {D : jD} (hx : zX Z) {ly : Nat} (h1 : ly < 3) (hin : D 0 7 = bI true) {a o : Nat} (h2 : a < 10) (h3 : o < 10) (h4 : a ≠ o) {ax : Int32} (hax : ax = nI 120 ∨ ax = nI 121) {li n : Nat} (hli : li ≤ 15) (hcn : D (32 + 10 * ly) o = nI n) (hn8 : n ≤ 256) (hs : ¬ n = 0) : ja_M l (mX7_split 1 6) [.ref (0), .int (nI (ly)), .int (nI (a)), .int (nI (o)), .int (ax), .int (nI (li))] Z D ja_r0 (ja_jx "java/lang/UnsupportedOperationException" Z D) := by
  refine ja_Mof (lv := [some (.ref (0)), some (.int (nI (ly))), some (.int (nI (a))), some (.int (nI (o))), some (.int (ax)), some (.int (nI (li))), none, none, none]) (by decide +kernel) rfl rfl (Nat.le_of_ble_eq_true rfl) rfl ?_
  refine ja_aload_n (i := 0) dX7_split_0 rfl rfl ?_
  refine ja_iload_n (i := 1) dX7_split_1 rfl rfl ?_
  refine ja_cVr (st := []) (c_layerOf (D := D) l hx (ly := ly) (by omega)) rfl rfl (ce_X7_layerOf 0 0) im_X7_layerOf se_X7_layerOf lk_X7_93 k_X7 (zX_o0 hx) ⟨(Nat.le_of_ble_eq_true rfl), (Nat.le_of_ble_eq_true rfl)⟩ dX7_split_2 rfl rfl (Nat.le_of_ble_eq_true rfl) (Nat.zero_le _) (Nat.zero_le _) ?_
  refine ja_astore (i := 6) dX7_split_5 rfl (Nat.le_of_ble_eq_true rfl) ?_
  refine ja_iload_n (i := 2) dX7_split_7 rfl rfl ?_
  refine ja_iload_n (i := 3) dX7_split_8 rfl rfl ?_
  refine ja_cSr0 (st := []) (c_needTwoAreas (D := D) l (a := a) (o := o) (by omega) (by omega) h4) rfl rfl (ce_X7_needTwoAreas 0 0) st_X7_needTwoAreas lk_X7_122 ⟨(Nat.le_of_ble_eq_true rfl), (Nat.le_of_ble_eq_true rfl)⟩ dX7_split_9 rfl rfl (Nat.le_of_ble_eq_true rfl) (Nat.zero_le _) (Nat.zero_le _) ?_
  refine ja_iload (i := 4) dX7_split_12 rfl ?_
  refine ja_bipush (v := nI 120) dX7_split_14 (by decide +kernel) ?_
  refine ja_icmp_eq (tgt := 26) dX7_split_16 (by decide) (fun c16 => ?_) (fun c16 => ?_)
  ·
    refine ja_iload (i := 5) dX7_split_26 rfl ?_
    refine ja_ifN_lt dX7_split_28 (tgt := 38) (by decide) (by omega) ?_
    refine ja_iload (i := 5) dX7_split_31 rfl ?_
    refine ja_bipush (v := nI 16) dX7_split_33 (by decide +kernel) ?_
    refine ja_icmpN_lt (tgt := 48) dX7_split_35 (by decide) (by omega) (by omega) (fun c35 => ?_) (fun c35 => (by exfalso; omega))
    refine ja_aload_n (i := 0) dX7_split_48 rfl rfl ?_
    refine ja_cVr0 (st := []) (c_needSession (D := D) l hx hin) rfl rfl (ce_X7_needSession 0 0) im_X7_needSession se_X7_needSession lk_X7_108 k_X7 (zX_o0 hx) ⟨(Nat.le_of_ble_eq_true rfl), (Nat.le_of_ble_eq_true rfl)⟩ dX7_split_49 rfl rfl (Nat.le_of_ble_eq_true rfl) (Nat.zero_le _) (Nat.zero_le _) ?_
    refine ja_aload (i := 6) dX7_split_52 rfl ?_
    refine ja_getR fl_X7_127 (zL_o hx (l := ly) (by omega)) rfl (zL_p1 hx (l := ly) (by omega)) dX7_split_54 ?_
    refine ja_iload_n (i := 3) dX7_split_57 rfl rfl ?_
    refine ja_iald (zL_a1 hx (l := ly) (by omega)) rfl (by omega) (by decide) dX7_split_58 ?_
    refine ja_top (y := nI (n)) hcn ?_
    refine ja_ifN_eq (tgt := 72) dX7_split_59 (by decide) (by omega) (fun c59 => (by exfalso; omega)) (fun c59 => ?_)
    refine ja_throw ts_X7_130_132_134 rfl dX7_split_62 dX7_split_65 dX7_split_66 dX7_split_68 dX7_split_71 (Nat.le_of_ble_eq_true rfl) (Nat.le_of_ble_eq_true rfl) (Nat.le_of_ble_eq_true rfl) (Nat.le_of_ble_eq_true rfl) ?_
    exact ⟨rfl, rfl, rfl⟩
  ·
    refine ja_iload (i := 4) dX7_split_19 rfl ?_
    refine ja_bipush (v := nI 121) dX7_split_21 (by decide +kernel) ?_
    refine ja_icmp_ne (tgt := 38) dX7_split_23 (by decide) (fun c23 => (hax.elim c16 c23).elim) (fun c23 => ?_)
    refine ja_iload (i := 5) dX7_split_26 rfl ?_
    refine ja_ifN_lt dX7_split_28 (tgt := 38) (by decide) (by omega) ?_
    refine ja_iload (i := 5) dX7_split_31 rfl ?_
    refine ja_bipush (v := nI 16) dX7_split_33 (by decide +kernel) ?_
    refine ja_icmpN_lt (tgt := 48) dX7_split_35 (by decide) (by omega) (by omega) (fun c35 => ?_) (fun c35 => (by exfalso; omega))
    refine ja_aload_n (i := 0) dX7_split_48 rfl rfl ?_
    refine ja_cVr0 (st := []) (c_needSession (D := D) l hx hin) rfl rfl (ce_X7_needSession 0 0) im_X7_needSession se_X7_needSession lk_X7_108 k_X7 (zX_o0 hx) ⟨(Nat.le_of_ble_eq_true rfl), (Nat.le_of_ble_eq_true rfl)⟩ dX7_split_49 rfl rfl (Nat.le_of_ble_eq_true rfl) (Nat.zero_le _) (Nat.zero_le _) ?_
    refine ja_aload (i := 6) dX7_split_52 rfl ?_
    refine ja_getR fl_X7_127 (zL_o hx (l := ly) (by omega)) rfl (zL_p1 hx (l := ly) (by omega)) dX7_split_54 ?_
    refine ja_iload_n (i := 3) dX7_split_57 rfl rfl ?_
    refine ja_iald (zL_a1 hx (l := ly) (by omega)) rfl (by omega) (by decide) dX7_split_58 ?_
    refine ja_top (y := nI (n)) hcn ?_
    refine ja_ifN_eq (tgt := 72) dX7_split_59 (by decide) (by omega) (fun c59 => (by exfalso; omega)) (fun c59 => ?_)
    refine ja_throw ts_X7_130_132_134 rfl dX7_split_62 dX7_split_65 dX7_split_66 dX7_split_68 dX7_split_71 (Nat.le_of_ble_eq_true rfl) (Nat.le_of_ble_eq_true rfl) (Nat.le_of_ble_eq_true rfl) (Nat.le_of_ble_eq_true rfl) ?_
    exact ⟨rfl, rfl, rfl⟩

theorem gst_y {P : Nat → Bool} {q k : Nat} (h : P q = true) : (k = q ∨ (k < q ∧ P k = true)) ↔ (k < q + 1 ∧ P k = true) := by
  constructor
  · rintro (rfl | ⟨h1, h2⟩)
    · exact ⟨by omega, h⟩
    · exact ⟨by omega, h2⟩
  · rintro ⟨h1, h2⟩
    by_cases e : k = q
    · exact Or.inl e
    · exact Or.inr ⟨by omega, h2⟩
theorem gst_n {P : Nat → Bool} {q k : Nat} (h : P q = false) : (k < q ∧ P k = true) ↔ (k < q + 1 ∧ P k = true) := by
  constructor
  · rintro ⟨h1, h2⟩
    exact ⟨by omega, h2⟩
  · rintro ⟨h1, h2⟩
    by_cases e : k = q
    · rw [e, h] at h2; cases h2
    · exact ⟨by omega, h2⟩
theorem gst_e {P g : Nat → Bool} (h : ∀ k, g k = true ↔ (k < 256 ∧ P k = true)) : ∀ k, k < 256 → g k = P k := fun k hk => by
  have e := h k
  cases hg : g k with
  | true => rw [hg] at e; exact (e.mp rfl).2.symm
  | false =>
    rw [hg] at e
    cases hP : P k with
    | true => exact absurd (e.mpr ⟨hk, hP⟩) (by decide)
    | false => rfl

set_option maxRecDepth 100000 in
set_option maxHeartbeats 4000000 in
theorem c_split_ok (l : Launch) {Z : jZ} {D : jD} (hx : zX Z) {ly : Nat} (h1 : ly < 3) (hin : D 0 7 = bI true) {a o : Nat} (h2 : a < 10) (h3 : o < 10) (h4 : a ≠ o) {ax : Int32} (hax : ax = nI 120 ∨ ax = nI 121) {li : Nat} (hli : li ≤ 15) {c : Nat → Option Nat} {wv : Nat → Nat} {dv : Bool} (hw : ∀ q a, c q = some a → a < 10) (hc : ∀ q, q < 256 → D (31 + 10 * ly) q = oI (c q)) (hcn : ∀ a, a < 10 → D (32 + 10 * ly) a = nI (eN c a)) (h4d : D (30 + 10 * ly) 4 = bI dv) (hwv : ∀ a, a < 10 → D (33 + 10 * ly) a = nI (wv a)) (hT : fb_sm wv 10 ≤ 8388607) (hs : eN c o = 0) : ja_M l (mX7_split 0 0) [.ref (0), .int (nI (ly)), .int (nI (a)), .int (nI (o)), .int (ax), .int (nI (li))] Z D (ja_jd (some (.int (nI (eT c (some o) (fun q => (decide (c q = some a) && decide (li ≤ if ax = nI 120 then q % 16 else q / 16))))))) Z (fun D2 => D2 = edE D ly c (some o) (fun q => (decide (c q = some a) && decide (li ≤ if ax = nI 120 then q % 16 else q / 16))) wv dv)) ja_x0 := by
  refine ja_Mof (lv := [some (.ref (0)), some (.int (nI (ly))), some (.int (nI (a))), some (.int (nI (o))), some (.int (ax)), some (.int (nI (li))), none, none, none]) (by decide +kernel) rfl rfl (Nat.le_of_ble_eq_true rfl) rfl ?_
  refine ja_aload_n (i := 0) dX7_split_0 rfl rfl ?_
  refine ja_iload_n (i := 1) dX7_split_1 rfl rfl ?_
  refine ja_cVr (st := []) (c_layerOf (D := D) l hx (ly := ly) (by omega)) rfl rfl (ce_X7_layerOf 0 0) im_X7_layerOf se_X7_layerOf lk_X7_93 k_X7 (zX_o0 hx) ⟨(Nat.le_of_ble_eq_true rfl), (Nat.le_of_ble_eq_true rfl)⟩ dX7_split_2 rfl rfl (Nat.le_of_ble_eq_true rfl) (Nat.zero_le _) (Nat.zero_le _) ?_
  refine ja_astore (i := 6) dX7_split_5 rfl (Nat.le_of_ble_eq_true rfl) ?_
  refine ja_iload_n (i := 2) dX7_split_7 rfl rfl ?_
  refine ja_iload_n (i := 3) dX7_split_8 rfl rfl ?_
  refine ja_cSr0 (st := []) (c_needTwoAreas (D := D) l (a := a) (o := o) (by omega) (by omega) h4) rfl rfl (ce_X7_needTwoAreas 0 0) st_X7_needTwoAreas lk_X7_122 ⟨(Nat.le_of_ble_eq_true rfl), (Nat.le_of_ble_eq_true rfl)⟩ dX7_split_9 rfl rfl (Nat.le_of_ble_eq_true rfl) (Nat.zero_le _) (Nat.zero_le _) ?_
  refine ja_iload (i := 4) dX7_split_12 rfl ?_
  refine ja_bipush (v := nI 120) dX7_split_14 (by decide +kernel) ?_
  refine ja_icmp_eq (tgt := 26) dX7_split_16 (by decide) (fun c16 => ?_) (fun c16 => ?_)
  ·
    refine ja_iload (i := 5) dX7_split_26 rfl ?_
    refine ja_ifN_lt dX7_split_28 (tgt := 38) (by decide) (by omega) ?_
    refine ja_iload (i := 5) dX7_split_31 rfl ?_
    refine ja_bipush (v := nI 16) dX7_split_33 (by decide +kernel) ?_
    refine ja_icmpN_lt (tgt := 48) dX7_split_35 (by decide) (by omega) (by omega) (fun c35 => ?_) (fun c35 => (by exfalso; omega))
    refine ja_aload_n (i := 0) dX7_split_48 rfl rfl ?_
    refine ja_cVr0 (st := []) (c_needSession (D := D) l hx hin) rfl rfl (ce_X7_needSession 0 0) im_X7_needSession se_X7_needSession lk_X7_108 k_X7 (zX_o0 hx) ⟨(Nat.le_of_ble_eq_true rfl), (Nat.le_of_ble_eq_true rfl)⟩ dX7_split_49 rfl rfl (Nat.le_of_ble_eq_true rfl) (Nat.zero_le _) (Nat.zero_le _) ?_
    refine ja_aload (i := 6) dX7_split_52 rfl ?_
    refine ja_getR fl_X7_127 (zL_o hx (l := ly) (by omega)) rfl (zL_p1 hx (l := ly) (by omega)) dX7_split_54 ?_
    refine ja_iload_n (i := 3) dX7_split_57 rfl rfl ?_
    refine ja_iald (zL_a1 hx (l := ly) (by omega)) rfl (by omega) (by decide) dX7_split_58 ?_
    refine ja_top (y := nI (0)) (by rw [hcn o h3, hs]) ?_
    refine ja_ifN_eq (tgt := 72) dX7_split_59 (by decide) (by omega) (fun c59 => ?_) (fun c59 => absurd c59 (by decide))
    refine ja_aload (i := 6) dX7_split_72 rfl ?_
    refine ja_cVd0 (st := []) (c_openE (D := D) l hx h1 (c := c) (some o) hc hcn) rfl rfl (ce_X1_openEdit 0 0) im_X1_openEdit se_X1_openEdit lk_X7_111 k_X1 (zL_o hx (l := ly) (by omega)) ⟨(Nat.le_of_ble_eq_true rfl), (Nat.le_of_ble_eq_true rfl)⟩ dX7_split_74 rfl rfl (Nat.le_of_ble_eq_true rfl) (Nat.zero_le _) (Nat.zero_le _) ?_
    intro D74 hD74
    subst hD74
    refine ja_iconst (v := nI 0) dX7_split_77 (by decide +kernel) ?_
    refine ja_istore (i := 7) dX7_split_78 rfl (Nat.le_of_ble_eq_true rfl) ?_
    have lp80 : ∀ (f80 : Nat) (q : Nat) (g : Nat → Bool), (256 < q + f80) → (q ≤ 256) → (∀ k, g k = true ↔ (k < q ∧ (fun q => (decide (c q = some a) && decide (li ≤ if ax = nI 120 then q % 16 else q / 16))) k = true)) → ja_A l (mX7_split 0 0) ja_sn (ja_Qf (mX7_split 0 0) (ja_jd (some (.int (nI (eT c (some o) (fun q => (decide (c q = some a) && decide (li ≤ if ax = nI 120 then q % 16 else q / 16))))))) Z (fun D2 => D2 = edE D ly c (some o) (fun q => (decide (c q = some a) && decide (li ≤ if ax = nI 120 then q % 16 else q / 16))) wv dv)) ja_x0) 80 [some (.ref (0)), some (.int (nI (ly))), some (.int (nI (a))), some (.int (nI (o))), some (.int (ax)), some (.int (nI (li))), some (.ref (30 + 10 * ly)), some (.int (nI (q))), none] [] Z (edU D ly c (some o) g) 0 0 := by
      intro f80
      induction f80 with
      | zero => intro q g hf hq hg; exfalso; omega
      | succ f80 ih80 =>
        intro q g hf hq hg
        refine ja_iload (i := 7) dX7_split_80 rfl ?_
        refine ja_sipush (v := nI 256) dX7_split_82 (by decide +kernel) ?_
        refine ja_icmpN_ge (tgt := 143) dX7_split_85 (by decide) (by omega) (by omega) (fun c85 => ?_) (fun c85 => ?_)
        ·
          refine ja_aload (i := 6) dX7_split_143 rfl ?_
          refine ja_iload_n (i := 3) dX7_split_145 rfl rfl ?_
          refine ja_cVd (st := []) (c_closeE (D := D) l hx h1 (c := c) (t := some o) (g := g) (w := wv) (dv := dv) (fun b e => by cases e; exact h3) h4d hwv hT) rfl rfl (ce_X1_closeEdit 0 0) im_X1_closeEdit se_X1_closeEdit lk_X7_118 k_X1 (zL_o hx (l := ly) (by omega)) ⟨(Nat.le_of_ble_eq_true rfl), (Nat.le_of_ble_eq_true rfl)⟩ dX7_split_146 rfl rfl (Nat.le_of_ble_eq_true rfl) (Nat.zero_le _) (Nat.zero_le _) ?_
          intro D146 hD146
          subst hD146
          refine ja_iret rfl rfl dX7_split_149 (Nat.zero_le _) (Nat.zero_le _) ?_
          have eg := gst_e (P := (fun q => (decide (c q = some a) && decide (li ≤ if ax = nI 120 then q % 16 else q / 16)))) ((show q = 256 by omega) ▸ hg)
          exact ⟨by rw [eT_cg eg], rfl, by rw [edE_cg eg]⟩
        ·
          refine ja_iload (i := 4) dX7_split_88 rfl ?_
          refine ja_bipush (v := nI 120) dX7_split_90 (by decide +kernel) ?_
          refine ja_icmp_ne (tgt := 103) dX7_split_92 (by decide) (fun c92 => ?_) (fun c92 => ?_)
          ·
            refine ja_iload (i := 7) dX7_split_103 rfl ?_
            refine ja_bipush (v := nI 16) dX7_split_105 (by decide +kernel) ?_
            refine ja_idivN dX7_split_107 (by omega) (by omega) (by omega) ?_
            refine ja_istore (i := 8) dX7_split_108 rfl (Nat.le_of_ble_eq_true rfl) ?_
            refine ja_iload (i := 8) dX7_split_110 rfl ?_
            refine ja_iload (i := 5) dX7_split_112 rfl ?_
            refine ja_icmpN_lt (tgt := 137) dX7_split_114 (by decide) (by omega) (by omega) (fun c114 => ?_) (fun c114 => ?_)
            ·
              have hPf : (fun q => (decide (c q = some a) && decide (li ≤ if ax = nI 120 then q % 16 else q / 16))) q = false := by simp only [Bool.and_eq_false_iff, decide_eq_false_iff_not]; first | exact Or.inl (fun e => c126 ((oI_a (hw q) h2).mpr e)) | (right; first | (rw [if_pos c92]; omega) | (rw [if_neg c92]; omega))
              refine ja_iincN dX7_split_137 rfl rfl (Nat.le_of_ble_eq_true rfl) ?_
              refine ja_goto (tgt := 80) dX7_split_140 (by decide) ?_
              refine ja_forget (i := 8) ?_
              exact ih80 (q + 1) g (by omega) (by omega) (fun k => (hg k).trans (gst_n (P := (fun q => (decide (c q = some a) && decide (li ≤ if ax = nI 120 then q % 16 else q / 16)))) hPf))
            ·
              refine ja_aload (i := 6) dX7_split_117 rfl ?_
              refine ja_getR fl_X7_135 (zL_o hx (l := ly) (by omega)) rfl (zL_p0 hx (l := ly) (by omega)) dX7_split_119 ?_
              refine ja_iload (i := 7) dX7_split_122 rfl ?_
              refine ja_iald (zL_a0 hx (l := ly) (by omega)) rfl (by omega) (by decide) dX7_split_124 ?_
              refine ja_top (y := oI (c q)) (by rw [edU_q (by omega), gq_eC (b_f (hg q) (by omega))]) ?_
              refine ja_iload_n (i := 2) dX7_split_125 rfl rfl ?_
              refine ja_icmp_ne (tgt := 137) dX7_split_126 (by decide) (fun c126 => ?_) (fun c126 => ?_)
              ·
                have hPf : (fun q => (decide (c q = some a) && decide (li ≤ if ax = nI 120 then q % 16 else q / 16))) q = false := by simp only [Bool.and_eq_false_iff, decide_eq_false_iff_not]; first | exact Or.inl (fun e => c126 ((oI_a (hw q) h2).mpr e)) | (right; first | (rw [if_pos c92]; omega) | (rw [if_neg c92]; omega))
                refine ja_iincN dX7_split_137 rfl rfl (Nat.le_of_ble_eq_true rfl) ?_
                refine ja_goto (tgt := 80) dX7_split_140 (by decide) ?_
                refine ja_forget (i := 8) ?_
                exact ih80 (q + 1) g (by omega) (by omega) (fun k => (hg k).trans (gst_n (P := (fun q => (decide (c q = some a) && decide (li ≤ if ax = nI 120 then q % 16 else q / 16)))) hPf))
              ·
                have hPt : (fun q => (decide (c q = some a) && decide (li ≤ if ax = nI 120 then q % 16 else q / 16))) q = true := by simp only [Bool.and_eq_true, decide_eq_true_eq]; exact ⟨(oI_a (hw q) h2).mp c126, by first | (rw [if_pos c92]; omega) | (rw [if_neg c92]; omega)⟩
                refine ja_aload (i := 6) dX7_split_129 rfl ?_
                refine ja_iload (i := 7) dX7_split_131 rfl ?_
                refine ja_iload_n (i := 3) dX7_split_133 rfl rfl ?_
                refine ja_cVd0 (st := []) (c_giveE (D := D) l hx h1 (c := c) (t := some o) (g := g) hw (fun b e => by cases e; exact h3) (q := q) (by omega) (b_f (hg q) (by omega))) rfl rfl (ce_X1_give 0 0) im_X1_give se_X1_give lk_X7_114 k_X1 (zL_o hx (l := ly) (by omega)) ⟨(Nat.le_of_ble_eq_true rfl), (Nat.le_of_ble_eq_true rfl)⟩ dX7_split_134 rfl rfl (Nat.le_of_ble_eq_true rfl) (Nat.zero_le _) (Nat.zero_le _) ?_
                intro D134 hD134
                subst hD134
                refine ja_iincN dX7_split_137 rfl rfl (Nat.le_of_ble_eq_true rfl) ?_
                refine ja_goto (tgt := 80) dX7_split_140 (by decide) ?_
                refine ja_forget (i := 8) ?_
                exact ih80 (q + 1) _ (by omega) (by omega) (fun k => gq_i.trans ((or_congr_right (hg k)).trans (gst_y (P := (fun q => (decide (c q = some a) && decide (li ≤ if ax = nI 120 then q % 16 else q / 16)))) hPt)))
          ·
            refine ja_iload (i := 7) dX7_split_95 rfl ?_
            refine ja_bipush (v := nI 16) dX7_split_97 (by decide +kernel) ?_
            refine ja_iremN dX7_split_99 (by omega) (by omega) (by omega) ?_
            refine ja_goto (tgt := 108) dX7_split_100 (by decide) ?_
            refine ja_istore (i := 8) dX7_split_108 rfl (Nat.le_of_ble_eq_true rfl) ?_
            refine ja_iload (i := 8) dX7_split_110 rfl ?_
            refine ja_iload (i := 5) dX7_split_112 rfl ?_
            refine ja_icmpN_lt (tgt := 137) dX7_split_114 (by decide) (by omega) (by omega) (fun c114 => ?_) (fun c114 => ?_)
            ·
              have hPf : (fun q => (decide (c q = some a) && decide (li ≤ if ax = nI 120 then q % 16 else q / 16))) q = false := by simp only [Bool.and_eq_false_iff, decide_eq_false_iff_not]; first | exact Or.inl (fun e => c126 ((oI_a (hw q) h2).mpr e)) | (right; first | (rw [if_pos c92]; omega) | (rw [if_neg c92]; omega))
              refine ja_iincN dX7_split_137 rfl rfl (Nat.le_of_ble_eq_true rfl) ?_
              refine ja_goto (tgt := 80) dX7_split_140 (by decide) ?_
              refine ja_forget (i := 8) ?_
              exact ih80 (q + 1) g (by omega) (by omega) (fun k => (hg k).trans (gst_n (P := (fun q => (decide (c q = some a) && decide (li ≤ if ax = nI 120 then q % 16 else q / 16)))) hPf))
            ·
              refine ja_aload (i := 6) dX7_split_117 rfl ?_
              refine ja_getR fl_X7_135 (zL_o hx (l := ly) (by omega)) rfl (zL_p0 hx (l := ly) (by omega)) dX7_split_119 ?_
              refine ja_iload (i := 7) dX7_split_122 rfl ?_
              refine ja_iald (zL_a0 hx (l := ly) (by omega)) rfl (by omega) (by decide) dX7_split_124 ?_
              refine ja_top (y := oI (c q)) (by rw [edU_q (by omega), gq_eC (b_f (hg q) (by omega))]) ?_
              refine ja_iload_n (i := 2) dX7_split_125 rfl rfl ?_
              refine ja_icmp_ne (tgt := 137) dX7_split_126 (by decide) (fun c126 => ?_) (fun c126 => ?_)
              ·
                have hPf : (fun q => (decide (c q = some a) && decide (li ≤ if ax = nI 120 then q % 16 else q / 16))) q = false := by simp only [Bool.and_eq_false_iff, decide_eq_false_iff_not]; first | exact Or.inl (fun e => c126 ((oI_a (hw q) h2).mpr e)) | (right; first | (rw [if_pos c92]; omega) | (rw [if_neg c92]; omega))
                refine ja_iincN dX7_split_137 rfl rfl (Nat.le_of_ble_eq_true rfl) ?_
                refine ja_goto (tgt := 80) dX7_split_140 (by decide) ?_
                refine ja_forget (i := 8) ?_
                exact ih80 (q + 1) g (by omega) (by omega) (fun k => (hg k).trans (gst_n (P := (fun q => (decide (c q = some a) && decide (li ≤ if ax = nI 120 then q % 16 else q / 16)))) hPf))
              ·
                have hPt : (fun q => (decide (c q = some a) && decide (li ≤ if ax = nI 120 then q % 16 else q / 16))) q = true := by simp only [Bool.and_eq_true, decide_eq_true_eq]; exact ⟨(oI_a (hw q) h2).mp c126, by first | (rw [if_pos c92]; omega) | (rw [if_neg c92]; omega)⟩
                refine ja_aload (i := 6) dX7_split_129 rfl ?_
                refine ja_iload (i := 7) dX7_split_131 rfl ?_
                refine ja_iload_n (i := 3) dX7_split_133 rfl rfl ?_
                refine ja_cVd0 (st := []) (c_giveE (D := D) l hx h1 (c := c) (t := some o) (g := g) hw (fun b e => by cases e; exact h3) (q := q) (by omega) (b_f (hg q) (by omega))) rfl rfl (ce_X1_give 0 0) im_X1_give se_X1_give lk_X7_114 k_X1 (zL_o hx (l := ly) (by omega)) ⟨(Nat.le_of_ble_eq_true rfl), (Nat.le_of_ble_eq_true rfl)⟩ dX7_split_134 rfl rfl (Nat.le_of_ble_eq_true rfl) (Nat.zero_le _) (Nat.zero_le _) ?_
                intro D134 hD134
                subst hD134
                refine ja_iincN dX7_split_137 rfl rfl (Nat.le_of_ble_eq_true rfl) ?_
                refine ja_goto (tgt := 80) dX7_split_140 (by decide) ?_
                refine ja_forget (i := 8) ?_
                exact ih80 (q + 1) _ (by omega) (by omega) (fun k => gq_i.trans ((or_congr_right (hg k)).trans (gst_y (P := (fun q => (decide (c q = some a) && decide (li ≤ if ax = nI 120 then q % 16 else q / 16)))) hPt)))
    exact lp80 257 0 _ (by omega) (by omega) (fun k => ⟨fun e => (by cases e), fun e => absurd e.1 (Nat.not_lt_zero k)⟩)
  ·
    refine ja_iload (i := 4) dX7_split_19 rfl ?_
    refine ja_bipush (v := nI 121) dX7_split_21 (by decide +kernel) ?_
    refine ja_icmp_ne (tgt := 38) dX7_split_23 (by decide) (fun c23 => (hax.elim c16 c23).elim) (fun c23 => ?_)
    refine ja_iload (i := 5) dX7_split_26 rfl ?_
    refine ja_ifN_lt dX7_split_28 (tgt := 38) (by decide) (by omega) ?_
    refine ja_iload (i := 5) dX7_split_31 rfl ?_
    refine ja_bipush (v := nI 16) dX7_split_33 (by decide +kernel) ?_
    refine ja_icmpN_lt (tgt := 48) dX7_split_35 (by decide) (by omega) (by omega) (fun c35 => ?_) (fun c35 => (by exfalso; omega))
    refine ja_aload_n (i := 0) dX7_split_48 rfl rfl ?_
    refine ja_cVr0 (st := []) (c_needSession (D := D) l hx hin) rfl rfl (ce_X7_needSession 0 0) im_X7_needSession se_X7_needSession lk_X7_108 k_X7 (zX_o0 hx) ⟨(Nat.le_of_ble_eq_true rfl), (Nat.le_of_ble_eq_true rfl)⟩ dX7_split_49 rfl rfl (Nat.le_of_ble_eq_true rfl) (Nat.zero_le _) (Nat.zero_le _) ?_
    refine ja_aload (i := 6) dX7_split_52 rfl ?_
    refine ja_getR fl_X7_127 (zL_o hx (l := ly) (by omega)) rfl (zL_p1 hx (l := ly) (by omega)) dX7_split_54 ?_
    refine ja_iload_n (i := 3) dX7_split_57 rfl rfl ?_
    refine ja_iald (zL_a1 hx (l := ly) (by omega)) rfl (by omega) (by decide) dX7_split_58 ?_
    refine ja_top (y := nI (0)) (by rw [hcn o h3, hs]) ?_
    refine ja_ifN_eq (tgt := 72) dX7_split_59 (by decide) (by omega) (fun c59 => ?_) (fun c59 => absurd c59 (by decide))
    refine ja_aload (i := 6) dX7_split_72 rfl ?_
    refine ja_cVd0 (st := []) (c_openE (D := D) l hx h1 (c := c) (some o) hc hcn) rfl rfl (ce_X1_openEdit 0 0) im_X1_openEdit se_X1_openEdit lk_X7_111 k_X1 (zL_o hx (l := ly) (by omega)) ⟨(Nat.le_of_ble_eq_true rfl), (Nat.le_of_ble_eq_true rfl)⟩ dX7_split_74 rfl rfl (Nat.le_of_ble_eq_true rfl) (Nat.zero_le _) (Nat.zero_le _) ?_
    intro D74 hD74
    subst hD74
    refine ja_iconst (v := nI 0) dX7_split_77 (by decide +kernel) ?_
    refine ja_istore (i := 7) dX7_split_78 rfl (Nat.le_of_ble_eq_true rfl) ?_
    have lp80 : ∀ (f80 : Nat) (q : Nat) (g : Nat → Bool), (256 < q + f80) → (q ≤ 256) → (∀ k, g k = true ↔ (k < q ∧ (fun q => (decide (c q = some a) && decide (li ≤ if ax = nI 120 then q % 16 else q / 16))) k = true)) → ja_A l (mX7_split 0 0) ja_sn (ja_Qf (mX7_split 0 0) (ja_jd (some (.int (nI (eT c (some o) (fun q => (decide (c q = some a) && decide (li ≤ if ax = nI 120 then q % 16 else q / 16))))))) Z (fun D2 => D2 = edE D ly c (some o) (fun q => (decide (c q = some a) && decide (li ≤ if ax = nI 120 then q % 16 else q / 16))) wv dv)) ja_x0) 80 [some (.ref (0)), some (.int (nI (ly))), some (.int (nI (a))), some (.int (nI (o))), some (.int (ax)), some (.int (nI (li))), some (.ref (30 + 10 * ly)), some (.int (nI (q))), none] [] Z (edU D ly c (some o) g) 0 0 := by
      intro f80
      induction f80 with
      | zero => intro q g hf hq hg; exfalso; omega
      | succ f80 ih80 =>
        intro q g hf hq hg
        refine ja_iload (i := 7) dX7_split_80 rfl ?_
        refine ja_sipush (v := nI 256) dX7_split_82 (by decide +kernel) ?_
        refine ja_icmpN_ge (tgt := 143) dX7_split_85 (by decide) (by omega) (by omega) (fun c85 => ?_) (fun c85 => ?_)
        ·
          refine ja_aload (i := 6) dX7_split_143 rfl ?_
          refine ja_iload_n (i := 3) dX7_split_145 rfl rfl ?_
          refine ja_cVd (st := []) (c_closeE (D := D) l hx h1 (c := c) (t := some o) (g := g) (w := wv) (dv := dv) (fun b e => by cases e; exact h3) h4d hwv hT) rfl rfl (ce_X1_closeEdit 0 0) im_X1_closeEdit se_X1_closeEdit lk_X7_118 k_X1 (zL_o hx (l := ly) (by omega)) ⟨(Nat.le_of_ble_eq_true rfl), (Nat.le_of_ble_eq_true rfl)⟩ dX7_split_146 rfl rfl (Nat.le_of_ble_eq_true rfl) (Nat.zero_le _) (Nat.zero_le _) ?_
          intro D146 hD146
          subst hD146
          refine ja_iret rfl rfl dX7_split_149 (Nat.zero_le _) (Nat.zero_le _) ?_
          have eg := gst_e (P := (fun q => (decide (c q = some a) && decide (li ≤ if ax = nI 120 then q % 16 else q / 16)))) ((show q = 256 by omega) ▸ hg)
          exact ⟨by rw [eT_cg eg], rfl, by rw [edE_cg eg]⟩
        ·
          refine ja_iload (i := 4) dX7_split_88 rfl ?_
          refine ja_bipush (v := nI 120) dX7_split_90 (by decide +kernel) ?_
          refine ja_icmp_ne (tgt := 103) dX7_split_92 (by decide) (fun c92 => ?_) (fun c92 => ?_)
          ·
            refine ja_iload (i := 7) dX7_split_103 rfl ?_
            refine ja_bipush (v := nI 16) dX7_split_105 (by decide +kernel) ?_
            refine ja_idivN dX7_split_107 (by omega) (by omega) (by omega) ?_
            refine ja_istore (i := 8) dX7_split_108 rfl (Nat.le_of_ble_eq_true rfl) ?_
            refine ja_iload (i := 8) dX7_split_110 rfl ?_
            refine ja_iload (i := 5) dX7_split_112 rfl ?_
            refine ja_icmpN_lt (tgt := 137) dX7_split_114 (by decide) (by omega) (by omega) (fun c114 => ?_) (fun c114 => ?_)
            ·
              have hPf : (fun q => (decide (c q = some a) && decide (li ≤ if ax = nI 120 then q % 16 else q / 16))) q = false := by simp only [Bool.and_eq_false_iff, decide_eq_false_iff_not]; first | exact Or.inl (fun e => c126 ((oI_a (hw q) h2).mpr e)) | (right; first | (rw [if_pos c92]; omega) | (rw [if_neg c92]; omega))
              refine ja_iincN dX7_split_137 rfl rfl (Nat.le_of_ble_eq_true rfl) ?_
              refine ja_goto (tgt := 80) dX7_split_140 (by decide) ?_
              refine ja_forget (i := 8) ?_
              exact ih80 (q + 1) g (by omega) (by omega) (fun k => (hg k).trans (gst_n (P := (fun q => (decide (c q = some a) && decide (li ≤ if ax = nI 120 then q % 16 else q / 16)))) hPf))
            ·
              refine ja_aload (i := 6) dX7_split_117 rfl ?_
              refine ja_getR fl_X7_135 (zL_o hx (l := ly) (by omega)) rfl (zL_p0 hx (l := ly) (by omega)) dX7_split_119 ?_
              refine ja_iload (i := 7) dX7_split_122 rfl ?_
              refine ja_iald (zL_a0 hx (l := ly) (by omega)) rfl (by omega) (by decide) dX7_split_124 ?_
              refine ja_top (y := oI (c q)) (by rw [edU_q (by omega), gq_eC (b_f (hg q) (by omega))]) ?_
              refine ja_iload_n (i := 2) dX7_split_125 rfl rfl ?_
              refine ja_icmp_ne (tgt := 137) dX7_split_126 (by decide) (fun c126 => ?_) (fun c126 => ?_)
              ·
                have hPf : (fun q => (decide (c q = some a) && decide (li ≤ if ax = nI 120 then q % 16 else q / 16))) q = false := by simp only [Bool.and_eq_false_iff, decide_eq_false_iff_not]; first | exact Or.inl (fun e => c126 ((oI_a (hw q) h2).mpr e)) | (right; first | (rw [if_pos c92]; omega) | (rw [if_neg c92]; omega))
                refine ja_iincN dX7_split_137 rfl rfl (Nat.le_of_ble_eq_true rfl) ?_
                refine ja_goto (tgt := 80) dX7_split_140 (by decide) ?_
                refine ja_forget (i := 8) ?_
                exact ih80 (q + 1) g (by omega) (by omega) (fun k => (hg k).trans (gst_n (P := (fun q => (decide (c q = some a) && decide (li ≤ if ax = nI 120 then q % 16 else q / 16)))) hPf))
              ·
                have hPt : (fun q => (decide (c q = some a) && decide (li ≤ if ax = nI 120 then q % 16 else q / 16))) q = true := by simp only [Bool.and_eq_true, decide_eq_true_eq]; exact ⟨(oI_a (hw q) h2).mp c126, by first | (rw [if_pos c92]; omega) | (rw [if_neg c92]; omega)⟩
                refine ja_aload (i := 6) dX7_split_129 rfl ?_
                refine ja_iload (i := 7) dX7_split_131 rfl ?_
                refine ja_iload_n (i := 3) dX7_split_133 rfl rfl ?_
                refine ja_cVd0 (st := []) (c_giveE (D := D) l hx h1 (c := c) (t := some o) (g := g) hw (fun b e => by cases e; exact h3) (q := q) (by omega) (b_f (hg q) (by omega))) rfl rfl (ce_X1_give 0 0) im_X1_give se_X1_give lk_X7_114 k_X1 (zL_o hx (l := ly) (by omega)) ⟨(Nat.le_of_ble_eq_true rfl), (Nat.le_of_ble_eq_true rfl)⟩ dX7_split_134 rfl rfl (Nat.le_of_ble_eq_true rfl) (Nat.zero_le _) (Nat.zero_le _) ?_
                intro D134 hD134
                subst hD134
                refine ja_iincN dX7_split_137 rfl rfl (Nat.le_of_ble_eq_true rfl) ?_
                refine ja_goto (tgt := 80) dX7_split_140 (by decide) ?_
                refine ja_forget (i := 8) ?_
                exact ih80 (q + 1) _ (by omega) (by omega) (fun k => gq_i.trans ((or_congr_right (hg k)).trans (gst_y (P := (fun q => (decide (c q = some a) && decide (li ≤ if ax = nI 120 then q % 16 else q / 16)))) hPt)))
          ·
            refine ja_iload (i := 7) dX7_split_95 rfl ?_
            refine ja_bipush (v := nI 16) dX7_split_97 (by decide +kernel) ?_
            refine ja_iremN dX7_split_99 (by omega) (by omega) (by omega) ?_
            refine ja_goto (tgt := 108) dX7_split_100 (by decide) ?_
            refine ja_istore (i := 8) dX7_split_108 rfl (Nat.le_of_ble_eq_true rfl) ?_
            refine ja_iload (i := 8) dX7_split_110 rfl ?_
            refine ja_iload (i := 5) dX7_split_112 rfl ?_
            refine ja_icmpN_lt (tgt := 137) dX7_split_114 (by decide) (by omega) (by omega) (fun c114 => ?_) (fun c114 => ?_)
            ·
              have hPf : (fun q => (decide (c q = some a) && decide (li ≤ if ax = nI 120 then q % 16 else q / 16))) q = false := by simp only [Bool.and_eq_false_iff, decide_eq_false_iff_not]; first | exact Or.inl (fun e => c126 ((oI_a (hw q) h2).mpr e)) | (right; first | (rw [if_pos c92]; omega) | (rw [if_neg c92]; omega))
              refine ja_iincN dX7_split_137 rfl rfl (Nat.le_of_ble_eq_true rfl) ?_
              refine ja_goto (tgt := 80) dX7_split_140 (by decide) ?_
              refine ja_forget (i := 8) ?_
              exact ih80 (q + 1) g (by omega) (by omega) (fun k => (hg k).trans (gst_n (P := (fun q => (decide (c q = some a) && decide (li ≤ if ax = nI 120 then q % 16 else q / 16)))) hPf))
            ·
              refine ja_aload (i := 6) dX7_split_117 rfl ?_
              refine ja_getR fl_X7_135 (zL_o hx (l := ly) (by omega)) rfl (zL_p0 hx (l := ly) (by omega)) dX7_split_119 ?_
              refine ja_iload (i := 7) dX7_split_122 rfl ?_
              refine ja_iald (zL_a0 hx (l := ly) (by omega)) rfl (by omega) (by decide) dX7_split_124 ?_
              refine ja_top (y := oI (c q)) (by rw [edU_q (by omega), gq_eC (b_f (hg q) (by omega))]) ?_
              refine ja_iload_n (i := 2) dX7_split_125 rfl rfl ?_
              refine ja_icmp_ne (tgt := 137) dX7_split_126 (by decide) (fun c126 => ?_) (fun c126 => ?_)
              ·
                have hPf : (fun q => (decide (c q = some a) && decide (li ≤ if ax = nI 120 then q % 16 else q / 16))) q = false := by simp only [Bool.and_eq_false_iff, decide_eq_false_iff_not]; first | exact Or.inl (fun e => c126 ((oI_a (hw q) h2).mpr e)) | (right; first | (rw [if_pos c92]; omega) | (rw [if_neg c92]; omega))
                refine ja_iincN dX7_split_137 rfl rfl (Nat.le_of_ble_eq_true rfl) ?_
                refine ja_goto (tgt := 80) dX7_split_140 (by decide) ?_
                refine ja_forget (i := 8) ?_
                exact ih80 (q + 1) g (by omega) (by omega) (fun k => (hg k).trans (gst_n (P := (fun q => (decide (c q = some a) && decide (li ≤ if ax = nI 120 then q % 16 else q / 16)))) hPf))
              ·
                have hPt : (fun q => (decide (c q = some a) && decide (li ≤ if ax = nI 120 then q % 16 else q / 16))) q = true := by simp only [Bool.and_eq_true, decide_eq_true_eq]; exact ⟨(oI_a (hw q) h2).mp c126, by first | (rw [if_pos c92]; omega) | (rw [if_neg c92]; omega)⟩
                refine ja_aload (i := 6) dX7_split_129 rfl ?_
                refine ja_iload (i := 7) dX7_split_131 rfl ?_
                refine ja_iload_n (i := 3) dX7_split_133 rfl rfl ?_
                refine ja_cVd0 (st := []) (c_giveE (D := D) l hx h1 (c := c) (t := some o) (g := g) hw (fun b e => by cases e; exact h3) (q := q) (by omega) (b_f (hg q) (by omega))) rfl rfl (ce_X1_give 0 0) im_X1_give se_X1_give lk_X7_114 k_X1 (zL_o hx (l := ly) (by omega)) ⟨(Nat.le_of_ble_eq_true rfl), (Nat.le_of_ble_eq_true rfl)⟩ dX7_split_134 rfl rfl (Nat.le_of_ble_eq_true rfl) (Nat.zero_le _) (Nat.zero_le _) ?_
                intro D134 hD134
                subst hD134
                refine ja_iincN dX7_split_137 rfl rfl (Nat.le_of_ble_eq_true rfl) ?_
                refine ja_goto (tgt := 80) dX7_split_140 (by decide) ?_
                refine ja_forget (i := 8) ?_
                exact ih80 (q + 1) _ (by omega) (by omega) (fun k => gq_i.trans ((or_congr_right (hg k)).trans (gst_y (P := (fun q => (decide (c q = some a) && decide (li ≤ if ax = nI 120 then q % 16 else q / 16)))) hPt)))
    exact lp80 257 0 _ (by omega) (by omega) (fun k => ⟨fun e => (by cases e), fun e => absurd e.1 (Nat.not_lt_zero k)⟩)

set_option maxRecDepth 100000 in
set_option maxHeartbeats 4000000 in
theorem c_merge_f1 (l : Launch) {Z : jZ} {D : jD} (hx : zX Z) {ly : Int32} (a o : Int32) (hl : ¬ (nI 0 ≤ ly ∧ ly ≤ nI 2))  : ja_M l (mX7_merge 1 6) [.ref (0), .int (ly), .int (a), .int (o)] Z D ja_r0 (ja_jx "java/lang/IndexOutOfBoundsException" Z D) := by
  refine ja_Mof (lv := [some (.ref (0)), some (.int (ly)), some (.int (a)), some (.int (o)), none, none]) (by decide +kernel) rfl rfl (Nat.le_of_ble_eq_true rfl) rfl ?_
  refine ja_aload_n (i := 0) dX7_merge_0 rfl rfl ?_
  refine ja_iload_n (i := 1) dX7_merge_1 rfl rfl ?_
  refine ja_cVx (st := []) (c_layerOf_x (D := D) l hx hl) (ce_X7_layerOf 1 6) im_X7_layerOf se_X7_layerOf lk_X7_93 k_X7 (zX_o0 hx) ⟨(Nat.le_of_ble_eq_true rfl), (Nat.le_of_ble_eq_true rfl)⟩ dX7_merge_2 rfl rfl (Nat.le_of_ble_eq_true rfl) (Nat.le_of_ble_eq_true rfl) (Nat.le_of_ble_eq_true rfl) ?_
  refine ja_out rfl (Nat.le_of_ble_eq_true rfl) (Nat.le_of_ble_eq_true rfl) ?_
  exact ⟨rfl, rfl, rfl⟩

set_option maxRecDepth 100000 in
set_option maxHeartbeats 4000000 in
theorem c_merge_f2 (l : Launch) {Z : jZ} {D : jD} (hx : zX Z) {ly : Nat} (h1 : ly < 3) {a : Int32} (o : Int32) (ha : ¬ (nI 0 ≤ a ∧ a ≤ nI 9))  : ja_M l (mX7_merge 1 6) [.ref (0), .int (nI (ly)), .int (a), .int (o)] Z D ja_r0 (ja_jx "java/lang/IllegalArgumentException" Z D) := by
  refine ja_Mof (lv := [some (.ref (0)), some (.int (nI (ly))), some (.int (a)), some (.int (o)), none, none]) (by decide +kernel) rfl rfl (Nat.le_of_ble_eq_true rfl) rfl ?_
  refine ja_aload_n (i := 0) dX7_merge_0 rfl rfl ?_
  refine ja_iload_n (i := 1) dX7_merge_1 rfl rfl ?_
  refine ja_cVr (st := []) (c_layerOf (D := D) l hx (ly := ly) (by omega)) rfl rfl (ce_X7_layerOf 0 0) im_X7_layerOf se_X7_layerOf lk_X7_93 k_X7 (zX_o0 hx) ⟨(Nat.le_of_ble_eq_true rfl), (Nat.le_of_ble_eq_true rfl)⟩ dX7_merge_2 rfl rfl (Nat.le_of_ble_eq_true rfl) (Nat.zero_le _) (Nat.zero_le _) ?_
  refine ja_astore (i := 4) dX7_merge_5 rfl (Nat.le_of_ble_eq_true rfl) ?_
  refine ja_iload_n (i := 2) dX7_merge_7 rfl rfl ?_
  refine ja_iload_n (i := 3) dX7_merge_8 rfl rfl ?_
  refine ja_cSx (st := []) (c_needTwoAreas_x1 (D := D) l (o) ha) (ce_X7_needTwoAreas 1 6) st_X7_needTwoAreas lk_X7_122 ⟨(Nat.le_of_ble_eq_true rfl), (Nat.le_of_ble_eq_true rfl)⟩ dX7_merge_9 rfl rfl (Nat.le_of_ble_eq_true rfl) (Nat.le_of_ble_eq_true rfl) (Nat.le_of_ble_eq_true rfl) ?_
  refine ja_out rfl (Nat.le_of_ble_eq_true rfl) (Nat.le_of_ble_eq_true rfl) ?_
  exact ⟨rfl, rfl, rfl⟩

set_option maxRecDepth 100000 in
set_option maxHeartbeats 4000000 in
theorem c_merge_f2b (l : Launch) {Z : jZ} {D : jD} (hx : zX Z) {ly : Nat} (h1 : ly < 3) {a : Nat} (h2 : a < 10) {o : Int32} (ho : ¬ (nI 0 ≤ o ∧ o ≤ nI 9)) : ja_M l (mX7_merge 1 6) [.ref (0), .int (nI (ly)), .int (nI (a)), .int (o)] Z D ja_r0 (ja_jx "java/lang/IllegalArgumentException" Z D) := by
  refine ja_Mof (lv := [some (.ref (0)), some (.int (nI (ly))), some (.int (nI (a))), some (.int (o)), none, none]) (by decide +kernel) rfl rfl (Nat.le_of_ble_eq_true rfl) rfl ?_
  refine ja_aload_n (i := 0) dX7_merge_0 rfl rfl ?_
  refine ja_iload_n (i := 1) dX7_merge_1 rfl rfl ?_
  refine ja_cVr (st := []) (c_layerOf (D := D) l hx (ly := ly) (by omega)) rfl rfl (ce_X7_layerOf 0 0) im_X7_layerOf se_X7_layerOf lk_X7_93 k_X7 (zX_o0 hx) ⟨(Nat.le_of_ble_eq_true rfl), (Nat.le_of_ble_eq_true rfl)⟩ dX7_merge_2 rfl rfl (Nat.le_of_ble_eq_true rfl) (Nat.zero_le _) (Nat.zero_le _) ?_
  refine ja_astore (i := 4) dX7_merge_5 rfl (Nat.le_of_ble_eq_true rfl) ?_
  refine ja_iload_n (i := 2) dX7_merge_7 rfl rfl ?_
  refine ja_iload_n (i := 3) dX7_merge_8 rfl rfl ?_
  refine ja_cSx (st := []) (c_needTwoAreas_x2 (D := D) l (a := a) (by omega) ho) (ce_X7_needTwoAreas 1 6) st_X7_needTwoAreas lk_X7_122 ⟨(Nat.le_of_ble_eq_true rfl), (Nat.le_of_ble_eq_true rfl)⟩ dX7_merge_9 rfl rfl (Nat.le_of_ble_eq_true rfl) (Nat.le_of_ble_eq_true rfl) (Nat.le_of_ble_eq_true rfl) ?_
  refine ja_out rfl (Nat.le_of_ble_eq_true rfl) (Nat.le_of_ble_eq_true rfl) ?_
  exact ⟨rfl, rfl, rfl⟩

set_option maxRecDepth 100000 in
set_option maxHeartbeats 4000000 in
theorem c_merge_f2c (l : Launch) {Z : jZ} {D : jD} (hx : zX Z) {ly : Nat} (h1 : ly < 3) {a : Nat} (h2 : a < 10) : ja_M l (mX7_merge 1 6) [.ref (0), .int (nI (ly)), .int (nI (a)), .int (nI (a))] Z D ja_r0 (ja_jx "java/lang/IllegalArgumentException" Z D) := by
  refine ja_Mof (lv := [some (.ref (0)), some (.int (nI (ly))), some (.int (nI (a))), some (.int (nI (a))), none, none]) (by decide +kernel) rfl rfl (Nat.le_of_ble_eq_true rfl) rfl ?_
  refine ja_aload_n (i := 0) dX7_merge_0 rfl rfl ?_
  refine ja_iload_n (i := 1) dX7_merge_1 rfl rfl ?_
  refine ja_cVr (st := []) (c_layerOf (D := D) l hx (ly := ly) (by omega)) rfl rfl (ce_X7_layerOf 0 0) im_X7_layerOf se_X7_layerOf lk_X7_93 k_X7 (zX_o0 hx) ⟨(Nat.le_of_ble_eq_true rfl), (Nat.le_of_ble_eq_true rfl)⟩ dX7_merge_2 rfl rfl (Nat.le_of_ble_eq_true rfl) (Nat.zero_le _) (Nat.zero_le _) ?_
  refine ja_astore (i := 4) dX7_merge_5 rfl (Nat.le_of_ble_eq_true rfl) ?_
  refine ja_iload_n (i := 2) dX7_merge_7 rfl rfl ?_
  refine ja_iload_n (i := 3) dX7_merge_8 rfl rfl ?_
  refine ja_cSx (st := []) (c_needTwoAreas_x3 (D := D) l (a := a) (by omega)) (ce_X7_needTwoAreas 1 6) st_X7_needTwoAreas lk_X7_122 ⟨(Nat.le_of_ble_eq_true rfl), (Nat.le_of_ble_eq_true rfl)⟩ dX7_merge_9 rfl rfl (Nat.le_of_ble_eq_true rfl) (Nat.le_of_ble_eq_true rfl) (Nat.le_of_ble_eq_true rfl) ?_
  refine ja_out rfl (Nat.le_of_ble_eq_true rfl) (Nat.le_of_ble_eq_true rfl) ?_
  exact ⟨rfl, rfl, rfl⟩

set_option maxRecDepth 100000 in
set_option maxHeartbeats 4000000 in
theorem c_merge_f3 (l : Launch) {Z : jZ} {D : jD} (hx : zX Z) {ly : Nat} (h1 : ly < 3) (hin : D 0 7 = bI false) {a o : Nat} (h2 : a < 10) (h3 : o < 10) (h4 : a ≠ o)  : ja_M l (mX7_merge 1 6) [.ref (0), .int (nI (ly)), .int (nI (a)), .int (nI (o))] Z D ja_r0 (ja_jx "java/lang/IllegalStateException" Z D) := by
  refine ja_Mof (lv := [some (.ref (0)), some (.int (nI (ly))), some (.int (nI (a))), some (.int (nI (o))), none, none]) (by decide +kernel) rfl rfl (Nat.le_of_ble_eq_true rfl) rfl ?_
  refine ja_aload_n (i := 0) dX7_merge_0 rfl rfl ?_
  refine ja_iload_n (i := 1) dX7_merge_1 rfl rfl ?_
  refine ja_cVr (st := []) (c_layerOf (D := D) l hx (ly := ly) (by omega)) rfl rfl (ce_X7_layerOf 0 0) im_X7_layerOf se_X7_layerOf lk_X7_93 k_X7 (zX_o0 hx) ⟨(Nat.le_of_ble_eq_true rfl), (Nat.le_of_ble_eq_true rfl)⟩ dX7_merge_2 rfl rfl (Nat.le_of_ble_eq_true rfl) (Nat.zero_le _) (Nat.zero_le _) ?_
  refine ja_astore (i := 4) dX7_merge_5 rfl (Nat.le_of_ble_eq_true rfl) ?_
  refine ja_iload_n (i := 2) dX7_merge_7 rfl rfl ?_
  refine ja_iload_n (i := 3) dX7_merge_8 rfl rfl ?_
  refine ja_cSr0 (st := []) (c_needTwoAreas (D := D) l (a := a) (o := o) (by omega) (by omega) h4) rfl rfl (ce_X7_needTwoAreas 0 0) st_X7_needTwoAreas lk_X7_122 ⟨(Nat.le_of_ble_eq_true rfl), (Nat.le_of_ble_eq_true rfl)⟩ dX7_merge_9 rfl rfl (Nat.le_of_ble_eq_true rfl) (Nat.zero_le _) (Nat.zero_le _) ?_
  refine ja_aload_n (i := 0) dX7_merge_12 rfl rfl ?_
  refine ja_cVx (st := []) (c_needSession_x (D := D) l hx hin) (ce_X7_needSession 1 6) im_X7_needSession se_X7_needSession lk_X7_108 k_X7 (zX_o0 hx) ⟨(Nat.le_of_ble_eq_true rfl), (Nat.le_of_ble_eq_true rfl)⟩ dX7_merge_13 rfl rfl (Nat.le_of_ble_eq_true rfl) (Nat.le_of_ble_eq_true rfl) (Nat.le_of_ble_eq_true rfl) ?_
  refine ja_out rfl (Nat.le_of_ble_eq_true rfl) (Nat.le_of_ble_eq_true rfl) ?_
  exact ⟨rfl, rfl, rfl⟩

set_option maxRecDepth 100000 in
set_option maxHeartbeats 4000000 in
theorem c_merge_ok (l : Launch) {Z : jZ} {D : jD} (hx : zX Z) {ly : Nat} (h1 : ly < 3) (hin : D 0 7 = bI true) {a o : Nat} (h2 : a < 10) (h3 : o < 10) (h4 : a ≠ o) {c : Nat → Option Nat} {wv : Nat → Nat} {dv : Bool} (hw : ∀ q a, c q = some a → a < 10) (hc : ∀ q, q < 256 → D (31 + 10 * ly) q = oI (c q)) (hcn : ∀ a, a < 10 → D (32 + 10 * ly) a = nI (eN c a)) (h4d : D (30 + 10 * ly) 4 = bI dv) (hwv : ∀ a, a < 10 → D (33 + 10 * ly) a = nI (wv a)) (hT : fb_sm wv 10 ≤ 8388607)  : ja_M l (mX7_merge 0 0) [.ref (0), .int (nI (ly)), .int (nI (a)), .int (nI (o))] Z D (ja_jd (some (.int (nI (eT c (some o) (fun q => decide (c q = some a)))))) Z (fun D2 => D2 = edE D ly c (some o) (fun q => decide (c q = some a)) wv dv)) ja_x0 := by
  refine ja_Mof (lv := [some (.ref (0)), some (.int (nI (ly))), some (.int (nI (a))), some (.int (nI (o))), none, none]) (by decide +kernel) rfl rfl (Nat.le_of_ble_eq_true rfl) rfl ?_
  refine ja_aload_n (i := 0) dX7_merge_0 rfl rfl ?_
  refine ja_iload_n (i := 1) dX7_merge_1 rfl rfl ?_
  refine ja_cVr (st := []) (c_layerOf (D := D) l hx (ly := ly) (by omega)) rfl rfl (ce_X7_layerOf 0 0) im_X7_layerOf se_X7_layerOf lk_X7_93 k_X7 (zX_o0 hx) ⟨(Nat.le_of_ble_eq_true rfl), (Nat.le_of_ble_eq_true rfl)⟩ dX7_merge_2 rfl rfl (Nat.le_of_ble_eq_true rfl) (Nat.zero_le _) (Nat.zero_le _) ?_
  refine ja_astore (i := 4) dX7_merge_5 rfl (Nat.le_of_ble_eq_true rfl) ?_
  refine ja_iload_n (i := 2) dX7_merge_7 rfl rfl ?_
  refine ja_iload_n (i := 3) dX7_merge_8 rfl rfl ?_
  refine ja_cSr0 (st := []) (c_needTwoAreas (D := D) l (a := a) (o := o) (by omega) (by omega) h4) rfl rfl (ce_X7_needTwoAreas 0 0) st_X7_needTwoAreas lk_X7_122 ⟨(Nat.le_of_ble_eq_true rfl), (Nat.le_of_ble_eq_true rfl)⟩ dX7_merge_9 rfl rfl (Nat.le_of_ble_eq_true rfl) (Nat.zero_le _) (Nat.zero_le _) ?_
  refine ja_aload_n (i := 0) dX7_merge_12 rfl rfl ?_
  refine ja_cVr0 (st := []) (c_needSession (D := D) l hx hin) rfl rfl (ce_X7_needSession 0 0) im_X7_needSession se_X7_needSession lk_X7_108 k_X7 (zX_o0 hx) ⟨(Nat.le_of_ble_eq_true rfl), (Nat.le_of_ble_eq_true rfl)⟩ dX7_merge_13 rfl rfl (Nat.le_of_ble_eq_true rfl) (Nat.zero_le _) (Nat.zero_le _) ?_
  refine ja_aload (i := 4) dX7_merge_16 rfl ?_
  refine ja_cVd0 (st := []) (c_openE (D := D) l hx h1 (c := c) (some o) hc hcn) rfl rfl (ce_X1_openEdit 0 0) im_X1_openEdit se_X1_openEdit lk_X7_111 k_X1 (zL_o hx (l := ly) (by omega)) ⟨(Nat.le_of_ble_eq_true rfl), (Nat.le_of_ble_eq_true rfl)⟩ dX7_merge_18 rfl rfl (Nat.le_of_ble_eq_true rfl) (Nat.zero_le _) (Nat.zero_le _) ?_
  intro D18 hD18
  subst hD18
  refine ja_iconst (v := nI 0) dX7_merge_21 (by decide +kernel) ?_
  refine ja_istore (i := 5) dX7_merge_22 rfl (Nat.le_of_ble_eq_true rfl) ?_
  have lp24 : ∀ (f24 : Nat) (q : Nat) (g : Nat → Bool), (256 < q + f24) → (q ≤ 256) → (∀ k, g k = true ↔ (k < q ∧ (fun q => decide (c q = some a)) k = true)) → ja_A l (mX7_merge 0 0) ja_sn (ja_Qf (mX7_merge 0 0) (ja_jd (some (.int (nI (eT c (some o) (fun q => decide (c q = some a)))))) Z (fun D2 => D2 = edE D ly c (some o) (fun q => decide (c q = some a)) wv dv)) ja_x0) 24 [some (.ref (0)), some (.int (nI (ly))), some (.int (nI (a))), some (.int (nI (o))), some (.ref (30 + 10 * ly)), some (.int (nI (q)))] [] Z (edU D ly c (some o) g) 0 0 := by
    intro f24
    induction f24 with
    | zero => intro q g hf hq hg; exfalso; omega
    | succ f24 ih24 =>
      intro q g hf hq hg
      refine ja_iload (i := 5) dX7_merge_24 rfl ?_
      refine ja_sipush (v := nI 256) dX7_merge_26 (by decide +kernel) ?_
      refine ja_icmpN_ge (tgt := 58) dX7_merge_29 (by decide) (by omega) (by omega) (fun c29 => ?_) (fun c29 => ?_)
      ·
        refine ja_aload (i := 4) dX7_merge_58 rfl ?_
        refine ja_iload_n (i := 3) dX7_merge_60 rfl rfl ?_
        refine ja_cVd (st := []) (c_closeE (D := D) l hx h1 (c := c) (t := some o) (g := g) (w := wv) (dv := dv) (fun b e => by cases e; exact h3) h4d hwv hT) rfl rfl (ce_X1_closeEdit 0 0) im_X1_closeEdit se_X1_closeEdit lk_X7_118 k_X1 (zL_o hx (l := ly) (by omega)) ⟨(Nat.le_of_ble_eq_true rfl), (Nat.le_of_ble_eq_true rfl)⟩ dX7_merge_61 rfl rfl (Nat.le_of_ble_eq_true rfl) (Nat.zero_le _) (Nat.zero_le _) ?_
        intro D61 hD61
        subst hD61
        refine ja_iret rfl rfl dX7_merge_64 (Nat.zero_le _) (Nat.zero_le _) ?_
        have eg := gst_e (P := (fun q => decide (c q = some a))) ((show q = 256 by omega) ▸ hg)
        exact ⟨by rw [eT_cg eg], rfl, by rw [edE_cg eg]⟩
      ·
        refine ja_aload (i := 4) dX7_merge_32 rfl ?_
        refine ja_getR fl_X7_135 (zL_o hx (l := ly) (by omega)) rfl (zL_p0 hx (l := ly) (by omega)) dX7_merge_34 ?_
        refine ja_iload (i := 5) dX7_merge_37 rfl ?_
        refine ja_iald (zL_a0 hx (l := ly) (by omega)) rfl (by omega) (by decide) dX7_merge_39 ?_
        refine ja_top (y := oI (c q)) (by rw [edU_q (by omega), gq_eC (b_f (hg q) (by omega))]) ?_
        refine ja_iload_n (i := 2) dX7_merge_40 rfl rfl ?_
        refine ja_icmp_ne (tgt := 52) dX7_merge_41 (by decide) (fun c41 => ?_) (fun c41 => ?_)
        ·
          have hPf : (fun q => decide (c q = some a)) q = false := decide_eq_false (fun e => c41 ((oI_a (hw q) h2).mpr e))
          refine ja_iincN dX7_merge_52 rfl rfl (Nat.le_of_ble_eq_true rfl) ?_
          refine ja_goto (tgt := 24) dX7_merge_55 (by decide) ?_
          exact ih24 (q + 1) g (by omega) (by omega) (fun k => (hg k).trans (gst_n (P := (fun q => decide (c q = some a))) hPf))
        ·
          have hPt : (fun q => decide (c q = some a)) q = true := decide_eq_true ((oI_a (hw q) h2).mp c41)
          refine ja_aload (i := 4) dX7_merge_44 rfl ?_
          refine ja_iload (i := 5) dX7_merge_46 rfl ?_
          refine ja_iload_n (i := 3) dX7_merge_48 rfl rfl ?_
          refine ja_cVd0 (st := []) (c_giveE (D := D) l hx h1 (c := c) (t := some o) (g := g) hw (fun b e => by cases e; exact h3) (q := q) (by omega) (b_f (hg q) (by omega))) rfl rfl (ce_X1_give 0 0) im_X1_give se_X1_give lk_X7_114 k_X1 (zL_o hx (l := ly) (by omega)) ⟨(Nat.le_of_ble_eq_true rfl), (Nat.le_of_ble_eq_true rfl)⟩ dX7_merge_49 rfl rfl (Nat.le_of_ble_eq_true rfl) (Nat.zero_le _) (Nat.zero_le _) ?_
          intro D49 hD49
          subst hD49
          refine ja_iincN dX7_merge_52 rfl rfl (Nat.le_of_ble_eq_true rfl) ?_
          refine ja_goto (tgt := 24) dX7_merge_55 (by decide) ?_
          exact ih24 (q + 1) _ (by omega) (by omega) (fun k => gq_i.trans ((or_congr_right (hg k)).trans (gst_y (P := (fun q => decide (c q = some a))) hPt)))
  exact lp24 257 0 _ (by omega) (by omega) (fun k => ⟨fun e => (by cases e), fun e => absurd e.1 (Nat.not_lt_zero k)⟩)

set_option maxRecDepth 100000 in
set_option maxHeartbeats 4000000 in
theorem c_change_f1 (l : Launch) {Z : jZ} {D : jD} (hx : zX Z) {vn : Nat} {vl : Nat → Nat} (hv : zXv Z vn vl) (hv3 : vn ≤ 3) {k : Int32} (hk : ¬ (0 ≤ k.toInt ∧ k.toInt < vn)) (q a : Int32) : ja_M l (mX7_change 1 6) [.ref (0), .int (k), .int (q), .int (a)] Z D ja_r0 (ja_jx "java/util/NoSuchElementException" Z D) := by
  refine ja_Mof (lv := [some (.ref (0)), some (.int (k)), some (.int (q)), some (.int (a)), none, none]) (by decide +kernel) rfl rfl (Nat.le_of_ble_eq_true rfl) rfl ?_
  refine ja_aload_n (i := 0) dX7_change_0 rfl rfl ?_
  refine ja_iload_n (i := 1) dX7_change_1 rfl rfl ?_
  refine ja_cVx (st := []) (c_versionOf_x (D := D) l hx hv hk) (ce_X7_versionOf 1 6) im_X7_versionOf se_X7_versionOf lk_X7_224 k_X7 (zX_o0 hx) ⟨(Nat.le_of_ble_eq_true rfl), (Nat.le_of_ble_eq_true rfl)⟩ dX7_change_2 rfl rfl (Nat.le_of_ble_eq_true rfl) (Nat.le_of_ble_eq_true rfl) (Nat.le_of_ble_eq_true rfl) ?_
  refine ja_out rfl (Nat.le_of_ble_eq_true rfl) (Nat.le_of_ble_eq_true rfl) ?_
  exact ⟨rfl, rfl, rfl⟩

set_option maxRecDepth 100000 in
set_option maxHeartbeats 4000000 in
theorem c_change_f2 (l : Launch) {Z : jZ} {D : jD} (hx : zX Z) {vn : Nat} {vl : Nat → Nat} (hv : zXv Z vn vl) (hv3 : vn ≤ 3) {v : Nat} (hvl : v < vn) {q : Int32} (a : Int32) (hq : ¬ (nI 0 ≤ q ∧ q ≤ nI 255)) : ja_M l (mX7_change 1 6) [.ref (0), .int (nI (v)), .int (q), .int (a)] Z D ja_r0 (ja_jx "java/lang/IndexOutOfBoundsException" Z D) := by
  refine ja_Mof (lv := [some (.ref (0)), some (.int (nI (v))), some (.int (q)), some (.int (a)), none, none]) (by decide +kernel) rfl rfl (Nat.le_of_ble_eq_true rfl) rfl ?_
  refine ja_aload_n (i := 0) dX7_change_0 rfl rfl ?_
  refine ja_iload_n (i := 1) dX7_change_1 rfl rfl ?_
  refine ja_cVr (st := []) (c_versionOf (D := D) l hx hv hv3 (r := v) (by omega)) rfl rfl (ce_X7_versionOf 0 0) im_X7_versionOf se_X7_versionOf lk_X7_224 k_X7 (zX_o0 hx) ⟨(Nat.le_of_ble_eq_true rfl), (Nat.le_of_ble_eq_true rfl)⟩ dX7_change_2 rfl rfl (Nat.le_of_ble_eq_true rfl) (Nat.zero_le _) (Nat.zero_le _) ?_
  refine ja_astore (i := 4) dX7_change_5 rfl (Nat.le_of_ble_eq_true rfl) ?_
  refine ja_iload_n (i := 2) dX7_change_7 rfl rfl ?_
  refine ja_cSx (st := []) (c_needSquare_x (D := D) l hq) (ce_X7_needSquare 1 6) st_X7_needSquare lk_X7_178 ⟨(Nat.le_of_ble_eq_true rfl), (Nat.le_of_ble_eq_true rfl)⟩ dX7_change_8 rfl rfl (Nat.le_of_ble_eq_true rfl) (Nat.le_of_ble_eq_true rfl) (Nat.le_of_ble_eq_true rfl) ?_
  refine ja_out rfl (Nat.le_of_ble_eq_true rfl) (Nat.le_of_ble_eq_true rfl) ?_
  exact ⟨rfl, rfl, rfl⟩

set_option maxRecDepth 100000 in
set_option maxHeartbeats 4000000 in
theorem c_change_f2b (l : Launch) {Z : jZ} {D : jD} (hx : zX Z) {vn : Nat} {vl : Nat → Nat} (hv : zXv Z vn vl) (hv3 : vn ≤ 3) {v x y w h : Nat} (hvl : v < vn) (hb : vbx D v x y w h) {q : Nat} (hq : q < 256) (a : Int32) (hin9 : inB x y w h q = false) : ja_M l (mX7_change 1 6) [.ref (0), .int (nI (v)), .int (nI (q)), .int (a)] Z D ja_r0 (ja_jx "java/lang/IndexOutOfBoundsException" Z D) := by
  refine ja_Mof (lv := [some (.ref (0)), some (.int (nI (v))), some (.int (nI (q))), some (.int (a)), none, none]) (by decide +kernel) rfl rfl (Nat.le_of_ble_eq_true rfl) rfl ?_
  refine ja_aload_n (i := 0) dX7_change_0 rfl rfl ?_
  refine ja_iload_n (i := 1) dX7_change_1 rfl rfl ?_
  refine ja_cVr (st := []) (c_versionOf (D := D) l hx hv hv3 (r := v) (by omega)) rfl rfl (ce_X7_versionOf 0 0) im_X7_versionOf se_X7_versionOf lk_X7_224 k_X7 (zX_o0 hx) ⟨(Nat.le_of_ble_eq_true rfl), (Nat.le_of_ble_eq_true rfl)⟩ dX7_change_2 rfl rfl (Nat.le_of_ble_eq_true rfl) (Nat.zero_le _) (Nat.zero_le _) ?_
  refine ja_astore (i := 4) dX7_change_5 rfl (Nat.le_of_ble_eq_true rfl) ?_
  refine ja_iload_n (i := 2) dX7_change_7 rfl rfl ?_
  refine ja_cSr0 (st := []) (c_needSquare (D := D) l (q := q) (by omega)) rfl rfl (ce_X7_needSquare 0 0) st_X7_needSquare lk_X7_178 ⟨(Nat.le_of_ble_eq_true rfl), (Nat.le_of_ble_eq_true rfl)⟩ dX7_change_8 rfl rfl (Nat.le_of_ble_eq_true rfl) (Nat.zero_le _) (Nat.zero_le _) ?_
  refine ja_aload (i := 4) dX7_change_11 rfl ?_
  refine ja_iload_n (i := 2) dX7_change_13 rfl rfl ?_
  refine ja_cVr (st := []) (c_holds (D := D) l hx hv hvl hb (q := q) hq) rfl rfl (ce_X6_holds 0 0) im_X6_holds se_X6_holds lk_X7_228 k_X6 (zV_o hv (v := v) (by omega)) ⟨(Nat.le_of_ble_eq_true rfl), (Nat.le_of_ble_eq_true rfl)⟩ dX7_change_14 rfl rfl (Nat.le_of_ble_eq_true rfl) (Nat.zero_le _) (Nat.zero_le _) ?_
  refine ja_top (y := bI (false)) (by rw [hin9]) ?_
  refine ja_ifB_ne (tgt := 30) dX7_change_17 (by decide) (fun c17 => absurd c17 (by decide)) (fun c17 => ?_)
  refine ja_throw ts_X7_232_234_236 rfl dX7_change_20 dX7_change_23 dX7_change_24 dX7_change_26 dX7_change_29 (Nat.le_of_ble_eq_true rfl) (Nat.le_of_ble_eq_true rfl) (Nat.le_of_ble_eq_true rfl) (Nat.le_of_ble_eq_true rfl) ?_
  exact ⟨rfl, rfl, rfl⟩

set_option maxRecDepth 100000 in
set_option maxHeartbeats 4000000 in
theorem c_change_f3 (l : Launch) {Z : jZ} {D : jD} (hx : zX Z) {vn : Nat} {vl : Nat → Nat} (hv : zXv Z vn vl) (hv3 : vn ≤ 3) {v x y w h : Nat} (hvl : v < vn) (hb : vbx D v x y w h) {q : Nat} (hq : q < 256) {a : Int32} (hin9 : inB x y w h q = true) (hn : ¬ a = -1) (ha : ¬ (nI 0 ≤ a ∧ a ≤ nI 9))  : ja_M l (mX7_change 1 6) [.ref (0), .int (nI (v)), .int (nI (q)), .int (a)] Z D ja_r0 (ja_jx "java/lang/IllegalArgumentException" Z D) := by
  refine ja_Mof (lv := [some (.ref (0)), some (.int (nI (v))), some (.int (nI (q))), some (.int (a)), none, none]) (by decide +kernel) rfl rfl (Nat.le_of_ble_eq_true rfl) rfl ?_
  refine ja_aload_n (i := 0) dX7_change_0 rfl rfl ?_
  refine ja_iload_n (i := 1) dX7_change_1 rfl rfl ?_
  refine ja_cVr (st := []) (c_versionOf (D := D) l hx hv hv3 (r := v) (by omega)) rfl rfl (ce_X7_versionOf 0 0) im_X7_versionOf se_X7_versionOf lk_X7_224 k_X7 (zX_o0 hx) ⟨(Nat.le_of_ble_eq_true rfl), (Nat.le_of_ble_eq_true rfl)⟩ dX7_change_2 rfl rfl (Nat.le_of_ble_eq_true rfl) (Nat.zero_le _) (Nat.zero_le _) ?_
  refine ja_astore (i := 4) dX7_change_5 rfl (Nat.le_of_ble_eq_true rfl) ?_
  refine ja_iload_n (i := 2) dX7_change_7 rfl rfl ?_
  refine ja_cSr0 (st := []) (c_needSquare (D := D) l (q := q) (by omega)) rfl rfl (ce_X7_needSquare 0 0) st_X7_needSquare lk_X7_178 ⟨(Nat.le_of_ble_eq_true rfl), (Nat.le_of_ble_eq_true rfl)⟩ dX7_change_8 rfl rfl (Nat.le_of_ble_eq_true rfl) (Nat.zero_le _) (Nat.zero_le _) ?_
  refine ja_aload (i := 4) dX7_change_11 rfl ?_
  refine ja_iload_n (i := 2) dX7_change_13 rfl rfl ?_
  refine ja_cVr (st := []) (c_holds (D := D) l hx hv hvl hb (q := q) hq) rfl rfl (ce_X6_holds 0 0) im_X6_holds se_X6_holds lk_X7_228 k_X6 (zV_o hv (v := v) (by omega)) ⟨(Nat.le_of_ble_eq_true rfl), (Nat.le_of_ble_eq_true rfl)⟩ dX7_change_14 rfl rfl (Nat.le_of_ble_eq_true rfl) (Nat.zero_le _) (Nat.zero_le _) ?_
  refine ja_top (y := bI (true)) (by rw [hin9]) ?_
  refine ja_ifB_ne (tgt := 30) dX7_change_17 (by decide) (fun c17 => ?_) (fun c17 => absurd c17 (by decide))
  refine ja_iload_n (i := 3) dX7_change_30 rfl rfl ?_
  refine ja_cSx (st := []) (c_needAreaOrNone_x (D := D) l hn ha) (ce_X7_needAreaOrNone 1 6) st_X7_needAreaOrNone lk_X7_100 ⟨(Nat.le_of_ble_eq_true rfl), (Nat.le_of_ble_eq_true rfl)⟩ dX7_change_31 rfl rfl (Nat.le_of_ble_eq_true rfl) (Nat.le_of_ble_eq_true rfl) (Nat.le_of_ble_eq_true rfl) ?_
  refine ja_out rfl (Nat.le_of_ble_eq_true rfl) (Nat.le_of_ble_eq_true rfl) ?_
  exact ⟨rfl, rfl, rfl⟩

set_option maxRecDepth 100000 in
set_option maxHeartbeats 4000000 in
theorem c_change_ok (l : Launch) {Z : jZ} {D : jD} (hx : zX Z) {vn : Nat} {vl : Nat → Nat} (hv : zXv Z vn vl) (hv3 : vn ≤ 3) {v x y w h : Nat} (hvl : v < vn) (hb : vbx D v x y w h) {q : Nat} (hq : q < 256) (hin9 : inB x y w h q = true) {t : Option Nat} (ht : ∀ a, t = some a → a < 10)  : ja_M l (mX7_change 0 0) [.ref (0), .int (nI (v)), .int (nI (q)), .int (oI t)] Z D (ja_jd (some (.int (D (71 + 4 * v) q))) Z (fun D2 => D2 = ja_up D (71 + 4 * v) q (oI t))) ja_x0 := by
  refine ja_Mof (lv := [some (.ref (0)), some (.int (nI (v))), some (.int (nI (q))), some (.int (oI t)), none, none]) (by decide +kernel) rfl rfl (Nat.le_of_ble_eq_true rfl) rfl ?_
  refine ja_aload_n (i := 0) dX7_change_0 rfl rfl ?_
  refine ja_iload_n (i := 1) dX7_change_1 rfl rfl ?_
  refine ja_cVr (st := []) (c_versionOf (D := D) l hx hv hv3 (r := v) (by omega)) rfl rfl (ce_X7_versionOf 0 0) im_X7_versionOf se_X7_versionOf lk_X7_224 k_X7 (zX_o0 hx) ⟨(Nat.le_of_ble_eq_true rfl), (Nat.le_of_ble_eq_true rfl)⟩ dX7_change_2 rfl rfl (Nat.le_of_ble_eq_true rfl) (Nat.zero_le _) (Nat.zero_le _) ?_
  refine ja_astore (i := 4) dX7_change_5 rfl (Nat.le_of_ble_eq_true rfl) ?_
  refine ja_iload_n (i := 2) dX7_change_7 rfl rfl ?_
  refine ja_cSr0 (st := []) (c_needSquare (D := D) l (q := q) (by omega)) rfl rfl (ce_X7_needSquare 0 0) st_X7_needSquare lk_X7_178 ⟨(Nat.le_of_ble_eq_true rfl), (Nat.le_of_ble_eq_true rfl)⟩ dX7_change_8 rfl rfl (Nat.le_of_ble_eq_true rfl) (Nat.zero_le _) (Nat.zero_le _) ?_
  refine ja_aload (i := 4) dX7_change_11 rfl ?_
  refine ja_iload_n (i := 2) dX7_change_13 rfl rfl ?_
  refine ja_cVr (st := []) (c_holds (D := D) l hx hv hvl hb (q := q) hq) rfl rfl (ce_X6_holds 0 0) im_X6_holds se_X6_holds lk_X7_228 k_X6 (zV_o hv (v := v) (by omega)) ⟨(Nat.le_of_ble_eq_true rfl), (Nat.le_of_ble_eq_true rfl)⟩ dX7_change_14 rfl rfl (Nat.le_of_ble_eq_true rfl) (Nat.zero_le _) (Nat.zero_le _) ?_
  refine ja_top (y := bI (true)) (by rw [hin9]) ?_
  refine ja_ifB_ne (tgt := 30) dX7_change_17 (by decide) (fun c17 => ?_) (fun c17 => absurd c17 (by decide))
  refine ja_iload_n (i := 3) dX7_change_30 rfl rfl ?_
  refine ja_cSr0 (st := []) (c_needAON (D := D) l ht) rfl rfl (ce_X7_needAreaOrNone 0 0) st_X7_needAreaOrNone lk_X7_100 ⟨(Nat.le_of_ble_eq_true rfl), (Nat.le_of_ble_eq_true rfl)⟩ dX7_change_31 rfl rfl (Nat.le_of_ble_eq_true rfl) (Nat.zero_le _) (Nat.zero_le _) ?_
  refine ja_aload (i := 4) dX7_change_34 rfl ?_
  refine ja_getR fl_X7_237 (zV_o hv (v := v) (by omega)) rfl (zV_p1 hv (v := v) (by omega)) dX7_change_36 ?_
  refine ja_iload_n (i := 2) dX7_change_39 rfl rfl ?_
  refine ja_iald (zV_a1 hv (v := v) (by omega)) rfl (by omega) (by decide) dX7_change_40 ?_
  refine ja_istore (i := 5) dX7_change_41 rfl (Nat.le_of_ble_eq_true rfl) ?_
  refine ja_aload (i := 4) dX7_change_43 rfl ?_
  refine ja_getR fl_X7_237 (zV_o hv (v := v) (by omega)) rfl (zV_p1 hv (v := v) (by omega)) dX7_change_45 ?_
  refine ja_iload_n (i := 2) dX7_change_48 rfl rfl ?_
  refine ja_iload_n (i := 3) dX7_change_49 rfl rfl ?_
  refine ja_iast (zV_a1 hv (v := v) (by omega)) rfl (by omega) (by decide) dX7_change_50 ?_
  refine ja_iload (i := 5) dX7_change_51 rfl ?_
  refine ja_iret rfl rfl dX7_change_53 (Nat.zero_le _) (Nat.zero_le _) ?_
  exact ⟨rfl, rfl, rfl⟩

set_option maxRecDepth 100000 in
set_option maxHeartbeats 4000000 in
theorem c_conflicts_f1 (l : Launch) {Z : jZ} {D : jD} (hx : zX Z) {vn : Nat} {vl : Nat → Nat} (hv : zXv Z vn vl) (hv3 : vn ≤ 3) {k : Int32} (hk : ¬ (0 ≤ k.toInt ∧ k.toInt < vn))  : ja_M l (mX7_conflicts 1 6) [.ref (0), .int (k)] Z D ja_r0 (ja_jx "java/util/NoSuchElementException" Z D) := by
  refine ja_Mof (lv := [some (.ref (0)), some (.int (k))]) (by decide +kernel) rfl rfl (Nat.le_of_ble_eq_true rfl) rfl ?_
  refine ja_aload_n (i := 0) dX7_conflicts_0 rfl rfl ?_
  refine ja_iload_n (i := 1) dX7_conflicts_1 rfl rfl ?_
  refine ja_cVx (st := []) (c_versionOf_x (D := D) l hx hv hk) (ce_X7_versionOf 1 6) im_X7_versionOf se_X7_versionOf lk_X7_224 k_X7 (zX_o0 hx) ⟨(Nat.le_of_ble_eq_true rfl), (Nat.le_of_ble_eq_true rfl)⟩ dX7_conflicts_2 rfl rfl (Nat.le_of_ble_eq_true rfl) (Nat.le_of_ble_eq_true rfl) (Nat.le_of_ble_eq_true rfl) ?_
  refine ja_out rfl (Nat.le_of_ble_eq_true rfl) (Nat.le_of_ble_eq_true rfl) ?_
  exact ⟨rfl, rfl, rfl⟩

set_option maxRecDepth 100000 in
set_option maxHeartbeats 4000000 in
theorem c_conflicts_ok (l : Launch) {Z : jZ} {D : jD} (hx : zX Z) {vn : Nat} {vl : Nat → Nat} (hv : zXv Z vn vl) (hv3 : vn ≤ 3) {v x y w h : Nat} (hvl : v < vn) (hb : vbx D v x y w h)  : ja_M l (mX7_conflicts 0 0) [.ref (0), .int (nI (v))] Z D (ja_jd (some (.int (nI (fb_ct (xcf D v (vl v) (inB x y w h)) 256)))) Z (fun D2 => ∀ a b, ¬ a = 72 + 4 * v → D2 a b = D a b)) ja_x0 := by
  refine ja_Mof (lv := [some (.ref (0)), some (.int (nI (v)))]) (by decide +kernel) rfl rfl (Nat.le_of_ble_eq_true rfl) rfl ?_
  refine ja_aload_n (i := 0) dX7_conflicts_0 rfl rfl ?_
  refine ja_iload_n (i := 1) dX7_conflicts_1 rfl rfl ?_
  refine ja_cVr (st := []) (c_versionOf (D := D) l hx hv hv3 (r := v) (by omega)) rfl rfl (ce_X7_versionOf 0 0) im_X7_versionOf se_X7_versionOf lk_X7_224 k_X7 (zX_o0 hx) ⟨(Nat.le_of_ble_eq_true rfl), (Nat.le_of_ble_eq_true rfl)⟩ dX7_conflicts_2 rfl rfl (Nat.le_of_ble_eq_true rfl) (Nat.zero_le _) (Nat.zero_le _) ?_
  refine ja_cVd (st := []) (c_markConflicts (D := D) l hx hv hvl hb) rfl rfl (ce_X6_markConflicts 0 0) im_X6_markConflicts se_X6_markConflicts lk_X7_238 k_X6 (zV_o hv (v := v) (by omega)) ⟨(Nat.le_of_ble_eq_true rfl), (Nat.le_of_ble_eq_true rfl)⟩ dX7_conflicts_5 rfl rfl (Nat.le_of_ble_eq_true rfl) (Nat.zero_le _) (Nat.zero_le _) ?_
  intro D5 hD5
  subst hD5
  refine ja_iret rfl rfl dX7_conflicts_8 (Nat.zero_le _) (Nat.zero_le _) ?_
  exact ⟨rfl, rfl, fun a b h9 => fnU_o h9⟩

set_option maxRecDepth 100000 in
set_option maxHeartbeats 4000000 in
theorem c_clashes_f1 (l : Launch) {Z : jZ} {D : jD} (hx : zX Z) {vn : Nat} {vl : Nat → Nat} (hv : zXv Z vn vl) (hv3 : vn ≤ 3) {k : Int32} (hk : ¬ (0 ≤ k.toInt ∧ k.toInt < vn))  : ja_M l (mX7_clashes 1 6) [.ref (0), .int (k)] Z D ja_r0 (ja_jx "java/util/NoSuchElementException" Z D) := by
  refine ja_Mof (lv := [some (.ref (0)), some (.int (k)), none]) (by decide +kernel) rfl rfl (Nat.le_of_ble_eq_true rfl) rfl ?_
  refine ja_aload_n (i := 0) dX7_clashes_0 rfl rfl ?_
  refine ja_iload_n (i := 1) dX7_clashes_1 rfl rfl ?_
  refine ja_cVx (st := []) (c_versionOf_x (D := D) l hx hv hk) (ce_X7_versionOf 1 6) im_X7_versionOf se_X7_versionOf lk_X7_224 k_X7 (zX_o0 hx) ⟨(Nat.le_of_ble_eq_true rfl), (Nat.le_of_ble_eq_true rfl)⟩ dX7_clashes_2 rfl rfl (Nat.le_of_ble_eq_true rfl) (Nat.le_of_ble_eq_true rfl) (Nat.le_of_ble_eq_true rfl) ?_
  refine ja_out rfl (Nat.le_of_ble_eq_true rfl) (Nat.le_of_ble_eq_true rfl) ?_
  exact ⟨rfl, rfl, rfl⟩

theorem if_11 {b : Bool} {x y : Int32} (h : ¬ x = y) {c : Bool} : ((if b = true then x else y) = if c = true then x else y) ↔ b = c := by
  cases b <;> cases c
  · exact ⟨fun _ => rfl, fun _ => rfl⟩
  · rw [if_neg (by decide), if_pos rfl]; exact ⟨fun e => absurd e.symm h, fun e => by cases e⟩
  · rw [if_pos rfl, if_neg (by decide)]; exact ⟨fun e => absurd e h, fun e => by cases e⟩
  · exact ⟨fun _ => rfl, fun _ => rfl⟩
theorem if_1y {b : Bool} {x y : Int32} (h : ¬ x = y) : ((if b = true then x else y) = y) ↔ b = false := by
  cases b
  · rw [if_neg (by decide)]; exact ⟨fun _ => rfl, fun _ => rfl⟩
  · rw [if_pos rfl]; exact ⟨fun e => absurd e h, fun e => by cases e⟩

set_option maxRecDepth 100000 in
set_option maxHeartbeats 4000000 in
theorem c_clashes_ok (l : Launch) {Z : jZ} {D : jD} (hx : zX Z) {vn : Nat} {vl : Nat → Nat} (hv : zXv Z vn vl) (hv3 : vn ≤ 3) {v x y w h : Nat} (hvl : v < vn) (hb : vbx D v x y w h)  : ja_M l (mX7_clashes 0 0) [.ref (0), .int (nI (v))] Z D (ja_jd (some (.int (nI (pcs (fun q => if (xcf D v (vl v) (inB x y w h)) q = true then (1 : Int32) else -1) 256).2))) Z (fun D2 => ∀ a b, ¬ a = 72 + 4 * v → ¬ (5 ≤ a ∧ a ≤ 10) → D2 a b = D a b)) ja_x0 := by
  refine ja_Mof (lv := [some (.ref (0)), some (.int (nI (v))), none]) (by decide +kernel) rfl rfl (Nat.le_of_ble_eq_true rfl) rfl ?_
  refine ja_aload_n (i := 0) dX7_clashes_0 rfl rfl ?_
  refine ja_iload_n (i := 1) dX7_clashes_1 rfl rfl ?_
  refine ja_cVr (st := []) (c_versionOf (D := D) l hx hv hv3 (r := v) (by omega)) rfl rfl (ce_X7_versionOf 0 0) im_X7_versionOf se_X7_versionOf lk_X7_224 k_X7 (zX_o0 hx) ⟨(Nat.le_of_ble_eq_true rfl), (Nat.le_of_ble_eq_true rfl)⟩ dX7_clashes_2 rfl rfl (Nat.le_of_ble_eq_true rfl) (Nat.zero_le _) (Nat.zero_le _) ?_
  refine ja_astore_n (i := 2) dX7_clashes_5 rfl rfl (Nat.le_of_ble_eq_true rfl) ?_
  refine ja_aload_n (i := 2) dX7_clashes_6 rfl rfl ?_
  refine ja_cVd (st := []) (c_markConflicts (D := D) l hx hv hvl hb) rfl rfl (ce_X6_markConflicts 0 0) im_X6_markConflicts se_X6_markConflicts lk_X7_238 k_X6 (zV_o hv (v := v) (by omega)) ⟨(Nat.le_of_ble_eq_true rfl), (Nat.le_of_ble_eq_true rfl)⟩ dX7_clashes_7 rfl rfl (Nat.le_of_ble_eq_true rfl) (Nat.zero_le _) (Nat.zero_le _) ?_
  intro D7 hD7
  subst hD7
  refine ja_pop dX7_clashes_10 rfl ?_
  have mk9 : ∀ q, q < 256 → (fnU D (72 + 4 * v) (fun q => if (xcf D v (vl v) (inB x y w h)) q = true then 0 else -1) 256) (72 + 4 * v) q = if (xcf D v (vl v) (inB x y w h)) q = true then (0 : Int32) else -1 := fun q hq => by rw [fnU, if_pos ⟨rfl, hq⟩]
  have hrr9 : ∀ q k, q < 256 → k < 256 → (((fnU D (72 + 4 * v) (fun q => if (xcf D v (vl v) (inB x y w h)) q = true then 0 else -1) 256) (72 + 4 * v) k = (fnU D (72 + 4 * v) (fun q => if (xcf D v (vl v) (inB x y w h)) q = true then 0 else -1) 256) (72 + 4 * v) q ∧ (fnU D (72 + 4 * v) (fun q => if (xcf D v (vl v) (inB x y w h)) q = true then 0 else -1) 256) (72 + 4 * v) k = (fnU D (72 + 4 * v) (fun q => if (xcf D v (vl v) (inB x y w h)) q = true then 0 else -1) 256) (72 + 4 * v) q) ↔ (fun q => if (xcf D v (vl v) (inB x y w h)) q = true then (1 : Int32) else -1) k = (fun q => if (xcf D v (vl v) (inB x y w h)) q = true then (1 : Int32) else -1) q) := fun q k hq hk => by rw [mk9 q hq, mk9 k hk, and_self_iff, if_11 (by decide), if_11 (by decide)]
  have hr09 : ∀ q, q < 256 → (((fnU D (72 + 4 * v) (fun q => if (xcf D v (vl v) (inB x y w h)) q = true then 0 else -1) 256) (72 + 4 * v) q = -1 ∧ (fnU D (72 + 4 * v) (fun q => if (xcf D v (vl v) (inB x y w h)) q = true then 0 else -1) 256) (72 + 4 * v) q = -1) ↔ (fun q => if (xcf D v (vl v) (inB x y w h)) q = true then (1 : Int32) else -1) q = -1) := fun q hq => by rw [mk9 q hq, and_self_iff, if_1y (by decide), if_1y (by decide)]
  refine ja_aload_n (i := 0) dX7_clashes_11 rfl rfl ?_
  refine ja_getR fl_X7_34 (zX_o0 hx) rfl (zX_p0_9 hx) dX7_clashes_12 ?_
  refine ja_aload_n (i := 2) dX7_clashes_15 rfl rfl ?_
  refine ja_getR fl_X7_241 (zV_o hv (v := v) (by omega)) rfl (zV_p2 hv (v := v) (by omega)) dX7_clashes_16 ?_
  refine ja_aload_n (i := 2) dX7_clashes_19 rfl rfl ?_
  refine ja_getR fl_X7_241 (zV_o hv (v := v) (by omega)) rfl (zV_p2 hv (v := v) (by omega)) dX7_clashes_20 ?_
  refine ja_cVd0 (st := []) (c_lay (D := (fnU D (72 + 4 * v) (fun q => if (xcf D v (vl v) (inB x y w h)) q = true then 0 else -1) 256)) l hx (i1 := 72 + 4 * v) (i2 := 72 + 4 * v) (zV_a2 hv hvl) (zV_a2 hv hvl) (by omega) (by omega) (r := (fun q => if (xcf D v (vl v) (inB x y w h)) q = true then (1 : Int32) else -1)) hrr9 hr09) rfl rfl (ce_X3_lay 0 0) im_X3_lay se_X3_lay lk_X7_244 k_X3 (zX_o5 hx) ⟨(Nat.le_of_ble_eq_true rfl), (Nat.le_of_ble_eq_true rfl)⟩ dX7_clashes_23 rfl rfl (Nat.le_of_ble_eq_true rfl) (Nat.zero_le _) (Nat.zero_le _) ?_
  intro E hE
  refine ja_aload_n (i := 0) dX7_clashes_26 rfl rfl ?_
  refine ja_getR fl_X7_34 (zX_o0 hx) rfl (zX_p0_9 hx) dX7_clashes_27 ?_
  refine ja_getI fl_X7_248 (zX_o5 hx) rfl dX7_clashes_30 ?_
  refine ja_top (y := nI (pcs (fun q => if (xcf D v (vl v) (inB x y w h)) q = true then (1 : Int32) else -1) 256).2) hE.2.1 ?_
  refine ja_iret rfl rfl dX7_clashes_33 (Nat.zero_le _) (Nat.zero_le _) ?_
  exact ⟨rfl, rfl, fun a b h9 h8 => (hE.1 a b h8).trans (fnU_o h9)⟩
