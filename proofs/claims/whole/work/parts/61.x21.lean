/-! THE CLASS: the coarser map, its methods -/
def cmU (D : jD) (s z : Nat → Nat) (b : Nat → Nat → Nat) : jD := fun a k => if a = 14 ∧ k < 10 then nI (s k) else if a = 15 ∧ k < 10 then nI (z k) else if (20 ≤ a ∧ a < 30) ∧ k < 10 then nI (b (a - 20) k) else D a k
def bup (b : Nat → Nat → Nat) (a o x : Nat) : Nat → Nat → Nat := fun i j => if i = a ∧ j = o then x else b i j
theorem cmU_b {D : jD} {s z : Nat → Nat} {b : Nat → Nat → Nat} {a o : Nat} (ha : a < 10) (ho : o < 10) : cmU D s z b (20 + a) o = nI (b a o) := by
  rw [cmU, if_neg (by omega), if_neg (by omega), if_pos ⟨by omega, ho⟩, show 20 + a - 20 = a by omega]
theorem cmU_z {D : jD} {s z : Nat → Nat} {b : Nat → Nat → Nat} {a : Nat} (ha : a < 10) : cmU D s z b 15 a = nI (z a) := by
  rw [cmU, if_neg (by omega), if_pos ⟨rfl, ha⟩]
theorem cmU_s {D : jD} {s z : Nat → Nat} {b : Nat → Nat → Nat} {a : Nat} (ha : a < 10) : cmU D s z b 14 a = nI (s a) := by
  rw [cmU, if_pos ⟨rfl, ha⟩]
theorem cmU_o {D : jD} {s z : Nat → Nat} {b : Nat → Nat → Nat} {a k : Nat} (h1 : ¬ a = 14) (h2 : ¬ a = 15) (h3 : ¬ (20 ≤ a ∧ a < 30)) : cmU D s z b a k = D a k := by
  rw [cmU, if_neg (by omega), if_neg (by omega), if_neg (by omega)]
theorem cmU_bs {D : jD} {s z : Nat → Nat} {b : Nat → Nat → Nat} {a o x : Nat} (ha : a < 10) (ho : o < 10) : ja_up (cmU D s z b) (20 + a) o (nI x) = cmU D s z (bup b a o x) := by
  funext i k
  simp only [ja_up, cmU, bup]
  by_cases e : i = 20 + a ∧ k = o
  · rw [if_pos e, if_neg (by omega), if_neg (by omega), if_pos (by omega), if_pos (by omega)]
  · rw [if_neg e]
    by_cases e3 : (20 ≤ i ∧ i < 30) ∧ k < 10
    · rw [if_pos e3, if_pos e3, if_neg (show ¬ (i - 20 = a ∧ k = o) by omega)]
    · rw [if_neg e3, if_neg e3]
theorem cmU_zs {D : jD} {s z : Nat → Nat} {b : Nat → Nat → Nat} {a x : Nat} (ha : a < 10) : ja_up (cmU D s z b) 15 a (nI x) = cmU D s (nup z a x) b := by
  funext i k
  simp only [ja_up, cmU, nup]
  by_cases e : i = 15 ∧ k = a
  · rw [if_pos e, if_neg (by omega), if_pos (by omega), if_pos e.2]
  · rw [if_neg e]
    by_cases e3 : i = 15 ∧ k < 10
    · rw [if_pos e3, if_pos e3, if_neg (show ¬ k = a by omega)]
    · rw [if_neg e3, if_neg e3]
theorem cmU_ss {D : jD} {s z : Nat → Nat} {b : Nat → Nat → Nat} {a x : Nat} (ha : a < 10) : ja_up (cmU D s z b) 14 a (nI x) = cmU D (nup s a x) z b := by
  funext i k
  simp only [ja_up, cmU, nup]
  by_cases e : i = 14 ∧ k = a
  · rw [if_pos e, if_pos (by omega), if_pos e.2]
  · rw [if_neg e]
    by_cases e3 : i = 14 ∧ k < 10
    · rw [if_pos e3, if_pos e3, if_neg (show ¬ k = a by omega)]
    · rw [if_neg e3, if_neg e3]
/-- a pair of neighbours counts -/
def pc2 (x y : Option Nat) (i j : Nat) : Nat := (if x = some i ∧ y = some j ∧ ¬ i = j then 1 else 0) + (if y = some i ∧ x = some j ∧ ¬ i = j then 1 else 0)
def cpB (b : Nat → Nat → Nat) (x y : Option Nat) : Nat → Nat → Nat := fun i j => b i j + pc2 x y i j
theorem cpB_0 {b : Nat → Nat → Nat} {x y : Option Nat} (h : x = none ∨ y = none ∨ x = y) : cpB b x y = b := by
  funext i j
  unfold cpB pc2
  have h1 : ¬ (x = some i ∧ y = some j ∧ ¬ i = j) := fun q => by
    rcases h with h | h | h
    · rw [h] at q; cases q.1
    · rw [h] at q; cases q.2.1
    · rw [h, q.2.1] at q; exact q.2.2 (Option.some.inj q.1).symm
  have h2 : ¬ (y = some i ∧ x = some j ∧ ¬ i = j) := fun q => by
    rcases h with h | h | h
    · rw [h] at q; cases q.2.1
    · rw [h] at q; cases q.1
    · rw [← h, q.2.1] at q; exact q.2.2 (Option.some.inj q.1).symm
  rw [if_neg h1, if_neg h2, Nat.add_zero]
theorem cpB_s {b : Nat → Nat → Nat} {x y : Nat} (h : ¬ x = y) : bup (bup b x y (b x y + 1)) y x (bup b x y (b x y + 1) y x + 1) = cpB b (some x) (some y) := by
  funext i j
  unfold cpB pc2 bup
  by_cases e1 : i = x ∧ j = y
  · obtain ⟨rfl, rfl⟩ := e1
    rw [if_neg (by omega), if_pos ⟨rfl, rfl⟩, if_pos ⟨rfl, rfl, h⟩, if_neg (fun q => h (Option.some.inj q.1).symm)]
  · by_cases e2 : i = y ∧ j = x
    · obtain ⟨rfl, rfl⟩ := e2
      rw [if_pos ⟨rfl, rfl⟩, if_neg (by omega), if_neg (fun q => h (Option.some.inj q.1)), if_pos ⟨rfl, rfl, fun q => h q.symm⟩]
    · rw [if_neg e2, if_neg e1, if_neg (fun q => e1 ⟨(Option.some.inj q.1).symm, (Option.some.inj q.2.1).symm⟩), if_neg (fun q => e2 ⟨(Option.some.inj q.1).symm, (Option.some.inj q.2.1).symm⟩), Nat.add_zero]

set_option maxRecDepth 100000 in
set_option maxHeartbeats 4000000 in
theorem c_countPairN (l : Launch) {Z : jZ} {D : jD} (hx : zX Z) {s z : Nat → Nat} {b : Nat → Nat → Nat} {y : Int32} : ja_M l (mX0_countPair 0 0) [.ref (13), .int ((-1)), .int (y)] Z (cmU D s z b) (ja_jr none Z (cmU D s z b)) ja_x0 := by
  refine ja_Mof (lv := [some (.ref (13)), some (.int ((-1))), some (.int (y))]) (by decide +kernel) rfl rfl (Nat.le_of_ble_eq_true rfl) rfl ?_
  refine ja_iload_n (i := 1) dX0_countPair_0 rfl rfl ?_
  refine ja_cNr (st := []) (c_isAreaN l) rfl rfl (ce_X7_isArea 0 0) st_X7_isArea nk_X0_40 ⟨(Nat.le_of_ble_eq_true rfl), (Nat.le_of_ble_eq_true rfl)⟩ dX0_countPair_1 rfl rfl (Nat.le_of_ble_eq_true rfl) (Nat.zero_le _) (Nat.zero_le _) ?_
  refine ja_ifB_eq (tgt := 43) dX0_countPair_4 (by decide) (fun c4 => ?_) (fun c4 => absurd c4 (by decide))
  refine ja_vret rfl dX0_countPair_43 (Nat.zero_le _) (Nat.zero_le _) ?_
  exact ⟨rfl, rfl, rfl⟩

set_option maxRecDepth 100000 in
set_option maxHeartbeats 4000000 in
theorem c_countPairSN (l : Launch) {Z : jZ} {D : jD} (hx : zX Z) {s z : Nat → Nat} {b : Nat → Nat → Nat} {x : Nat} (h1 : x < 10) : ja_M l (mX0_countPair 0 0) [.ref (13), .int (nI (x)), .int ((-1))] Z (cmU D s z b) (ja_jr none Z (cmU D s z b)) ja_x0 := by
  refine ja_Mof (lv := [some (.ref (13)), some (.int (nI (x))), some (.int ((-1)))]) (by decide +kernel) rfl rfl (Nat.le_of_ble_eq_true rfl) rfl ?_
  refine ja_iload_n (i := 1) dX0_countPair_0 rfl rfl ?_
  refine ja_cNr (st := []) (c_isAreaT l (by omega)) rfl rfl (ce_X7_isArea 0 0) st_X7_isArea nk_X0_40 ⟨(Nat.le_of_ble_eq_true rfl), (Nat.le_of_ble_eq_true rfl)⟩ dX0_countPair_1 rfl rfl (Nat.le_of_ble_eq_true rfl) (Nat.zero_le _) (Nat.zero_le _) ?_
  refine ja_ifB_eq (tgt := 43) dX0_countPair_4 (by decide) (fun c4 => absurd c4 (by decide)) (fun c4 => ?_)
  refine ja_iload_n (i := 2) dX0_countPair_7 rfl rfl ?_
  refine ja_cNr (st := []) (c_isAreaN l) rfl rfl (ce_X7_isArea 0 0) st_X7_isArea nk_X0_40 ⟨(Nat.le_of_ble_eq_true rfl), (Nat.le_of_ble_eq_true rfl)⟩ dX0_countPair_8 rfl rfl (Nat.le_of_ble_eq_true rfl) (Nat.zero_le _) (Nat.zero_le _) ?_
  refine ja_ifB_eq (tgt := 43) dX0_countPair_11 (by decide) (fun c11 => ?_) (fun c11 => absurd c11 (by decide))
  refine ja_vret rfl dX0_countPair_43 (Nat.zero_le _) (Nat.zero_le _) ?_
  exact ⟨rfl, rfl, rfl⟩

set_option maxRecDepth 100000 in
set_option maxHeartbeats 4000000 in
theorem c_countPairE (l : Launch) {Z : jZ} {D : jD} (hx : zX Z) {s z : Nat → Nat} {b : Nat → Nat → Nat} {x : Nat} (h1 : x < 10) : ja_M l (mX0_countPair 0 0) [.ref (13), .int (nI (x)), .int (nI (x))] Z (cmU D s z b) (ja_jr none Z (cmU D s z b)) ja_x0 := by
  refine ja_Mof (lv := [some (.ref (13)), some (.int (nI (x))), some (.int (nI (x)))]) (by decide +kernel) rfl rfl (Nat.le_of_ble_eq_true rfl) rfl ?_
  refine ja_iload_n (i := 1) dX0_countPair_0 rfl rfl ?_
  refine ja_cNr (st := []) (c_isAreaT l (by omega)) rfl rfl (ce_X7_isArea 0 0) st_X7_isArea nk_X0_40 ⟨(Nat.le_of_ble_eq_true rfl), (Nat.le_of_ble_eq_true rfl)⟩ dX0_countPair_1 rfl rfl (Nat.le_of_ble_eq_true rfl) (Nat.zero_le _) (Nat.zero_le _) ?_
  refine ja_ifB_eq (tgt := 43) dX0_countPair_4 (by decide) (fun c4 => absurd c4 (by decide)) (fun c4 => ?_)
  refine ja_iload_n (i := 2) dX0_countPair_7 rfl rfl ?_
  refine ja_cNr (st := []) (c_isAreaT l (by omega)) rfl rfl (ce_X7_isArea 0 0) st_X7_isArea nk_X0_40 ⟨(Nat.le_of_ble_eq_true rfl), (Nat.le_of_ble_eq_true rfl)⟩ dX0_countPair_8 rfl rfl (Nat.le_of_ble_eq_true rfl) (Nat.zero_le _) (Nat.zero_le _) ?_
  refine ja_ifB_eq (tgt := 43) dX0_countPair_11 (by decide) (fun c11 => absurd c11 (by decide)) (fun c11 => ?_)
  refine ja_iload_n (i := 1) dX0_countPair_14 rfl rfl ?_
  refine ja_iload_n (i := 2) dX0_countPair_15 rfl rfl ?_
  refine ja_icmpN_eq (tgt := 43) dX0_countPair_16 (by decide) (by omega) (by omega) (fun c16 => ?_) (fun c16 => (by exfalso; omega))
  refine ja_vret rfl dX0_countPair_43 (Nat.zero_le _) (Nat.zero_le _) ?_
  exact ⟨rfl, rfl, rfl⟩

set_option maxRecDepth 100000 in
set_option maxHeartbeats 4000000 in
theorem c_countPairS (l : Launch) {Z : jZ} {D : jD} (hx : zX Z) {s z : Nat → Nat} {b : Nat → Nat → Nat} {x y : Nat} (h1 : x < 10) (h2 : y < 10) (hne : ¬ x = y) : ja_M l (mX0_countPair 0 0) [.ref (13), .int (nI (x)), .int (nI (y))] Z (cmU D s z b) (ja_jd none Z (fun D2 => D2 = cmU D s z (cpB b (some x) (some y)))) ja_x0 := by
  refine ja_Mof (lv := [some (.ref (13)), some (.int (nI (x))), some (.int (nI (y)))]) (by decide +kernel) rfl rfl (Nat.le_of_ble_eq_true rfl) rfl ?_
  refine ja_iload_n (i := 1) dX0_countPair_0 rfl rfl ?_
  refine ja_cNr (st := []) (c_isAreaT l (by omega)) rfl rfl (ce_X7_isArea 0 0) st_X7_isArea nk_X0_40 ⟨(Nat.le_of_ble_eq_true rfl), (Nat.le_of_ble_eq_true rfl)⟩ dX0_countPair_1 rfl rfl (Nat.le_of_ble_eq_true rfl) (Nat.zero_le _) (Nat.zero_le _) ?_
  refine ja_ifB_eq (tgt := 43) dX0_countPair_4 (by decide) (fun c4 => absurd c4 (by decide)) (fun c4 => ?_)
  refine ja_iload_n (i := 2) dX0_countPair_7 rfl rfl ?_
  refine ja_cNr (st := []) (c_isAreaT l (by omega)) rfl rfl (ce_X7_isArea 0 0) st_X7_isArea nk_X0_40 ⟨(Nat.le_of_ble_eq_true rfl), (Nat.le_of_ble_eq_true rfl)⟩ dX0_countPair_8 rfl rfl (Nat.le_of_ble_eq_true rfl) (Nat.zero_le _) (Nat.zero_le _) ?_
  refine ja_ifB_eq (tgt := 43) dX0_countPair_11 (by decide) (fun c11 => absurd c11 (by decide)) (fun c11 => ?_)
  refine ja_iload_n (i := 1) dX0_countPair_14 rfl rfl ?_
  refine ja_iload_n (i := 2) dX0_countPair_15 rfl rfl ?_
  refine ja_icmpN_eq (tgt := 43) dX0_countPair_16 (by decide) (by omega) (by omega) (fun c16 => (by exfalso; omega)) (fun c16 => ?_)
  refine ja_aload_n (i := 0) dX0_countPair_19 rfl rfl ?_
  refine ja_getR fl_X0_20 (zX_o13 hx) rfl (zX_p13_2 hx) dX0_countPair_20 ?_
  refine ja_iload_n (i := 1) dX0_countPair_23 rfl rfl ?_
  refine ja_aald (zX_o16 hx) (by decide) rfl (by omega) (by decide) (zC_e hx (c := x) (by omega)) dX0_countPair_24 ?_
  refine ja_iload_n (i := 2) dX0_countPair_25 rfl rfl ?_
  refine ja_dup2 dX0_countPair_26 rfl rfl ?_
  refine ja_iald (zC_o hx (c := x) (by omega)) rfl (by omega) (by decide) dX0_countPair_27 ?_
  refine ja_top (y := nI (b x y)) (cmU_b h1 h2) ?_
  refine ja_iconst (v := nI 1) dX0_countPair_28 (by decide +kernel) ?_
  refine ja_iaddN dX0_countPair_29 ?_
  refine ja_iast (zC_o hx (c := x) (by omega)) rfl (by omega) (by decide) dX0_countPair_30 ?_
  refine ja_num (cmU_bs h1 h2) ?_
  refine ja_aload_n (i := 0) dX0_countPair_31 rfl rfl ?_
  refine ja_getR fl_X0_20 (zX_o13 hx) rfl (zX_p13_2 hx) dX0_countPair_32 ?_
  refine ja_iload_n (i := 2) dX0_countPair_35 rfl rfl ?_
  refine ja_aald (zX_o16 hx) (by decide) rfl (by omega) (by decide) (zC_e hx (c := y) (by omega)) dX0_countPair_36 ?_
  refine ja_iload_n (i := 1) dX0_countPair_37 rfl rfl ?_
  refine ja_dup2 dX0_countPair_38 rfl rfl ?_
  refine ja_iald (zC_o hx (c := y) (by omega)) rfl (by omega) (by decide) dX0_countPair_39 ?_
  refine ja_top (y := nI (bup b x y (b x y + 1) y x)) (cmU_b h2 h1) ?_
  refine ja_iconst (v := nI 1) dX0_countPair_40 (by decide +kernel) ?_
  refine ja_iaddN dX0_countPair_41 ?_
  refine ja_iast (zC_o hx (c := y) (by omega)) rfl (by omega) (by decide) dX0_countPair_42 ?_
  refine ja_num (cmU_bs h2 h1) ?_
  refine ja_vret rfl dX0_countPair_43 (Nat.zero_le _) (Nat.zero_le _) ?_
  exact ⟨rfl, rfl, by rw [cpB_s hne]⟩

theorem c_countPair (l : Launch) {Z : jZ} {D : jD} (hx : zX Z) {s z : Nat → Nat} {b : Nat → Nat → Nat} {x y : Option Nat} (h1 : ∀ a, x = some a → a < 10) (h2 : ∀ a, y = some a → a < 10) :
    ja_M l (mX0_countPair 0 0) [.ref 13, .int (oI x), .int (oI y)] Z (cmU D s z b) (ja_jd none Z (fun D2 => D2 = cmU D s z (cpB b x y))) ja_x0 := by
  cases x with
  | none => rw [cpB_0 (Or.inl rfl)]; exact ja_Mrd (c_countPairN l hx) rfl
  | some x => cases y with
    | none => rw [cpB_0 (Or.inr (Or.inl rfl))]; exact ja_Mrd (c_countPairSN l hx (h1 x rfl)) rfl
    | some y =>
      by_cases e : x = y
      · subst e
        rw [cpB_0 (Or.inr (Or.inr rfl))]; exact ja_Mrd (c_countPairE l hx (h1 x rfl)) rfl
      · exact c_countPairS l hx (h1 x rfl) (h2 y rfl) e
def pq (c : Nat → Option Nat) (i j q s : Nat) : Nat := match nbX s q with
  | none => 0
  | some k => pc2 (c q) (c k) i j
def cnB (b : Nat → Nat → Nat) (c : Nat → Option Nat) (q s : Nat) : Nat → Nat → Nat := fun i j => b i j + fb_sm (fun q => fb_sm (pq c i j q) 2) q + fb_sm (pq c i j q) s
theorem cnB_0 {b : Nat → Nat → Nat} {c : Nat → Option Nat} : b = cnB b c 0 0 := by
  funext i j; rfl
theorem cnB_q {b : Nat → Nat → Nat} {c : Nat → Option Nat} {q : Nat} : cnB b c q 2 = cnB b c (q + 1) 0 := by
  funext i j
  unfold cnB
  rw [fb_sm_succ]
  exact Nat.add_assoc _ _ _
theorem cnB_n {b : Nat → Nat → Nat} {c : Nat → Option Nat} {q s : Nat} (h : nbX s q = none) : cnB b c q s = cnB b c q (s + 1) := by
  funext i j
  unfold cnB
  rw [fb_sm_succ, show pq c i j q s = 0 by rw [pq, h], Nat.add_zero]
theorem cnB_y {b : Nat → Nat → Nat} {c : Nat → Option Nat} {q s k : Nat} (h : nbX s q = some k) : cpB (cnB b c q s) (c q) (c k) = cnB b c q (s + 1) := by
  funext i j
  unfold cpB
  show cnB b c q s i j + _ = _
  unfold cnB
  rw [fb_sm_succ, show pq c i j q s = pc2 (c q) (c k) i j by rw [pq, h]]
  exact Nat.add_assoc _ _ _

set_option maxRecDepth 100000 in
set_option maxHeartbeats 4000000 in
theorem c_countBorders (l : Launch) {Z : jZ} {D : jD} (hx : zX Z) {ly : Nat} (h1 : ly < 3) {s z : Nat → Nat} {b : Nat → Nat → Nat} {c : Nat → Option Nat} (hw : ∀ q a, c q = some a → a < 10) (hc : ∀ q, q < 256 → D (31 + 10 * ly) q = oI (c q)) : ja_M l (mX0_countBorders 0 0) [.ref (13), .ref (30 + 10 * ly)] Z (cmU D s z b) (ja_jd none Z (fun D2 => D2 = cmU D s z (cnB b c 256 0))) ja_x0 := by
  refine ja_Mof (lv := [some (.ref (13)), some (.ref (30 + 10 * ly)), none, none, none]) (by decide +kernel) rfl rfl (Nat.le_of_ble_eq_true rfl) rfl ?_
  refine ja_iconst (v := nI 0) dX0_countBorders_0 (by decide +kernel) ?_
  refine ja_istore_n (i := 2) dX0_countBorders_1 rfl rfl (Nat.le_of_ble_eq_true rfl) ?_
  have lp2 : ∀ (f2 : Nat) (q : Nat) (B : Nat → Nat → Nat), (256 < q + f2) → (q ≤ 256) → (B = cnB b c q 0) → ja_A l (mX0_countBorders 0 0) ja_sn (ja_Qf (mX0_countBorders 0 0) (ja_jd none Z (fun D2 => D2 = cmU D s z (cnB b c 256 0))) ja_x0) 2 [some (.ref (13)), some (.ref (30 + 10 * ly)), some (.int (nI (q))), none, none] [] Z (cmU D s z B) 0 0 := by
    intro f2
    induction f2 with
    | zero => intro q B hf hq hB; exfalso; omega
    | succ f2 ih2 =>
      intro q B hf hq hB
      refine ja_iload_n (i := 2) dX0_countBorders_2 rfl rfl ?_
      refine ja_sipush (v := nI 256) dX0_countBorders_3 (by decide +kernel) ?_
      refine ja_icmpN_ge (tgt := 58) dX0_countBorders_6 (by decide) (by omega) (by omega) (fun c6 => ?_) (fun c6 => ?_)
      ·
        refine ja_vret rfl dX0_countBorders_58 (Nat.zero_le _) (Nat.zero_le _) ?_
        exact ⟨rfl, rfl, by rw [hB, show q = 256 by omega]⟩
      ·
        refine ja_iconst (v := nI 0) dX0_countBorders_9 (by decide +kernel) ?_
        refine ja_istore_n (i := 3) dX0_countBorders_10 rfl rfl (Nat.le_of_ble_eq_true rfl) ?_
        have lp11 : ∀ (f11 : Nat) (s1 : Nat) (B : Nat → Nat → Nat), (2 < s1 + f11) → (s1 ≤ 2) → (B = cnB b c q s1) → ja_A l (mX0_countBorders 0 0) ja_sn (ja_Qf (mX0_countBorders 0 0) (ja_jd none Z (fun D2 => D2 = cmU D s z (cnB b c 256 0))) ja_x0) 11 [some (.ref (13)), some (.ref (30 + 10 * ly)), some (.int (nI (q))), some (.int (nI (s1))), none] [] Z (cmU D s z B) 0 0 := by
          intro f11
          induction f11 with
          | zero => intro s1 B hf hs hB; exfalso; omega
          | succ f11 ih11 =>
            intro s1 B hf hs hB
            refine ja_iload_n (i := 3) dX0_countBorders_11 rfl rfl ?_
            refine ja_iconst (v := nI 2) dX0_countBorders_12 (by decide +kernel) ?_
            refine ja_icmpN_ge (tgt := 52) dX0_countBorders_13 (by decide) (by omega) (by omega) (fun c13 => ?_) (fun c13 => ?_)
            ·
              refine ja_iincN dX0_countBorders_52 rfl rfl (Nat.le_of_ble_eq_true rfl) ?_
              refine ja_goto (tgt := 2) dX0_countBorders_55 (by decide) ?_
              refine ja_forget (i := 3) ?_
              exact ih2 (q + 1) B (by omega) (by omega) (by rw [hB, show s1 = 2 by omega]; exact cnB_q)
            ·
              refine ja_iload_n (i := 2) dX0_countBorders_16 rfl rfl ?_
              refine ja_iload_n (i := 3) dX0_countBorders_17 rfl rfl ?_
              refine ja_cNr (st := []) (c_nb l (q := q) (s := s1) (by omega) (by omega)) rfl rfl (ce_X7_neighbour 0 0) st_X7_neighbour nk_X0_51 ⟨(Nat.le_of_ble_eq_true rfl), (Nat.le_of_ble_eq_true rfl)⟩ dX0_countBorders_18 rfl rfl (Nat.le_of_ble_eq_true rfl) (Nat.zero_le _) (Nat.zero_le _) ?_
              refine ja_istore (i := 4) dX0_countBorders_21 rfl (Nat.le_of_ble_eq_true rfl) ?_
              rcases hnb : nbX s1 q with _ | j
              ·
                refine ja_iload (i := 4) dX0_countBorders_23 rfl ?_
                refine ja_iconst (v := (-1)) dX0_countBorders_25 (by decide +kernel) ?_
                refine ja_icmp_eq (tgt := 46) dX0_countBorders_26 (by decide) (fun c26 => ?_) (fun c26 => absurd rfl c26)
                refine ja_iincN dX0_countBorders_46 rfl rfl (Nat.le_of_ble_eq_true rfl) ?_
                refine ja_goto (tgt := 11) dX0_countBorders_49 (by decide) ?_
                refine ja_forget (i := 4) ?_
                exact ih11 (s1 + 1) B (by omega) (by omega) (by rw [hB]; exact cnB_n hnb)
              ·
                have hj := nbX_lt (by omega) hnb
                refine ja_iload (i := 4) dX0_countBorders_23 rfl ?_
                refine ja_iconst (v := (-1)) dX0_countBorders_25 (by decide +kernel) ?_
                refine ja_icmp_eq (tgt := 46) dX0_countBorders_26 (by decide) (fun c26 => absurd c26 (nI_nm1 (by omega))) (fun c26 => ?_)
                refine ja_aload_n (i := 0) dX0_countBorders_29 rfl rfl ?_
                refine ja_aload_n (i := 1) dX0_countBorders_30 rfl rfl ?_
                refine ja_getR fl_X0_55 (zL_o hx (l := ly) (by omega)) rfl (zL_p0 hx (l := ly) (by omega)) dX0_countBorders_31 ?_
                refine ja_iload_n (i := 2) dX0_countBorders_34 rfl rfl ?_
                refine ja_iald (zL_a0 hx (l := ly) (by omega)) rfl (by omega) (by decide) dX0_countBorders_35 ?_
                refine ja_top (y := oI (c q)) (by rw [cmU_o (by omega) (by omega) (by omega)]; exact hc q (by omega)) ?_
                refine ja_aload_n (i := 1) dX0_countBorders_36 rfl rfl ?_
                refine ja_getR fl_X0_55 (zL_o hx (l := ly) (by omega)) rfl (zL_p0 hx (l := ly) (by omega)) dX0_countBorders_37 ?_
                refine ja_iload (i := 4) dX0_countBorders_40 rfl ?_
                refine ja_iald (zL_a0 hx (l := ly) (by omega)) rfl (by omega) (by decide) dX0_countBorders_42 ?_
                refine ja_top (y := oI (c j)) (by rw [cmU_o (by omega) (by omega) (by omega)]; exact hc j hj) ?_
                refine ja_cVd0 (st := []) (c_countPair (D := D) l hx (x := c q) (y := c j) (hw q) (hw j)) rfl rfl (ce_X0_countPair 0 0) im_X0_countPair se_X0_countPair lk_X0_58 k_X0 (zX_o13 hx) ⟨(Nat.le_of_ble_eq_true rfl), (Nat.le_of_ble_eq_true rfl)⟩ dX0_countBorders_43 rfl rfl (Nat.le_of_ble_eq_true rfl) (Nat.zero_le _) (Nat.zero_le _) ?_
                intro D43 hD43
                subst hD43
                refine ja_iincN dX0_countBorders_46 rfl rfl (Nat.le_of_ble_eq_true rfl) ?_
                refine ja_goto (tgt := 11) dX0_countBorders_49 (by decide) ?_
                refine ja_forget (i := 4) ?_
                exact ih11 (s1 + 1) _ (by omega) (by omega) (by rw [hB]; exact cnB_y hnb)
        exact lp11 3 0 B (by omega) (by omega) hB
  exact lp2 257 0 b (by omega) (by omega) cnB_0

set_option maxRecDepth 100000 in
set_option maxHeartbeats 4000000 in
theorem c_longestBorder (l : Launch) {Z : jZ} {D : jD} (hx : zX Z) {s z : Nat → Nat} {b : Nat → Nat → Nat} (hb : ∀ i j, i < 10 → j < 10 → b i j ≤ 2048) {a : Nat} (ha : a < 10) : ja_M l (mX0_longestBorder 0 0) [.ref (13), .int (nI (a))] Z (cmU D s z b) (ja_jr (some (.int (oI (bM (b a) 10)))) Z (cmU D s z b)) ja_x0 := by
  refine ja_Mof (lv := [some (.ref (13)), some (.int (nI (a))), none, none, none]) (by decide +kernel) rfl rfl (Nat.le_of_ble_eq_true rfl) rfl ?_
  refine ja_iconst (v := (-1)) dX0_longestBorder_0 (by decide +kernel) ?_
  refine ja_istore_n (i := 2) dX0_longestBorder_1 rfl rfl (Nat.le_of_ble_eq_true rfl) ?_
  refine ja_iconst (v := nI 0) dX0_longestBorder_2 (by decide +kernel) ?_
  refine ja_istore_n (i := 3) dX0_longestBorder_3 rfl rfl (Nat.le_of_ble_eq_true rfl) ?_
  refine ja_iconst (v := nI 0) dX0_longestBorder_4 (by decide +kernel) ?_
  refine ja_istore (i := 4) dX0_longestBorder_5 rfl (Nat.le_of_ble_eq_true rfl) ?_
  have lp7 : ∀ (f7 : Nat) (o m : Nat) (r : Option Nat), (10 < o + f7) → (o ≤ 10) → (m ≤ 2048) → (r = bM (b a) o) → (m = bMg (b a) r) → ja_A l (mX0_longestBorder 0 0) ja_sn (ja_Qf (mX0_longestBorder 0 0) (ja_jr (some (.int (oI (bM (b a) 10)))) Z (cmU D s z b)) ja_x0) 7 [some (.ref (13)), some (.int (nI (a))), some (.int (oI r)), some (.int (nI (m))), some (.int (nI (o)))] [] Z (cmU D s z b) 0 0 := by
    intro f7
    induction f7 with
    | zero => intro o m r hf ho hmb hr hm; exfalso; omega
    | succ f7 ih7 =>
      intro o m r hf ho hmb hr hm
      refine ja_iload (i := 4) dX0_longestBorder_7 rfl ?_
      refine ja_bipush (v := nI 10) dX0_longestBorder_9 (by decide +kernel) ?_
      refine ja_icmpN_ge (tgt := 46) dX0_longestBorder_11 (by decide) (by omega) (by omega) (fun c11 => ?_) (fun c11 => ?_)
      ·
        refine ja_iload_n (i := 2) dX0_longestBorder_46 rfl rfl ?_
        refine ja_iret rfl rfl dX0_longestBorder_47 (Nat.zero_le _) (Nat.zero_le _) ?_
        exact ⟨by rw [hr, show o = 10 by omega], rfl, rfl⟩
      ·
        have hb1 := hb a o ha (by omega)
        refine ja_aload_n (i := 0) dX0_longestBorder_14 rfl rfl ?_
        refine ja_getR fl_X0_20 (zX_o13 hx) rfl (zX_p13_2 hx) dX0_longestBorder_15 ?_
        refine ja_iload_n (i := 1) dX0_longestBorder_18 rfl rfl ?_
        refine ja_aald (zX_o16 hx) (by decide) rfl (by omega) (by decide) (zC_e hx (c := a) (by omega)) dX0_longestBorder_19 ?_
        refine ja_iload (i := 4) dX0_longestBorder_20 rfl ?_
        refine ja_iald (zC_o hx (c := a) (by omega)) rfl (by omega) (by decide) dX0_longestBorder_22 ?_
        refine ja_top (y := nI (b a o)) (cmU_b ha (by omega)) ?_
        refine ja_iload_n (i := 3) dX0_longestBorder_23 rfl rfl ?_
        refine ja_icmpN_le (tgt := 40) dX0_longestBorder_24 (by decide) (by omega) (by omega) (fun c24 => ?_) (fun c24 => ?_)
        ·
          refine ja_iincN dX0_longestBorder_40 rfl rfl (Nat.le_of_ble_eq_true rfl) ?_
          refine ja_goto (tgt := 7) dX0_longestBorder_43 (by decide) ?_
          exact ih7 (o + 1) m r (by omega) (by omega) hmb ((bM_step hr hm).2 (by omega)) hm
        ·
          refine ja_iload (i := 4) dX0_longestBorder_27 rfl ?_
          refine ja_istore_n (i := 2) dX0_longestBorder_29 rfl rfl (Nat.le_of_ble_eq_true rfl) ?_
          refine ja_aload_n (i := 0) dX0_longestBorder_30 rfl rfl ?_
          refine ja_getR fl_X0_20 (zX_o13 hx) rfl (zX_p13_2 hx) dX0_longestBorder_31 ?_
          refine ja_iload_n (i := 1) dX0_longestBorder_34 rfl rfl ?_
          refine ja_aald (zX_o16 hx) (by decide) rfl (by omega) (by decide) (zC_e hx (c := a) (by omega)) dX0_longestBorder_35 ?_
          refine ja_iload (i := 4) dX0_longestBorder_36 rfl ?_
          refine ja_iald (zC_o hx (c := a) (by omega)) rfl (by omega) (by decide) dX0_longestBorder_38 ?_
          refine ja_top (y := nI (b a o)) (cmU_b ha (by omega)) ?_
          refine ja_istore_n (i := 3) dX0_longestBorder_39 rfl rfl (Nat.le_of_ble_eq_true rfl) ?_
          refine ja_iincN dX0_longestBorder_40 rfl rfl (Nat.le_of_ble_eq_true rfl) ?_
          refine ja_goto (tgt := 7) dX0_longestBorder_43 (by decide) ?_
          exact ih7 (o + 1) _ (some o) (by omega) (by omega) hb1 ((bM_step hr hm).1 (by omega)) rfl
  exact lp7 11 0 0 none (by omega) (by omega) (by omega) rfl rfl

def smC (z : Nat → Nat) (b : Nat → Nat → Nat) (le a : Nat) : Bool := decide (0 < z a) && decide (z a < le) && (bM (b a) 10).isSome
def smG (z : Nat → Nat) (le : Nat) : Option Nat → Nat
  | none => le
  | some b => z b
theorem smC_t {z : Nat → Nat} {b : Nat → Nat → Nat} {le a : Nat} (h1 : 0 < z a) (h2 : z a < le) (h3 : ¬ oI (bM (b a) 10) = -1) : smC z b le a = true := by
  unfold smC
  rw [decide_eq_true h1, decide_eq_true h2]
  cases hb : bM (b a) 10 with
  | none => rw [hb] at h3; exact absurd rfl h3
  | some x => rfl
theorem smC_f {z : Nat → Nat} {b : Nat → Nat → Nat} {le a : Nat} (h : z a = 0 ∨ le ≤ z a ∨ oI (bM (b a) 10) = -1) : smC z b le a = false := by
  unfold smC
  rcases h with h | h | h
  · rw [decide_eq_false (show ¬ 0 < z a by omega)]; rfl
  · rw [decide_eq_false (show ¬ z a < le by omega), Bool.and_false]; rfl
  · cases hb : bM (b a) 10 with
    | none => rw [Option.isSome_none, Bool.and_false]
    | some x => rw [hb] at h; exact absurd h (nI_nm1 (by have := (bM_lt hb).1; omega))
theorem smG_le {z : Nat → Nat} {b : Nat → Nat → Nat} {le a : Nat} {r : Option Nat} (h : r = cbM (smC z b le) z a) : smG z le r ≤ le := by
  cases r with
  | none => exact Nat.le_refl _
  | some x =>
    have := (cbM_lt h.symm).2
    simp only [smC, Bool.and_eq_true, decide_eq_true_eq] at this
    show z x ≤ le
    omega
theorem smG_y {z : Nat → Nat} {b : Nat → Nat → Nat} {le a : Nat} {r : Option Nat} (h : r = cbM (smC z b le) z a) (h1 : 0 < z a) (h2 : z a < smG z le r) (h3 : ¬ oI (bM (b a) 10) = -1) : some a = cbM (smC z b le) z (a + 1) := by
  have hle := smG_le h
  have hc : smC z b le a = true := smC_t h1 (by omega) h3
  cases r with
  | none => exact (cbM_t0 h.symm hc).symm
  | some x => exact (cbM_t1 h.symm hc h2).symm
theorem smG_n {z : Nat → Nat} {b : Nat → Nat → Nat} {le a : Nat} {r : Option Nat} (h : r = cbM (smC z b le) z a) (h1 : z a = 0 ∨ smG z le r ≤ z a ∨ oI (bM (b a) 10) = -1) : r = cbM (smC z b le) z (a + 1) := by
  rcases h1 with h1 | h1 | h1
  · rw [cbM_n (smC_f (Or.inl h1))]; exact h
  · cases r with
    | none => rw [cbM_n (smC_f (le := le) (Or.inr (Or.inl h1)))]; exact h
    | some x => exact (cbM_t2 h.symm (show ¬ z a < z x by have h1 : z x ≤ z a := h1; omega)).symm
  · rw [cbM_n (smC_f (Or.inr (Or.inr h1)))]; exact h

set_option maxRecDepth 100000 in
set_option maxHeartbeats 4000000 in
theorem c_smallest (l : Launch) {Z : jZ} {D : jD} (hx : zX Z) {s z : Nat → Nat} {b : Nat → Nat → Nat} (hb : ∀ i j, i < 10 → j < 10 → b i j ≤ 2048) (hz : ∀ i, i < 10 → z i ≤ 256) {le : Nat} (hle : le ≤ 256) : ja_M l (mX0_smallest 0 0) [.ref (13), .int (nI (le))] Z (cmU D s z b) (ja_jr (some (.int (oI (cbM (smC z b le) z 10)))) Z (cmU D s z b)) ja_x0 := by
  refine ja_Mof (lv := [some (.ref (13)), some (.int (nI (le))), none, none, none]) (by decide +kernel) rfl rfl (Nat.le_of_ble_eq_true rfl) rfl ?_
  refine ja_iconst (v := (-1)) dX0_smallest_0 (by decide +kernel) ?_
  refine ja_istore_n (i := 2) dX0_smallest_1 rfl rfl (Nat.le_of_ble_eq_true rfl) ?_
  refine ja_iload_n (i := 1) dX0_smallest_2 rfl rfl ?_
  refine ja_istore_n (i := 3) dX0_smallest_3 rfl rfl (Nat.le_of_ble_eq_true rfl) ?_
  refine ja_iconst (v := nI 0) dX0_smallest_4 (by decide +kernel) ?_
  refine ja_istore (i := 4) dX0_smallest_5 rfl (Nat.le_of_ble_eq_true rfl) ?_
  have lp7 : ∀ (f7 : Nat) (a m : Nat) (r : Option Nat), (10 < a + f7) → (a ≤ 10) → (m = smG z le r) → (r = cbM (smC z b le) z a) → ja_A l (mX0_smallest 0 0) ja_sn (ja_Qf (mX0_smallest 0 0) (ja_jr (some (.int (oI (cbM (smC z b le) z 10)))) Z (cmU D s z b)) ja_x0) 7 [some (.ref (13)), some (.int (nI (le))), some (.int (oI r)), some (.int (nI (m))), some (.int (nI (a)))] [] Z (cmU D s z b) 0 0 := by
    intro f7
    induction f7 with
    | zero => intro a m r hf ha hm hr; exfalso; omega
    | succ f7 ih7 =>
      intro a m r hf ha hm hr
      have hmle := smG_le hr
      refine ja_iload (i := 4) dX0_smallest_7 rfl ?_
      refine ja_bipush (v := nI 10) dX0_smallest_9 (by decide +kernel) ?_
      refine ja_icmpN_ge (tgt := 62) dX0_smallest_11 (by decide) (by omega) (by omega) (fun c11 => ?_) (fun c11 => ?_)
      ·
        refine ja_iload_n (i := 2) dX0_smallest_62 rfl rfl ?_
        refine ja_iret rfl rfl dX0_smallest_63 (Nat.zero_le _) (Nat.zero_le _) ?_
        exact ⟨by rw [hr, show a = 10 by omega], rfl, rfl⟩
      ·
        have hz1 := hz a (by omega)
        refine ja_aload_n (i := 0) dX0_smallest_14 rfl rfl ?_
        refine ja_getR fl_X0_15 (zX_o13 hx) rfl (zX_p13_1 hx) dX0_smallest_15 ?_
        refine ja_iload (i := 4) dX0_smallest_18 rfl ?_
        refine ja_iald (zX_o15 hx) rfl (by omega) (by decide) dX0_smallest_20 ?_
        refine ja_top (y := nI (z a)) (cmU_z (by omega)) ?_
        refine ja_ifN_le (tgt := 56) dX0_smallest_21 (by decide) (by omega) (fun c21 => ?_) (fun c21 => ?_)
        ·
          refine ja_iincN dX0_smallest_56 rfl rfl (Nat.le_of_ble_eq_true rfl) ?_
          refine ja_goto (tgt := 7) dX0_smallest_59 (by decide) ?_
          exact ih7 (a + 1) m r (by omega) (by omega) hm (smG_n hr (by first | exact Or.inl (by omega) | exact Or.inr (Or.inl (by omega)) | exact Or.inr (Or.inr c42)))
        ·
          refine ja_aload_n (i := 0) dX0_smallest_24 rfl rfl ?_
          refine ja_getR fl_X0_15 (zX_o13 hx) rfl (zX_p13_1 hx) dX0_smallest_25 ?_
          refine ja_iload (i := 4) dX0_smallest_28 rfl ?_
          refine ja_iald (zX_o15 hx) rfl (by omega) (by decide) dX0_smallest_30 ?_
          refine ja_top (y := nI (z a)) (cmU_z (by omega)) ?_
          refine ja_iload_n (i := 3) dX0_smallest_31 rfl rfl ?_
          refine ja_icmpN_ge (tgt := 56) dX0_smallest_32 (by decide) (by omega) (by omega) (fun c32 => ?_) (fun c32 => ?_)
          ·
            refine ja_iincN dX0_smallest_56 rfl rfl (Nat.le_of_ble_eq_true rfl) ?_
            refine ja_goto (tgt := 7) dX0_smallest_59 (by decide) ?_
            exact ih7 (a + 1) m r (by omega) (by omega) hm (smG_n hr (by first | exact Or.inl (by omega) | exact Or.inr (Or.inl (by omega)) | exact Or.inr (Or.inr c42)))
          ·
            refine ja_aload_n (i := 0) dX0_smallest_35 rfl rfl ?_
            refine ja_iload (i := 4) dX0_smallest_36 rfl ?_
            refine ja_cVr (st := []) (c_longestBorder (D := D) l hx (s := s) (z := z) (b := b) hb (a := a) (by omega)) rfl rfl (ce_X0_longestBorder 0 0) im_X0_longestBorder se_X0_longestBorder lk_X0_44 k_X0 (zX_o13 hx) ⟨(Nat.le_of_ble_eq_true rfl), (Nat.le_of_ble_eq_true rfl)⟩ dX0_smallest_38 rfl rfl (Nat.le_of_ble_eq_true rfl) (Nat.zero_le _) (Nat.zero_le _) ?_
            refine ja_iconst (v := (-1)) dX0_smallest_41 (by decide +kernel) ?_
            refine ja_icmp_eq (tgt := 56) dX0_smallest_42 (by decide) (fun c42 => ?_) (fun c42 => ?_)
            ·
              refine ja_iincN dX0_smallest_56 rfl rfl (Nat.le_of_ble_eq_true rfl) ?_
              refine ja_goto (tgt := 7) dX0_smallest_59 (by decide) ?_
              exact ih7 (a + 1) m r (by omega) (by omega) hm (smG_n hr (by first | exact Or.inl (by omega) | exact Or.inr (Or.inl (by omega)) | exact Or.inr (Or.inr c42)))
            ·
              refine ja_iload (i := 4) dX0_smallest_45 rfl ?_
              refine ja_istore_n (i := 2) dX0_smallest_47 rfl rfl (Nat.le_of_ble_eq_true rfl) ?_
              refine ja_aload_n (i := 0) dX0_smallest_48 rfl rfl ?_
              refine ja_getR fl_X0_15 (zX_o13 hx) rfl (zX_p13_1 hx) dX0_smallest_49 ?_
              refine ja_iload (i := 4) dX0_smallest_52 rfl ?_
              refine ja_iald (zX_o15 hx) rfl (by omega) (by decide) dX0_smallest_54 ?_
              refine ja_top (y := nI (z a)) (cmU_z (by omega)) ?_
              refine ja_istore_n (i := 3) dX0_smallest_55 rfl rfl (Nat.le_of_ble_eq_true rfl) ?_
              refine ja_iincN dX0_smallest_56 rfl rfl (Nat.le_of_ble_eq_true rfl) ?_
              refine ja_goto (tgt := 7) dX0_smallest_59 (by decide) ?_
              exact ih7 (a + 1) _ (some a) (by omega) (by omega) rfl (smG_y hr (by omega) (by omega) c42)
  exact lp7 11 0 le none (by omega) (by omega) rfl rfl

set_option maxRecDepth 100000 in
set_option maxHeartbeats 4000000 in
theorem c_countAreas (l : Launch) {Z : jZ} {D : jD} (hx : zX Z) {s z : Nat → Nat} {b : Nat → Nat → Nat} (hz : ∀ i, i < 10 → z i ≤ 256)  : ja_M l (mX0_countAreas 0 0) [.ref (13)] Z (cmU D s z b) (ja_jr (some (.int (nI (fb_ct (fun a => decide (0 < z a)) 10)))) Z (cmU D s z b)) ja_x0 := by
  refine ja_Mof (lv := [some (.ref (13)), none, none]) (by decide +kernel) rfl rfl (Nat.le_of_ble_eq_true rfl) rfl ?_
  refine ja_iconst (v := nI 0) dX0_countAreas_0 (by decide +kernel) ?_
  refine ja_istore_n (i := 1) dX0_countAreas_1 rfl rfl (Nat.le_of_ble_eq_true rfl) ?_
  refine ja_iconst (v := nI 0) dX0_countAreas_2 (by decide +kernel) ?_
  refine ja_istore_n (i := 2) dX0_countAreas_3 rfl rfl (Nat.le_of_ble_eq_true rfl) ?_
  have lp4 : ∀ (f4 : Nat) (a n : Nat), (10 < a + f4) → (a ≤ 10) → (n = fb_ct (fun a => decide (0 < z a)) a) → ja_A l (mX0_countAreas 0 0) ja_sn (ja_Qf (mX0_countAreas 0 0) (ja_jr (some (.int (nI (fb_ct (fun a => decide (0 < z a)) 10)))) Z (cmU D s z b)) ja_x0) 4 [some (.ref (13)), some (.int (nI (n))), some (.int (nI (a)))] [] Z (cmU D s z b) 0 0 := by
    intro f4
    induction f4 with
    | zero => intro a n hf ha hn; exfalso; omega
    | succ f4 ih4 =>
      intro a n hf ha hn
      refine ja_iload_n (i := 2) dX0_countAreas_4 rfl rfl ?_
      refine ja_bipush (v := nI 10) dX0_countAreas_5 (by decide +kernel) ?_
      refine ja_icmpN_ge (tgt := 28) dX0_countAreas_7 (by decide) (by omega) (by omega) (fun c7 => ?_) (fun c7 => ?_)
      ·
        refine ja_iload_n (i := 1) dX0_countAreas_28 rfl rfl ?_
        refine ja_iret rfl rfl dX0_countAreas_29 (Nat.zero_le _) (Nat.zero_le _) ?_
        exact ⟨by rw [hn, show a = 10 by omega], rfl, rfl⟩
      ·
        have hz1 := hz a (by omega)
        refine ja_aload_n (i := 0) dX0_countAreas_10 rfl rfl ?_
        refine ja_getR fl_X0_15 (zX_o13 hx) rfl (zX_p13_1 hx) dX0_countAreas_11 ?_
        refine ja_iload_n (i := 2) dX0_countAreas_14 rfl rfl ?_
        refine ja_iald (zX_o15 hx) rfl (by omega) (by decide) dX0_countAreas_15 ?_
        refine ja_top (y := nI (z a)) (cmU_z (by omega)) ?_
        refine ja_ifN_le (tgt := 22) dX0_countAreas_16 (by decide) (by omega) (fun c16 => ?_) (fun c16 => ?_)
        ·
          refine ja_iincN dX0_countAreas_22 rfl rfl (Nat.le_of_ble_eq_true rfl) ?_
          refine ja_goto (tgt := 4) dX0_countAreas_25 (by decide) ?_
          exact ih4 (a + 1) _ (by omega) (by omega) (by rw [hn, fb_ct_succ, decide_eq_false (show ¬ 0 < z a by omega)]; rfl)
        ·
          refine ja_iincN dX0_countAreas_19 rfl rfl (Nat.le_of_ble_eq_true rfl) ?_
          refine ja_iincN dX0_countAreas_22 rfl rfl (Nat.le_of_ble_eq_true rfl) ?_
          refine ja_goto (tgt := 4) dX0_countAreas_25 (by decide) ?_
          exact ih4 (a + 1) _ (by omega) (by omega) (by rw [hn, fb_ct_succ, decide_eq_true (show 0 < z a by omega)]; rfl)
  exact lp4 11 0 0 (by omega) (by omega) rfl
