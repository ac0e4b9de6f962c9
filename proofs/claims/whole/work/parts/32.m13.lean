/-! THE REFERENCE: reconcile -/
def toO (x : Int32) : Option Nat := if x = -1 then none else some (nN x)
theorem toO_N {a : Nat} (h : a < 10) : toO (nI a) = some a := by
  rw [toO, if_neg (nI_nm1 (by omega)), nN_nI (by omega)]
theorem toO_n : toO (-1) = none := rfl
theorem gvV_5 {D : jD} {ly : Nat} {to : Option Nat} {cp : Bool} : gvV D ly to cp 105 = D 105 := funext fun _ => gvV_o (by decide) (by decide)
theorem gvR_5 (X : jD) (ly : Nat) (to : Option Nat) (cp : Bool) (b : Nat) : gvR X ly to cp 105 b = if 256 * ly ≤ b ∧ b < 256 * ly + 256 ∧ ¬ X 125 (b - 256 * ly) = 0 then oI to else X 105 b := by
  rw [gvR, zrU_o (by decide), arU, gvV_o (by decide) (by decide), gvV_o (by decide) (by decide)]
  by_cases h : 256 * ly ≤ b ∧ b < 256 * ly + 256 ∧ ¬ X 125 (b - 256 * ly) = 0
  · rw [if_pos h, if_pos ⟨rfl, h⟩]
  · rw [if_neg h, if_neg (fun e => h e.2)]
theorem gvR_o {X : jD} {ly a b : Nat} {to : Option Nat} {cp : Bool} (h1 : ¬ a = 105) (h2 : ¬ a = 106) (h3 : ¬ a = 124) : gvR X ly to cp a b = X a b := by
  rw [gvR, zrU_o h2, arU_o h1, gvV_o h2 h3]
theorem gvR_w {X : jD} {ly : Nat} {to : Option Nat} {cp : Bool} (hw : wfA (X 105)) (ht : ∀ b, to = some b → b < 10) : wfA (gvR X ly to cp 105) := by
  intro k hk
  rw [gvR_5]
  split
  · cases to with
    | none => exact Or.inl rfl
    | some b => exact Or.inr ⟨b, ht b rfl, rfl⟩
  · exact hw k hk
/-- whether reconciling gives a square as the version tells -/
def rcB (D : jD) (v ly : Nat) (sv : Bool) (q : Nat) : Bool := (decide (¬ D 119 (256 * v + q) = 0) && decide (¬ D 121 (256 * v + q) = D 120 (256 * v + q)) && decide (D 105 (256 * ly + q) = D 120 (256 * v + q))) || (sv && cfl D v ly q)
def rcS (D : jD) (v ly : Nat) (sv cp : Bool) (q : Nat) : jD := if rcB D v ly sv q = true then gvR (giU D (fun x => decide (x = q)) 256) ly (toO (D 121 (256 * v + q))) cp else D
def rcC (D : jD) (v ly : Nat) (sv : Bool) (q : Nat) : Nat := if rcB D v ly sv q = true then fb_ct (gvM (giU D (fun x => decide (x = q)) 256) ly (D 121 (256 * v + q))) 256 else 0
def rcE (D : jD) (v ly : Nat) (sv cp : Bool) : Nat → jD
  | 0 => D
  | q + 1 => rcS (rcE D v ly sv cp q) v ly sv cp q
def rcN (D : jD) (v ly : Nat) (sv cp : Bool) : Nat → Nat
  | 0 => 0
  | q + 1 => rcN D v ly sv cp q + rcC (rcE D v ly sv cp q) v ly sv q
theorem rcS_o {D : jD} {v ly a b q : Nat} {sv cp : Bool} (h1 : ¬ a = 105) (h2 : ¬ a = 106) (h3 : ¬ a = 124) (h4 : ¬ a = 125) : rcS D v ly sv cp q a b = D a b := by
  rw [rcS]
  split
  · rw [gvR_o h1 h2 h3, giU_o h4]
  · rfl
theorem rcE_o {D : jD} {v ly a b : Nat} {sv cp : Bool} (h1 : ¬ a = 105) (h2 : ¬ a = 106) (h3 : ¬ a = 124) (h4 : ¬ a = 125) : ∀ {q : Nat}, rcE D v ly sv cp q a b = D a b
  | 0 => rfl
  | q + 1 => (rcS_o h1 h2 h3 h4).trans (rcE_o h1 h2 h3 h4)
def wfV (D : jD) : Prop := ∀ k, k < 768 → D 121 k = -1 ∨ ∃ a, a < 10 ∧ D 121 k = nI a
theorem rcE_w {D : jD} {v ly : Nat} {sv cp : Bool} (hv : v < 3) (hw : wfA (D 105)) (hw2 : wfV D) : ∀ {q : Nat}, q ≤ 256 → wfA (rcE D v ly sv cp q 105)
  | 0, _ => hw
  | q + 1, h => by
    rw [rcE, rcS]
    split
    · refine gvR_w (by rw [giU_5]; exact rcE_w hv hw hw2 (by omega)) (fun b hb => ?_)
      rw [rcE_o (by decide) (by decide) (by decide) (by decide)] at hb
      rcases hw2 (256 * v + q) (by omega) with e | ⟨a, ha, e⟩
      · rw [e, toO_n] at hb
        cases hb
      · rw [e, toO_N ha] at hb
        cases hb
        exact ha
    · exact rcE_w hv hw hw2 (by omega)
def rbU (E : jD) (v ly n : Nat) : jD := fun a b => if (a = 120 ∨ a = 121) ∧ 256 * v ≤ b ∧ b < 256 * v + n then E 105 (256 * ly + (b - 256 * v)) else E a b
theorem rbU_0 {D : jD} {v ly : Nat} : D = rbU D v ly 0 := by
  funext a b
  rw [rbU, if_neg (by omega)]
theorem rbU_o {D : jD} {v ly n a b : Nat} (h : ¬ (a = 120 ∨ a = 121)) : rbU D v ly n a b = D a b := by
  rw [rbU, if_neg (fun e => h e.1)]
theorem rbU_s {D : jD} {v ly q : Nat} {z1 z2 : Int32} (h1 : z1 = D 105 (256 * ly + q)) (h2 : z2 = D 105 (256 * ly + q)) :
    ja_up (ja_up (rbU D v ly q) 120 (256 * v + q) z1) 121 (256 * v + q) z2 = rbU D v ly (q + 1) := by
  subst h1 h2
  funext a b
  simp only [ja_up]
  by_cases e : b = 256 * v + q
  · subst e
    by_cases e1 : a = 121
    · subst e1
      rw [if_pos ⟨rfl, rfl⟩, rbU, if_pos ⟨by omega, by omega, by omega⟩, Nat.add_sub_cancel_left]
    · rw [if_neg (by omega)]
      by_cases e2 : a = 120
      · subst e2
        rw [if_pos ⟨rfl, rfl⟩, rbU, if_pos ⟨by omega, by omega, by omega⟩, Nat.add_sub_cancel_left]
      · rw [if_neg (by omega), rbU_o (by omega), rbU_o (by omega)]
  · rw [if_neg (by omega), if_neg (by omega), rbU, rbU]
    by_cases e1 : (a = 120 ∨ a = 121) ∧ 256 * v ≤ b ∧ b < 256 * v + q
    · rw [if_pos (show (a = 120 ∨ a = 121) ∧ 256 * v ≤ b ∧ b < 256 * v + (q + 1) from ⟨e1.1, e1.2.1, by omega⟩), if_pos e1]
    · rw [if_neg e1, if_neg (by omega)]

set_option maxRecDepth 100000 in
set_option maxHeartbeats 4000000 in
theorem r_reconcile_f1 (l : Launch) {Z : jZ} {D : jD} (hz : zM Z) {vn : Nat} (hvn : D 100 16 = nI vn) (hv3 : vn ≤ 3) {k : Int32} (sd : Int32) (hk : ¬ (0 ≤ k.toInt ∧ k.toInt < vn)) : ja_M l (mX8_reconcile 0 0) [.ref (100), .int (k), .int (sd)] Z D (ja_jd (some (.int (nI 0))) Z (fun D2 => D2 = ja_up D 100 0 (nI 1))) ja_x0 := by
  refine ja_Mof (lv := [some (.ref (100)), some (.int (k)), some (.int (sd)), none, none, none, none, none, none]) (by decide +kernel) rfl rfl (Nat.le_of_ble_eq_true rfl) rfl ?_
  refine ja_aload_n (i := 0) dX8_reconcile_0 rfl rfl ?_
  refine ja_iconst (v := nI 0) dX8_reconcile_1 (by decide +kernel) ?_
  refine ja_putI fl_X8_85 (zM_s hz) rfl rfl rfl dX8_reconcile_2 ?_
  refine ja_aload_n (i := 0) dX8_reconcile_5 rfl rfl ?_
  refine ja_iload_n (i := 1) dX8_reconcile_6 rfl rfl ?_
  refine ja_cVr (st := []) (s_isVersionF (D := (ja_up D 100 0 (nI (0)))) l hz (hvn) (by omega) hk) rfl rfl (ce_X8_isVersion 0 0) im_X8_isVersion se_X8_isVersion lk_X8_154 k_X8 (zM_s hz) ⟨(Nat.le_of_ble_eq_true rfl), (Nat.le_of_ble_eq_true rfl)⟩ dX8_reconcile_7 rfl rfl (Nat.le_of_ble_eq_true rfl) (Nat.zero_le _) (Nat.zero_le _) ?_
  refine ja_ifB_ne (tgt := 19) dX8_reconcile_10 (by decide) (fun c10 => absurd c10 (by decide)) (fun c10 => ?_)
  refine ja_aload_n (i := 0) dX8_reconcile_13 rfl rfl ?_
  refine ja_iconst (v := nI 1) dX8_reconcile_14 (by decide +kernel) ?_
  refine ja_cVd (st := []) (s_fails l hz (nI (1))) rfl rfl (ce_X8_fails 0 0) im_X8_fails se_X8_fails lk_X8_96 k_X8 (zM_s hz) ⟨(Nat.le_of_ble_eq_true rfl), (Nat.le_of_ble_eq_true rfl)⟩ dX8_reconcile_15 rfl rfl (Nat.le_of_ble_eq_true rfl) (Nat.zero_le _) (Nat.zero_le _) ?_
  intro D15 hD15
  subst hD15
  refine ja_num (D2 := ja_up D 100 0 (nI (1))) up_2 ?_
  refine ja_iret rfl rfl dX8_reconcile_18 (Nat.zero_le _) (Nat.zero_le _) ?_
  exact ⟨rfl, rfl, rfl⟩

set_option maxRecDepth 100000 in
set_option maxHeartbeats 4000000 in
theorem r_reconcile_f2 (l : Launch) {Z : jZ} {D : jD} (hz : zM Z) {vn : Nat} (hvn : D 100 16 = nI vn) (hv3 : vn ≤ 3) {v : Nat} (hv : v < vn) {sd : Int32} (hsd : ¬ (sd = nI 118 ∨ sd = nI 108)) : ja_M l (mX8_reconcile 0 0) [.ref (100), .int (nI (v)), .int (sd)] Z D (ja_jd (some (.int (nI 0))) Z (fun D2 => D2 = ja_up D 100 0 (nI 2))) ja_x0 := by
  refine ja_Mof (lv := [some (.ref (100)), some (.int (nI (v))), some (.int (sd)), none, none, none, none, none, none]) (by decide +kernel) rfl rfl (Nat.le_of_ble_eq_true rfl) rfl ?_
  refine ja_aload_n (i := 0) dX8_reconcile_0 rfl rfl ?_
  refine ja_iconst (v := nI 0) dX8_reconcile_1 (by decide +kernel) ?_
  refine ja_putI fl_X8_85 (zM_s hz) rfl rfl rfl dX8_reconcile_2 ?_
  refine ja_aload_n (i := 0) dX8_reconcile_5 rfl rfl ?_
  refine ja_iload_n (i := 1) dX8_reconcile_6 rfl rfl ?_
  refine ja_cVr (st := []) (s_isVersionT (D := (ja_up D 100 0 (nI (0)))) l hz (hvn) (by omega) (by omega)) rfl rfl (ce_X8_isVersion 0 0) im_X8_isVersion se_X8_isVersion lk_X8_154 k_X8 (zM_s hz) ⟨(Nat.le_of_ble_eq_true rfl), (Nat.le_of_ble_eq_true rfl)⟩ dX8_reconcile_7 rfl rfl (Nat.le_of_ble_eq_true rfl) (Nat.zero_le _) (Nat.zero_le _) ?_
  refine ja_ifB_ne (tgt := 19) dX8_reconcile_10 (by decide) (fun c10 => ?_) (fun c10 => absurd c10 (by decide))
  refine ja_iload_n (i := 2) dX8_reconcile_19 rfl rfl ?_
  refine ja_bipush (v := nI 118) dX8_reconcile_20 (by decide +kernel) ?_
  refine ja_icmp_eq (tgt := 37) dX8_reconcile_22 (by decide) (fun c22 => absurd (Or.inl c22) hsd) (fun c22 => ?_)
  refine ja_iload_n (i := 2) dX8_reconcile_25 rfl rfl ?_
  refine ja_bipush (v := nI 108) dX8_reconcile_26 (by decide +kernel) ?_
  refine ja_icmp_eq (tgt := 37) dX8_reconcile_28 (by decide) (fun c28 => absurd (Or.inr c28) hsd) (fun c28 => ?_)
  refine ja_aload_n (i := 0) dX8_reconcile_31 rfl rfl ?_
  refine ja_iconst (v := nI 2) dX8_reconcile_32 (by decide +kernel) ?_
  refine ja_cVd (st := []) (s_fails l hz (nI (2))) rfl rfl (ce_X8_fails 0 0) im_X8_fails se_X8_fails lk_X8_96 k_X8 (zM_s hz) ⟨(Nat.le_of_ble_eq_true rfl), (Nat.le_of_ble_eq_true rfl)⟩ dX8_reconcile_33 rfl rfl (Nat.le_of_ble_eq_true rfl) (Nat.zero_le _) (Nat.zero_le _) ?_
  intro D33 hD33
  subst hD33
  refine ja_num (D2 := ja_up D 100 0 (nI (2))) up_2 ?_
  refine ja_iret rfl rfl dX8_reconcile_36 (Nat.zero_le _) (Nat.zero_le _) ?_
  exact ⟨rfl, rfl, rfl⟩

set_option maxRecDepth 100000 in
set_option maxHeartbeats 4000000 in
theorem r_reconcile_f3t (l : Launch) {Z : jZ} {D : jD} (hz : zM Z) {vn : Nat} (hvn : D 100 16 = nI vn) (hv3 : vn ≤ 3) {v : Nat} (hv : v < vn) (hau : D 100 2 = -1)  : ja_M l (mX8_reconcile 0 0) [.ref (100), .int (nI (v)), .int (nI (118))] Z D (ja_jd (some (.int (nI 0))) Z (fun D2 => D2 = ja_up D 100 0 (nI 3))) ja_x0 := by
  refine ja_Mof (lv := [some (.ref (100)), some (.int (nI (v))), some (.int (nI (118))), none, none, none, none, none, none]) (by decide +kernel) rfl rfl (Nat.le_of_ble_eq_true rfl) rfl ?_
  refine ja_aload_n (i := 0) dX8_reconcile_0 rfl rfl ?_
  refine ja_iconst (v := nI 0) dX8_reconcile_1 (by decide +kernel) ?_
  refine ja_putI fl_X8_85 (zM_s hz) rfl rfl rfl dX8_reconcile_2 ?_
  refine ja_aload_n (i := 0) dX8_reconcile_5 rfl rfl ?_
  refine ja_iload_n (i := 1) dX8_reconcile_6 rfl rfl ?_
  refine ja_cVr (st := []) (s_isVersionT (D := (ja_up D 100 0 (nI (0)))) l hz (hvn) (by omega) (by omega)) rfl rfl (ce_X8_isVersion 0 0) im_X8_isVersion se_X8_isVersion lk_X8_154 k_X8 (zM_s hz) ⟨(Nat.le_of_ble_eq_true rfl), (Nat.le_of_ble_eq_true rfl)⟩ dX8_reconcile_7 rfl rfl (Nat.le_of_ble_eq_true rfl) (Nat.zero_le _) (Nat.zero_le _) ?_
  refine ja_ifB_ne (tgt := 19) dX8_reconcile_10 (by decide) (fun c10 => ?_) (fun c10 => absurd c10 (by decide))
  refine ja_iload_n (i := 2) dX8_reconcile_19 rfl rfl ?_
  refine ja_bipush (v := nI 118) dX8_reconcile_20 (by decide +kernel) ?_
  refine ja_icmpN_eq (tgt := 37) dX8_reconcile_22 (by decide) (by omega) (by omega) (fun c22 => ?_) (fun c22 => absurd c22 (by decide))
  refine ja_aload_n (i := 0) dX8_reconcile_37 rfl rfl ?_
  refine ja_getI fl_X8_9 (zM_s hz) rfl dX8_reconcile_38 ?_
  refine ja_top (y := (-1)) hau ?_
  refine ja_iconst (v := (-1)) dX8_reconcile_41 (by decide +kernel) ?_
  refine ja_icmp_ne (tgt := 51) dX8_reconcile_42 (by decide) (fun c42 => absurd rfl c42) (fun c42 => ?_)
  refine ja_aload_n (i := 0) dX8_reconcile_45 rfl rfl ?_
  refine ja_iconst (v := nI 3) dX8_reconcile_46 (by decide +kernel) ?_
  refine ja_cVd (st := []) (s_fails l hz (nI (3))) rfl rfl (ce_X8_fails 0 0) im_X8_fails se_X8_fails lk_X8_96 k_X8 (zM_s hz) ⟨(Nat.le_of_ble_eq_true rfl), (Nat.le_of_ble_eq_true rfl)⟩ dX8_reconcile_47 rfl rfl (Nat.le_of_ble_eq_true rfl) (Nat.zero_le _) (Nat.zero_le _) ?_
  intro D47 hD47
  subst hD47
  refine ja_num (D2 := ja_up D 100 0 (nI (3))) up_2 ?_
  refine ja_iret rfl rfl dX8_reconcile_50 (Nat.zero_le _) (Nat.zero_le _) ?_
  exact ⟨rfl, rfl, rfl⟩

set_option maxRecDepth 100000 in
set_option maxHeartbeats 4000000 in
theorem r_reconcile_okt (l : Launch) {Z : jZ} {D : jD} (hz : zM Z) {vn : Nat} (hvn : D 100 16 = nI vn) (hv3 : vn ≤ 3) {v : Nat} (hv : v < vn) {ly : Nat} (hly : D 118 v = nI ly) (h1 : ly < 3) (hw : wfA (D 105)) (hw2 : wfV D) {cp : Bool} (hc : D 104 ly = bI cp) {w0 : Nat} (hau : D 100 2 = nI w0) (hw5 : w0 ≤ 5)  : ja_M l (mX8_reconcile 0 0) [.ref (100), .int (nI (v)), .int (nI (118))] Z D (ja_jd (some (.int (nI (rcN (ja_up D 100 0 (nI 0)) v ly true cp 256)))) Z (fun D2 => D2 = (rbU (rcE (ja_up D 100 0 (nI 0)) v ly true cp 256) v ly 256))) ja_x0 := by
  refine ja_Mof (lv := [some (.ref (100)), some (.int (nI (v))), some (.int (nI (118))), none, none, none, none, none, none]) (by decide +kernel) rfl rfl (Nat.le_of_ble_eq_true rfl) rfl ?_
  refine ja_aload_n (i := 0) dX8_reconcile_0 rfl rfl ?_
  refine ja_iconst (v := nI 0) dX8_reconcile_1 (by decide +kernel) ?_
  refine ja_putI fl_X8_85 (zM_s hz) rfl rfl rfl dX8_reconcile_2 ?_
  refine ja_aload_n (i := 0) dX8_reconcile_5 rfl rfl ?_
  refine ja_iload_n (i := 1) dX8_reconcile_6 rfl rfl ?_
  refine ja_cVr (st := []) (s_isVersionT (D := (ja_up D 100 0 (nI (0)))) l hz (hvn) (by omega) (by omega)) rfl rfl (ce_X8_isVersion 0 0) im_X8_isVersion se_X8_isVersion lk_X8_154 k_X8 (zM_s hz) ⟨(Nat.le_of_ble_eq_true rfl), (Nat.le_of_ble_eq_true rfl)⟩ dX8_reconcile_7 rfl rfl (Nat.le_of_ble_eq_true rfl) (Nat.zero_le _) (Nat.zero_le _) ?_
  refine ja_ifB_ne (tgt := 19) dX8_reconcile_10 (by decide) (fun c10 => ?_) (fun c10 => absurd c10 (by decide))
  refine ja_iload_n (i := 2) dX8_reconcile_19 rfl rfl ?_
  refine ja_bipush (v := nI 118) dX8_reconcile_20 (by decide +kernel) ?_
  refine ja_icmpN_eq (tgt := 37) dX8_reconcile_22 (by decide) (by omega) (by omega) (fun c22 => ?_) (fun c22 => absurd c22 (by decide))
  refine ja_aload_n (i := 0) dX8_reconcile_37 rfl rfl ?_
  refine ja_getI fl_X8_9 (zM_s hz) rfl dX8_reconcile_38 ?_
  refine ja_top (y := nI (w0)) hau ?_
  refine ja_iconst (v := (-1)) dX8_reconcile_41 (by decide +kernel) ?_
  refine ja_icmp_ne (tgt := 51) dX8_reconcile_42 (by decide) (fun c42 => ?_) (fun c42 => absurd c42 (nI_nm1 (by omega)))
  refine ja_aload_n (i := 0) dX8_reconcile_51 rfl rfl ?_
  refine ja_getR fl_X8_52 (zM_s hz) rfl (zM_p17 hz) dX8_reconcile_52 ?_
  refine ja_iload_n (i := 1) dX8_reconcile_55 rfl rfl ?_
  refine ja_iald (zM_a17 hz) rfl (by omega) (by decide) dX8_reconcile_56 ?_
  refine ja_top (y := nI (ly)) hly ?_
  refine ja_istore_n (i := 3) dX8_reconcile_57 rfl rfl (Nat.le_of_ble_eq_true rfl) ?_
  refine ja_iconst (v := nI 0) dX8_reconcile_58 (by decide +kernel) ?_
  refine ja_istore (i := 4) dX8_reconcile_59 rfl (Nat.le_of_ble_eq_true rfl) ?_
  refine ja_iconst (v := nI 0) dX8_reconcile_61 (by decide +kernel) ?_
  refine ja_istore (i := 5) dX8_reconcile_62 rfl (Nat.le_of_ble_eq_true rfl) ?_
  have lp64 : ∀ (f64 : Nat) (q n : Nat) (E : jD), (256 < q + f64) → (q ≤ 256) → (n = rcN (ja_up D 100 0 (nI 0)) v ly true cp q) → (E = rcE (ja_up D 100 0 (nI 0)) v ly true cp q) → ja_A l (mX8_reconcile 0 0) ja_sn (ja_Qf (mX8_reconcile 0 0) (ja_jd (some (.int (nI (rcN (ja_up D 100 0 (nI 0)) v ly true cp 256)))) Z (fun D2 => D2 = (rbU (rcE (ja_up D 100 0 (nI 0)) v ly true cp 256) v ly 256))) ja_x0) 64 [some (.ref (100)), some (.int (nI (v))), some (.int (nI (118))), some (.int (nI (ly))), some (.int (nI (n))), some (.int (nI (q))), none, none, none] [] Z E 0 0 := by
    intro f64
    induction f64 with
    | zero => intro q n E hk hq hn hE; exfalso; omega
    | succ f64 ih64 =>
      intro q n E hk hq hn hE
      have hwE : wfA (E 105) := by rw [hE]; exact rcE_w (D := (ja_up D 100 0 (nI 0))) (v := v) (by omega) hw (fun k hk => hw2 k hk) hq
      have hcE : E 104 ly = bI cp := by rw [hE, rcE_o (by decide) (by decide) (by decide) (by decide)]; exact hc
      have hlyE : E 118 v = nI ly := by rw [hE, rcE_o (by decide) (by decide) (by decide) (by decide)]; exact hly
      have hwV : wfV E := fun k hk => by rw [hE, rcE_o (by decide) (by decide) (by decide) (by decide)]; exact hw2 k hk
      refine ja_iload (i := 5) dX8_reconcile_64 rfl ?_
      refine ja_sipush (v := nI 256) dX8_reconcile_66 (by decide +kernel) ?_
      refine ja_icmpN_ge (tgt := 213) dX8_reconcile_69 (by decide) (by omega) (by omega) (fun c69 => ?_) (fun c69 => ?_)
      ·
        refine ja_iconst (v := nI 0) dX8_reconcile_213 (by decide +kernel) ?_
        refine ja_istore (i := 5) dX8_reconcile_214 rfl (Nat.le_of_ble_eq_true rfl) ?_
        have lp216 : ∀ (f216 : Nat) (q2 : Nat) (E2 : jD), (256 < q2 + f216) → (q2 ≤ 256) → (E2 = rbU (rcE (ja_up D 100 0 (nI 0)) v ly true cp 256) v ly q2) → ja_A l (mX8_reconcile 0 0) ja_sn (ja_Qf (mX8_reconcile 0 0) (ja_jd (some (.int (nI (rcN (ja_up D 100 0 (nI 0)) v ly true cp 256)))) Z (fun D2 => D2 = (rbU (rcE (ja_up D 100 0 (nI 0)) v ly true cp 256) v ly 256))) ja_x0) 216 [some (.ref (100)), some (.int (nI (v))), some (.int (nI (118))), some (.int (nI (ly))), some (.int (nI (n))), some (.int (nI (q2))), none, none, none] [] Z E2 0 0 := by
          intro f216
          induction f216 with
          | zero => intro q2 E2 hk2 hq2 hE2; exfalso; omega
          | succ f216 ih216 =>
            intro q2 E2 hk2 hq2 hE2
            refine ja_iload (i := 5) dX8_reconcile_216 rfl ?_
            refine ja_sipush (v := nI 256) dX8_reconcile_218 (by decide +kernel) ?_
            refine ja_icmpN_ge (tgt := 270) dX8_reconcile_221 (by decide) (by omega) (by omega) (fun c221 => ?_) (fun c221 => ?_)
            ·
              refine ja_iload (i := 4) dX8_reconcile_270 rfl ?_
              refine ja_iret rfl rfl dX8_reconcile_272 (Nat.zero_le _) (Nat.zero_le _) ?_
              exact ⟨by rw [hn, show q = 256 by omega], rfl, by rw [hE2, show q2 = 256 by omega]⟩
            ·
              refine ja_aload_n (i := 0) dX8_reconcile_224 rfl rfl ?_
              refine ja_getR fl_X8_58 (zM_s hz) rfl (zM_p19 hz) dX8_reconcile_225 ?_
              refine ja_sipush (v := nI 256) dX8_reconcile_228 (by decide +kernel) ?_
              refine ja_iload_n (i := 1) dX8_reconcile_231 rfl rfl ?_
              refine ja_imulN dX8_reconcile_232 ?_
              refine ja_iload (i := 5) dX8_reconcile_233 rfl ?_
              refine ja_iaddN dX8_reconcile_235 ?_
              refine ja_aload_n (i := 0) dX8_reconcile_236 rfl rfl ?_
              refine ja_iload_n (i := 3) dX8_reconcile_237 rfl rfl ?_
              refine ja_iload (i := 5) dX8_reconcile_238 rfl ?_
              refine ja_cVr (st := [.int (nI ((256 * v) + (q2))), .ref (120)]) (s_at (D := E2) l hz (ly := ly) (q := q2) (by omega) (by omega)) rfl rfl (ce_X8_at 0 0) im_X8_at se_X8_at lk_X8_92 k_X8 (zM_s hz) ⟨(Nat.le_of_ble_eq_true rfl), (Nat.le_of_ble_eq_true rfl)⟩ dX8_reconcile_240 rfl rfl (Nat.le_of_ble_eq_true rfl) (Nat.zero_le _) (Nat.zero_le _) ?_
              refine ja_iast (zM_a19 hz) rfl (by omega) (by decide) dX8_reconcile_243 ?_
              refine ja_aload_n (i := 0) dX8_reconcile_244 rfl rfl ?_
              refine ja_getR fl_X8_61 (zM_s hz) rfl (zM_p20 hz) dX8_reconcile_245 ?_
              refine ja_sipush (v := nI 256) dX8_reconcile_248 (by decide +kernel) ?_
              refine ja_iload_n (i := 1) dX8_reconcile_251 rfl rfl ?_
              refine ja_imulN dX8_reconcile_252 ?_
              refine ja_iload (i := 5) dX8_reconcile_253 rfl ?_
              refine ja_iaddN dX8_reconcile_255 ?_
              refine ja_aload_n (i := 0) dX8_reconcile_256 rfl rfl ?_
              refine ja_iload_n (i := 3) dX8_reconcile_257 rfl rfl ?_
              refine ja_iload (i := 5) dX8_reconcile_258 rfl ?_
              refine ja_cVr (st := [.int (nI ((256 * v) + (q2))), .ref (121)]) (s_at (D := (ja_up E2 120 ((256 * v) + (q2)) (E2 105 (256 * ly + q2)))) l hz (ly := ly) (q := q2) (by omega) (by omega)) rfl rfl (ce_X8_at 0 0) im_X8_at se_X8_at lk_X8_92 k_X8 (zM_s hz) ⟨(Nat.le_of_ble_eq_true rfl), (Nat.le_of_ble_eq_true rfl)⟩ dX8_reconcile_260 rfl rfl (Nat.le_of_ble_eq_true rfl) (Nat.zero_le _) (Nat.zero_le _) ?_
              refine ja_iast (zM_a20 hz) rfl (by omega) (by decide) dX8_reconcile_263 ?_
              refine ja_iincN dX8_reconcile_264 rfl rfl (Nat.le_of_ble_eq_true rfl) ?_
              refine ja_goto (tgt := 216) dX8_reconcile_267 (by decide) ?_
              exact ih216 (q2 + 1) _ (by omega) (by omega) (by rw [hE2]; exact rbU_s (by rw [rbU_o (by decide)]) (by rw [up_o (by decide), rbU_o (by decide)]))
        exact lp216 257 0 E (by omega) (by omega) (by rw [hE, show q = 256 by omega]; exact rbU_0)
      ·
        refine ja_sipush (v := nI 256) dX8_reconcile_72 (by decide +kernel) ?_
        refine ja_iload_n (i := 1) dX8_reconcile_75 rfl rfl ?_
        refine ja_imulN dX8_reconcile_76 ?_
        refine ja_iload (i := 5) dX8_reconcile_77 rfl ?_
        refine ja_iaddN dX8_reconcile_79 ?_
        refine ja_istore (i := 6) dX8_reconcile_80 rfl (Nat.le_of_ble_eq_true rfl) ?_
        refine ja_aload_n (i := 0) dX8_reconcile_82 rfl rfl ?_
        refine ja_getR fl_X8_55 (zM_s hz) rfl (zM_p18 hz) dX8_reconcile_83 ?_
        refine ja_iload (i := 6) dX8_reconcile_86 rfl ?_
        refine ja_zald (zM_a18 hz) rfl (by omega) (by decide) dX8_reconcile_88 ?_
        refine ja_if_eq (tgt := 130) dX8_reconcile_89 (by decide) (fun c89 => ?_) (fun c89 => ?_)
        ·
          refine ja_iconst (v := nI 0) dX8_reconcile_130 (by decide +kernel) ?_
          refine ja_istore (i := 7) dX8_reconcile_131 rfl (Nat.le_of_ble_eq_true rfl) ?_
          refine ja_iload (i := 7) dX8_reconcile_133 rfl ?_
          refine ja_ifN_ne (tgt := 154) dX8_reconcile_135 (by decide) (by omega) (fun c135 => absurd c135 (by decide)) (fun c135 => ?_)
          refine ja_iload_n (i := 2) dX8_reconcile_138 rfl rfl ?_
          refine ja_bipush (v := nI 118) dX8_reconcile_139 (by decide +kernel) ?_
          refine ja_icmpN_ne (tgt := 207) dX8_reconcile_141 (by decide) (by omega) (by omega) (fun c141 => absurd c141 (by decide)) (fun c141 => ?_)
          refine ja_aload_n (i := 0) dX8_reconcile_144 rfl rfl ?_
          refine ja_iload_n (i := 1) dX8_reconcile_145 rfl rfl ?_
          refine ja_iload (i := 5) dX8_reconcile_146 rfl ?_
          refine ja_cVr (st := []) (s_isConflict (D := E) l hz (v := v) (ly := ly) (q := q) (by omega) hlyE h1 (by omega)) rfl rfl (ce_X8_isConflict 0 0) im_X8_isConflict se_X8_isConflict lk_X8_157 k_X8 (zM_s hz) ⟨(Nat.le_of_ble_eq_true rfl), (Nat.le_of_ble_eq_true rfl)⟩ dX8_reconcile_148 rfl rfl (Nat.le_of_ble_eq_true rfl) (Nat.zero_le _) (Nat.zero_le _) ?_
          refine ja_ifB_eq (tgt := 207) dX8_reconcile_151 (by decide) (fun c151 => ?_) (fun c151 => ?_)
          ·
            refine ja_iincN dX8_reconcile_207 rfl rfl (Nat.le_of_ble_eq_true rfl) ?_
            refine ja_goto (tgt := 64) dX8_reconcile_210 (by decide) ?_
            refine ja_forget (i := 6) ?_
            refine ja_forget (i := 7) ?_
            exact ih64 (q + 1) n E (by omega) (by omega) (by rw [rcN, ← hE, rcC, if_neg (by rw [(show rcB E v ly true q = false by first | (rw [rcB, cfl]; simp_all; done) | (rw [rcB, c151]; simp_all; done))]; decide)]; exact hn) (by rw [rcE, ← hE, rcS, if_neg (by rw [(show rcB E v ly true q = false by first | (rw [rcB, cfl]; simp_all; done) | (rw [rcB, c151]; simp_all; done))]; decide)])
          ·
            refine ja_iconst (v := nI 0) dX8_reconcile_154 (by decide +kernel) ?_
            refine ja_istore (i := 8) dX8_reconcile_155 rfl (Nat.le_of_ble_eq_true rfl) ?_
            refine ja_forget (i := 7) ?_
            have lp157 : ∀ (f157 : Nat) (x : Nat) (F : jD), (256 < x + f157) → (x ≤ 256) → (F = giU E (fun x => decide (x = q)) x) → ja_A l (mX8_reconcile 0 0) ja_sn (ja_Qf (mX8_reconcile 0 0) (ja_jd (some (.int (nI (rcN (ja_up D 100 0 (nI 0)) v ly true cp 256)))) Z (fun D2 => D2 = (rbU (rcE (ja_up D 100 0 (nI 0)) v ly true cp 256) v ly 256))) ja_x0) 157 [some (.ref (100)), some (.int (nI (v))), some (.int (nI (118))), some (.int (nI (ly))), some (.int (nI (n))), some (.int (nI (q))), some (.int (nI (256 * v + q))), none, some (.int (nI (x)))] [] Z F 0 0 := by
              intro f157
              induction f157 with
              | zero => intro x F hx hx2 hF; exfalso; omega
              | succ f157 ih157 =>
                intro x F hx hx2 hF
                refine ja_iload (i := 8) dX8_reconcile_157 rfl ?_
                refine ja_sipush (v := nI 256) dX8_reconcile_159 (by decide +kernel) ?_
                refine ja_icmpN_ge (tgt := 190) dX8_reconcile_162 (by decide) (by omega) (by omega) (fun c162 => ?_) (fun c162 => ?_)
                ·
                  refine ja_num (D2 := (giU E (fun x => decide (x = q)) 256)) (by rw [hF, show x = 256 by omega]) ?_
                  refine ja_iload (i := 4) dX8_reconcile_190 rfl ?_
                  refine ja_aload_n (i := 0) dX8_reconcile_192 rfl rfl ?_
                  refine ja_iload_n (i := 3) dX8_reconcile_193 rfl rfl ?_
                  refine ja_aload_n (i := 0) dX8_reconcile_194 rfl rfl ?_
                  refine ja_getR fl_X8_61 (zM_s hz) rfl (zM_p20 hz) dX8_reconcile_195 ?_
                  refine ja_iload (i := 6) dX8_reconcile_198 rfl ?_
                  refine ja_iald (zM_a20 hz) rfl (by omega) (by decide) dX8_reconcile_200 ?_
                  rcases hwV (256 * v + q) (by omega) with hf | ⟨a, ha, hf⟩
                  ·
                    refine ja_top (y := (-1)) ((giU_o (by decide)).trans hf) ?_
                    refine ja_cVd (st := [.int (nI (n))]) (s_gives_none l (D := (giU E (fun x => decide (x = q)) 256)) hz (by rw [giU_5]; exact hwE) (ly := ly) h1 (cp := cp) ((giU_o (by decide)).trans hcE)) rfl rfl (ce_X8_gives 0 0) im_X8_gives se_X8_gives lk_X8_117 k_X8 (zM_s hz) ⟨(Nat.le_of_ble_eq_true rfl), (Nat.le_of_ble_eq_true rfl)⟩ dX8_reconcile_201 rfl rfl (Nat.le_of_ble_eq_true rfl) (Nat.zero_le _) (Nat.zero_le _) ?_
                    intro D201 hD201
                    subst hD201
                    refine ja_iaddN dX8_reconcile_204 ?_
                    refine ja_istore (i := 4) dX8_reconcile_205 rfl (Nat.le_of_ble_eq_true rfl) ?_
                    refine ja_iincN dX8_reconcile_207 rfl rfl (Nat.le_of_ble_eq_true rfl) ?_
                    refine ja_goto (tgt := 64) dX8_reconcile_210 (by decide) ?_
                    refine ja_forget (i := 6) ?_
                    refine ja_forget (i := 8) ?_
                    exact ih64 (q + 1) _ _ (by omega) (by omega) (by rw [rcN, ← hE, rcC, if_pos (show rcB E v ly true q = true by first | (rw [rcB]; simp_all; done) | (rw [rcB, c151]; simp; done)), hf, ← hn]) (by rw [rcE, ← hE, rcS, if_pos (show rcB E v ly true q = true by first | (rw [rcB]; simp_all; done) | (rw [rcB, c151]; simp; done)), hf]; first | rw [toO_N ha] | rw [toO_n])
                  ·
                    refine ja_top (y := nI (a)) ((giU_o (by decide)).trans hf) ?_
                    refine ja_cVd (st := [.int (nI (n))]) (s_gives_some l (D := (giU E (fun x => decide (x = q)) 256)) hz (by rw [giU_5]; exact hwE) (ly := ly) h1 ha (cp := cp) ((giU_o (by decide)).trans hcE)) rfl rfl (ce_X8_gives 0 0) im_X8_gives se_X8_gives lk_X8_117 k_X8 (zM_s hz) ⟨(Nat.le_of_ble_eq_true rfl), (Nat.le_of_ble_eq_true rfl)⟩ dX8_reconcile_201 rfl rfl (Nat.le_of_ble_eq_true rfl) (Nat.zero_le _) (Nat.zero_le _) ?_
                    intro D201 hD201
                    subst hD201
                    refine ja_iaddN dX8_reconcile_204 ?_
                    refine ja_istore (i := 4) dX8_reconcile_205 rfl (Nat.le_of_ble_eq_true rfl) ?_
                    refine ja_iincN dX8_reconcile_207 rfl rfl (Nat.le_of_ble_eq_true rfl) ?_
                    refine ja_goto (tgt := 64) dX8_reconcile_210 (by decide) ?_
                    refine ja_forget (i := 6) ?_
                    refine ja_forget (i := 8) ?_
                    exact ih64 (q + 1) _ _ (by omega) (by omega) (by rw [rcN, ← hE, rcC, if_pos (show rcB E v ly true q = true by first | (rw [rcB]; simp_all; done) | (rw [rcB, c151]; simp; done)), hf, ← hn]) (by rw [rcE, ← hE, rcS, if_pos (show rcB E v ly true q = true by first | (rw [rcB]; simp_all; done) | (rw [rcB, c151]; simp; done)), hf]; first | rw [toO_N ha] | rw [toO_n])
                ·
                  refine ja_aload_n (i := 0) dX8_reconcile_165 rfl rfl ?_
                  refine ja_getR fl_X8_73 (zM_s hz) rfl (zM_p24 hz) dX8_reconcile_166 ?_
                  refine ja_iload (i := 8) dX8_reconcile_169 rfl ?_
                  refine ja_iload (i := 8) dX8_reconcile_171 rfl ?_
                  refine ja_iload (i := 5) dX8_reconcile_173 rfl ?_
                  refine ja_icmpN_ne (tgt := 182) dX8_reconcile_175 (by decide) (by omega) (by omega) (fun c175 => ?_) (fun c175 => ?_)
                  ·
                    refine ja_iconst (v := nI 0) dX8_reconcile_182 (by decide +kernel) ?_
                    refine ja_zast (zM_a24 hz) rfl (by omega) (by decide) (by decide +kernel) dX8_reconcile_183 ?_
                    refine ja_iincN dX8_reconcile_184 rfl rfl (Nat.le_of_ble_eq_true rfl) ?_
                    refine ja_goto (tgt := 157) dX8_reconcile_187 (by decide) ?_
                    exact ih157 (x + 1) _ (by omega) (by omega) (by rw [hF]; exact giU_s (by simp [c175]; try rfl))
                  ·
                    refine ja_iconst (v := nI 1) dX8_reconcile_178 (by decide +kernel) ?_
                    refine ja_goto (tgt := 183) dX8_reconcile_179 (by decide) ?_
                    refine ja_zast (zM_a24 hz) rfl (by omega) (by decide) (by decide +kernel) dX8_reconcile_183 ?_
                    refine ja_iincN dX8_reconcile_184 rfl rfl (Nat.le_of_ble_eq_true rfl) ?_
                    refine ja_goto (tgt := 157) dX8_reconcile_187 (by decide) ?_
                    exact ih157 (x + 1) _ (by omega) (by omega) (by rw [hF]; exact giU_s (by simp [c175]; try rfl))
            exact lp157 257 0 E (by omega) (by omega) giU_0
        ·
          refine ja_aload_n (i := 0) dX8_reconcile_92 rfl rfl ?_
          refine ja_getR fl_X8_61 (zM_s hz) rfl (zM_p20 hz) dX8_reconcile_93 ?_
          refine ja_iload (i := 6) dX8_reconcile_96 rfl ?_
          refine ja_iald (zM_a20 hz) rfl (by omega) (by decide) dX8_reconcile_98 ?_
          refine ja_aload_n (i := 0) dX8_reconcile_99 rfl rfl ?_
          refine ja_getR fl_X8_58 (zM_s hz) rfl (zM_p19 hz) dX8_reconcile_100 ?_
          refine ja_iload (i := 6) dX8_reconcile_103 rfl ?_
          refine ja_iald (zM_a19 hz) rfl (by omega) (by decide) dX8_reconcile_105 ?_
          refine ja_icmp_eq (tgt := 130) dX8_reconcile_106 (by decide) (fun c106 => ?_) (fun c106 => ?_)
          ·
            refine ja_iconst (v := nI 0) dX8_reconcile_130 (by decide +kernel) ?_
            refine ja_istore (i := 7) dX8_reconcile_131 rfl (Nat.le_of_ble_eq_true rfl) ?_
            refine ja_iload (i := 7) dX8_reconcile_133 rfl ?_
            refine ja_ifN_ne (tgt := 154) dX8_reconcile_135 (by decide) (by omega) (fun c135 => absurd c135 (by decide)) (fun c135 => ?_)
            refine ja_iload_n (i := 2) dX8_reconcile_138 rfl rfl ?_
            refine ja_bipush (v := nI 118) dX8_reconcile_139 (by decide +kernel) ?_
            refine ja_icmpN_ne (tgt := 207) dX8_reconcile_141 (by decide) (by omega) (by omega) (fun c141 => absurd c141 (by decide)) (fun c141 => ?_)
            refine ja_aload_n (i := 0) dX8_reconcile_144 rfl rfl ?_
            refine ja_iload_n (i := 1) dX8_reconcile_145 rfl rfl ?_
            refine ja_iload (i := 5) dX8_reconcile_146 rfl ?_
            refine ja_cVr (st := []) (s_isConflict (D := E) l hz (v := v) (ly := ly) (q := q) (by omega) hlyE h1 (by omega)) rfl rfl (ce_X8_isConflict 0 0) im_X8_isConflict se_X8_isConflict lk_X8_157 k_X8 (zM_s hz) ⟨(Nat.le_of_ble_eq_true rfl), (Nat.le_of_ble_eq_true rfl)⟩ dX8_reconcile_148 rfl rfl (Nat.le_of_ble_eq_true rfl) (Nat.zero_le _) (Nat.zero_le _) ?_
            refine ja_ifB_eq (tgt := 207) dX8_reconcile_151 (by decide) (fun c151 => ?_) (fun c151 => ?_)
            ·
              refine ja_iincN dX8_reconcile_207 rfl rfl (Nat.le_of_ble_eq_true rfl) ?_
              refine ja_goto (tgt := 64) dX8_reconcile_210 (by decide) ?_
              refine ja_forget (i := 6) ?_
              refine ja_forget (i := 7) ?_
              exact ih64 (q + 1) n E (by omega) (by omega) (by rw [rcN, ← hE, rcC, if_neg (by rw [(show rcB E v ly true q = false by first | (rw [rcB, cfl]; simp_all; done) | (rw [rcB, c151]; simp_all; done))]; decide)]; exact hn) (by rw [rcE, ← hE, rcS, if_neg (by rw [(show rcB E v ly true q = false by first | (rw [rcB, cfl]; simp_all; done) | (rw [rcB, c151]; simp_all; done))]; decide)])
            ·
              refine ja_iconst (v := nI 0) dX8_reconcile_154 (by decide +kernel) ?_
              refine ja_istore (i := 8) dX8_reconcile_155 rfl (Nat.le_of_ble_eq_true rfl) ?_
              refine ja_forget (i := 7) ?_
              have lp157 : ∀ (f157 : Nat) (x : Nat) (F : jD), (256 < x + f157) → (x ≤ 256) → (F = giU E (fun x => decide (x = q)) x) → ja_A l (mX8_reconcile 0 0) ja_sn (ja_Qf (mX8_reconcile 0 0) (ja_jd (some (.int (nI (rcN (ja_up D 100 0 (nI 0)) v ly true cp 256)))) Z (fun D2 => D2 = (rbU (rcE (ja_up D 100 0 (nI 0)) v ly true cp 256) v ly 256))) ja_x0) 157 [some (.ref (100)), some (.int (nI (v))), some (.int (nI (118))), some (.int (nI (ly))), some (.int (nI (n))), some (.int (nI (q))), some (.int (nI (256 * v + q))), none, some (.int (nI (x)))] [] Z F 0 0 := by
                intro f157
                induction f157 with
                | zero => intro x F hx hx2 hF; exfalso; omega
                | succ f157 ih157 =>
                  intro x F hx hx2 hF
                  refine ja_iload (i := 8) dX8_reconcile_157 rfl ?_
                  refine ja_sipush (v := nI 256) dX8_reconcile_159 (by decide +kernel) ?_
                  refine ja_icmpN_ge (tgt := 190) dX8_reconcile_162 (by decide) (by omega) (by omega) (fun c162 => ?_) (fun c162 => ?_)
                  ·
                    refine ja_num (D2 := (giU E (fun x => decide (x = q)) 256)) (by rw [hF, show x = 256 by omega]) ?_
                    refine ja_iload (i := 4) dX8_reconcile_190 rfl ?_
                    refine ja_aload_n (i := 0) dX8_reconcile_192 rfl rfl ?_
                    refine ja_iload_n (i := 3) dX8_reconcile_193 rfl rfl ?_
                    refine ja_aload_n (i := 0) dX8_reconcile_194 rfl rfl ?_
                    refine ja_getR fl_X8_61 (zM_s hz) rfl (zM_p20 hz) dX8_reconcile_195 ?_
                    refine ja_iload (i := 6) dX8_reconcile_198 rfl ?_
                    refine ja_iald (zM_a20 hz) rfl (by omega) (by decide) dX8_reconcile_200 ?_
                    rcases hwV (256 * v + q) (by omega) with hf | ⟨a, ha, hf⟩
                    ·
                      refine ja_top (y := (-1)) ((giU_o (by decide)).trans hf) ?_
                      refine ja_cVd (st := [.int (nI (n))]) (s_gives_none l (D := (giU E (fun x => decide (x = q)) 256)) hz (by rw [giU_5]; exact hwE) (ly := ly) h1 (cp := cp) ((giU_o (by decide)).trans hcE)) rfl rfl (ce_X8_gives 0 0) im_X8_gives se_X8_gives lk_X8_117 k_X8 (zM_s hz) ⟨(Nat.le_of_ble_eq_true rfl), (Nat.le_of_ble_eq_true rfl)⟩ dX8_reconcile_201 rfl rfl (Nat.le_of_ble_eq_true rfl) (Nat.zero_le _) (Nat.zero_le _) ?_
                      intro D201 hD201
                      subst hD201
                      refine ja_iaddN dX8_reconcile_204 ?_
                      refine ja_istore (i := 4) dX8_reconcile_205 rfl (Nat.le_of_ble_eq_true rfl) ?_
                      refine ja_iincN dX8_reconcile_207 rfl rfl (Nat.le_of_ble_eq_true rfl) ?_
                      refine ja_goto (tgt := 64) dX8_reconcile_210 (by decide) ?_
                      refine ja_forget (i := 6) ?_
                      refine ja_forget (i := 8) ?_
                      exact ih64 (q + 1) _ _ (by omega) (by omega) (by rw [rcN, ← hE, rcC, if_pos (show rcB E v ly true q = true by first | (rw [rcB]; simp_all; done) | (rw [rcB, c151]; simp; done)), hf, ← hn]) (by rw [rcE, ← hE, rcS, if_pos (show rcB E v ly true q = true by first | (rw [rcB]; simp_all; done) | (rw [rcB, c151]; simp; done)), hf]; first | rw [toO_N ha] | rw [toO_n])
                    ·
                      refine ja_top (y := nI (a)) ((giU_o (by decide)).trans hf) ?_
                      refine ja_cVd (st := [.int (nI (n))]) (s_gives_some l (D := (giU E (fun x => decide (x = q)) 256)) hz (by rw [giU_5]; exact hwE) (ly := ly) h1 ha (cp := cp) ((giU_o (by decide)).trans hcE)) rfl rfl (ce_X8_gives 0 0) im_X8_gives se_X8_gives lk_X8_117 k_X8 (zM_s hz) ⟨(Nat.le_of_ble_eq_true rfl), (Nat.le_of_ble_eq_true rfl)⟩ dX8_reconcile_201 rfl rfl (Nat.le_of_ble_eq_true rfl) (Nat.zero_le _) (Nat.zero_le _) ?_
                      intro D201 hD201
                      subst hD201
                      refine ja_iaddN dX8_reconcile_204 ?_
                      refine ja_istore (i := 4) dX8_reconcile_205 rfl (Nat.le_of_ble_eq_true rfl) ?_
                      refine ja_iincN dX8_reconcile_207 rfl rfl (Nat.le_of_ble_eq_true rfl) ?_
                      refine ja_goto (tgt := 64) dX8_reconcile_210 (by decide) ?_
                      refine ja_forget (i := 6) ?_
                      refine ja_forget (i := 8) ?_
                      exact ih64 (q + 1) _ _ (by omega) (by omega) (by rw [rcN, ← hE, rcC, if_pos (show rcB E v ly true q = true by first | (rw [rcB]; simp_all; done) | (rw [rcB, c151]; simp; done)), hf, ← hn]) (by rw [rcE, ← hE, rcS, if_pos (show rcB E v ly true q = true by first | (rw [rcB]; simp_all; done) | (rw [rcB, c151]; simp; done)), hf]; first | rw [toO_N ha] | rw [toO_n])
                  ·
                    refine ja_aload_n (i := 0) dX8_reconcile_165 rfl rfl ?_
                    refine ja_getR fl_X8_73 (zM_s hz) rfl (zM_p24 hz) dX8_reconcile_166 ?_
                    refine ja_iload (i := 8) dX8_reconcile_169 rfl ?_
                    refine ja_iload (i := 8) dX8_reconcile_171 rfl ?_
                    refine ja_iload (i := 5) dX8_reconcile_173 rfl ?_
                    refine ja_icmpN_ne (tgt := 182) dX8_reconcile_175 (by decide) (by omega) (by omega) (fun c175 => ?_) (fun c175 => ?_)
                    ·
                      refine ja_iconst (v := nI 0) dX8_reconcile_182 (by decide +kernel) ?_
                      refine ja_zast (zM_a24 hz) rfl (by omega) (by decide) (by decide +kernel) dX8_reconcile_183 ?_
                      refine ja_iincN dX8_reconcile_184 rfl rfl (Nat.le_of_ble_eq_true rfl) ?_
                      refine ja_goto (tgt := 157) dX8_reconcile_187 (by decide) ?_
                      exact ih157 (x + 1) _ (by omega) (by omega) (by rw [hF]; exact giU_s (by simp [c175]; try rfl))
                    ·
                      refine ja_iconst (v := nI 1) dX8_reconcile_178 (by decide +kernel) ?_
                      refine ja_goto (tgt := 183) dX8_reconcile_179 (by decide) ?_
                      refine ja_zast (zM_a24 hz) rfl (by omega) (by decide) (by decide +kernel) dX8_reconcile_183 ?_
                      refine ja_iincN dX8_reconcile_184 rfl rfl (Nat.le_of_ble_eq_true rfl) ?_
                      refine ja_goto (tgt := 157) dX8_reconcile_187 (by decide) ?_
                      exact ih157 (x + 1) _ (by omega) (by omega) (by rw [hF]; exact giU_s (by simp [c175]; try rfl))
              exact lp157 257 0 E (by omega) (by omega) giU_0
          ·
            refine ja_aload_n (i := 0) dX8_reconcile_109 rfl rfl ?_
            refine ja_iload_n (i := 3) dX8_reconcile_110 rfl rfl ?_
            refine ja_iload (i := 5) dX8_reconcile_111 rfl ?_
            refine ja_cVr (st := []) (s_at (D := E) l hz (ly := ly) (q := q) (by omega) (by omega)) rfl rfl (ce_X8_at 0 0) im_X8_at se_X8_at lk_X8_92 k_X8 (zM_s hz) ⟨(Nat.le_of_ble_eq_true rfl), (Nat.le_of_ble_eq_true rfl)⟩ dX8_reconcile_113 rfl rfl (Nat.le_of_ble_eq_true rfl) (Nat.zero_le _) (Nat.zero_le _) ?_
            refine ja_aload_n (i := 0) dX8_reconcile_116 rfl rfl ?_
            refine ja_getR fl_X8_58 (zM_s hz) rfl (zM_p19 hz) dX8_reconcile_117 ?_
            refine ja_iload (i := 6) dX8_reconcile_120 rfl ?_
            refine ja_iald (zM_a19 hz) rfl (by omega) (by decide) dX8_reconcile_122 ?_
            refine ja_icmp_ne (tgt := 130) dX8_reconcile_123 (by decide) (fun c123 => ?_) (fun c123 => ?_)
            ·
              refine ja_iconst (v := nI 0) dX8_reconcile_130 (by decide +kernel) ?_
              refine ja_istore (i := 7) dX8_reconcile_131 rfl (Nat.le_of_ble_eq_true rfl) ?_
              refine ja_iload (i := 7) dX8_reconcile_133 rfl ?_
              refine ja_ifN_ne (tgt := 154) dX8_reconcile_135 (by decide) (by omega) (fun c135 => absurd c135 (by decide)) (fun c135 => ?_)
              refine ja_iload_n (i := 2) dX8_reconcile_138 rfl rfl ?_
              refine ja_bipush (v := nI 118) dX8_reconcile_139 (by decide +kernel) ?_
              refine ja_icmpN_ne (tgt := 207) dX8_reconcile_141 (by decide) (by omega) (by omega) (fun c141 => absurd c141 (by decide)) (fun c141 => ?_)
              refine ja_aload_n (i := 0) dX8_reconcile_144 rfl rfl ?_
              refine ja_iload_n (i := 1) dX8_reconcile_145 rfl rfl ?_
              refine ja_iload (i := 5) dX8_reconcile_146 rfl ?_
              refine ja_cVr (st := []) (s_isConflict (D := E) l hz (v := v) (ly := ly) (q := q) (by omega) hlyE h1 (by omega)) rfl rfl (ce_X8_isConflict 0 0) im_X8_isConflict se_X8_isConflict lk_X8_157 k_X8 (zM_s hz) ⟨(Nat.le_of_ble_eq_true rfl), (Nat.le_of_ble_eq_true rfl)⟩ dX8_reconcile_148 rfl rfl (Nat.le_of_ble_eq_true rfl) (Nat.zero_le _) (Nat.zero_le _) ?_
              refine ja_ifB_eq (tgt := 207) dX8_reconcile_151 (by decide) (fun c151 => ?_) (fun c151 => ?_)
              ·
                refine ja_iincN dX8_reconcile_207 rfl rfl (Nat.le_of_ble_eq_true rfl) ?_
                refine ja_goto (tgt := 64) dX8_reconcile_210 (by decide) ?_
                refine ja_forget (i := 6) ?_
                refine ja_forget (i := 7) ?_
                exact ih64 (q + 1) n E (by omega) (by omega) (by rw [rcN, ← hE, rcC, if_neg (by rw [(show rcB E v ly true q = false by first | (rw [rcB, cfl]; simp_all; done) | (rw [rcB, c151]; simp_all; done))]; decide)]; exact hn) (by rw [rcE, ← hE, rcS, if_neg (by rw [(show rcB E v ly true q = false by first | (rw [rcB, cfl]; simp_all; done) | (rw [rcB, c151]; simp_all; done))]; decide)])
              ·
                refine ja_iconst (v := nI 0) dX8_reconcile_154 (by decide +kernel) ?_
                refine ja_istore (i := 8) dX8_reconcile_155 rfl (Nat.le_of_ble_eq_true rfl) ?_
                refine ja_forget (i := 7) ?_
                have lp157 : ∀ (f157 : Nat) (x : Nat) (F : jD), (256 < x + f157) → (x ≤ 256) → (F = giU E (fun x => decide (x = q)) x) → ja_A l (mX8_reconcile 0 0) ja_sn (ja_Qf (mX8_reconcile 0 0) (ja_jd (some (.int (nI (rcN (ja_up D 100 0 (nI 0)) v ly true cp 256)))) Z (fun D2 => D2 = (rbU (rcE (ja_up D 100 0 (nI 0)) v ly true cp 256) v ly 256))) ja_x0) 157 [some (.ref (100)), some (.int (nI (v))), some (.int (nI (118))), some (.int (nI (ly))), some (.int (nI (n))), some (.int (nI (q))), some (.int (nI (256 * v + q))), none, some (.int (nI (x)))] [] Z F 0 0 := by
                  intro f157
                  induction f157 with
                  | zero => intro x F hx hx2 hF; exfalso; omega
                  | succ f157 ih157 =>
                    intro x F hx hx2 hF
                    refine ja_iload (i := 8) dX8_reconcile_157 rfl ?_
                    refine ja_sipush (v := nI 256) dX8_reconcile_159 (by decide +kernel) ?_
                    refine ja_icmpN_ge (tgt := 190) dX8_reconcile_162 (by decide) (by omega) (by omega) (fun c162 => ?_) (fun c162 => ?_)
                    ·
                      refine ja_num (D2 := (giU E (fun x => decide (x = q)) 256)) (by rw [hF, show x = 256 by omega]) ?_
                      refine ja_iload (i := 4) dX8_reconcile_190 rfl ?_
                      refine ja_aload_n (i := 0) dX8_reconcile_192 rfl rfl ?_
                      refine ja_iload_n (i := 3) dX8_reconcile_193 rfl rfl ?_
                      refine ja_aload_n (i := 0) dX8_reconcile_194 rfl rfl ?_
                      refine ja_getR fl_X8_61 (zM_s hz) rfl (zM_p20 hz) dX8_reconcile_195 ?_
                      refine ja_iload (i := 6) dX8_reconcile_198 rfl ?_
                      refine ja_iald (zM_a20 hz) rfl (by omega) (by decide) dX8_reconcile_200 ?_
                      rcases hwV (256 * v + q) (by omega) with hf | ⟨a, ha, hf⟩
                      ·
                        refine ja_top (y := (-1)) ((giU_o (by decide)).trans hf) ?_
                        refine ja_cVd (st := [.int (nI (n))]) (s_gives_none l (D := (giU E (fun x => decide (x = q)) 256)) hz (by rw [giU_5]; exact hwE) (ly := ly) h1 (cp := cp) ((giU_o (by decide)).trans hcE)) rfl rfl (ce_X8_gives 0 0) im_X8_gives se_X8_gives lk_X8_117 k_X8 (zM_s hz) ⟨(Nat.le_of_ble_eq_true rfl), (Nat.le_of_ble_eq_true rfl)⟩ dX8_reconcile_201 rfl rfl (Nat.le_of_ble_eq_true rfl) (Nat.zero_le _) (Nat.zero_le _) ?_
                        intro D201 hD201
                        subst hD201
                        refine ja_iaddN dX8_reconcile_204 ?_
                        refine ja_istore (i := 4) dX8_reconcile_205 rfl (Nat.le_of_ble_eq_true rfl) ?_
                        refine ja_iincN dX8_reconcile_207 rfl rfl (Nat.le_of_ble_eq_true rfl) ?_
                        refine ja_goto (tgt := 64) dX8_reconcile_210 (by decide) ?_
                        refine ja_forget (i := 6) ?_
                        refine ja_forget (i := 8) ?_
                        exact ih64 (q + 1) _ _ (by omega) (by omega) (by rw [rcN, ← hE, rcC, if_pos (show rcB E v ly true q = true by first | (rw [rcB]; simp_all; done) | (rw [rcB, c151]; simp; done)), hf, ← hn]) (by rw [rcE, ← hE, rcS, if_pos (show rcB E v ly true q = true by first | (rw [rcB]; simp_all; done) | (rw [rcB, c151]; simp; done)), hf]; first | rw [toO_N ha] | rw [toO_n])
                      ·
                        refine ja_top (y := nI (a)) ((giU_o (by decide)).trans hf) ?_
                        refine ja_cVd (st := [.int (nI (n))]) (s_gives_some l (D := (giU E (fun x => decide (x = q)) 256)) hz (by rw [giU_5]; exact hwE) (ly := ly) h1 ha (cp := cp) ((giU_o (by decide)).trans hcE)) rfl rfl (ce_X8_gives 0 0) im_X8_gives se_X8_gives lk_X8_117 k_X8 (zM_s hz) ⟨(Nat.le_of_ble_eq_true rfl), (Nat.le_of_ble_eq_true rfl)⟩ dX8_reconcile_201 rfl rfl (Nat.le_of_ble_eq_true rfl) (Nat.zero_le _) (Nat.zero_le _) ?_
                        intro D201 hD201
                        subst hD201
                        refine ja_iaddN dX8_reconcile_204 ?_
                        refine ja_istore (i := 4) dX8_reconcile_205 rfl (Nat.le_of_ble_eq_true rfl) ?_
                        refine ja_iincN dX8_reconcile_207 rfl rfl (Nat.le_of_ble_eq_true rfl) ?_
                        refine ja_goto (tgt := 64) dX8_reconcile_210 (by decide) ?_
                        refine ja_forget (i := 6) ?_
                        refine ja_forget (i := 8) ?_
                        exact ih64 (q + 1) _ _ (by omega) (by omega) (by rw [rcN, ← hE, rcC, if_pos (show rcB E v ly true q = true by first | (rw [rcB]; simp_all; done) | (rw [rcB, c151]; simp; done)), hf, ← hn]) (by rw [rcE, ← hE, rcS, if_pos (show rcB E v ly true q = true by first | (rw [rcB]; simp_all; done) | (rw [rcB, c151]; simp; done)), hf]; first | rw [toO_N ha] | rw [toO_n])
                    ·
                      refine ja_aload_n (i := 0) dX8_reconcile_165 rfl rfl ?_
                      refine ja_getR fl_X8_73 (zM_s hz) rfl (zM_p24 hz) dX8_reconcile_166 ?_
                      refine ja_iload (i := 8) dX8_reconcile_169 rfl ?_
                      refine ja_iload (i := 8) dX8_reconcile_171 rfl ?_
                      refine ja_iload (i := 5) dX8_reconcile_173 rfl ?_
                      refine ja_icmpN_ne (tgt := 182) dX8_reconcile_175 (by decide) (by omega) (by omega) (fun c175 => ?_) (fun c175 => ?_)
                      ·
                        refine ja_iconst (v := nI 0) dX8_reconcile_182 (by decide +kernel) ?_
                        refine ja_zast (zM_a24 hz) rfl (by omega) (by decide) (by decide +kernel) dX8_reconcile_183 ?_
                        refine ja_iincN dX8_reconcile_184 rfl rfl (Nat.le_of_ble_eq_true rfl) ?_
                        refine ja_goto (tgt := 157) dX8_reconcile_187 (by decide) ?_
                        exact ih157 (x + 1) _ (by omega) (by omega) (by rw [hF]; exact giU_s (by simp [c175]; try rfl))
                      ·
                        refine ja_iconst (v := nI 1) dX8_reconcile_178 (by decide +kernel) ?_
                        refine ja_goto (tgt := 183) dX8_reconcile_179 (by decide) ?_
                        refine ja_zast (zM_a24 hz) rfl (by omega) (by decide) (by decide +kernel) dX8_reconcile_183 ?_
                        refine ja_iincN dX8_reconcile_184 rfl rfl (Nat.le_of_ble_eq_true rfl) ?_
                        refine ja_goto (tgt := 157) dX8_reconcile_187 (by decide) ?_
                        exact ih157 (x + 1) _ (by omega) (by omega) (by rw [hF]; exact giU_s (by simp [c175]; try rfl))
                exact lp157 257 0 E (by omega) (by omega) giU_0
            ·
              refine ja_iconst (v := nI 1) dX8_reconcile_126 (by decide +kernel) ?_
              refine ja_goto (tgt := 131) dX8_reconcile_127 (by decide) ?_
              refine ja_istore (i := 7) dX8_reconcile_131 rfl (Nat.le_of_ble_eq_true rfl) ?_
              refine ja_iload (i := 7) dX8_reconcile_133 rfl ?_
              refine ja_ifN_ne (tgt := 154) dX8_reconcile_135 (by decide) (by omega) (fun c135 => ?_) (fun c135 => absurd c135 (by decide))
              refine ja_iconst (v := nI 0) dX8_reconcile_154 (by decide +kernel) ?_
              refine ja_istore (i := 8) dX8_reconcile_155 rfl (Nat.le_of_ble_eq_true rfl) ?_
              refine ja_forget (i := 7) ?_
              have lp157 : ∀ (f157 : Nat) (x : Nat) (F : jD), (256 < x + f157) → (x ≤ 256) → (F = giU E (fun x => decide (x = q)) x) → ja_A l (mX8_reconcile 0 0) ja_sn (ja_Qf (mX8_reconcile 0 0) (ja_jd (some (.int (nI (rcN (ja_up D 100 0 (nI 0)) v ly true cp 256)))) Z (fun D2 => D2 = (rbU (rcE (ja_up D 100 0 (nI 0)) v ly true cp 256) v ly 256))) ja_x0) 157 [some (.ref (100)), some (.int (nI (v))), some (.int (nI (118))), some (.int (nI (ly))), some (.int (nI (n))), some (.int (nI (q))), some (.int (nI (256 * v + q))), none, some (.int (nI (x)))] [] Z F 0 0 := by
                intro f157
                induction f157 with
                | zero => intro x F hx hx2 hF; exfalso; omega
                | succ f157 ih157 =>
                  intro x F hx hx2 hF
                  refine ja_iload (i := 8) dX8_reconcile_157 rfl ?_
                  refine ja_sipush (v := nI 256) dX8_reconcile_159 (by decide +kernel) ?_
                  refine ja_icmpN_ge (tgt := 190) dX8_reconcile_162 (by decide) (by omega) (by omega) (fun c162 => ?_) (fun c162 => ?_)
                  ·
                    refine ja_num (D2 := (giU E (fun x => decide (x = q)) 256)) (by rw [hF, show x = 256 by omega]) ?_
                    refine ja_iload (i := 4) dX8_reconcile_190 rfl ?_
                    refine ja_aload_n (i := 0) dX8_reconcile_192 rfl rfl ?_
                    refine ja_iload_n (i := 3) dX8_reconcile_193 rfl rfl ?_
                    refine ja_aload_n (i := 0) dX8_reconcile_194 rfl rfl ?_
                    refine ja_getR fl_X8_61 (zM_s hz) rfl (zM_p20 hz) dX8_reconcile_195 ?_
                    refine ja_iload (i := 6) dX8_reconcile_198 rfl ?_
                    refine ja_iald (zM_a20 hz) rfl (by omega) (by decide) dX8_reconcile_200 ?_
                    rcases hwV (256 * v + q) (by omega) with hf | ⟨a, ha, hf⟩
                    ·
                      refine ja_top (y := (-1)) ((giU_o (by decide)).trans hf) ?_
                      refine ja_cVd (st := [.int (nI (n))]) (s_gives_none l (D := (giU E (fun x => decide (x = q)) 256)) hz (by rw [giU_5]; exact hwE) (ly := ly) h1 (cp := cp) ((giU_o (by decide)).trans hcE)) rfl rfl (ce_X8_gives 0 0) im_X8_gives se_X8_gives lk_X8_117 k_X8 (zM_s hz) ⟨(Nat.le_of_ble_eq_true rfl), (Nat.le_of_ble_eq_true rfl)⟩ dX8_reconcile_201 rfl rfl (Nat.le_of_ble_eq_true rfl) (Nat.zero_le _) (Nat.zero_le _) ?_
                      intro D201 hD201
                      subst hD201
                      refine ja_iaddN dX8_reconcile_204 ?_
                      refine ja_istore (i := 4) dX8_reconcile_205 rfl (Nat.le_of_ble_eq_true rfl) ?_
                      refine ja_iincN dX8_reconcile_207 rfl rfl (Nat.le_of_ble_eq_true rfl) ?_
                      refine ja_goto (tgt := 64) dX8_reconcile_210 (by decide) ?_
                      refine ja_forget (i := 6) ?_
                      refine ja_forget (i := 8) ?_
                      exact ih64 (q + 1) _ _ (by omega) (by omega) (by rw [rcN, ← hE, rcC, if_pos (show rcB E v ly true q = true by first | (rw [rcB]; simp_all; done) | (rw [rcB, c151]; simp; done)), hf, ← hn]) (by rw [rcE, ← hE, rcS, if_pos (show rcB E v ly true q = true by first | (rw [rcB]; simp_all; done) | (rw [rcB, c151]; simp; done)), hf]; first | rw [toO_N ha] | rw [toO_n])
                    ·
                      refine ja_top (y := nI (a)) ((giU_o (by decide)).trans hf) ?_
                      refine ja_cVd (st := [.int (nI (n))]) (s_gives_some l (D := (giU E (fun x => decide (x = q)) 256)) hz (by rw [giU_5]; exact hwE) (ly := ly) h1 ha (cp := cp) ((giU_o (by decide)).trans hcE)) rfl rfl (ce_X8_gives 0 0) im_X8_gives se_X8_gives lk_X8_117 k_X8 (zM_s hz) ⟨(Nat.le_of_ble_eq_true rfl), (Nat.le_of_ble_eq_true rfl)⟩ dX8_reconcile_201 rfl rfl (Nat.le_of_ble_eq_true rfl) (Nat.zero_le _) (Nat.zero_le _) ?_
                      intro D201 hD201
                      subst hD201
                      refine ja_iaddN dX8_reconcile_204 ?_
                      refine ja_istore (i := 4) dX8_reconcile_205 rfl (Nat.le_of_ble_eq_true rfl) ?_
                      refine ja_iincN dX8_reconcile_207 rfl rfl (Nat.le_of_ble_eq_true rfl) ?_
                      refine ja_goto (tgt := 64) dX8_reconcile_210 (by decide) ?_
                      refine ja_forget (i := 6) ?_
                      refine ja_forget (i := 8) ?_
                      exact ih64 (q + 1) _ _ (by omega) (by omega) (by rw [rcN, ← hE, rcC, if_pos (show rcB E v ly true q = true by first | (rw [rcB]; simp_all; done) | (rw [rcB, c151]; simp; done)), hf, ← hn]) (by rw [rcE, ← hE, rcS, if_pos (show rcB E v ly true q = true by first | (rw [rcB]; simp_all; done) | (rw [rcB, c151]; simp; done)), hf]; first | rw [toO_N ha] | rw [toO_n])
                  ·
                    refine ja_aload_n (i := 0) dX8_reconcile_165 rfl rfl ?_
                    refine ja_getR fl_X8_73 (zM_s hz) rfl (zM_p24 hz) dX8_reconcile_166 ?_
                    refine ja_iload (i := 8) dX8_reconcile_169 rfl ?_
                    refine ja_iload (i := 8) dX8_reconcile_171 rfl ?_
                    refine ja_iload (i := 5) dX8_reconcile_173 rfl ?_
                    refine ja_icmpN_ne (tgt := 182) dX8_reconcile_175 (by decide) (by omega) (by omega) (fun c175 => ?_) (fun c175 => ?_)
                    ·
                      refine ja_iconst (v := nI 0) dX8_reconcile_182 (by decide +kernel) ?_
                      refine ja_zast (zM_a24 hz) rfl (by omega) (by decide) (by decide +kernel) dX8_reconcile_183 ?_
                      refine ja_iincN dX8_reconcile_184 rfl rfl (Nat.le_of_ble_eq_true rfl) ?_
                      refine ja_goto (tgt := 157) dX8_reconcile_187 (by decide) ?_
                      exact ih157 (x + 1) _ (by omega) (by omega) (by rw [hF]; exact giU_s (by simp [c175]; try rfl))
                    ·
                      refine ja_iconst (v := nI 1) dX8_reconcile_178 (by decide +kernel) ?_
                      refine ja_goto (tgt := 183) dX8_reconcile_179 (by decide) ?_
                      refine ja_zast (zM_a24 hz) rfl (by omega) (by decide) (by decide +kernel) dX8_reconcile_183 ?_
                      refine ja_iincN dX8_reconcile_184 rfl rfl (Nat.le_of_ble_eq_true rfl) ?_
                      refine ja_goto (tgt := 157) dX8_reconcile_187 (by decide) ?_
                      exact ih157 (x + 1) _ (by omega) (by omega) (by rw [hF]; exact giU_s (by simp [c175]; try rfl))
              exact lp157 257 0 E (by omega) (by omega) giU_0
  exact lp64 257 0 0 (ja_up D 100 0 (nI (0))) (by omega) (by omega) rfl rfl

set_option maxRecDepth 100000 in
set_option maxHeartbeats 4000000 in
theorem r_reconcile_f3f (l : Launch) {Z : jZ} {D : jD} (hz : zM Z) {vn : Nat} (hvn : D 100 16 = nI vn) (hv3 : vn ≤ 3) {v : Nat} (hv : v < vn) (hau : D 100 2 = -1)  : ja_M l (mX8_reconcile 0 0) [.ref (100), .int (nI (v)), .int (nI (108))] Z D (ja_jd (some (.int (nI 0))) Z (fun D2 => D2 = ja_up D 100 0 (nI 3))) ja_x0 := by
  refine ja_Mof (lv := [some (.ref (100)), some (.int (nI (v))), some (.int (nI (108))), none, none, none, none, none, none]) (by decide +kernel) rfl rfl (Nat.le_of_ble_eq_true rfl) rfl ?_
  refine ja_aload_n (i := 0) dX8_reconcile_0 rfl rfl ?_
  refine ja_iconst (v := nI 0) dX8_reconcile_1 (by decide +kernel) ?_
  refine ja_putI fl_X8_85 (zM_s hz) rfl rfl rfl dX8_reconcile_2 ?_
  refine ja_aload_n (i := 0) dX8_reconcile_5 rfl rfl ?_
  refine ja_iload_n (i := 1) dX8_reconcile_6 rfl rfl ?_
  refine ja_cVr (st := []) (s_isVersionT (D := (ja_up D 100 0 (nI (0)))) l hz (hvn) (by omega) (by omega)) rfl rfl (ce_X8_isVersion 0 0) im_X8_isVersion se_X8_isVersion lk_X8_154 k_X8 (zM_s hz) ⟨(Nat.le_of_ble_eq_true rfl), (Nat.le_of_ble_eq_true rfl)⟩ dX8_reconcile_7 rfl rfl (Nat.le_of_ble_eq_true rfl) (Nat.zero_le _) (Nat.zero_le _) ?_
  refine ja_ifB_ne (tgt := 19) dX8_reconcile_10 (by decide) (fun c10 => ?_) (fun c10 => absurd c10 (by decide))
  refine ja_iload_n (i := 2) dX8_reconcile_19 rfl rfl ?_
  refine ja_bipush (v := nI 118) dX8_reconcile_20 (by decide +kernel) ?_
  refine ja_icmpN_eq (tgt := 37) dX8_reconcile_22 (by decide) (by omega) (by omega) (fun c22 => absurd c22 (by decide)) (fun c22 => ?_)
  refine ja_iload_n (i := 2) dX8_reconcile_25 rfl rfl ?_
  refine ja_bipush (v := nI 108) dX8_reconcile_26 (by decide +kernel) ?_
  refine ja_icmpN_eq (tgt := 37) dX8_reconcile_28 (by decide) (by omega) (by omega) (fun c28 => ?_) (fun c28 => absurd c28 (by decide))
  refine ja_aload_n (i := 0) dX8_reconcile_37 rfl rfl ?_
  refine ja_getI fl_X8_9 (zM_s hz) rfl dX8_reconcile_38 ?_
  refine ja_top (y := (-1)) hau ?_
  refine ja_iconst (v := (-1)) dX8_reconcile_41 (by decide +kernel) ?_
  refine ja_icmp_ne (tgt := 51) dX8_reconcile_42 (by decide) (fun c42 => absurd rfl c42) (fun c42 => ?_)
  refine ja_aload_n (i := 0) dX8_reconcile_45 rfl rfl ?_
  refine ja_iconst (v := nI 3) dX8_reconcile_46 (by decide +kernel) ?_
  refine ja_cVd (st := []) (s_fails l hz (nI (3))) rfl rfl (ce_X8_fails 0 0) im_X8_fails se_X8_fails lk_X8_96 k_X8 (zM_s hz) ⟨(Nat.le_of_ble_eq_true rfl), (Nat.le_of_ble_eq_true rfl)⟩ dX8_reconcile_47 rfl rfl (Nat.le_of_ble_eq_true rfl) (Nat.zero_le _) (Nat.zero_le _) ?_
  intro D47 hD47
  subst hD47
  refine ja_num (D2 := ja_up D 100 0 (nI (3))) up_2 ?_
  refine ja_iret rfl rfl dX8_reconcile_50 (Nat.zero_le _) (Nat.zero_le _) ?_
  exact ⟨rfl, rfl, rfl⟩

set_option maxRecDepth 100000 in
set_option maxHeartbeats 4000000 in
theorem r_reconcile_okf (l : Launch) {Z : jZ} {D : jD} (hz : zM Z) {vn : Nat} (hvn : D 100 16 = nI vn) (hv3 : vn ≤ 3) {v : Nat} (hv : v < vn) {ly : Nat} (hly : D 118 v = nI ly) (h1 : ly < 3) (hw : wfA (D 105)) (hw2 : wfV D) {cp : Bool} (hc : D 104 ly = bI cp) {w0 : Nat} (hau : D 100 2 = nI w0) (hw5 : w0 ≤ 5)  : ja_M l (mX8_reconcile 0 0) [.ref (100), .int (nI (v)), .int (nI (108))] Z D (ja_jd (some (.int (nI (rcN (ja_up D 100 0 (nI 0)) v ly false cp 256)))) Z (fun D2 => D2 = (rbU (rcE (ja_up D 100 0 (nI 0)) v ly false cp 256) v ly 256))) ja_x0 := by
  refine ja_Mof (lv := [some (.ref (100)), some (.int (nI (v))), some (.int (nI (108))), none, none, none, none, none, none]) (by decide +kernel) rfl rfl (Nat.le_of_ble_eq_true rfl) rfl ?_
  refine ja_aload_n (i := 0) dX8_reconcile_0 rfl rfl ?_
  refine ja_iconst (v := nI 0) dX8_reconcile_1 (by decide +kernel) ?_
  refine ja_putI fl_X8_85 (zM_s hz) rfl rfl rfl dX8_reconcile_2 ?_
  refine ja_aload_n (i := 0) dX8_reconcile_5 rfl rfl ?_
  refine ja_iload_n (i := 1) dX8_reconcile_6 rfl rfl ?_
  refine ja_cVr (st := []) (s_isVersionT (D := (ja_up D 100 0 (nI (0)))) l hz (hvn) (by omega) (by omega)) rfl rfl (ce_X8_isVersion 0 0) im_X8_isVersion se_X8_isVersion lk_X8_154 k_X8 (zM_s hz) ⟨(Nat.le_of_ble_eq_true rfl), (Nat.le_of_ble_eq_true rfl)⟩ dX8_reconcile_7 rfl rfl (Nat.le_of_ble_eq_true rfl) (Nat.zero_le _) (Nat.zero_le _) ?_
  refine ja_ifB_ne (tgt := 19) dX8_reconcile_10 (by decide) (fun c10 => ?_) (fun c10 => absurd c10 (by decide))
  refine ja_iload_n (i := 2) dX8_reconcile_19 rfl rfl ?_
  refine ja_bipush (v := nI 118) dX8_reconcile_20 (by decide +kernel) ?_
  refine ja_icmpN_eq (tgt := 37) dX8_reconcile_22 (by decide) (by omega) (by omega) (fun c22 => absurd c22 (by decide)) (fun c22 => ?_)
  refine ja_iload_n (i := 2) dX8_reconcile_25 rfl rfl ?_
  refine ja_bipush (v := nI 108) dX8_reconcile_26 (by decide +kernel) ?_
  refine ja_icmpN_eq (tgt := 37) dX8_reconcile_28 (by decide) (by omega) (by omega) (fun c28 => ?_) (fun c28 => absurd c28 (by decide))
  refine ja_aload_n (i := 0) dX8_reconcile_37 rfl rfl ?_
  refine ja_getI fl_X8_9 (zM_s hz) rfl dX8_reconcile_38 ?_
  refine ja_top (y := nI (w0)) hau ?_
  refine ja_iconst (v := (-1)) dX8_reconcile_41 (by decide +kernel) ?_
  refine ja_icmp_ne (tgt := 51) dX8_reconcile_42 (by decide) (fun c42 => ?_) (fun c42 => absurd c42 (nI_nm1 (by omega)))
  refine ja_aload_n (i := 0) dX8_reconcile_51 rfl rfl ?_
  refine ja_getR fl_X8_52 (zM_s hz) rfl (zM_p17 hz) dX8_reconcile_52 ?_
  refine ja_iload_n (i := 1) dX8_reconcile_55 rfl rfl ?_
  refine ja_iald (zM_a17 hz) rfl (by omega) (by decide) dX8_reconcile_56 ?_
  refine ja_top (y := nI (ly)) hly ?_
  refine ja_istore_n (i := 3) dX8_reconcile_57 rfl rfl (Nat.le_of_ble_eq_true rfl) ?_
  refine ja_iconst (v := nI 0) dX8_reconcile_58 (by decide +kernel) ?_
  refine ja_istore (i := 4) dX8_reconcile_59 rfl (Nat.le_of_ble_eq_true rfl) ?_
  refine ja_iconst (v := nI 0) dX8_reconcile_61 (by decide +kernel) ?_
  refine ja_istore (i := 5) dX8_reconcile_62 rfl (Nat.le_of_ble_eq_true rfl) ?_
  have lp64 : ∀ (f64 : Nat) (q n : Nat) (E : jD), (256 < q + f64) → (q ≤ 256) → (n = rcN (ja_up D 100 0 (nI 0)) v ly false cp q) → (E = rcE (ja_up D 100 0 (nI 0)) v ly false cp q) → ja_A l (mX8_reconcile 0 0) ja_sn (ja_Qf (mX8_reconcile 0 0) (ja_jd (some (.int (nI (rcN (ja_up D 100 0 (nI 0)) v ly false cp 256)))) Z (fun D2 => D2 = (rbU (rcE (ja_up D 100 0 (nI 0)) v ly false cp 256) v ly 256))) ja_x0) 64 [some (.ref (100)), some (.int (nI (v))), some (.int (nI (108))), some (.int (nI (ly))), some (.int (nI (n))), some (.int (nI (q))), none, none, none] [] Z E 0 0 := by
    intro f64
    induction f64 with
    | zero => intro q n E hk hq hn hE; exfalso; omega
    | succ f64 ih64 =>
      intro q n E hk hq hn hE
      have hwE : wfA (E 105) := by rw [hE]; exact rcE_w (D := (ja_up D 100 0 (nI 0))) (v := v) (by omega) hw (fun k hk => hw2 k hk) hq
      have hcE : E 104 ly = bI cp := by rw [hE, rcE_o (by decide) (by decide) (by decide) (by decide)]; exact hc
      have hlyE : E 118 v = nI ly := by rw [hE, rcE_o (by decide) (by decide) (by decide) (by decide)]; exact hly
      have hwV : wfV E := fun k hk => by rw [hE, rcE_o (by decide) (by decide) (by decide) (by decide)]; exact hw2 k hk
      refine ja_iload (i := 5) dX8_reconcile_64 rfl ?_
      refine ja_sipush (v := nI 256) dX8_reconcile_66 (by decide +kernel) ?_
      refine ja_icmpN_ge (tgt := 213) dX8_reconcile_69 (by decide) (by omega) (by omega) (fun c69 => ?_) (fun c69 => ?_)
      ·
        refine ja_iconst (v := nI 0) dX8_reconcile_213 (by decide +kernel) ?_
        refine ja_istore (i := 5) dX8_reconcile_214 rfl (Nat.le_of_ble_eq_true rfl) ?_
        have lp216 : ∀ (f216 : Nat) (q2 : Nat) (E2 : jD), (256 < q2 + f216) → (q2 ≤ 256) → (E2 = rbU (rcE (ja_up D 100 0 (nI 0)) v ly false cp 256) v ly q2) → ja_A l (mX8_reconcile 0 0) ja_sn (ja_Qf (mX8_reconcile 0 0) (ja_jd (some (.int (nI (rcN (ja_up D 100 0 (nI 0)) v ly false cp 256)))) Z (fun D2 => D2 = (rbU (rcE (ja_up D 100 0 (nI 0)) v ly false cp 256) v ly 256))) ja_x0) 216 [some (.ref (100)), some (.int (nI (v))), some (.int (nI (108))), some (.int (nI (ly))), some (.int (nI (n))), some (.int (nI (q2))), none, none, none] [] Z E2 0 0 := by
          intro f216
          induction f216 with
          | zero => intro q2 E2 hk2 hq2 hE2; exfalso; omega
          | succ f216 ih216 =>
            intro q2 E2 hk2 hq2 hE2
            refine ja_iload (i := 5) dX8_reconcile_216 rfl ?_
            refine ja_sipush (v := nI 256) dX8_reconcile_218 (by decide +kernel) ?_
            refine ja_icmpN_ge (tgt := 270) dX8_reconcile_221 (by decide) (by omega) (by omega) (fun c221 => ?_) (fun c221 => ?_)
            ·
              refine ja_iload (i := 4) dX8_reconcile_270 rfl ?_
              refine ja_iret rfl rfl dX8_reconcile_272 (Nat.zero_le _) (Nat.zero_le _) ?_
              exact ⟨by rw [hn, show q = 256 by omega], rfl, by rw [hE2, show q2 = 256 by omega]⟩
            ·
              refine ja_aload_n (i := 0) dX8_reconcile_224 rfl rfl ?_
              refine ja_getR fl_X8_58 (zM_s hz) rfl (zM_p19 hz) dX8_reconcile_225 ?_
              refine ja_sipush (v := nI 256) dX8_reconcile_228 (by decide +kernel) ?_
              refine ja_iload_n (i := 1) dX8_reconcile_231 rfl rfl ?_
              refine ja_imulN dX8_reconcile_232 ?_
              refine ja_iload (i := 5) dX8_reconcile_233 rfl ?_
              refine ja_iaddN dX8_reconcile_235 ?_
              refine ja_aload_n (i := 0) dX8_reconcile_236 rfl rfl ?_
              refine ja_iload_n (i := 3) dX8_reconcile_237 rfl rfl ?_
              refine ja_iload (i := 5) dX8_reconcile_238 rfl ?_
              refine ja_cVr (st := [.int (nI ((256 * v) + (q2))), .ref (120)]) (s_at (D := E2) l hz (ly := ly) (q := q2) (by omega) (by omega)) rfl rfl (ce_X8_at 0 0) im_X8_at se_X8_at lk_X8_92 k_X8 (zM_s hz) ⟨(Nat.le_of_ble_eq_true rfl), (Nat.le_of_ble_eq_true rfl)⟩ dX8_reconcile_240 rfl rfl (Nat.le_of_ble_eq_true rfl) (Nat.zero_le _) (Nat.zero_le _) ?_
              refine ja_iast (zM_a19 hz) rfl (by omega) (by decide) dX8_reconcile_243 ?_
              refine ja_aload_n (i := 0) dX8_reconcile_244 rfl rfl ?_
              refine ja_getR fl_X8_61 (zM_s hz) rfl (zM_p20 hz) dX8_reconcile_245 ?_
              refine ja_sipush (v := nI 256) dX8_reconcile_248 (by decide +kernel) ?_
              refine ja_iload_n (i := 1) dX8_reconcile_251 rfl rfl ?_
              refine ja_imulN dX8_reconcile_252 ?_
              refine ja_iload (i := 5) dX8_reconcile_253 rfl ?_
              refine ja_iaddN dX8_reconcile_255 ?_
              refine ja_aload_n (i := 0) dX8_reconcile_256 rfl rfl ?_
              refine ja_iload_n (i := 3) dX8_reconcile_257 rfl rfl ?_
              refine ja_iload (i := 5) dX8_reconcile_258 rfl ?_
              refine ja_cVr (st := [.int (nI ((256 * v) + (q2))), .ref (121)]) (s_at (D := (ja_up E2 120 ((256 * v) + (q2)) (E2 105 (256 * ly + q2)))) l hz (ly := ly) (q := q2) (by omega) (by omega)) rfl rfl (ce_X8_at 0 0) im_X8_at se_X8_at lk_X8_92 k_X8 (zM_s hz) ⟨(Nat.le_of_ble_eq_true rfl), (Nat.le_of_ble_eq_true rfl)⟩ dX8_reconcile_260 rfl rfl (Nat.le_of_ble_eq_true rfl) (Nat.zero_le _) (Nat.zero_le _) ?_
              refine ja_iast (zM_a20 hz) rfl (by omega) (by decide) dX8_reconcile_263 ?_
              refine ja_iincN dX8_reconcile_264 rfl rfl (Nat.le_of_ble_eq_true rfl) ?_
              refine ja_goto (tgt := 216) dX8_reconcile_267 (by decide) ?_
              exact ih216 (q2 + 1) _ (by omega) (by omega) (by rw [hE2]; exact rbU_s (by rw [rbU_o (by decide)]) (by rw [up_o (by decide), rbU_o (by decide)]))
        exact lp216 257 0 E (by omega) (by omega) (by rw [hE, show q = 256 by omega]; exact rbU_0)
      ·
        refine ja_sipush (v := nI 256) dX8_reconcile_72 (by decide +kernel) ?_
        refine ja_iload_n (i := 1) dX8_reconcile_75 rfl rfl ?_
        refine ja_imulN dX8_reconcile_76 ?_
        refine ja_iload (i := 5) dX8_reconcile_77 rfl ?_
        refine ja_iaddN dX8_reconcile_79 ?_
        refine ja_istore (i := 6) dX8_reconcile_80 rfl (Nat.le_of_ble_eq_true rfl) ?_
        refine ja_aload_n (i := 0) dX8_reconcile_82 rfl rfl ?_
        refine ja_getR fl_X8_55 (zM_s hz) rfl (zM_p18 hz) dX8_reconcile_83 ?_
        refine ja_iload (i := 6) dX8_reconcile_86 rfl ?_
        refine ja_zald (zM_a18 hz) rfl (by omega) (by decide) dX8_reconcile_88 ?_
        refine ja_if_eq (tgt := 130) dX8_reconcile_89 (by decide) (fun c89 => ?_) (fun c89 => ?_)
        ·
          refine ja_iconst (v := nI 0) dX8_reconcile_130 (by decide +kernel) ?_
          refine ja_istore (i := 7) dX8_reconcile_131 rfl (Nat.le_of_ble_eq_true rfl) ?_
          refine ja_iload (i := 7) dX8_reconcile_133 rfl ?_
          refine ja_ifN_ne (tgt := 154) dX8_reconcile_135 (by decide) (by omega) (fun c135 => absurd c135 (by decide)) (fun c135 => ?_)
          refine ja_iload_n (i := 2) dX8_reconcile_138 rfl rfl ?_
          refine ja_bipush (v := nI 118) dX8_reconcile_139 (by decide +kernel) ?_
          refine ja_icmpN_ne (tgt := 207) dX8_reconcile_141 (by decide) (by omega) (by omega) (fun c141 => ?_) (fun c141 => absurd c141 (by decide))
          refine ja_iincN dX8_reconcile_207 rfl rfl (Nat.le_of_ble_eq_true rfl) ?_
          refine ja_goto (tgt := 64) dX8_reconcile_210 (by decide) ?_
          refine ja_forget (i := 6) ?_
          refine ja_forget (i := 7) ?_
          exact ih64 (q + 1) n E (by omega) (by omega) (by rw [rcN, ← hE, rcC, if_neg (by rw [(show rcB E v ly false q = false by first | (rw [rcB, cfl]; simp_all; done) | (rw [rcB, c151]; simp_all; done))]; decide)]; exact hn) (by rw [rcE, ← hE, rcS, if_neg (by rw [(show rcB E v ly false q = false by first | (rw [rcB, cfl]; simp_all; done) | (rw [rcB, c151]; simp_all; done))]; decide)])
        ·
          refine ja_aload_n (i := 0) dX8_reconcile_92 rfl rfl ?_
          refine ja_getR fl_X8_61 (zM_s hz) rfl (zM_p20 hz) dX8_reconcile_93 ?_
          refine ja_iload (i := 6) dX8_reconcile_96 rfl ?_
          refine ja_iald (zM_a20 hz) rfl (by omega) (by decide) dX8_reconcile_98 ?_
          refine ja_aload_n (i := 0) dX8_reconcile_99 rfl rfl ?_
          refine ja_getR fl_X8_58 (zM_s hz) rfl (zM_p19 hz) dX8_reconcile_100 ?_
          refine ja_iload (i := 6) dX8_reconcile_103 rfl ?_
          refine ja_iald (zM_a19 hz) rfl (by omega) (by decide) dX8_reconcile_105 ?_
          refine ja_icmp_eq (tgt := 130) dX8_reconcile_106 (by decide) (fun c106 => ?_) (fun c106 => ?_)
          ·
            refine ja_iconst (v := nI 0) dX8_reconcile_130 (by decide +kernel) ?_
            refine ja_istore (i := 7) dX8_reconcile_131 rfl (Nat.le_of_ble_eq_true rfl) ?_
            refine ja_iload (i := 7) dX8_reconcile_133 rfl ?_
            refine ja_ifN_ne (tgt := 154) dX8_reconcile_135 (by decide) (by omega) (fun c135 => absurd c135 (by decide)) (fun c135 => ?_)
            refine ja_iload_n (i := 2) dX8_reconcile_138 rfl rfl ?_
            refine ja_bipush (v := nI 118) dX8_reconcile_139 (by decide +kernel) ?_
            refine ja_icmpN_ne (tgt := 207) dX8_reconcile_141 (by decide) (by omega) (by omega) (fun c141 => ?_) (fun c141 => absurd c141 (by decide))
            refine ja_iincN dX8_reconcile_207 rfl rfl (Nat.le_of_ble_eq_true rfl) ?_
            refine ja_goto (tgt := 64) dX8_reconcile_210 (by decide) ?_
            refine ja_forget (i := 6) ?_
            refine ja_forget (i := 7) ?_
            exact ih64 (q + 1) n E (by omega) (by omega) (by rw [rcN, ← hE, rcC, if_neg (by rw [(show rcB E v ly false q = false by first | (rw [rcB, cfl]; simp_all; done) | (rw [rcB, c151]; simp_all; done))]; decide)]; exact hn) (by rw [rcE, ← hE, rcS, if_neg (by rw [(show rcB E v ly false q = false by first | (rw [rcB, cfl]; simp_all; done) | (rw [rcB, c151]; simp_all; done))]; decide)])
          ·
            refine ja_aload_n (i := 0) dX8_reconcile_109 rfl rfl ?_
            refine ja_iload_n (i := 3) dX8_reconcile_110 rfl rfl ?_
            refine ja_iload (i := 5) dX8_reconcile_111 rfl ?_
            refine ja_cVr (st := []) (s_at (D := E) l hz (ly := ly) (q := q) (by omega) (by omega)) rfl rfl (ce_X8_at 0 0) im_X8_at se_X8_at lk_X8_92 k_X8 (zM_s hz) ⟨(Nat.le_of_ble_eq_true rfl), (Nat.le_of_ble_eq_true rfl)⟩ dX8_reconcile_113 rfl rfl (Nat.le_of_ble_eq_true rfl) (Nat.zero_le _) (Nat.zero_le _) ?_
            refine ja_aload_n (i := 0) dX8_reconcile_116 rfl rfl ?_
            refine ja_getR fl_X8_58 (zM_s hz) rfl (zM_p19 hz) dX8_reconcile_117 ?_
            refine ja_iload (i := 6) dX8_reconcile_120 rfl ?_
            refine ja_iald (zM_a19 hz) rfl (by omega) (by decide) dX8_reconcile_122 ?_
            refine ja_icmp_ne (tgt := 130) dX8_reconcile_123 (by decide) (fun c123 => ?_) (fun c123 => ?_)
            ·
              refine ja_iconst (v := nI 0) dX8_reconcile_130 (by decide +kernel) ?_
              refine ja_istore (i := 7) dX8_reconcile_131 rfl (Nat.le_of_ble_eq_true rfl) ?_
              refine ja_iload (i := 7) dX8_reconcile_133 rfl ?_
              refine ja_ifN_ne (tgt := 154) dX8_reconcile_135 (by decide) (by omega) (fun c135 => absurd c135 (by decide)) (fun c135 => ?_)
              refine ja_iload_n (i := 2) dX8_reconcile_138 rfl rfl ?_
              refine ja_bipush (v := nI 118) dX8_reconcile_139 (by decide +kernel) ?_
              refine ja_icmpN_ne (tgt := 207) dX8_reconcile_141 (by decide) (by omega) (by omega) (fun c141 => ?_) (fun c141 => absurd c141 (by decide))
              refine ja_iincN dX8_reconcile_207 rfl rfl (Nat.le_of_ble_eq_true rfl) ?_
              refine ja_goto (tgt := 64) dX8_reconcile_210 (by decide) ?_
              refine ja_forget (i := 6) ?_
              refine ja_forget (i := 7) ?_
              exact ih64 (q + 1) n E (by omega) (by omega) (by rw [rcN, ← hE, rcC, if_neg (by rw [(show rcB E v ly false q = false by first | (rw [rcB, cfl]; simp_all; done) | (rw [rcB, c151]; simp_all; done))]; decide)]; exact hn) (by rw [rcE, ← hE, rcS, if_neg (by rw [(show rcB E v ly false q = false by first | (rw [rcB, cfl]; simp_all; done) | (rw [rcB, c151]; simp_all; done))]; decide)])
            ·
              refine ja_iconst (v := nI 1) dX8_reconcile_126 (by decide +kernel) ?_
              refine ja_goto (tgt := 131) dX8_reconcile_127 (by decide) ?_
              refine ja_istore (i := 7) dX8_reconcile_131 rfl (Nat.le_of_ble_eq_true rfl) ?_
              refine ja_iload (i := 7) dX8_reconcile_133 rfl ?_
              refine ja_ifN_ne (tgt := 154) dX8_reconcile_135 (by decide) (by omega) (fun c135 => ?_) (fun c135 => absurd c135 (by decide))
              refine ja_iconst (v := nI 0) dX8_reconcile_154 (by decide +kernel) ?_
              refine ja_istore (i := 8) dX8_reconcile_155 rfl (Nat.le_of_ble_eq_true rfl) ?_
              refine ja_forget (i := 7) ?_
              have lp157 : ∀ (f157 : Nat) (x : Nat) (F : jD), (256 < x + f157) → (x ≤ 256) → (F = giU E (fun x => decide (x = q)) x) → ja_A l (mX8_reconcile 0 0) ja_sn (ja_Qf (mX8_reconcile 0 0) (ja_jd (some (.int (nI (rcN (ja_up D 100 0 (nI 0)) v ly false cp 256)))) Z (fun D2 => D2 = (rbU (rcE (ja_up D 100 0 (nI 0)) v ly false cp 256) v ly 256))) ja_x0) 157 [some (.ref (100)), some (.int (nI (v))), some (.int (nI (108))), some (.int (nI (ly))), some (.int (nI (n))), some (.int (nI (q))), some (.int (nI (256 * v + q))), none, some (.int (nI (x)))] [] Z F 0 0 := by
                intro f157
                induction f157 with
                | zero => intro x F hx hx2 hF; exfalso; omega
                | succ f157 ih157 =>
                  intro x F hx hx2 hF
                  refine ja_iload (i := 8) dX8_reconcile_157 rfl ?_
                  refine ja_sipush (v := nI 256) dX8_reconcile_159 (by decide +kernel) ?_
                  refine ja_icmpN_ge (tgt := 190) dX8_reconcile_162 (by decide) (by omega) (by omega) (fun c162 => ?_) (fun c162 => ?_)
                  ·
                    refine ja_num (D2 := (giU E (fun x => decide (x = q)) 256)) (by rw [hF, show x = 256 by omega]) ?_
                    refine ja_iload (i := 4) dX8_reconcile_190 rfl ?_
                    refine ja_aload_n (i := 0) dX8_reconcile_192 rfl rfl ?_
                    refine ja_iload_n (i := 3) dX8_reconcile_193 rfl rfl ?_
                    refine ja_aload_n (i := 0) dX8_reconcile_194 rfl rfl ?_
                    refine ja_getR fl_X8_61 (zM_s hz) rfl (zM_p20 hz) dX8_reconcile_195 ?_
                    refine ja_iload (i := 6) dX8_reconcile_198 rfl ?_
                    refine ja_iald (zM_a20 hz) rfl (by omega) (by decide) dX8_reconcile_200 ?_
                    rcases hwV (256 * v + q) (by omega) with hf | ⟨a, ha, hf⟩
                    ·
                      refine ja_top (y := (-1)) ((giU_o (by decide)).trans hf) ?_
                      refine ja_cVd (st := [.int (nI (n))]) (s_gives_none l (D := (giU E (fun x => decide (x = q)) 256)) hz (by rw [giU_5]; exact hwE) (ly := ly) h1 (cp := cp) ((giU_o (by decide)).trans hcE)) rfl rfl (ce_X8_gives 0 0) im_X8_gives se_X8_gives lk_X8_117 k_X8 (zM_s hz) ⟨(Nat.le_of_ble_eq_true rfl), (Nat.le_of_ble_eq_true rfl)⟩ dX8_reconcile_201 rfl rfl (Nat.le_of_ble_eq_true rfl) (Nat.zero_le _) (Nat.zero_le _) ?_
                      intro D201 hD201
                      subst hD201
                      refine ja_iaddN dX8_reconcile_204 ?_
                      refine ja_istore (i := 4) dX8_reconcile_205 rfl (Nat.le_of_ble_eq_true rfl) ?_
                      refine ja_iincN dX8_reconcile_207 rfl rfl (Nat.le_of_ble_eq_true rfl) ?_
                      refine ja_goto (tgt := 64) dX8_reconcile_210 (by decide) ?_
                      refine ja_forget (i := 6) ?_
                      refine ja_forget (i := 8) ?_
                      exact ih64 (q + 1) _ _ (by omega) (by omega) (by rw [rcN, ← hE, rcC, if_pos (show rcB E v ly false q = true by first | (rw [rcB]; simp_all; done) | (rw [rcB, c151]; simp; done)), hf, ← hn]) (by rw [rcE, ← hE, rcS, if_pos (show rcB E v ly false q = true by first | (rw [rcB]; simp_all; done) | (rw [rcB, c151]; simp; done)), hf]; first | rw [toO_N ha] | rw [toO_n])
                    ·
                      refine ja_top (y := nI (a)) ((giU_o (by decide)).trans hf) ?_
                      refine ja_cVd (st := [.int (nI (n))]) (s_gives_some l (D := (giU E (fun x => decide (x = q)) 256)) hz (by rw [giU_5]; exact hwE) (ly := ly) h1 ha (cp := cp) ((giU_o (by decide)).trans hcE)) rfl rfl (ce_X8_gives 0 0) im_X8_gives se_X8_gives lk_X8_117 k_X8 (zM_s hz) ⟨(Nat.le_of_ble_eq_true rfl), (Nat.le_of_ble_eq_true rfl)⟩ dX8_reconcile_201 rfl rfl (Nat.le_of_ble_eq_true rfl) (Nat.zero_le _) (Nat.zero_le _) ?_
                      intro D201 hD201
                      subst hD201
                      refine ja_iaddN dX8_reconcile_204 ?_
                      refine ja_istore (i := 4) dX8_reconcile_205 rfl (Nat.le_of_ble_eq_true rfl) ?_
                      refine ja_iincN dX8_reconcile_207 rfl rfl (Nat.le_of_ble_eq_true rfl) ?_
                      refine ja_goto (tgt := 64) dX8_reconcile_210 (by decide) ?_
                      refine ja_forget (i := 6) ?_
                      refine ja_forget (i := 8) ?_
                      exact ih64 (q + 1) _ _ (by omega) (by omega) (by rw [rcN, ← hE, rcC, if_pos (show rcB E v ly false q = true by first | (rw [rcB]; simp_all; done) | (rw [rcB, c151]; simp; done)), hf, ← hn]) (by rw [rcE, ← hE, rcS, if_pos (show rcB E v ly false q = true by first | (rw [rcB]; simp_all; done) | (rw [rcB, c151]; simp; done)), hf]; first | rw [toO_N ha] | rw [toO_n])
                  ·
                    refine ja_aload_n (i := 0) dX8_reconcile_165 rfl rfl ?_
                    refine ja_getR fl_X8_73 (zM_s hz) rfl (zM_p24 hz) dX8_reconcile_166 ?_
                    refine ja_iload (i := 8) dX8_reconcile_169 rfl ?_
                    refine ja_iload (i := 8) dX8_reconcile_171 rfl ?_
                    refine ja_iload (i := 5) dX8_reconcile_173 rfl ?_
                    refine ja_icmpN_ne (tgt := 182) dX8_reconcile_175 (by decide) (by omega) (by omega) (fun c175 => ?_) (fun c175 => ?_)
                    ·
                      refine ja_iconst (v := nI 0) dX8_reconcile_182 (by decide +kernel) ?_
                      refine ja_zast (zM_a24 hz) rfl (by omega) (by decide) (by decide +kernel) dX8_reconcile_183 ?_
                      refine ja_iincN dX8_reconcile_184 rfl rfl (Nat.le_of_ble_eq_true rfl) ?_
                      refine ja_goto (tgt := 157) dX8_reconcile_187 (by decide) ?_
                      exact ih157 (x + 1) _ (by omega) (by omega) (by rw [hF]; exact giU_s (by simp [c175]; try rfl))
                    ·
                      refine ja_iconst (v := nI 1) dX8_reconcile_178 (by decide +kernel) ?_
                      refine ja_goto (tgt := 183) dX8_reconcile_179 (by decide) ?_
                      refine ja_zast (zM_a24 hz) rfl (by omega) (by decide) (by decide +kernel) dX8_reconcile_183 ?_
                      refine ja_iincN dX8_reconcile_184 rfl rfl (Nat.le_of_ble_eq_true rfl) ?_
                      refine ja_goto (tgt := 157) dX8_reconcile_187 (by decide) ?_
                      exact ih157 (x + 1) _ (by omega) (by omega) (by rw [hF]; exact giU_s (by simp [c175]; try rfl))
              exact lp157 257 0 E (by omega) (by omega) giU_0
  exact lp64 257 0 0 (ja_up D 100 0 (nI (0))) (by omega) (by omega) rfl rfl
