/-! THE CLASS: steps -/
def stU (D : jD) (t : Nat → Nat) : jD := fnU D 12 (fun k => nI (t k)) 256
def sfr (t : Nat → Nat) (q s : Nat) : Nat → Nat := match nbX s q with
  | none => t
  | some j => if t j + 1 < t q then (fun k => if k = q then t j + 1 else t k) else t
theorem stU_i {D : jD} {t : Nat → Nat} {k : Nat} (h : k < 256) : stU D t 12 k = nI (t k) := by
  rw [stU, fnU, if_pos ⟨rfl, h⟩]
theorem stU_s {D : jD} {t : Nat → Nat} {q x : Nat} (h : q < 256) : ja_up (stU D t) 12 q (nI x) = stU D (fun k => if k = q then x else t k) := by
  funext a b
  simp only [ja_up, stU, fnU]
  by_cases e : a = 12 ∧ b = q
  · obtain ⟨rfl, rfl⟩ := e
    rw [if_pos ⟨rfl, rfl⟩, if_pos ⟨rfl, h⟩, if_pos rfl]
  · rw [if_neg e]
    by_cases e2 : a = 12 ∧ b < 256
    · rw [if_pos e2, if_pos e2, if_neg (fun y => e ⟨e2.1, y⟩)]
    · rw [if_neg e2, if_neg e2]
theorem sfr_le {t : Nat → Nat} {q s k : Nat} (h : t k ≤ 1000) (hq : t q ≤ 1000) : sfr t q s k ≤ 1000 := by
  cases hnb : nbX s q with
  | none => rw [sfr, hnb]; exact h
  | some j =>
    rw [sfr, hnb]
    show (if t j + 1 < t q then (fun k => if k = q then t j + 1 else t k) else t) k ≤ 1000
    by_cases e : t j + 1 < t q
    · rw [if_pos e]
      show (if k = q then t j + 1 else t k) ≤ 1000
      by_cases e2 : k = q
      · rw [if_pos e2]
        omega
      · rw [if_neg e2]
        exact h
    · rw [if_neg e]
      exact h

set_option maxRecDepth 100000 in
set_option maxHeartbeats 4000000 in
theorem c_stepFrom (l : Launch) {Z : jZ} {D : jD} (hx : zX Z) {t : Nat → Nat} (ht : ∀ k, k < 256 → t k ≤ 1000) {q s : Nat} (hq : q < 256) (hs : s < 4) : ja_M l (mX5_stepFrom 0 0) [.ref (11), .int (nI (q)), .int (nI (s))] Z (stU D t) (ja_jd none Z (fun D2 => D2 = stU D (sfr t q s))) ja_x0 := by
  refine ja_Mof (lv := [some (.ref (11)), some (.int (nI (q))), some (.int (nI (s))), none]) (by decide +kernel) rfl rfl (Nat.le_of_ble_eq_true rfl) rfl ?_
  refine ja_iload_n (i := 1) dX5_stepFrom_0 rfl rfl ?_
  refine ja_iload_n (i := 2) dX5_stepFrom_1 rfl rfl ?_
  refine ja_cNr (st := []) (c_nb l (q := q) (s := s) (by omega) (by omega)) rfl rfl (ce_X7_neighbour 0 0) st_X7_neighbour nk_X5_24 ⟨(Nat.le_of_ble_eq_true rfl), (Nat.le_of_ble_eq_true rfl)⟩ dX5_stepFrom_2 rfl rfl (Nat.le_of_ble_eq_true rfl) (Nat.zero_le _) (Nat.zero_le _) ?_
  refine ja_istore_n (i := 3) dX5_stepFrom_5 rfl rfl (Nat.le_of_ble_eq_true rfl) ?_
  rcases hnb : nbX s q with _ | j
  ·
    refine ja_iload_n (i := 3) dX5_stepFrom_6 rfl rfl ?_
    refine ja_iconst (v := (-1)) dX5_stepFrom_7 (by decide +kernel) ?_
    refine ja_icmp_eq (tgt := 42) dX5_stepFrom_8 (by decide) (fun c8 => ?_) (fun c8 => absurd rfl c8)
    refine ja_vret rfl dX5_stepFrom_42 (Nat.zero_le _) (Nat.zero_le _) ?_
    exact ⟨rfl, rfl, by rw [sfr, hnb]⟩
  ·
    have hj := nbX_lt (by omega) hnb
    refine ja_iload_n (i := 3) dX5_stepFrom_6 rfl rfl ?_
    refine ja_iconst (v := (-1)) dX5_stepFrom_7 (by decide +kernel) ?_
    refine ja_icmp_eq (tgt := 42) dX5_stepFrom_8 (by decide) (fun c8 => absurd c8 (nI_nm1 (by omega))) (fun c8 => ?_)
    have t1 := ht j hj
    have t2 := ht q hq
    refine ja_aload_n (i := 0) dX5_stepFrom_11 rfl rfl ?_
    refine ja_getR fl_X5_9 (zX_o11 hx) rfl (zX_p11_0 hx) dX5_stepFrom_12 ?_
    refine ja_iload_n (i := 3) dX5_stepFrom_15 rfl rfl ?_
    refine ja_iald (zX_o12 hx) rfl (by omega) (by decide) dX5_stepFrom_16 ?_
    refine ja_top (y := nI (t j)) (stU_i hj) ?_
    refine ja_iconst (v := nI 1) dX5_stepFrom_17 (by decide +kernel) ?_
    refine ja_iaddN dX5_stepFrom_18 ?_
    refine ja_aload_n (i := 0) dX5_stepFrom_19 rfl rfl ?_
    refine ja_getR fl_X5_9 (zX_o11 hx) rfl (zX_p11_0 hx) dX5_stepFrom_20 ?_
    refine ja_iload_n (i := 1) dX5_stepFrom_23 rfl rfl ?_
    refine ja_iald (zX_o12 hx) rfl (by omega) (by decide) dX5_stepFrom_24 ?_
    refine ja_top (y := nI (t q)) (stU_i hq) ?_
    refine ja_icmpN_ge (tgt := 42) dX5_stepFrom_25 (by decide) (by omega) (by omega) (fun c25 => ?_) (fun c25 => ?_)
    ·
      refine ja_vret rfl dX5_stepFrom_42 (Nat.zero_le _) (Nat.zero_le _) ?_
      exact ⟨rfl, rfl, by rw [sfr, hnb]; simp only [if_neg (show ¬ t j + 1 < t q by omega)]⟩
    ·
      refine ja_aload_n (i := 0) dX5_stepFrom_28 rfl rfl ?_
      refine ja_getR fl_X5_9 (zX_o11 hx) rfl (zX_p11_0 hx) dX5_stepFrom_29 ?_
      refine ja_iload_n (i := 1) dX5_stepFrom_32 rfl rfl ?_
      refine ja_aload_n (i := 0) dX5_stepFrom_33 rfl rfl ?_
      refine ja_getR fl_X5_9 (zX_o11 hx) rfl (zX_p11_0 hx) dX5_stepFrom_34 ?_
      refine ja_iload_n (i := 3) dX5_stepFrom_37 rfl rfl ?_
      refine ja_iald (zX_o12 hx) rfl (by omega) (by decide) dX5_stepFrom_38 ?_
      refine ja_top (y := nI (t j)) (stU_i hj) ?_
      refine ja_iconst (v := nI 1) dX5_stepFrom_39 (by decide +kernel) ?_
      refine ja_iaddN dX5_stepFrom_40 ?_
      refine ja_iast (zX_o12 hx) rfl (by omega) (by decide) dX5_stepFrom_41 ?_
      refine ja_vret rfl dX5_stepFrom_42 (Nat.zero_le _) (Nat.zero_le _) ?_
      exact ⟨rfl, rfl, by rw [stU_s hq, sfr, hnb]; simp only [if_pos (show t j + 1 < t q by omega)]⟩
