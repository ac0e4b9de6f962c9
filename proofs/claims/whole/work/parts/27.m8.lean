/-! THE REFERENCE: calls that write -/
def cpU (D : jD) (dst src n : Nat) : jD := fun a b => if a = dst ∧ b < n then D src b else D a b
def cpO (D : jD) (dst off src n : Nat) : jD := fun a b => if a = dst ∧ off ≤ b ∧ b < off + n then D src (b - off) else D a b
def fiU (D : jD) (id n : Nat) (x : Int32) : jD := fun a b => if a = id ∧ b < n then x else D a b
theorem cpU_0 {D : jD} {dst src : Nat} : D = cpU D dst src 0 := by
  funext a b
  rw [cpU, if_neg (by omega)]
theorem cpO_0 {D : jD} {dst off src : Nat} : D = cpO D dst off src 0 := by
  funext a b
  rw [cpO, if_neg (by omega)]
theorem fiU_0 {D : jD} {id : Nat} {x : Int32} : D = fiU D id 0 x := by
  funext a b
  rw [fiU, if_neg (by omega)]
theorem cpU_s {D : jD} {dst src k : Nat} {x : Int32} (hx : x = D src k) : ja_up (cpU D dst src k) dst k x = cpU D dst src (k + 1) := by
  subst hx
  funext a b
  simp only [ja_up, cpU]
  by_cases h : a = dst
  · subst h
    by_cases e : b = k
    · subst e
      rw [if_pos ⟨rfl, rfl⟩, if_pos ⟨rfl, by omega⟩]
    · rw [if_neg (by omega)]
      by_cases h2 : b < k
      · rw [if_pos ⟨rfl, h2⟩, if_pos ⟨rfl, by omega⟩]
      · rw [if_neg (by omega), if_neg (by omega)]
  · rw [if_neg (by omega), if_neg (by omega), if_neg (by omega)]
theorem cpO_s {D : jD} {dst off src k : Nat} {x : Int32} (hx : x = D src k) : ja_up (cpO D dst off src k) dst (off + k) x = cpO D dst off src (k + 1) := by
  subst hx
  funext a b
  simp only [ja_up, cpO]
  by_cases h : a = dst
  · subst h
    by_cases e : b = off + k
    · subst e
      rw [if_pos ⟨rfl, rfl⟩, if_pos ⟨rfl, by omega, by omega⟩, Nat.add_sub_cancel_left]
    · rw [if_neg (by omega)]
      by_cases h2 : off ≤ b ∧ b < off + k
      · rw [if_pos ⟨rfl, h2⟩, if_pos ⟨rfl, by omega⟩]
      · rw [if_neg (by omega), if_neg (by omega)]
  · rw [if_neg (by omega), if_neg (by omega), if_neg (by omega)]
theorem fiU_s {D : jD} {id k : Nat} {x : Int32} : ja_up (fiU D id k x) id k x = fiU D id (k + 1) x := by
  funext a b
  simp only [ja_up, fiU]
  by_cases h : a = id
  · subst h
    by_cases e : b = k
    · subst e
      rw [if_pos ⟨rfl, rfl⟩, if_pos ⟨rfl, by omega⟩]
    · rw [if_neg (by omega)]
      by_cases h2 : b < k
      · rw [if_pos ⟨rfl, h2⟩, if_pos ⟨rfl, by omega⟩]
      · rw [if_neg (by omega), if_neg (by omega)]
  · rw [if_neg (by omega), if_neg (by omega), if_neg (by omega)]
theorem cpU_src {D : jD} {dst src n k : Nat} (h : ¬ src = dst) : cpU D dst src n src k = D src k := by
  rw [cpU, if_neg (by omega)]
theorem cpO_src {D : jD} {dst off src n k : Nat} (h : ¬ src = dst) : cpO D dst off src n src k = D src k := by
  rw [cpO, if_neg (by omega)]

set_option maxRecDepth 100000 in
set_option maxHeartbeats 4000000 in
theorem r_begin_f1 (l : Launch) {Z : jZ} {D : jD} (hz : zM Z) {w : Int32} (hw : ¬ (nI 0 ≤ w ∧ w ≤ nI 5)) : ja_M l (mX8_begin 0 0) [.ref (100), .int (w)] Z D (ja_jd (some (.int (nI 0))) Z (fun D2 => D2 = ja_up D 100 0 (nI 1))) ja_x0 := by
  refine ja_Mof (lv := [some (.ref (100)), some (.int (w)), none]) (by decide +kernel) rfl rfl (Nat.le_of_ble_eq_true rfl) rfl ?_
  refine ja_aload_n (i := 0) dX8_begin_0 rfl rfl ?_
  refine ja_iconst (v := nI 0) dX8_begin_1 (by decide +kernel) ?_
  refine ja_putI fl_X8_85 (zM_s hz) rfl rfl rfl dX8_begin_2 ?_
  refine ja_iload_n (i := 1) dX8_begin_5 rfl rfl ?_
  refine ja_iconst (v := nI 0) dX8_begin_6 (by decide +kernel) ?_
  refine ja_iconst (v := nI 5) dX8_begin_7 (by decide +kernel) ?_
  refine ja_cSr (st := []) (s_inF l (w) (nI (0)) (nI (5)) hw) rfl rfl (ce_X8_in 0 0) st_X8_in lk_X8_88 ⟨(Nat.le_of_ble_eq_true rfl), (Nat.le_of_ble_eq_true rfl)⟩ dX8_begin_8 rfl rfl (Nat.le_of_ble_eq_true rfl) (Nat.zero_le _) (Nat.zero_le _) ?_
  refine ja_ifB_ne (tgt := 20) dX8_begin_11 (by decide) (fun c11 => absurd c11 (by decide)) (fun c11 => ?_)
  refine ja_aload_n (i := 0) dX8_begin_14 rfl rfl ?_
  refine ja_iconst (v := nI 1) dX8_begin_15 (by decide +kernel) ?_
  refine ja_cVd (st := []) (s_fails l hz (nI (1))) rfl rfl (ce_X8_fails 0 0) im_X8_fails se_X8_fails lk_X8_96 k_X8 (zM_s hz) ⟨(Nat.le_of_ble_eq_true rfl), (Nat.le_of_ble_eq_true rfl)⟩ dX8_begin_16 rfl rfl (Nat.le_of_ble_eq_true rfl) (Nat.zero_le _) (Nat.zero_le _) ?_
  intro D16 hD16
  subst hD16
  refine ja_num (D2 := ja_up D 100 0 (nI (1))) up_2 ?_
  refine ja_iret rfl rfl dX8_begin_19 (Nat.zero_le _) (Nat.zero_le _) ?_
  exact ⟨rfl, rfl, rfl⟩

set_option maxRecDepth 100000 in
set_option maxHeartbeats 4000000 in
theorem r_begin_f2 (l : Launch) {Z : jZ} {D : jD} (hz : zM Z) {w0 : Nat} (hau : D 100 2 = nI w0) (hw5 : w0 ≤ 5) {w : Nat} (hw : w ≤ 5) : ja_M l (mX8_begin 0 0) [.ref (100), .int (nI (w))] Z D (ja_jd (some (.int (nI 0))) Z (fun D2 => D2 = ja_up D 100 0 (nI 2))) ja_x0 := by
  refine ja_Mof (lv := [some (.ref (100)), some (.int (nI (w))), none]) (by decide +kernel) rfl rfl (Nat.le_of_ble_eq_true rfl) rfl ?_
  refine ja_aload_n (i := 0) dX8_begin_0 rfl rfl ?_
  refine ja_iconst (v := nI 0) dX8_begin_1 (by decide +kernel) ?_
  refine ja_putI fl_X8_85 (zM_s hz) rfl rfl rfl dX8_begin_2 ?_
  refine ja_iload_n (i := 1) dX8_begin_5 rfl rfl ?_
  refine ja_iconst (v := nI 0) dX8_begin_6 (by decide +kernel) ?_
  refine ja_iconst (v := nI 5) dX8_begin_7 (by decide +kernel) ?_
  refine ja_cSr (st := []) (s_inT l (w) 0 5 (by omega) (by omega) (by omega)) rfl rfl (ce_X8_in 0 0) st_X8_in lk_X8_88 ⟨(Nat.le_of_ble_eq_true rfl), (Nat.le_of_ble_eq_true rfl)⟩ dX8_begin_8 rfl rfl (Nat.le_of_ble_eq_true rfl) (Nat.zero_le _) (Nat.zero_le _) ?_
  refine ja_ifB_ne (tgt := 20) dX8_begin_11 (by decide) (fun c11 => ?_) (fun c11 => absurd c11 (by decide))
  refine ja_aload_n (i := 0) dX8_begin_20 rfl rfl ?_
  refine ja_getI fl_X8_9 (zM_s hz) rfl dX8_begin_21 ?_
  refine ja_top (y := nI (w0)) hau ?_
  refine ja_iconst (v := (-1)) dX8_begin_24 (by decide +kernel) ?_
  refine ja_icmp_ne (tgt := 37) dX8_begin_25 (by decide) (fun c25 => ?_) (fun c25 => absurd c25 (nI_nm1 (by omega)))
  refine ja_aload_n (i := 0) dX8_begin_37 rfl rfl ?_
  refine ja_iconst (v := nI 2) dX8_begin_38 (by decide +kernel) ?_
  refine ja_cVd (st := []) (s_fails l hz (nI (2))) rfl rfl (ce_X8_fails 0 0) im_X8_fails se_X8_fails lk_X8_96 k_X8 (zM_s hz) ⟨(Nat.le_of_ble_eq_true rfl), (Nat.le_of_ble_eq_true rfl)⟩ dX8_begin_39 rfl rfl (Nat.le_of_ble_eq_true rfl) (Nat.zero_le _) (Nat.zero_le _) ?_
  intro D39 hD39
  subst hD39
  refine ja_num (D2 := ja_up D 100 0 (nI (2))) up_2 ?_
  refine ja_iret rfl rfl dX8_begin_42 (Nat.zero_le _) (Nat.zero_le _) ?_
  exact ⟨rfl, rfl, rfl⟩

set_option maxRecDepth 100000 in
set_option maxHeartbeats 4000000 in
theorem r_begin_f2b (l : Launch) {Z : jZ} {D : jD} (hz : zM Z) (hau : D 100 2 = -1) (ht : D 100 1 = nI 40) {w : Nat} (hw : w ≤ 5) : ja_M l (mX8_begin 0 0) [.ref (100), .int (nI (w))] Z D (ja_jd (some (.int (nI 0))) Z (fun D2 => D2 = ja_up D 100 0 (nI 2))) ja_x0 := by
  refine ja_Mof (lv := [some (.ref (100)), some (.int (nI (w))), none]) (by decide +kernel) rfl rfl (Nat.le_of_ble_eq_true rfl) rfl ?_
  refine ja_aload_n (i := 0) dX8_begin_0 rfl rfl ?_
  refine ja_iconst (v := nI 0) dX8_begin_1 (by decide +kernel) ?_
  refine ja_putI fl_X8_85 (zM_s hz) rfl rfl rfl dX8_begin_2 ?_
  refine ja_iload_n (i := 1) dX8_begin_5 rfl rfl ?_
  refine ja_iconst (v := nI 0) dX8_begin_6 (by decide +kernel) ?_
  refine ja_iconst (v := nI 5) dX8_begin_7 (by decide +kernel) ?_
  refine ja_cSr (st := []) (s_inT l (w) 0 5 (by omega) (by omega) (by omega)) rfl rfl (ce_X8_in 0 0) st_X8_in lk_X8_88 ⟨(Nat.le_of_ble_eq_true rfl), (Nat.le_of_ble_eq_true rfl)⟩ dX8_begin_8 rfl rfl (Nat.le_of_ble_eq_true rfl) (Nat.zero_le _) (Nat.zero_le _) ?_
  refine ja_ifB_ne (tgt := 20) dX8_begin_11 (by decide) (fun c11 => ?_) (fun c11 => absurd c11 (by decide))
  refine ja_aload_n (i := 0) dX8_begin_20 rfl rfl ?_
  refine ja_getI fl_X8_9 (zM_s hz) rfl dX8_begin_21 ?_
  refine ja_top (y := (-1)) hau ?_
  refine ja_iconst (v := (-1)) dX8_begin_24 (by decide +kernel) ?_
  refine ja_icmp_ne (tgt := 37) dX8_begin_25 (by decide) (fun c25 => absurd rfl c25) (fun c25 => ?_)
  refine ja_aload_n (i := 0) dX8_begin_28 rfl rfl ?_
  refine ja_getI fl_X8_100 (zM_s hz) rfl dX8_begin_29 ?_
  refine ja_top (y := nI (40)) ht ?_
  refine ja_bipush (v := nI 40) dX8_begin_32 (by decide +kernel) ?_
  refine ja_icmpN_ne (tgt := 43) dX8_begin_34 (by decide) (by omega) (by omega) (fun c34 => absurd c34 (by decide)) (fun c34 => ?_)
  refine ja_aload_n (i := 0) dX8_begin_37 rfl rfl ?_
  refine ja_iconst (v := nI 2) dX8_begin_38 (by decide +kernel) ?_
  refine ja_cVd (st := []) (s_fails l hz (nI (2))) rfl rfl (ce_X8_fails 0 0) im_X8_fails se_X8_fails lk_X8_96 k_X8 (zM_s hz) ⟨(Nat.le_of_ble_eq_true rfl), (Nat.le_of_ble_eq_true rfl)⟩ dX8_begin_39 rfl rfl (Nat.le_of_ble_eq_true rfl) (Nat.zero_le _) (Nat.zero_le _) ?_
  intro D39 hD39
  subst hD39
  refine ja_num (D2 := ja_up D 100 0 (nI (2))) up_2 ?_
  refine ja_iret rfl rfl dX8_begin_42 (Nat.zero_le _) (Nat.zero_le _) ?_
  exact ⟨rfl, rfl, rfl⟩

set_option maxRecDepth 100000 in
set_option maxHeartbeats 4000000 in
theorem r_begin_ok (l : Launch) {Z : jZ} {D : jD} (hz : zM Z) (hau : D 100 2 = -1) {tn : Nat} (ht : D 100 1 = nI tn) (htn : tn < 40) {w : Nat} (hw : w ≤ 5) : ja_M l (mX8_begin 0 0) [.ref (100), .int (nI (w))] Z D (ja_jd (some (.int (nI tn))) Z (fun D2 => D2 = (fiU (cpU (cpU (ja_up (ja_up D 100 0 (nI 0)) 100 2 (nI w)) 108 105 768) 109 106 30) 110 6 0))) ja_x0 := by
  refine ja_Mof (lv := [some (.ref (100)), some (.int (nI (w))), none]) (by decide +kernel) rfl rfl (Nat.le_of_ble_eq_true rfl) rfl ?_
  refine ja_aload_n (i := 0) dX8_begin_0 rfl rfl ?_
  refine ja_iconst (v := nI 0) dX8_begin_1 (by decide +kernel) ?_
  refine ja_putI fl_X8_85 (zM_s hz) rfl rfl rfl dX8_begin_2 ?_
  refine ja_iload_n (i := 1) dX8_begin_5 rfl rfl ?_
  refine ja_iconst (v := nI 0) dX8_begin_6 (by decide +kernel) ?_
  refine ja_iconst (v := nI 5) dX8_begin_7 (by decide +kernel) ?_
  refine ja_cSr (st := []) (s_inT l (w) 0 5 (by omega) (by omega) (by omega)) rfl rfl (ce_X8_in 0 0) st_X8_in lk_X8_88 ⟨(Nat.le_of_ble_eq_true rfl), (Nat.le_of_ble_eq_true rfl)⟩ dX8_begin_8 rfl rfl (Nat.le_of_ble_eq_true rfl) (Nat.zero_le _) (Nat.zero_le _) ?_
  refine ja_ifB_ne (tgt := 20) dX8_begin_11 (by decide) (fun c11 => ?_) (fun c11 => absurd c11 (by decide))
  refine ja_aload_n (i := 0) dX8_begin_20 rfl rfl ?_
  refine ja_getI fl_X8_9 (zM_s hz) rfl dX8_begin_21 ?_
  refine ja_top (y := (-1)) hau ?_
  refine ja_iconst (v := (-1)) dX8_begin_24 (by decide +kernel) ?_
  refine ja_icmp_ne (tgt := 37) dX8_begin_25 (by decide) (fun c25 => absurd rfl c25) (fun c25 => ?_)
  refine ja_aload_n (i := 0) dX8_begin_28 rfl rfl ?_
  refine ja_getI fl_X8_100 (zM_s hz) rfl dX8_begin_29 ?_
  refine ja_top (y := nI (tn)) ht ?_
  refine ja_bipush (v := nI 40) dX8_begin_32 (by decide +kernel) ?_
  refine ja_icmpN_ne (tgt := 43) dX8_begin_34 (by decide) (by omega) (by omega) (fun c34 => ?_) (fun c34 => (by exfalso; omega))
  refine ja_aload_n (i := 0) dX8_begin_43 rfl rfl ?_
  refine ja_iload_n (i := 1) dX8_begin_44 rfl rfl ?_
  refine ja_putI fl_X8_9 (zM_s hz) rfl rfl rfl dX8_begin_45 ?_
  refine ja_iconst (v := nI 0) dX8_begin_48 (by decide +kernel) ?_
  refine ja_istore_n (i := 2) dX8_begin_49 rfl rfl (Nat.le_of_ble_eq_true rfl) ?_
  have lp50 : ∀ (f50 : Nat) (k : Nat) (E : jD), (768 < k + f50) → (k ≤ 768) → (E = cpU (ja_up (ja_up D 100 0 (nI 0)) 100 2 (nI w)) 108 105 k) → ja_A l (mX8_begin 0 0) ja_sn (ja_Qf (mX8_begin 0 0) (ja_jd (some (.int (nI tn))) Z (fun D2 => D2 = (fiU (cpU (cpU (ja_up (ja_up D 100 0 (nI 0)) 100 2 (nI w)) 108 105 768) 109 106 30) 110 6 0))) ja_x0) 50 [some (.ref (100)), some (.int (nI (w))), some (.int (nI (k)))] [] Z E 0 0 := by
    intro f50
    induction f50 with
    | zero => intro k E hk hq hE; exfalso; omega
    | succ f50 ih50 =>
      intro k E hk hq hE
      refine ja_iload_n (i := 2) dX8_begin_50 rfl rfl ?_
      refine ja_sipush (v := nI 768) dX8_begin_51 (by decide +kernel) ?_
      refine ja_icmpN_ge (tgt := 75) dX8_begin_54 (by decide) (by omega) (by omega) (fun c54 => ?_) (fun c54 => ?_)
      ·
        refine ja_num (D2 := (cpU (ja_up (ja_up D 100 0 (nI 0)) 100 2 (nI w)) 108 105 768)) (by rw [hE, show k = 768 by omega]) ?_
        refine ja_iconst (v := nI 0) dX8_begin_75 (by decide +kernel) ?_
        refine ja_istore_n (i := 2) dX8_begin_76 rfl rfl (Nat.le_of_ble_eq_true rfl) ?_
        have lp77 : ∀ (f77 : Nat) (k : Nat) (E : jD), (30 < k + f77) → (k ≤ 30) → (E = cpU (cpU (ja_up (ja_up D 100 0 (nI 0)) 100 2 (nI w)) 108 105 768) 109 106 k) → ja_A l (mX8_begin 0 0) ja_sn (ja_Qf (mX8_begin 0 0) (ja_jd (some (.int (nI tn))) Z (fun D2 => D2 = (fiU (cpU (cpU (ja_up (ja_up D 100 0 (nI 0)) 100 2 (nI w)) 108 105 768) 109 106 30) 110 6 0))) ja_x0) 77 [some (.ref (100)), some (.int (nI (w))), some (.int (nI (k)))] [] Z E 0 0 := by
          intro f77
          induction f77 with
          | zero => intro k E hk hq hE; exfalso; omega
          | succ f77 ih77 =>
            intro k E hk hq hE
            refine ja_iload_n (i := 2) dX8_begin_77 rfl rfl ?_
            refine ja_bipush (v := nI 30) dX8_begin_78 (by decide +kernel) ?_
            refine ja_icmpN_ge (tgt := 101) dX8_begin_80 (by decide) (by omega) (by omega) (fun c80 => ?_) (fun c80 => ?_)
            ·
              refine ja_num (D2 := (cpU (cpU (ja_up (ja_up D 100 0 (nI 0)) 100 2 (nI w)) 108 105 768) 109 106 30)) (by rw [hE, show k = 30 by omega]) ?_
              refine ja_iconst (v := nI 0) dX8_begin_101 (by decide +kernel) ?_
              refine ja_istore_n (i := 2) dX8_begin_102 rfl rfl (Nat.le_of_ble_eq_true rfl) ?_
              have lp103 : ∀ (f103 : Nat) (k : Nat) (E : jD), (6 < k + f103) → (k ≤ 6) → (E = fiU (cpU (cpU (ja_up (ja_up D 100 0 (nI 0)) 100 2 (nI w)) 108 105 768) 109 106 30) 110 k 0) → ja_A l (mX8_begin 0 0) ja_sn (ja_Qf (mX8_begin 0 0) (ja_jd (some (.int (nI tn))) Z (fun D2 => D2 = (fiU (cpU (cpU (ja_up (ja_up D 100 0 (nI 0)) 100 2 (nI w)) 108 105 768) 109 106 30) 110 6 0))) ja_x0) 103 [some (.ref (100)), some (.int (nI (w))), some (.int (nI (k)))] [] Z E 0 0 := by
                intro f103
                induction f103 with
                | zero => intro k E hk hq hE; exfalso; omega
                | succ f103 ih103 =>
                  intro k E hk hq hE
                  refine ja_iload_n (i := 2) dX8_begin_103 rfl rfl ?_
                  refine ja_bipush (v := nI 6) dX8_begin_104 (by decide +kernel) ?_
                  refine ja_icmpN_ge (tgt := 122) dX8_begin_106 (by decide) (by omega) (by omega) (fun c106 => ?_) (fun c106 => ?_)
                  ·
                    refine ja_num (D2 := (fiU (cpU (cpU (ja_up (ja_up D 100 0 (nI 0)) 100 2 (nI w)) 108 105 768) 109 106 30) 110 6 0)) (by rw [hE, show k = 6 by omega]) ?_
                    refine ja_aload_n (i := 0) dX8_begin_122 rfl rfl ?_
                    refine ja_getI fl_X8_100 (zM_s hz) rfl dX8_begin_123 ?_
                    refine ja_top (y := nI (tn)) ht ?_
                    refine ja_iret rfl rfl dX8_begin_126 (Nat.zero_le _) (Nat.zero_le _) ?_
                    exact ⟨rfl, rfl, rfl⟩
                  ·
                    refine ja_aload_n (i := 0) dX8_begin_109 rfl rfl ?_
                    refine ja_getR fl_X8_33 (zM_s hz) rfl (zM_p9 hz) dX8_begin_110 ?_
                    refine ja_iload_n (i := 2) dX8_begin_113 rfl rfl ?_
                    refine ja_iconst (v := nI 0) dX8_begin_114 (by decide +kernel) ?_
                    refine ja_zast (zM_a9 hz) rfl (by omega) (by decide) (by decide +kernel) dX8_begin_115 ?_
                    refine ja_iincN dX8_begin_116 rfl rfl (Nat.le_of_ble_eq_true rfl) ?_
                    refine ja_goto (tgt := 103) dX8_begin_119 (by decide) ?_
                    exact ih103 (k + 1) _ (by omega) (by omega) (by rw [hE]; exact fiU_s)
              exact lp103 7 0 (cpU (cpU (ja_up (ja_up D 100 0 (nI 0)) 100 2 (nI w)) 108 105 768) 109 106 30) (by omega) (by omega) fiU_0
            ·
              refine ja_aload_n (i := 0) dX8_begin_83 rfl rfl ?_
              refine ja_getR fl_X8_30 (zM_s hz) rfl (zM_p8 hz) dX8_begin_84 ?_
              refine ja_iload_n (i := 2) dX8_begin_87 rfl rfl ?_
              refine ja_aload_n (i := 0) dX8_begin_88 rfl rfl ?_
              refine ja_getR fl_X8_21 (zM_s hz) rfl (zM_p5 hz) dX8_begin_89 ?_
              refine ja_iload_n (i := 2) dX8_begin_92 rfl rfl ?_
              refine ja_iald (zM_a5 hz) rfl (by omega) (by decide) dX8_begin_93 ?_
              refine ja_iast (zM_a8 hz) rfl (by omega) (by decide) dX8_begin_94 ?_
              refine ja_iincN dX8_begin_95 rfl rfl (Nat.le_of_ble_eq_true rfl) ?_
              refine ja_goto (tgt := 77) dX8_begin_98 (by decide) ?_
              exact ih77 (k + 1) _ (by omega) (by omega) (by rw [hE]; exact cpU_s (cpU_src (by decide)))
        exact lp77 31 0 (cpU (ja_up (ja_up D 100 0 (nI 0)) 100 2 (nI w)) 108 105 768) (by omega) (by omega) cpU_0
      ·
        refine ja_aload_n (i := 0) dX8_begin_57 rfl rfl ?_
        refine ja_getR fl_X8_27 (zM_s hz) rfl (zM_p7 hz) dX8_begin_58 ?_
        refine ja_iload_n (i := 2) dX8_begin_61 rfl rfl ?_
        refine ja_aload_n (i := 0) dX8_begin_62 rfl rfl ?_
        refine ja_getR fl_X8_17 (zM_s hz) rfl (zM_p4 hz) dX8_begin_63 ?_
        refine ja_iload_n (i := 2) dX8_begin_66 rfl rfl ?_
        refine ja_iald (zM_a4 hz) rfl (by omega) (by decide) dX8_begin_67 ?_
        refine ja_iast (zM_a7 hz) rfl (by omega) (by decide) dX8_begin_68 ?_
        refine ja_iincN dX8_begin_69 rfl rfl (Nat.le_of_ble_eq_true rfl) ?_
        refine ja_goto (tgt := 50) dX8_begin_72 (by decide) ?_
        exact ih50 (k + 1) _ (by omega) (by omega) (by rw [hE]; exact cpU_s (cpU_src (by decide)))
  exact lp50 769 0 (ja_up (ja_up D 100 0 (nI (0))) 100 2 (nI (w))) (by omega) (by omega) cpU_0

set_option maxRecDepth 100000 in
set_option maxHeartbeats 4000000 in
theorem r_setValue_f1 (l : Launch) {Z : jZ} {D : jD} (hz : zM Z) {ly : Int32} (a nx : Int32) (hl : ¬ (nI 0 ≤ ly ∧ ly ≤ nI 2)) : ja_M l (mX8_setValue 0 0) [.ref (100), .int (ly), .int (a), .int (nx)] Z D (ja_jd (some (.int (nI 0))) Z (fun D2 => D2 = ja_up D 100 0 (nI 1))) ja_x0 := by
  refine ja_Mof (lv := [some (.ref (100)), some (.int (ly)), some (.int (a)), some (.int (nx)), none]) (by decide +kernel) rfl rfl (Nat.le_of_ble_eq_true rfl) rfl ?_
  refine ja_aload_n (i := 0) dX8_setValue_0 rfl rfl ?_
  refine ja_iconst (v := nI 0) dX8_setValue_1 (by decide +kernel) ?_
  refine ja_putI fl_X8_85 (zM_s hz) rfl rfl rfl dX8_setValue_2 ?_
  refine ja_iload_n (i := 1) dX8_setValue_5 rfl rfl ?_
  refine ja_cSr (st := []) (s_isLayerF l hl) rfl rfl (ce_X8_isLayer 0 0) st_X8_isLayer lk_X8_106 ⟨(Nat.le_of_ble_eq_true rfl), (Nat.le_of_ble_eq_true rfl)⟩ dX8_setValue_6 rfl rfl (Nat.le_of_ble_eq_true rfl) (Nat.zero_le _) (Nat.zero_le _) ?_
  refine ja_ifB_ne (tgt := 18) dX8_setValue_9 (by decide) (fun c9 => absurd c9 (by decide)) (fun c9 => ?_)
  refine ja_aload_n (i := 0) dX8_setValue_12 rfl rfl ?_
  refine ja_iconst (v := nI 1) dX8_setValue_13 (by decide +kernel) ?_
  refine ja_cVd (st := []) (s_fails l hz (nI (1))) rfl rfl (ce_X8_fails 0 0) im_X8_fails se_X8_fails lk_X8_96 k_X8 (zM_s hz) ⟨(Nat.le_of_ble_eq_true rfl), (Nat.le_of_ble_eq_true rfl)⟩ dX8_setValue_14 rfl rfl (Nat.le_of_ble_eq_true rfl) (Nat.zero_le _) (Nat.zero_le _) ?_
  intro D14 hD14
  subst hD14
  refine ja_num (D2 := ja_up D 100 0 (nI (1))) up_2 ?_
  refine ja_iret rfl rfl dX8_setValue_17 (Nat.zero_le _) (Nat.zero_le _) ?_
  exact ⟨rfl, rfl, rfl⟩

set_option maxRecDepth 100000 in
set_option maxHeartbeats 4000000 in
theorem r_setValue_f2 (l : Launch) {Z : jZ} {D : jD} (hz : zM Z) {ly : Nat} (h1 : ly < 3) {a : Int32} (nx : Int32) (ha : ¬ (nI 0 ≤ a ∧ a ≤ nI 9)) : ja_M l (mX8_setValue 0 0) [.ref (100), .int (nI (ly)), .int (a), .int (nx)] Z D (ja_jd (some (.int (nI 0))) Z (fun D2 => D2 = ja_up D 100 0 (nI 2))) ja_x0 := by
  refine ja_Mof (lv := [some (.ref (100)), some (.int (nI (ly))), some (.int (a)), some (.int (nx)), none]) (by decide +kernel) rfl rfl (Nat.le_of_ble_eq_true rfl) rfl ?_
  refine ja_aload_n (i := 0) dX8_setValue_0 rfl rfl ?_
  refine ja_iconst (v := nI 0) dX8_setValue_1 (by decide +kernel) ?_
  refine ja_putI fl_X8_85 (zM_s hz) rfl rfl rfl dX8_setValue_2 ?_
  refine ja_iload_n (i := 1) dX8_setValue_5 rfl rfl ?_
  refine ja_cSr (st := []) (s_isLayerT l (by omega)) rfl rfl (ce_X8_isLayer 0 0) st_X8_isLayer lk_X8_106 ⟨(Nat.le_of_ble_eq_true rfl), (Nat.le_of_ble_eq_true rfl)⟩ dX8_setValue_6 rfl rfl (Nat.le_of_ble_eq_true rfl) (Nat.zero_le _) (Nat.zero_le _) ?_
  refine ja_ifB_ne (tgt := 18) dX8_setValue_9 (by decide) (fun c9 => ?_) (fun c9 => absurd c9 (by decide))
  refine ja_iload_n (i := 2) dX8_setValue_18 rfl rfl ?_
  refine ja_cSr (st := []) (s_isAreaF l ha) rfl rfl (ce_X8_isArea 0 0) st_X8_isArea lk_X8_110 ⟨(Nat.le_of_ble_eq_true rfl), (Nat.le_of_ble_eq_true rfl)⟩ dX8_setValue_19 rfl rfl (Nat.le_of_ble_eq_true rfl) (Nat.zero_le _) (Nat.zero_le _) ?_
  refine ja_ifB_eq (tgt := 36) dX8_setValue_22 (by decide) (fun c22 => ?_) (fun c22 => absurd c22 (by decide))
  refine ja_aload_n (i := 0) dX8_setValue_36 rfl rfl ?_
  refine ja_iconst (v := nI 2) dX8_setValue_37 (by decide +kernel) ?_
  refine ja_cVd (st := []) (s_fails l hz (nI (2))) rfl rfl (ce_X8_fails 0 0) im_X8_fails se_X8_fails lk_X8_96 k_X8 (zM_s hz) ⟨(Nat.le_of_ble_eq_true rfl), (Nat.le_of_ble_eq_true rfl)⟩ dX8_setValue_38 rfl rfl (Nat.le_of_ble_eq_true rfl) (Nat.zero_le _) (Nat.zero_le _) ?_
  intro D38 hD38
  subst hD38
  refine ja_num (D2 := ja_up D 100 0 (nI (2))) up_2 ?_
  refine ja_iret rfl rfl dX8_setValue_41 (Nat.zero_le _) (Nat.zero_le _) ?_
  exact ⟨rfl, rfl, rfl⟩

set_option maxRecDepth 100000 in
set_option maxHeartbeats 4000000 in
theorem r_setValue_f2b (l : Launch) {Z : jZ} {D : jD} (hz : zM Z) {ly a : Nat} (h1 : ly < 3) (h2 : a < 10) {nx : Int32} (hx : ¬ (nI 0 ≤ nx ∧ nx ≤ nI 9999)) : ja_M l (mX8_setValue 0 0) [.ref (100), .int (nI (ly)), .int (nI (a)), .int (nx)] Z D (ja_jd (some (.int (nI 0))) Z (fun D2 => D2 = ja_up D 100 0 (nI 2))) ja_x0 := by
  refine ja_Mof (lv := [some (.ref (100)), some (.int (nI (ly))), some (.int (nI (a))), some (.int (nx)), none]) (by decide +kernel) rfl rfl (Nat.le_of_ble_eq_true rfl) rfl ?_
  refine ja_aload_n (i := 0) dX8_setValue_0 rfl rfl ?_
  refine ja_iconst (v := nI 0) dX8_setValue_1 (by decide +kernel) ?_
  refine ja_putI fl_X8_85 (zM_s hz) rfl rfl rfl dX8_setValue_2 ?_
  refine ja_iload_n (i := 1) dX8_setValue_5 rfl rfl ?_
  refine ja_cSr (st := []) (s_isLayerT l (by omega)) rfl rfl (ce_X8_isLayer 0 0) st_X8_isLayer lk_X8_106 ⟨(Nat.le_of_ble_eq_true rfl), (Nat.le_of_ble_eq_true rfl)⟩ dX8_setValue_6 rfl rfl (Nat.le_of_ble_eq_true rfl) (Nat.zero_le _) (Nat.zero_le _) ?_
  refine ja_ifB_ne (tgt := 18) dX8_setValue_9 (by decide) (fun c9 => ?_) (fun c9 => absurd c9 (by decide))
  refine ja_iload_n (i := 2) dX8_setValue_18 rfl rfl ?_
  refine ja_cSr (st := []) (s_isAreaT l (by omega)) rfl rfl (ce_X8_isArea 0 0) st_X8_isArea lk_X8_110 ⟨(Nat.le_of_ble_eq_true rfl), (Nat.le_of_ble_eq_true rfl)⟩ dX8_setValue_19 rfl rfl (Nat.le_of_ble_eq_true rfl) (Nat.zero_le _) (Nat.zero_le _) ?_
  refine ja_ifB_eq (tgt := 36) dX8_setValue_22 (by decide) (fun c22 => absurd c22 (by decide)) (fun c22 => ?_)
  refine ja_iload_n (i := 3) dX8_setValue_25 rfl rfl ?_
  refine ja_iconst (v := nI 0) dX8_setValue_26 (by decide +kernel) ?_
  refine ja_sipush (v := nI 9999) dX8_setValue_27 (by decide +kernel) ?_
  refine ja_cSr (st := []) (s_inF l (nx) (nI (0)) (nI (9999)) hx) rfl rfl (ce_X8_in 0 0) st_X8_in lk_X8_88 ⟨(Nat.le_of_ble_eq_true rfl), (Nat.le_of_ble_eq_true rfl)⟩ dX8_setValue_30 rfl rfl (Nat.le_of_ble_eq_true rfl) (Nat.zero_le _) (Nat.zero_le _) ?_
  refine ja_ifB_ne (tgt := 42) dX8_setValue_33 (by decide) (fun c33 => absurd c33 (by decide)) (fun c33 => ?_)
  refine ja_aload_n (i := 0) dX8_setValue_36 rfl rfl ?_
  refine ja_iconst (v := nI 2) dX8_setValue_37 (by decide +kernel) ?_
  refine ja_cVd (st := []) (s_fails l hz (nI (2))) rfl rfl (ce_X8_fails 0 0) im_X8_fails se_X8_fails lk_X8_96 k_X8 (zM_s hz) ⟨(Nat.le_of_ble_eq_true rfl), (Nat.le_of_ble_eq_true rfl)⟩ dX8_setValue_38 rfl rfl (Nat.le_of_ble_eq_true rfl) (Nat.zero_le _) (Nat.zero_le _) ?_
  intro D38 hD38
  subst hD38
  refine ja_num (D2 := ja_up D 100 0 (nI (2))) up_2 ?_
  refine ja_iret rfl rfl dX8_setValue_41 (Nat.zero_le _) (Nat.zero_le _) ?_
  exact ⟨rfl, rfl, rfl⟩

set_option maxRecDepth 100000 in
set_option maxHeartbeats 4000000 in
theorem r_setValue_f3 (l : Launch) {Z : jZ} {D : jD} (hz : zM Z) {ly a : Nat} (h1 : ly < 3) (h2 : a < 10) {nx : Nat} (hx : nx ≤ 9999) (hau : D 100 2 = -1)  : ja_M l (mX8_setValue 0 0) [.ref (100), .int (nI (ly)), .int (nI (a)), .int (nI (nx))] Z D (ja_jd (some (.int (nI 0))) Z (fun D2 => D2 = ja_up D 100 0 (nI 3))) ja_x0 := by
  refine ja_Mof (lv := [some (.ref (100)), some (.int (nI (ly))), some (.int (nI (a))), some (.int (nI (nx))), none]) (by decide +kernel) rfl rfl (Nat.le_of_ble_eq_true rfl) rfl ?_
  refine ja_aload_n (i := 0) dX8_setValue_0 rfl rfl ?_
  refine ja_iconst (v := nI 0) dX8_setValue_1 (by decide +kernel) ?_
  refine ja_putI fl_X8_85 (zM_s hz) rfl rfl rfl dX8_setValue_2 ?_
  refine ja_iload_n (i := 1) dX8_setValue_5 rfl rfl ?_
  refine ja_cSr (st := []) (s_isLayerT l (by omega)) rfl rfl (ce_X8_isLayer 0 0) st_X8_isLayer lk_X8_106 ⟨(Nat.le_of_ble_eq_true rfl), (Nat.le_of_ble_eq_true rfl)⟩ dX8_setValue_6 rfl rfl (Nat.le_of_ble_eq_true rfl) (Nat.zero_le _) (Nat.zero_le _) ?_
  refine ja_ifB_ne (tgt := 18) dX8_setValue_9 (by decide) (fun c9 => ?_) (fun c9 => absurd c9 (by decide))
  refine ja_iload_n (i := 2) dX8_setValue_18 rfl rfl ?_
  refine ja_cSr (st := []) (s_isAreaT l (by omega)) rfl rfl (ce_X8_isArea 0 0) st_X8_isArea lk_X8_110 ⟨(Nat.le_of_ble_eq_true rfl), (Nat.le_of_ble_eq_true rfl)⟩ dX8_setValue_19 rfl rfl (Nat.le_of_ble_eq_true rfl) (Nat.zero_le _) (Nat.zero_le _) ?_
  refine ja_ifB_eq (tgt := 36) dX8_setValue_22 (by decide) (fun c22 => absurd c22 (by decide)) (fun c22 => ?_)
  refine ja_iload_n (i := 3) dX8_setValue_25 rfl rfl ?_
  refine ja_iconst (v := nI 0) dX8_setValue_26 (by decide +kernel) ?_
  refine ja_sipush (v := nI 9999) dX8_setValue_27 (by decide +kernel) ?_
  refine ja_cSr (st := []) (s_inT l (nx) 0 9999 (by omega) (by omega) (by omega)) rfl rfl (ce_X8_in 0 0) st_X8_in lk_X8_88 ⟨(Nat.le_of_ble_eq_true rfl), (Nat.le_of_ble_eq_true rfl)⟩ dX8_setValue_30 rfl rfl (Nat.le_of_ble_eq_true rfl) (Nat.zero_le _) (Nat.zero_le _) ?_
  refine ja_ifB_ne (tgt := 42) dX8_setValue_33 (by decide) (fun c33 => ?_) (fun c33 => absurd c33 (by decide))
  refine ja_aload_n (i := 0) dX8_setValue_42 rfl rfl ?_
  refine ja_getI fl_X8_9 (zM_s hz) rfl dX8_setValue_43 ?_
  refine ja_top (y := (-1)) hau ?_
  refine ja_iconst (v := (-1)) dX8_setValue_46 (by decide +kernel) ?_
  refine ja_icmp_ne (tgt := 56) dX8_setValue_47 (by decide) (fun c47 => absurd rfl c47) (fun c47 => ?_)
  refine ja_aload_n (i := 0) dX8_setValue_50 rfl rfl ?_
  refine ja_iconst (v := nI 3) dX8_setValue_51 (by decide +kernel) ?_
  refine ja_cVd (st := []) (s_fails l hz (nI (3))) rfl rfl (ce_X8_fails 0 0) im_X8_fails se_X8_fails lk_X8_96 k_X8 (zM_s hz) ⟨(Nat.le_of_ble_eq_true rfl), (Nat.le_of_ble_eq_true rfl)⟩ dX8_setValue_52 rfl rfl (Nat.le_of_ble_eq_true rfl) (Nat.zero_le _) (Nat.zero_le _) ?_
  intro D52 hD52
  subst hD52
  refine ja_num (D2 := ja_up D 100 0 (nI (3))) up_2 ?_
  refine ja_iret rfl rfl dX8_setValue_55 (Nat.zero_le _) (Nat.zero_le _) ?_
  exact ⟨rfl, rfl, rfl⟩

set_option maxRecDepth 100000 in
set_option maxHeartbeats 4000000 in
theorem r_setValue_f4 (l : Launch) {Z : jZ} {D : jD} (hz : zM Z) {ly a : Nat} (h1 : ly < 3) (h2 : a < 10) {nx : Nat} (hx : nx ≤ 9999) {w0 : Nat} (hau : D 100 2 = nI w0) (hw5 : w0 ≤ 5) (hs : cSz (D 105) ly (nI a) 256 = 0) : ja_M l (mX8_setValue 0 0) [.ref (100), .int (nI (ly)), .int (nI (a)), .int (nI (nx))] Z D (ja_jd (some (.int (nI 0))) Z (fun D2 => D2 = ja_up D 100 0 (nI 4))) ja_x0 := by
  refine ja_Mof (lv := [some (.ref (100)), some (.int (nI (ly))), some (.int (nI (a))), some (.int (nI (nx))), none]) (by decide +kernel) rfl rfl (Nat.le_of_ble_eq_true rfl) rfl ?_
  refine ja_aload_n (i := 0) dX8_setValue_0 rfl rfl ?_
  refine ja_iconst (v := nI 0) dX8_setValue_1 (by decide +kernel) ?_
  refine ja_putI fl_X8_85 (zM_s hz) rfl rfl rfl dX8_setValue_2 ?_
  refine ja_iload_n (i := 1) dX8_setValue_5 rfl rfl ?_
  refine ja_cSr (st := []) (s_isLayerT l (by omega)) rfl rfl (ce_X8_isLayer 0 0) st_X8_isLayer lk_X8_106 ⟨(Nat.le_of_ble_eq_true rfl), (Nat.le_of_ble_eq_true rfl)⟩ dX8_setValue_6 rfl rfl (Nat.le_of_ble_eq_true rfl) (Nat.zero_le _) (Nat.zero_le _) ?_
  refine ja_ifB_ne (tgt := 18) dX8_setValue_9 (by decide) (fun c9 => ?_) (fun c9 => absurd c9 (by decide))
  refine ja_iload_n (i := 2) dX8_setValue_18 rfl rfl ?_
  refine ja_cSr (st := []) (s_isAreaT l (by omega)) rfl rfl (ce_X8_isArea 0 0) st_X8_isArea lk_X8_110 ⟨(Nat.le_of_ble_eq_true rfl), (Nat.le_of_ble_eq_true rfl)⟩ dX8_setValue_19 rfl rfl (Nat.le_of_ble_eq_true rfl) (Nat.zero_le _) (Nat.zero_le _) ?_
  refine ja_ifB_eq (tgt := 36) dX8_setValue_22 (by decide) (fun c22 => absurd c22 (by decide)) (fun c22 => ?_)
  refine ja_iload_n (i := 3) dX8_setValue_25 rfl rfl ?_
  refine ja_iconst (v := nI 0) dX8_setValue_26 (by decide +kernel) ?_
  refine ja_sipush (v := nI 9999) dX8_setValue_27 (by decide +kernel) ?_
  refine ja_cSr (st := []) (s_inT l (nx) 0 9999 (by omega) (by omega) (by omega)) rfl rfl (ce_X8_in 0 0) st_X8_in lk_X8_88 ⟨(Nat.le_of_ble_eq_true rfl), (Nat.le_of_ble_eq_true rfl)⟩ dX8_setValue_30 rfl rfl (Nat.le_of_ble_eq_true rfl) (Nat.zero_le _) (Nat.zero_le _) ?_
  refine ja_ifB_ne (tgt := 42) dX8_setValue_33 (by decide) (fun c33 => ?_) (fun c33 => absurd c33 (by decide))
  refine ja_aload_n (i := 0) dX8_setValue_42 rfl rfl ?_
  refine ja_getI fl_X8_9 (zM_s hz) rfl dX8_setValue_43 ?_
  refine ja_top (y := nI (w0)) hau ?_
  refine ja_iconst (v := (-1)) dX8_setValue_46 (by decide +kernel) ?_
  refine ja_icmp_ne (tgt := 56) dX8_setValue_47 (by decide) (fun c47 => ?_) (fun c47 => absurd c47 (nI_nm1 (by omega)))
  refine ja_aload_n (i := 0) dX8_setValue_56 rfl rfl ?_
  refine ja_iload_n (i := 1) dX8_setValue_57 rfl rfl ?_
  refine ja_iload_n (i := 2) dX8_setValue_58 rfl rfl ?_
  refine ja_cVr (st := []) (s_sizeOf (D := (ja_up D 100 0 (nI (0)))) l hz (ly := ly) (by omega) (nI (a))) rfl rfl (ce_X8_sizeOf 0 0) im_X8_sizeOf se_X8_sizeOf lk_X8_103 k_X8 (zM_s hz) ⟨(Nat.le_of_ble_eq_true rfl), (Nat.le_of_ble_eq_true rfl)⟩ dX8_setValue_59 rfl rfl (Nat.le_of_ble_eq_true rfl) (Nat.zero_le _) (Nat.zero_le _) ?_
  refine ja_top (y := nI (0)) (congrArg nI hs) ?_
  refine ja_ifN_ne (tgt := 71) dX8_setValue_62 (by decide) (by omega) (fun c62 => absurd c62 (by decide)) (fun c62 => ?_)
  refine ja_aload_n (i := 0) dX8_setValue_65 rfl rfl ?_
  refine ja_iconst (v := nI 4) dX8_setValue_66 (by decide +kernel) ?_
  refine ja_cVd (st := []) (s_fails l hz (nI (4))) rfl rfl (ce_X8_fails 0 0) im_X8_fails se_X8_fails lk_X8_96 k_X8 (zM_s hz) ⟨(Nat.le_of_ble_eq_true rfl), (Nat.le_of_ble_eq_true rfl)⟩ dX8_setValue_67 rfl rfl (Nat.le_of_ble_eq_true rfl) (Nat.zero_le _) (Nat.zero_le _) ?_
  intro D67 hD67
  subst hD67
  refine ja_num (D2 := ja_up D 100 0 (nI (4))) up_2 ?_
  refine ja_iret rfl rfl dX8_setValue_70 (Nat.zero_le _) (Nat.zero_le _) ?_
  exact ⟨rfl, rfl, rfl⟩

set_option maxRecDepth 100000 in
set_option maxHeartbeats 4000000 in
theorem r_setValue_ok (l : Launch) {Z : jZ} {D : jD} (hz : zM Z) {ly a : Nat} (h1 : ly < 3) (h2 : a < 10) {nx : Nat} (hx : nx ≤ 9999) {w0 : Nat} (hau : D 100 2 = nI w0) (hw5 : w0 ≤ 5) (hs : ¬ cSz (D 105) ly (nI a) 256 = 0) : ja_M l (mX8_setValue 0 0) [.ref (100), .int (nI (ly)), .int (nI (a)), .int (nI (nx))] Z D (ja_jd (some (.int (D 106 (10 * ly + a)))) Z (fun D2 => D2 = ja_up (ja_up D 100 0 (nI 0)) 106 (10 * ly + a) (nI nx))) ja_x0 := by
  refine ja_Mof (lv := [some (.ref (100)), some (.int (nI (ly))), some (.int (nI (a))), some (.int (nI (nx))), none]) (by decide +kernel) rfl rfl (Nat.le_of_ble_eq_true rfl) rfl ?_
  refine ja_aload_n (i := 0) dX8_setValue_0 rfl rfl ?_
  refine ja_iconst (v := nI 0) dX8_setValue_1 (by decide +kernel) ?_
  refine ja_putI fl_X8_85 (zM_s hz) rfl rfl rfl dX8_setValue_2 ?_
  refine ja_iload_n (i := 1) dX8_setValue_5 rfl rfl ?_
  refine ja_cSr (st := []) (s_isLayerT l (by omega)) rfl rfl (ce_X8_isLayer 0 0) st_X8_isLayer lk_X8_106 ⟨(Nat.le_of_ble_eq_true rfl), (Nat.le_of_ble_eq_true rfl)⟩ dX8_setValue_6 rfl rfl (Nat.le_of_ble_eq_true rfl) (Nat.zero_le _) (Nat.zero_le _) ?_
  refine ja_ifB_ne (tgt := 18) dX8_setValue_9 (by decide) (fun c9 => ?_) (fun c9 => absurd c9 (by decide))
  refine ja_iload_n (i := 2) dX8_setValue_18 rfl rfl ?_
  refine ja_cSr (st := []) (s_isAreaT l (by omega)) rfl rfl (ce_X8_isArea 0 0) st_X8_isArea lk_X8_110 ⟨(Nat.le_of_ble_eq_true rfl), (Nat.le_of_ble_eq_true rfl)⟩ dX8_setValue_19 rfl rfl (Nat.le_of_ble_eq_true rfl) (Nat.zero_le _) (Nat.zero_le _) ?_
  refine ja_ifB_eq (tgt := 36) dX8_setValue_22 (by decide) (fun c22 => absurd c22 (by decide)) (fun c22 => ?_)
  refine ja_iload_n (i := 3) dX8_setValue_25 rfl rfl ?_
  refine ja_iconst (v := nI 0) dX8_setValue_26 (by decide +kernel) ?_
  refine ja_sipush (v := nI 9999) dX8_setValue_27 (by decide +kernel) ?_
  refine ja_cSr (st := []) (s_inT l (nx) 0 9999 (by omega) (by omega) (by omega)) rfl rfl (ce_X8_in 0 0) st_X8_in lk_X8_88 ⟨(Nat.le_of_ble_eq_true rfl), (Nat.le_of_ble_eq_true rfl)⟩ dX8_setValue_30 rfl rfl (Nat.le_of_ble_eq_true rfl) (Nat.zero_le _) (Nat.zero_le _) ?_
  refine ja_ifB_ne (tgt := 42) dX8_setValue_33 (by decide) (fun c33 => ?_) (fun c33 => absurd c33 (by decide))
  refine ja_aload_n (i := 0) dX8_setValue_42 rfl rfl ?_
  refine ja_getI fl_X8_9 (zM_s hz) rfl dX8_setValue_43 ?_
  refine ja_top (y := nI (w0)) hau ?_
  refine ja_iconst (v := (-1)) dX8_setValue_46 (by decide +kernel) ?_
  refine ja_icmp_ne (tgt := 56) dX8_setValue_47 (by decide) (fun c47 => ?_) (fun c47 => absurd c47 (nI_nm1 (by omega)))
  refine ja_aload_n (i := 0) dX8_setValue_56 rfl rfl ?_
  refine ja_iload_n (i := 1) dX8_setValue_57 rfl rfl ?_
  refine ja_iload_n (i := 2) dX8_setValue_58 rfl rfl ?_
  refine ja_cVr (st := []) (s_sizeOf (D := (ja_up D 100 0 (nI (0)))) l hz (ly := ly) (by omega) (nI (a))) rfl rfl (ce_X8_sizeOf 0 0) im_X8_sizeOf se_X8_sizeOf lk_X8_103 k_X8 (zM_s hz) ⟨(Nat.le_of_ble_eq_true rfl), (Nat.le_of_ble_eq_true rfl)⟩ dX8_setValue_59 rfl rfl (Nat.le_of_ble_eq_true rfl) (Nat.zero_le _) (Nat.zero_le _) ?_
  have z1 := cSz_le ((ja_up D 100 0 (nI 0)) 105) ly (nI a) 256
  refine ja_ifN_ne (tgt := 71) dX8_setValue_62 (by decide) (by omega) (fun c62 => ?_) (fun c62 => absurd c62 hs)
  refine ja_aload_n (i := 0) dX8_setValue_71 rfl rfl ?_
  refine ja_getR fl_X8_21 (zM_s hz) rfl (zM_p5 hz) dX8_setValue_72 ?_
  refine ja_bipush (v := nI 10) dX8_setValue_75 (by decide +kernel) ?_
  refine ja_iload_n (i := 1) dX8_setValue_77 rfl rfl ?_
  refine ja_imulN dX8_setValue_78 ?_
  refine ja_iload_n (i := 2) dX8_setValue_79 rfl rfl ?_
  refine ja_iaddN dX8_setValue_80 ?_
  refine ja_iald (zM_a5 hz) rfl (by omega) (by decide) dX8_setValue_81 ?_
  refine ja_istore (i := 4) dX8_setValue_82 rfl (Nat.le_of_ble_eq_true rfl) ?_
  refine ja_aload_n (i := 0) dX8_setValue_84 rfl rfl ?_
  refine ja_getR fl_X8_21 (zM_s hz) rfl (zM_p5 hz) dX8_setValue_85 ?_
  refine ja_bipush (v := nI 10) dX8_setValue_88 (by decide +kernel) ?_
  refine ja_iload_n (i := 1) dX8_setValue_90 rfl rfl ?_
  refine ja_imulN dX8_setValue_91 ?_
  refine ja_iload_n (i := 2) dX8_setValue_92 rfl rfl ?_
  refine ja_iaddN dX8_setValue_93 ?_
  refine ja_iload_n (i := 3) dX8_setValue_94 rfl rfl ?_
  refine ja_iast (zM_a5 hz) rfl (by omega) (by decide) dX8_setValue_95 ?_
  refine ja_iload (i := 4) dX8_setValue_96 rfl ?_
  refine ja_iret rfl rfl dX8_setValue_98 (Nat.zero_le _) (Nat.zero_le _) ?_
  exact ⟨rfl, rfl, rfl⟩

set_option maxRecDepth 100000 in
set_option maxHeartbeats 4000000 in
theorem r_setDivides_f1 (l : Launch) {Z : jZ} {D : jD} (hz : zM Z) {ly : Int32} {dv : Bool} (hl : ¬ (nI 0 ≤ ly ∧ ly ≤ nI 2)) : ja_M l (mX8_setDivides 0 0) [.ref (100), .int (ly), .int (bI (dv))] Z D (ja_jd (some (.int (bI false))) Z (fun D2 => D2 = ja_up D 100 0 (nI 1))) ja_x0 := by
  refine ja_Mof (lv := [some (.ref (100)), some (.int (ly)), some (.int (bI (dv))), none]) (by decide +kernel) rfl rfl (Nat.le_of_ble_eq_true rfl) rfl ?_
  refine ja_aload_n (i := 0) dX8_setDivides_0 rfl rfl ?_
  refine ja_iload_n (i := 1) dX8_setDivides_1 rfl rfl ?_
  refine ja_cSr (st := [.ref (100)]) (s_isLayerF l hl) rfl rfl (ce_X8_isLayer 0 0) st_X8_isLayer lk_X8_106 ⟨(Nat.le_of_ble_eq_true rfl), (Nat.le_of_ble_eq_true rfl)⟩ dX8_setDivides_2 rfl rfl (Nat.le_of_ble_eq_true rfl) (Nat.zero_le _) (Nat.zero_le _) ?_
  refine ja_ifB_eq (tgt := 12) dX8_setDivides_5 (by decide) (fun c5 => ?_) (fun c5 => absurd c5 (by decide))
  refine ja_iconst (v := nI 1) dX8_setDivides_12 (by decide +kernel) ?_
  refine ja_putI fl_X8_85 (zM_s hz) rfl rfl rfl dX8_setDivides_13 ?_
  refine ja_aload_n (i := 0) dX8_setDivides_16 rfl rfl ?_
  refine ja_getI fl_X8_85 (zM_s hz) rfl dX8_setDivides_17 ?_
  refine ja_top (y := nI (1)) up_s ?_
  refine ja_ifN_le (tgt := 25) dX8_setDivides_20 (by decide) (by omega) (fun c20 => absurd c20 (by decide)) (fun c20 => ?_)
  refine ja_iconst (v := nI 0) dX8_setDivides_23 (by decide +kernel) ?_
  refine ja_iret rfl (by decide +kernel) dX8_setDivides_24 (Nat.zero_le _) (Nat.zero_le _) ?_
  exact ⟨rfl, rfl, rfl⟩

set_option maxRecDepth 100000 in
set_option maxHeartbeats 4000000 in
theorem r_setDivides_ok (l : Launch) {Z : jZ} {D : jD} (hz : zM Z) {ly : Nat} (h1 : ly < 3) {dv cp : Bool} (hc : D 104 ly = bI cp) : ja_M l (mX8_setDivides 0 0) [.ref (100), .int (nI (ly)), .int (bI (dv))] Z D (ja_jd (some (.int (bI (!cp)))) Z (fun D2 => D2 = ja_up (ja_up D 100 0 (nI 0)) 104 ly (bI (!dv)))) ja_x0 := by
  refine ja_Mof (lv := [some (.ref (100)), some (.int (nI (ly))), some (.int (bI (dv))), none]) (by decide +kernel) rfl rfl (Nat.le_of_ble_eq_true rfl) rfl ?_
  refine ja_aload_n (i := 0) dX8_setDivides_0 rfl rfl ?_
  refine ja_iload_n (i := 1) dX8_setDivides_1 rfl rfl ?_
  refine ja_cSr (st := [.ref (100)]) (s_isLayerT l (by omega)) rfl rfl (ce_X8_isLayer 0 0) st_X8_isLayer lk_X8_106 ⟨(Nat.le_of_ble_eq_true rfl), (Nat.le_of_ble_eq_true rfl)⟩ dX8_setDivides_2 rfl rfl (Nat.le_of_ble_eq_true rfl) (Nat.zero_le _) (Nat.zero_le _) ?_
  refine ja_ifB_eq (tgt := 12) dX8_setDivides_5 (by decide) (fun c5 => absurd c5 (by decide)) (fun c5 => ?_)
  refine ja_iconst (v := nI 0) dX8_setDivides_8 (by decide +kernel) ?_
  refine ja_goto (tgt := 13) dX8_setDivides_9 (by decide) ?_
  refine ja_putI fl_X8_85 (zM_s hz) rfl rfl rfl dX8_setDivides_13 ?_
  refine ja_aload_n (i := 0) dX8_setDivides_16 rfl rfl ?_
  refine ja_getI fl_X8_85 (zM_s hz) rfl dX8_setDivides_17 ?_
  refine ja_top (y := nI (0)) up_s ?_
  refine ja_ifN_le (tgt := 25) dX8_setDivides_20 (by decide) (by omega) (fun c20 => ?_) (fun c20 => absurd c20 (by decide))
  refine ja_aload_n (i := 0) dX8_setDivides_25 rfl rfl ?_
  refine ja_getR fl_X8_13 (zM_s hz) rfl (zM_p3 hz) dX8_setDivides_26 ?_
  refine ja_iload_n (i := 1) dX8_setDivides_29 rfl rfl ?_
  refine ja_zald (zM_a3 hz) rfl (by omega) (by decide) dX8_setDivides_30 ?_
  refine ja_top (y := bI (cp)) hc ?_
  refine ja_ifB_ne (tgt := 38) dX8_setDivides_31 (by decide) (fun c31 => ?_) (fun c31 => ?_)
  ·
    refine ja_iconst (v := nI 0) dX8_setDivides_38 (by decide +kernel) ?_
    refine ja_istore_n (i := 3) dX8_setDivides_39 rfl rfl (Nat.le_of_ble_eq_true rfl) ?_
    refine ja_aload_n (i := 0) dX8_setDivides_40 rfl rfl ?_
    refine ja_getR fl_X8_13 (zM_s hz) rfl (zM_p3 hz) dX8_setDivides_41 ?_
    refine ja_iload_n (i := 1) dX8_setDivides_44 rfl rfl ?_
    refine ja_iload_n (i := 2) dX8_setDivides_45 rfl rfl ?_
    refine ja_ifB_ne (tgt := 53) dX8_setDivides_46 (by decide) (fun c46 => ?_) (fun c46 => ?_)
    ·
      refine ja_iconst (v := nI 0) dX8_setDivides_53 (by decide +kernel) ?_
      refine ja_zast (zM_a3 hz) rfl (by omega) (by decide) (by decide +kernel) dX8_setDivides_54 ?_
      refine ja_iload_n (i := 3) dX8_setDivides_55 rfl rfl ?_
      refine ja_iret rfl (by decide +kernel) dX8_setDivides_56 (Nat.zero_le _) (Nat.zero_le _) ?_
      exact ⟨by rw [c31]; rfl, rfl, by rw [c46]; rfl⟩
    ·
      refine ja_iconst (v := nI 1) dX8_setDivides_49 (by decide +kernel) ?_
      refine ja_goto (tgt := 54) dX8_setDivides_50 (by decide) ?_
      refine ja_zast (zM_a3 hz) rfl (by omega) (by decide) (by decide +kernel) dX8_setDivides_54 ?_
      refine ja_iload_n (i := 3) dX8_setDivides_55 rfl rfl ?_
      refine ja_iret rfl (by decide +kernel) dX8_setDivides_56 (Nat.zero_le _) (Nat.zero_le _) ?_
      exact ⟨by rw [c31]; rfl, rfl, by rw [c46]; rfl⟩
  ·
    refine ja_iconst (v := nI 1) dX8_setDivides_34 (by decide +kernel) ?_
    refine ja_goto (tgt := 39) dX8_setDivides_35 (by decide) ?_
    refine ja_istore_n (i := 3) dX8_setDivides_39 rfl rfl (Nat.le_of_ble_eq_true rfl) ?_
    refine ja_aload_n (i := 0) dX8_setDivides_40 rfl rfl ?_
    refine ja_getR fl_X8_13 (zM_s hz) rfl (zM_p3 hz) dX8_setDivides_41 ?_
    refine ja_iload_n (i := 1) dX8_setDivides_44 rfl rfl ?_
    refine ja_iload_n (i := 2) dX8_setDivides_45 rfl rfl ?_
    refine ja_ifB_ne (tgt := 53) dX8_setDivides_46 (by decide) (fun c46 => ?_) (fun c46 => ?_)
    ·
      refine ja_iconst (v := nI 0) dX8_setDivides_53 (by decide +kernel) ?_
      refine ja_zast (zM_a3 hz) rfl (by omega) (by decide) (by decide +kernel) dX8_setDivides_54 ?_
      refine ja_iload_n (i := 3) dX8_setDivides_55 rfl rfl ?_
      refine ja_iret rfl (by decide +kernel) dX8_setDivides_56 (Nat.zero_le _) (Nat.zero_le _) ?_
      exact ⟨by rw [c31]; rfl, rfl, by rw [c46]; rfl⟩
    ·
      refine ja_iconst (v := nI 1) dX8_setDivides_49 (by decide +kernel) ?_
      refine ja_goto (tgt := 54) dX8_setDivides_50 (by decide) ?_
      refine ja_zast (zM_a3 hz) rfl (by omega) (by decide) (by decide +kernel) dX8_setDivides_54 ?_
      refine ja_iload_n (i := 3) dX8_setDivides_55 rfl rfl ?_
      refine ja_iret rfl (by decide +kernel) dX8_setDivides_56 (Nat.zero_le _) (Nat.zero_le _) ?_
      exact ⟨by rw [c31]; rfl, rfl, by rw [c46]; rfl⟩

set_option maxRecDepth 100000 in
set_option maxHeartbeats 4000000 in
theorem r_sign_f1 (l : Launch) {Z : jZ} {D : jD} (hz : zM Z) {n : Nat} (hrn : D 100 12 = nI n) (hn6 : n ≤ 6) {k : Int32} (hk : ¬ (0 ≤ k.toInt ∧ k.toInt < n)) : ja_M l (mX8_sign 0 0) [.ref (100), .int (k)] Z D (ja_jd (some (.int (nI 0))) Z (fun D2 => D2 = ja_up D 100 0 (nI 1))) ja_x0 := by
  refine ja_Mof (lv := [some (.ref (100)), some (.int (k)), none, none]) (by decide +kernel) rfl rfl (Nat.le_of_ble_eq_true rfl) rfl ?_
  refine ja_aload_n (i := 0) dX8_sign_0 rfl rfl ?_
  refine ja_iconst (v := nI 0) dX8_sign_1 (by decide +kernel) ?_
  refine ja_putI fl_X8_85 (zM_s hz) rfl rfl rfl dX8_sign_2 ?_
  refine ja_aload_n (i := 0) dX8_sign_5 rfl rfl ?_
  refine ja_iload_n (i := 1) dX8_sign_6 rfl rfl ?_
  refine ja_cVr (st := []) (s_isRuleF (D := (ja_up D 100 0 (nI (0)))) l hz (hrn) (by omega) hk) rfl rfl (ce_X8_isRule 0 0) im_X8_isRule se_X8_isRule lk_X8_123 k_X8 (zM_s hz) ⟨(Nat.le_of_ble_eq_true rfl), (Nat.le_of_ble_eq_true rfl)⟩ dX8_sign_7 rfl rfl (Nat.le_of_ble_eq_true rfl) (Nat.zero_le _) (Nat.zero_le _) ?_
  refine ja_ifB_ne (tgt := 19) dX8_sign_10 (by decide) (fun c10 => absurd c10 (by decide)) (fun c10 => ?_)
  refine ja_aload_n (i := 0) dX8_sign_13 rfl rfl ?_
  refine ja_iconst (v := nI 1) dX8_sign_14 (by decide +kernel) ?_
  refine ja_cVd (st := []) (s_fails l hz (nI (1))) rfl rfl (ce_X8_fails 0 0) im_X8_fails se_X8_fails lk_X8_96 k_X8 (zM_s hz) ⟨(Nat.le_of_ble_eq_true rfl), (Nat.le_of_ble_eq_true rfl)⟩ dX8_sign_15 rfl rfl (Nat.le_of_ble_eq_true rfl) (Nat.zero_le _) (Nat.zero_le _) ?_
  intro D15 hD15
  subst hD15
  refine ja_num (D2 := ja_up D 100 0 (nI (1))) up_2 ?_
  refine ja_iret rfl rfl dX8_sign_18 (Nat.zero_le _) (Nat.zero_le _) ?_
  exact ⟨rfl, rfl, rfl⟩

set_option maxRecDepth 100000 in
set_option maxHeartbeats 4000000 in
theorem r_sign_f2 (l : Launch) {Z : jZ} {D : jD} (hz : zM Z) {n : Nat} (hrn : D 100 12 = nI n) (hn6 : n ≤ 6) (hau : D 100 2 = -1) {r : Nat} (hr : r < n) : ja_M l (mX8_sign 0 0) [.ref (100), .int (nI (r))] Z D (ja_jd (some (.int (nI 0))) Z (fun D2 => D2 = ja_up D 100 0 (nI 2))) ja_x0 := by
  refine ja_Mof (lv := [some (.ref (100)), some (.int (nI (r))), none, none]) (by decide +kernel) rfl rfl (Nat.le_of_ble_eq_true rfl) rfl ?_
  refine ja_aload_n (i := 0) dX8_sign_0 rfl rfl ?_
  refine ja_iconst (v := nI 0) dX8_sign_1 (by decide +kernel) ?_
  refine ja_putI fl_X8_85 (zM_s hz) rfl rfl rfl dX8_sign_2 ?_
  refine ja_aload_n (i := 0) dX8_sign_5 rfl rfl ?_
  refine ja_iload_n (i := 1) dX8_sign_6 rfl rfl ?_
  refine ja_cVr (st := []) (s_isRuleT (D := (ja_up D 100 0 (nI (0)))) l hz (hrn) (by omega) (by omega)) rfl rfl (ce_X8_isRule 0 0) im_X8_isRule se_X8_isRule lk_X8_123 k_X8 (zM_s hz) ⟨(Nat.le_of_ble_eq_true rfl), (Nat.le_of_ble_eq_true rfl)⟩ dX8_sign_7 rfl rfl (Nat.le_of_ble_eq_true rfl) (Nat.zero_le _) (Nat.zero_le _) ?_
  refine ja_ifB_ne (tgt := 19) dX8_sign_10 (by decide) (fun c10 => ?_) (fun c10 => absurd c10 (by decide))
  refine ja_aload_n (i := 0) dX8_sign_19 rfl rfl ?_
  refine ja_getI fl_X8_9 (zM_s hz) rfl dX8_sign_20 ?_
  refine ja_top (y := (-1)) hau ?_
  refine ja_iconst (v := (-1)) dX8_sign_23 (by decide +kernel) ?_
  refine ja_icmp_ne (tgt := 33) dX8_sign_24 (by decide) (fun c24 => absurd rfl c24) (fun c24 => ?_)
  refine ja_aload_n (i := 0) dX8_sign_27 rfl rfl ?_
  refine ja_iconst (v := nI 2) dX8_sign_28 (by decide +kernel) ?_
  refine ja_cVd (st := []) (s_fails l hz (nI (2))) rfl rfl (ce_X8_fails 0 0) im_X8_fails se_X8_fails lk_X8_96 k_X8 (zM_s hz) ⟨(Nat.le_of_ble_eq_true rfl), (Nat.le_of_ble_eq_true rfl)⟩ dX8_sign_29 rfl rfl (Nat.le_of_ble_eq_true rfl) (Nat.zero_le _) (Nat.zero_le _) ?_
  intro D29 hD29
  subst hD29
  refine ja_num (D2 := ja_up D 100 0 (nI (2))) up_2 ?_
  refine ja_iret rfl rfl dX8_sign_32 (Nat.zero_le _) (Nat.zero_le _) ?_
  exact ⟨rfl, rfl, rfl⟩

set_option maxRecDepth 100000 in
set_option maxHeartbeats 4000000 in
theorem r_sign_ok (l : Launch) {Z : jZ} {D : jD} (hz : zM Z) {n : Nat} (hrn : D 100 12 = nI n) (hn6 : n ≤ 6) {w0 : Nat} (hau : D 100 2 = nI w0) (hw5 : w0 ≤ 5) {r : Nat} (hr : r < n) : ja_M l (mX8_sign 0 0) [.ref (100), .int (nI (r))] Z D (ja_jd (some (.int (nI (fb_ct (fun k => decide (¬ ja_up D 110 r (nI 1) 110 k = 0)) 6)))) Z (fun D2 => D2 = (ja_up (ja_up D 100 0 (nI 0)) 110 r (nI 1)))) ja_x0 := by
  refine ja_Mof (lv := [some (.ref (100)), some (.int (nI (r))), none, none]) (by decide +kernel) rfl rfl (Nat.le_of_ble_eq_true rfl) rfl ?_
  refine ja_aload_n (i := 0) dX8_sign_0 rfl rfl ?_
  refine ja_iconst (v := nI 0) dX8_sign_1 (by decide +kernel) ?_
  refine ja_putI fl_X8_85 (zM_s hz) rfl rfl rfl dX8_sign_2 ?_
  refine ja_aload_n (i := 0) dX8_sign_5 rfl rfl ?_
  refine ja_iload_n (i := 1) dX8_sign_6 rfl rfl ?_
  refine ja_cVr (st := []) (s_isRuleT (D := (ja_up D 100 0 (nI (0)))) l hz (hrn) (by omega) (by omega)) rfl rfl (ce_X8_isRule 0 0) im_X8_isRule se_X8_isRule lk_X8_123 k_X8 (zM_s hz) ⟨(Nat.le_of_ble_eq_true rfl), (Nat.le_of_ble_eq_true rfl)⟩ dX8_sign_7 rfl rfl (Nat.le_of_ble_eq_true rfl) (Nat.zero_le _) (Nat.zero_le _) ?_
  refine ja_ifB_ne (tgt := 19) dX8_sign_10 (by decide) (fun c10 => ?_) (fun c10 => absurd c10 (by decide))
  refine ja_aload_n (i := 0) dX8_sign_19 rfl rfl ?_
  refine ja_getI fl_X8_9 (zM_s hz) rfl dX8_sign_20 ?_
  refine ja_top (y := nI (w0)) hau ?_
  refine ja_iconst (v := (-1)) dX8_sign_23 (by decide +kernel) ?_
  refine ja_icmp_ne (tgt := 33) dX8_sign_24 (by decide) (fun c24 => ?_) (fun c24 => absurd c24 (nI_nm1 (by omega)))
  refine ja_aload_n (i := 0) dX8_sign_33 rfl rfl ?_
  refine ja_getR fl_X8_33 (zM_s hz) rfl (zM_p9 hz) dX8_sign_34 ?_
  refine ja_iload_n (i := 1) dX8_sign_37 rfl rfl ?_
  refine ja_iconst (v := nI 1) dX8_sign_38 (by decide +kernel) ?_
  refine ja_zast (zM_a9 hz) rfl (by omega) (by decide) (by decide +kernel) dX8_sign_39 ?_
  refine ja_iconst (v := nI 0) dX8_sign_40 (by decide +kernel) ?_
  refine ja_istore_n (i := 2) dX8_sign_41 rfl rfl (Nat.le_of_ble_eq_true rfl) ?_
  refine ja_iconst (v := nI 0) dX8_sign_42 (by decide +kernel) ?_
  refine ja_istore_n (i := 3) dX8_sign_43 rfl rfl (Nat.le_of_ble_eq_true rfl) ?_
  have lp44 : ∀ (k44 : Nat) (k n2 : Nat), (6 < k + k44) → (k ≤ 6) → (n2 = fb_ct (fun k => decide (¬ (ja_up (ja_up D 100 0 (nI 0)) 110 r (nI 1)) 110 k = 0)) k) → ja_A l (mX8_sign 0 0) ja_sn (ja_Qf (mX8_sign 0 0) (ja_jd (some (.int (nI (fb_ct (fun k => decide (¬ ja_up D 110 r (nI 1) 110 k = 0)) 6)))) Z (fun D2 => D2 = (ja_up (ja_up D 100 0 (nI 0)) 110 r (nI 1)))) ja_x0) 44 [some (.ref (100)), some (.int (nI (r))), some (.int (nI (n2))), some (.int (nI (k)))] [] Z (ja_up (ja_up D 100 0 (nI (0))) 110 r (nI (1))) 0 0 := by
    intro k44
    induction k44 with
    | zero => intro k n2 hk hq hn; exfalso; omega
    | succ k44 ih44 =>
      intro k n2 hk hq hn
      refine ja_iload_n (i := 3) dX8_sign_44 rfl rfl ?_
      refine ja_bipush (v := nI 6) dX8_sign_45 (by decide +kernel) ?_
      refine ja_icmpN_ge (tgt := 73) dX8_sign_47 (by decide) (by omega) (by omega) (fun c47 => ?_) (fun c47 => ?_)
      ·
        refine ja_iload_n (i := 2) dX8_sign_73 rfl rfl ?_
        refine ja_iret rfl rfl dX8_sign_74 (Nat.zero_le _) (Nat.zero_le _) ?_
        refine ⟨?_, rfl, rfl⟩
        rw [hn, show k = 6 by omega]
        rfl
      ·
        refine ja_iload_n (i := 2) dX8_sign_50 rfl rfl ?_
        refine ja_aload_n (i := 0) dX8_sign_51 rfl rfl ?_
        refine ja_getR fl_X8_33 (zM_s hz) rfl (zM_p9 hz) dX8_sign_52 ?_
        refine ja_iload_n (i := 3) dX8_sign_55 rfl rfl ?_
        refine ja_zald (zM_a9 hz) rfl (by omega) (by decide) dX8_sign_56 ?_
        refine ja_if_eq (tgt := 64) dX8_sign_57 (by decide) (fun c57 => ?_) (fun c57 => ?_)
        ·
          refine ja_iconst (v := nI 0) dX8_sign_64 (by decide +kernel) ?_
          refine ja_iaddN dX8_sign_65 ?_
          refine ja_istore_n (i := 2) dX8_sign_66 rfl rfl (Nat.le_of_ble_eq_true rfl) ?_
          refine ja_iincN dX8_sign_67 rfl rfl (Nat.le_of_ble_eq_true rfl) ?_
          refine ja_goto (tgt := 44) dX8_sign_70 (by decide) ?_
          exact ih44 (k + 1) _ (by omega) (by omega) (by rw [hn, fb_ct_succ]; simp [c57])
        ·
          refine ja_iconst (v := nI 1) dX8_sign_60 (by decide +kernel) ?_
          refine ja_goto (tgt := 65) dX8_sign_61 (by decide) ?_
          refine ja_iaddN dX8_sign_65 ?_
          refine ja_istore_n (i := 2) dX8_sign_66 rfl rfl (Nat.le_of_ble_eq_true rfl) ?_
          refine ja_iincN dX8_sign_67 rfl rfl (Nat.le_of_ble_eq_true rfl) ?_
          refine ja_goto (tgt := 44) dX8_sign_70 (by decide) ?_
          exact ih44 (k + 1) _ (by omega) (by omega) (by rw [hn, fb_ct_succ]; simp [c57])
  exact lp44 7 0 0 (by omega) (by omega) rfl

set_option maxRecDepth 100000 in
set_option maxHeartbeats 4000000 in
theorem r_name_f1 (l : Launch) {Z : jZ} {D : jD} (hz : zM Z) {ly : Int32} (a nx : Int32) (hl : ¬ (nI 0 ≤ ly ∧ ly ≤ nI 2)) : ja_M l (mX8_name 0 0) [.ref (100), .int (ly), .int (a), .int (nx)] Z D (ja_jd (some (.int (nI 0))) Z (fun D2 => D2 = ja_up D 100 0 (nI 1))) ja_x0 := by
  refine ja_Mof (lv := [some (.ref (100)), some (.int (ly)), some (.int (a)), some (.int (nx)), none]) (by decide +kernel) rfl rfl (Nat.le_of_ble_eq_true rfl) rfl ?_
  refine ja_aload_n (i := 0) dX8_name_0 rfl rfl ?_
  refine ja_iload_n (i := 1) dX8_name_1 rfl rfl ?_
  refine ja_iload_n (i := 2) dX8_name_2 rfl rfl ?_
  refine ja_cVd (st := []) (s_looksF1 l hz (a := a) hl) rfl rfl (ce_X8_looks 0 0) im_X8_looks se_X8_looks lk_X8_136 k_X8 (zM_s hz) ⟨(Nat.le_of_ble_eq_true rfl), (Nat.le_of_ble_eq_true rfl)⟩ dX8_name_3 rfl rfl (Nat.le_of_ble_eq_true rfl) (Nat.zero_le _) (Nat.zero_le _) ?_
  intro D3 hD3
  subst hD3
  refine ja_ifB_ne (tgt := 11) dX8_name_6 (by decide) (fun c6 => absurd c6 (by decide)) (fun c6 => ?_)
  refine ja_iconst (v := nI 0) dX8_name_9 (by decide +kernel) ?_
  refine ja_iret rfl rfl dX8_name_10 (Nat.zero_le _) (Nat.zero_le _) ?_
  exact ⟨rfl, rfl, rfl⟩

set_option maxRecDepth 100000 in
set_option maxHeartbeats 4000000 in
theorem r_name_f2 (l : Launch) {Z : jZ} {D : jD} (hz : zM Z) {ly : Nat} (h1 : ly < 3) {a : Int32} (nx : Int32) (ha : ¬ (nI 0 ≤ a ∧ a ≤ nI 9)) : ja_M l (mX8_name 0 0) [.ref (100), .int (nI (ly)), .int (a), .int (nx)] Z D (ja_jd (some (.int (nI 0))) Z (fun D2 => D2 = ja_up D 100 0 (nI 2))) ja_x0 := by
  refine ja_Mof (lv := [some (.ref (100)), some (.int (nI (ly))), some (.int (a)), some (.int (nx)), none]) (by decide +kernel) rfl rfl (Nat.le_of_ble_eq_true rfl) rfl ?_
  refine ja_aload_n (i := 0) dX8_name_0 rfl rfl ?_
  refine ja_iload_n (i := 1) dX8_name_1 rfl rfl ?_
  refine ja_iload_n (i := 2) dX8_name_2 rfl rfl ?_
  refine ja_cVd (st := []) (s_looksF2 l hz (by omega) ha) rfl rfl (ce_X8_looks 0 0) im_X8_looks se_X8_looks lk_X8_136 k_X8 (zM_s hz) ⟨(Nat.le_of_ble_eq_true rfl), (Nat.le_of_ble_eq_true rfl)⟩ dX8_name_3 rfl rfl (Nat.le_of_ble_eq_true rfl) (Nat.zero_le _) (Nat.zero_le _) ?_
  intro D3 hD3
  subst hD3
  refine ja_ifB_ne (tgt := 11) dX8_name_6 (by decide) (fun c6 => absurd c6 (by decide)) (fun c6 => ?_)
  refine ja_iconst (v := nI 0) dX8_name_9 (by decide +kernel) ?_
  refine ja_iret rfl rfl dX8_name_10 (Nat.zero_le _) (Nat.zero_le _) ?_
  exact ⟨rfl, rfl, rfl⟩

set_option maxRecDepth 100000 in
set_option maxHeartbeats 4000000 in
theorem r_name_f2b (l : Launch) {Z : jZ} {D : jD} (hz : zM Z) {ly a : Nat} (h1 : ly < 3) (h2 : a < 10) {nx : Int32} (hx : ¬ (nI 0 ≤ nx ∧ nx ≤ nI 6)) : ja_M l (mX8_name 0 0) [.ref (100), .int (nI (ly)), .int (nI (a)), .int (nx)] Z D (ja_jd (some (.int (nI 0))) Z (fun D2 => D2 = ja_up D 100 0 (nI 2))) ja_x0 := by
  refine ja_Mof (lv := [some (.ref (100)), some (.int (nI (ly))), some (.int (nI (a))), some (.int (nx)), none]) (by decide +kernel) rfl rfl (Nat.le_of_ble_eq_true rfl) rfl ?_
  refine ja_aload_n (i := 0) dX8_name_0 rfl rfl ?_
  refine ja_iload_n (i := 1) dX8_name_1 rfl rfl ?_
  refine ja_iload_n (i := 2) dX8_name_2 rfl rfl ?_
  refine ja_cVd (st := []) (s_looksT l hz (by omega) (by omega)) rfl rfl (ce_X8_looks 0 0) im_X8_looks se_X8_looks lk_X8_136 k_X8 (zM_s hz) ⟨(Nat.le_of_ble_eq_true rfl), (Nat.le_of_ble_eq_true rfl)⟩ dX8_name_3 rfl rfl (Nat.le_of_ble_eq_true rfl) (Nat.zero_le _) (Nat.zero_le _) ?_
  intro D3 hD3
  subst hD3
  refine ja_ifB_ne (tgt := 11) dX8_name_6 (by decide) (fun c6 => ?_) (fun c6 => absurd c6 (by decide))
  refine ja_iload_n (i := 3) dX8_name_11 rfl rfl ?_
  refine ja_iconst (v := nI 0) dX8_name_12 (by decide +kernel) ?_
  refine ja_bipush (v := nI 6) dX8_name_13 (by decide +kernel) ?_
  refine ja_cSr (st := []) (s_inF l (nx) (nI (0)) (nI (6)) hx) rfl rfl (ce_X8_in 0 0) st_X8_in lk_X8_88 ⟨(Nat.le_of_ble_eq_true rfl), (Nat.le_of_ble_eq_true rfl)⟩ dX8_name_15 rfl rfl (Nat.le_of_ble_eq_true rfl) (Nat.zero_le _) (Nat.zero_le _) ?_
  refine ja_ifB_ne (tgt := 27) dX8_name_18 (by decide) (fun c18 => absurd c18 (by decide)) (fun c18 => ?_)
  refine ja_aload_n (i := 0) dX8_name_21 rfl rfl ?_
  refine ja_iconst (v := nI 2) dX8_name_22 (by decide +kernel) ?_
  refine ja_cVd (st := []) (s_fails l hz (nI (2))) rfl rfl (ce_X8_fails 0 0) im_X8_fails se_X8_fails lk_X8_96 k_X8 (zM_s hz) ⟨(Nat.le_of_ble_eq_true rfl), (Nat.le_of_ble_eq_true rfl)⟩ dX8_name_23 rfl rfl (Nat.le_of_ble_eq_true rfl) (Nat.zero_le _) (Nat.zero_le _) ?_
  intro D23 hD23
  subst hD23
  refine ja_num (D2 := ja_up D 100 0 (nI (2))) up_2 ?_
  refine ja_iret rfl rfl dX8_name_26 (Nat.zero_le _) (Nat.zero_le _) ?_
  exact ⟨rfl, rfl, rfl⟩

set_option maxRecDepth 100000 in
set_option maxHeartbeats 4000000 in
theorem r_name_ok (l : Launch) {Z : jZ} {D : jD} (hz : zM Z) {ly a : Nat} (h1 : ly < 3) (h2 : a < 10) {nx : Nat} (hx : nx ≤ 6) : ja_M l (mX8_name 0 0) [.ref (100), .int (nI (ly)), .int (nI (a)), .int (nI (nx))] Z D (ja_jd (some (.int (D 107 (10 * ly + a)))) Z (fun D2 => D2 = ja_up (ja_up D 100 0 (nI 0)) 107 (10 * ly + a) (nI nx))) ja_x0 := by
  refine ja_Mof (lv := [some (.ref (100)), some (.int (nI (ly))), some (.int (nI (a))), some (.int (nI (nx))), none]) (by decide +kernel) rfl rfl (Nat.le_of_ble_eq_true rfl) rfl ?_
  refine ja_aload_n (i := 0) dX8_name_0 rfl rfl ?_
  refine ja_iload_n (i := 1) dX8_name_1 rfl rfl ?_
  refine ja_iload_n (i := 2) dX8_name_2 rfl rfl ?_
  refine ja_cVd (st := []) (s_looksT l hz (by omega) (by omega)) rfl rfl (ce_X8_looks 0 0) im_X8_looks se_X8_looks lk_X8_136 k_X8 (zM_s hz) ⟨(Nat.le_of_ble_eq_true rfl), (Nat.le_of_ble_eq_true rfl)⟩ dX8_name_3 rfl rfl (Nat.le_of_ble_eq_true rfl) (Nat.zero_le _) (Nat.zero_le _) ?_
  intro D3 hD3
  subst hD3
  refine ja_ifB_ne (tgt := 11) dX8_name_6 (by decide) (fun c6 => ?_) (fun c6 => absurd c6 (by decide))
  refine ja_iload_n (i := 3) dX8_name_11 rfl rfl ?_
  refine ja_iconst (v := nI 0) dX8_name_12 (by decide +kernel) ?_
  refine ja_bipush (v := nI 6) dX8_name_13 (by decide +kernel) ?_
  refine ja_cSr (st := []) (s_inT l (nx) 0 6 (by omega) (by omega) (by omega)) rfl rfl (ce_X8_in 0 0) st_X8_in lk_X8_88 ⟨(Nat.le_of_ble_eq_true rfl), (Nat.le_of_ble_eq_true rfl)⟩ dX8_name_15 rfl rfl (Nat.le_of_ble_eq_true rfl) (Nat.zero_le _) (Nat.zero_le _) ?_
  refine ja_ifB_ne (tgt := 27) dX8_name_18 (by decide) (fun c18 => ?_) (fun c18 => absurd c18 (by decide))
  refine ja_aload_n (i := 0) dX8_name_27 rfl rfl ?_
  refine ja_getR fl_X8_24 (zM_s hz) rfl (zM_p6 hz) dX8_name_28 ?_
  refine ja_bipush (v := nI 10) dX8_name_31 (by decide +kernel) ?_
  refine ja_iload_n (i := 1) dX8_name_33 rfl rfl ?_
  refine ja_imulN dX8_name_34 ?_
  refine ja_iload_n (i := 2) dX8_name_35 rfl rfl ?_
  refine ja_iaddN dX8_name_36 ?_
  refine ja_iald (zM_a6 hz) rfl (by omega) (by decide) dX8_name_37 ?_
  refine ja_istore (i := 4) dX8_name_38 rfl (Nat.le_of_ble_eq_true rfl) ?_
  refine ja_aload_n (i := 0) dX8_name_40 rfl rfl ?_
  refine ja_getR fl_X8_24 (zM_s hz) rfl (zM_p6 hz) dX8_name_41 ?_
  refine ja_bipush (v := nI 10) dX8_name_44 (by decide +kernel) ?_
  refine ja_iload_n (i := 1) dX8_name_46 rfl rfl ?_
  refine ja_imulN dX8_name_47 ?_
  refine ja_iload_n (i := 2) dX8_name_48 rfl rfl ?_
  refine ja_iaddN dX8_name_49 ?_
  refine ja_iload_n (i := 3) dX8_name_50 rfl rfl ?_
  refine ja_iast (zM_a6 hz) rfl (by omega) (by decide) dX8_name_51 ?_
  refine ja_iload (i := 4) dX8_name_52 rfl ?_
  refine ja_iret rfl rfl dX8_name_54 (Nat.zero_le _) (Nat.zero_le _) ?_
  exact ⟨rfl, rfl, rfl⟩
