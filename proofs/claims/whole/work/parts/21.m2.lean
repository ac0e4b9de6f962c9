/-! THE REFERENCE: helpers that count and search -/
def adf (a b : Nat) : Nat := if a ≤ b then b - a else a - b
theorem ja_adf {a b : Nat} (ha : a < 2 ^ 31) (hb : b < 2 ^ 31) : (if 0 ≤ nI a - nI b then nI a - nI b else 0 - (nI a - nI b)) = nI (adf a b) := by
  have e : (nI a - nI b).toInt = (a : Int) - b := fb_subI (by rw [nI_toInt ha, nI_toInt hb]; omega) (by rw [nI_toInt ha, nI_toInt hb]; omega) |>.trans (by rw [nI_toInt ha, nI_toInt hb])
  unfold adf
  by_cases h : a ≤ b
  · rw [if_pos h]
    by_cases h2 : a = b
    · subst h2
      rw [Int32.sub_self, Nat.sub_self]
      decide +kernel
    · rw [if_neg (by rw [Int32.le_iff_toInt_le, e]; simp; omega)]
      rw [← pk_sub h]
      apply Int32.toInt_inj.mp
      rw [Int32.zero_sub, fb_negI (by rw [e]; omega), e, pk_sub h, nI_toInt (by omega)]
      omega
  · rw [if_neg h, if_pos (by rw [Int32.le_iff_toInt_le, e]; simp; omega), pk_sub (by omega)]
def stp (q o : Nat) : Nat := adf (q % 16) (o % 16) + adf (q / 16) (o / 16)
theorem stp_le {q o : Nat} (hq : q < 256) (ho : o < 256) : stp q o ≤ 30 := by
  unfold stp adf
  split <;> split <;> omega
/-- the least number with a property, if there is one -/
noncomputable def lst (P : Nat → Prop) : Option Nat := @dite _ (∃ k, P k) (Classical.propDecidable _) (fun h => some (Classical.choose (pk_least P h))) (fun _ => none)
theorem lst_none {P : Nat → Prop} (h : ∀ k, ¬ P k) : lst P = none := by
  unfold lst
  rw [dif_neg (fun ⟨k, hk⟩ => h k hk)]
theorem lst_some {P : Nat → Prop} {m : Nat} (h : P m) (h2 : ∀ k, k < m → ¬ P k) : lst P = some m := by
  unfold lst
  rw [dif_pos ⟨m, h⟩]
  obtain ⟨c1, c2⟩ := Classical.choose_spec (pk_least P ⟨m, h⟩)
  have e1 : ¬ Classical.choose (pk_least P ⟨m, h⟩) < m := fun q => h2 _ q c1
  have e2 : ¬ m < Classical.choose (pk_least P ⟨m, h⟩) := fun q => c2 _ q h
  congr 1
  omega
theorem lst_is {P : Nat → Prop} {m : Nat} (h : lst P = some m) : P m ∧ ∀ k, k < m → ¬ P k := by
  unfold lst at h
  split at h
  · next hx =>
    cases h
    exact Classical.choose_spec (pk_least P hx)
  · cases h
theorem lst_no {P : Nat → Prop} (h : lst P = none) : ∀ k, ¬ P k := by
  unfold lst at h
  split at h
  · cases h
  · next hx => exact fun k hk => hx ⟨k, hk⟩
theorem lst_cg {P P2 : Nat → Prop} (h : ∀ k, P2 k ↔ P k) : lst P2 = lst P := congrArg lst (funext fun k => propext (h k))
theorem lst_addN {P P2 : Nat → Prop} {s : Nat} (h : ∀ k, P2 k ↔ P k ∨ k = s) (e : none = lst P) : some s = lst P2 := (lst_some ((h s).mpr (Or.inr rfl)) (fun k hk => fun q => ((h k).mp q).elim (lst_no e.symm k) (by omega))).symm
theorem lst_addL {P P2 : Nat → Prop} {s m : Nat} (h : ∀ k, P2 k ↔ P k ∨ k = s) (e : some m = lst P) (hs : s < m) : some s = lst P2 := (lst_some ((h s).mpr (Or.inr rfl)) (fun k hk => fun q => ((h k).mp q).elim ((lst_is e.symm).2 k (by omega)) (by omega))).symm
theorem lst_addG {P P2 : Nat → Prop} {s m : Nat} (h : ∀ k, P2 k ↔ P k ∨ k = s) (e : some m = lst P) (hs : ¬ s < m) : some m = lst P2 := (lst_some ((h m).mpr (Or.inl (lst_is e.symm).1)) (fun k hk => fun q => ((h k).mp q).elim ((lst_is e.symm).2 k hk) (by omega))).symm
def btP (f : Nat → Int32) (ly : Nat) (a o : Int32) (q nx : Nat) (m : Nat) : Prop := ∃ q2 n2, ((q2 < q ∧ n2 < 256) ∨ (q2 = q ∧ n2 < nx)) ∧ f (256 * ly + q2) = a ∧ f (256 * ly + n2) = o ∧ stp q2 n2 = m
theorem btP_row {f : Nat → Int32} {ly : Nat} {a o : Int32} {q m : Nat} : btP f ly a o (q + 1) 0 m ↔ btP f ly a o q 256 m := by
  unfold btP
  constructor
  · rintro ⟨q2, n2, h, h3⟩
    exact ⟨q2, n2, by omega, h3⟩
  · rintro ⟨q2, n2, h, h3⟩
    exact ⟨q2, n2, by omega, h3⟩
theorem btP_skip {f : Nat → Int32} {ly : Nat} {a o : Int32} {q nx m : Nat} (h : ¬ f (256 * ly + q) = a) : btP f ly a o (q + 1) 0 m ↔ btP f ly a o q nx m := by
  unfold btP
  constructor
  · rintro ⟨q2, n2, h1, h3, h4⟩
    by_cases e : q2 = q
    · subst e
      exact absurd h3 h
    · exact ⟨q2, n2, by omega, h3, h4⟩
  · rintro ⟨q2, n2, h1, h3, h4⟩
    by_cases e : q2 = q
    · subst e
      exact absurd h3 h
    · exact ⟨q2, n2, by omega, h3, h4⟩
theorem btP_no {f : Nat → Int32} {ly : Nat} {a o : Int32} {q nx m : Nat} (h : ¬ (f (256 * ly + q) = a ∧ f (256 * ly + nx) = o)) : btP f ly a o q (nx + 1) m ↔ btP f ly a o q nx m := by
  unfold btP
  constructor
  · rintro ⟨q2, n2, h1, h3, h4, h5⟩
    by_cases e : q2 = q ∧ n2 = nx
    · obtain ⟨rfl, rfl⟩ := e
      exact absurd ⟨h3, h4⟩ h
    · exact ⟨q2, n2, by omega, h3, h4, h5⟩
  · rintro ⟨q2, n2, h1, h3⟩
    exact ⟨q2, n2, by omega, h3⟩
theorem btP_yes {f : Nat → Int32} {ly : Nat} {a o : Int32} {q nx : Nat} (h : f (256 * ly + q) = a) (h2 : f (256 * ly + nx) = o) (m : Nat) : btP f ly a o q (nx + 1) m ↔ btP f ly a o q nx m ∨ m = stp q nx := by
  unfold btP
  constructor
  · rintro ⟨q2, n2, h1, h3, h4, h5⟩
    by_cases e : q2 = q ∧ n2 = nx
    · obtain ⟨rfl, rfl⟩ := e
      exact Or.inr h5.symm
    · exact Or.inl ⟨q2, n2, by omega, h3, h4, h5⟩
  · rintro (⟨q2, n2, h1, h3⟩ | rfl)
    · exact ⟨q2, n2, by omega, h3⟩
    · exact ⟨q, nx, by omega, h, h2, rfl⟩
def btw (f : Nat → Int32) (ly : Nat) (a o : Int32) (m : Nat) : Prop := ∃ q n, q < 256 ∧ n < 256 ∧ f (256 * ly + q) = a ∧ f (256 * ly + n) = o ∧ stp q n = m
theorem btP_end {f : Nat → Int32} {ly : Nat} {a o : Int32} {m : Nat} : btP f ly a o 256 0 m ↔ btw f ly a o m := by
  unfold btP btw
  constructor
  · rintro ⟨q2, n2, h, h3⟩
    exact ⟨q2, n2, by omega, by omega, h3⟩
  · rintro ⟨q2, n2, h, h2, h3⟩
    exact ⟨q2, n2, by omega, h3⟩
theorem btP_le {f : Nat → Int32} {ly : Nat} {a o : Int32} {q nx m : Nat} (hq : q < 256 ∨ (q = 256 ∧ nx = 0)) (hn : nx ≤ 256) (h : btP f ly a o q nx m) : m ≤ 30 := by
  obtain ⟨q2, n2, h1, -, -, rfl⟩ := h
  exact stp_le (by omega) (by omega)

set_option maxRecDepth 100000 in
set_option maxHeartbeats 4000000 in
theorem s_steps (l : Launch) {Z : jZ} {D : jD} {q o : Nat} (h1 : q < 256) (h2 : o < 256) : ja_M l (mX8_steps 0 0) [.int (nI (q)), .int (nI (o))] Z D (ja_jr (some (.int (nI (stp q o)))) Z D) ja_x0 := by
  refine ja_Mof (lv := [some (.int (nI (q))), some (.int (nI (o)))]) (by decide +kernel) rfl rfl (Nat.le_of_ble_eq_true rfl) rfl ?_
  refine ja_iload_n (i := 0) dX8_steps_0 rfl rfl ?_
  refine ja_bipush (v := nI 16) dX8_steps_1 (by decide +kernel) ?_
  refine ja_iremN dX8_steps_3 (by omega) (by omega) (by omega) ?_
  refine ja_iload_n (i := 1) dX8_steps_4 rfl rfl ?_
  refine ja_bipush (v := nI 16) dX8_steps_5 (by decide +kernel) ?_
  refine ja_iremN dX8_steps_7 (by omega) (by omega) (by omega) ?_
  refine ja_isub dX8_steps_8 ?_
  refine ja_mabs lk_X8_140 ma_st ma_in ma_co (Nat.le_of_ble_eq_true rfl) (Nat.le_of_ble_eq_true rfl) (Nat.zero_le _) (Nat.zero_le _) dX8_steps_9 ?_
  refine ja_top (ja_adf (by omega) (by omega)) ?_
  refine ja_iload_n (i := 0) dX8_steps_12 rfl rfl ?_
  refine ja_bipush (v := nI 16) dX8_steps_13 (by decide +kernel) ?_
  refine ja_idivN dX8_steps_15 (by omega) (by omega) (by omega) ?_
  refine ja_iload_n (i := 1) dX8_steps_16 rfl rfl ?_
  refine ja_bipush (v := nI 16) dX8_steps_17 (by decide +kernel) ?_
  refine ja_idivN dX8_steps_19 (by omega) (by omega) (by omega) ?_
  refine ja_isub dX8_steps_20 ?_
  refine ja_mabs lk_X8_140 ma_st ma_in ma_co (Nat.le_of_ble_eq_true rfl) (Nat.le_of_ble_eq_true rfl) (Nat.zero_le _) (Nat.zero_le _) dX8_steps_21 ?_
  refine ja_top (ja_adf (by omega) (by omega)) ?_
  refine ja_iaddN dX8_steps_24 ?_
  refine ja_iret rfl rfl dX8_steps_25 (Nat.zero_le _) (Nat.zero_le _) ?_
  exact ⟨rfl, rfl, rfl⟩

set_option maxRecDepth 100000 in
set_option maxHeartbeats 4000000 in
theorem s_between (l : Launch) {Z : jZ} {D : jD} (hz : zM Z) {ly : Nat} (h1 : ly < 3) (a o : Int32) : ja_M l (mX8_between 0 0) [.ref (100), .int (nI (ly)), .int (a), .int (o)] Z D (ja_jr (some (.int (oI (lst (btw (D 105) ly a o))))) Z D) ja_x0 := by
  refine ja_Mof (lv := [some (.ref (100)), some (.int (nI (ly))), some (.int (a)), some (.int (o)), none, none, none, none]) (by decide +kernel) rfl rfl (Nat.le_of_ble_eq_true rfl) rfl ?_
  refine ja_iconst (v := (-1)) dX8_between_0 (by decide +kernel) ?_
  refine ja_istore (i := 4) dX8_between_1 rfl (Nat.le_of_ble_eq_true rfl) ?_
  refine ja_iconst (v := nI 0) dX8_between_3 (by decide +kernel) ?_
  refine ja_istore (i := 5) dX8_between_4 rfl (Nat.le_of_ble_eq_true rfl) ?_
  have lp6 : ∀ (k6 : Nat) (q : Nat) (r : Option Nat), (256 < q + k6) → (q ≤ 256) → (r = lst (btP (D 105) ly a o q 0)) → (∀ m, r = some m → m ≤ 30) → ja_A l (mX8_between 0 0) ja_sn (ja_Qf (mX8_between 0 0) (ja_jr (some (.int (oI (lst (btw (D 105) ly a o))))) Z D) ja_x0) 6 [some (.ref (100)), some (.int (nI (ly))), some (.int (a)), some (.int (o)), some (.int (oI r)), some (.int (nI (q))), none, none] [] Z D 0 0 := by
    intro k6
    induction k6 with
    | zero => intro q r hk hq hr hb; exfalso; omega
    | succ k6 ih6 =>
      intro q r hk hq hr hb
      refine ja_iload (i := 5) dX8_between_6 rfl ?_
      refine ja_sipush (v := nI 256) dX8_between_8 (by decide +kernel) ?_
      refine ja_icmpN_ge (tgt := 103) dX8_between_11 (by decide) (by omega) (by omega) (fun c11 => ?_) (fun c11 => ?_)
      ·
        refine ja_iload (i := 4) dX8_between_103 rfl ?_
        refine ja_iret rfl rfl dX8_between_105 (Nat.zero_le _) (Nat.zero_le _) ?_
        refine ⟨?_, rfl, rfl⟩
        rw [hr, show q = 256 by omega]
        exact congrArg (fun z => some (Value.int (oI z))) (lst_cg (fun m => btP_end))
      ·
        refine ja_iconst (v := nI 0) dX8_between_14 (by decide +kernel) ?_
        refine ja_istore (i := 6) dX8_between_15 rfl (Nat.le_of_ble_eq_true rfl) ?_
        have lp17 : ∀ (k17 : Nat) (nx : Nat) (r : Option Nat), (256 < nx + k17) → (nx ≤ 256) → (r = lst (btP (D 105) ly a o q nx)) → (∀ m, r = some m → m ≤ 30) → ja_A l (mX8_between 0 0) ja_sn (ja_Qf (mX8_between 0 0) (ja_jr (some (.int (oI (lst (btw (D 105) ly a o))))) Z D) ja_x0) 17 [some (.ref (100)), some (.int (nI (ly))), some (.int (a)), some (.int (o)), some (.int (oI r)), some (.int (nI (q))), some (.int (nI (nx))), none] [] Z D 0 0 := by
          intro k17
          induction k17 with
          | zero => intro nx r hj hn hr hb; exfalso; omega
          | succ k17 ih17 =>
            intro nx r hj hn hr hb
            refine ja_iload (i := 6) dX8_between_17 rfl ?_
            refine ja_sipush (v := nI 256) dX8_between_19 (by decide +kernel) ?_
            refine ja_icmpN_ge (tgt := 97) dX8_between_22 (by decide) (by omega) (by omega) (fun c22 => ?_) (fun c22 => ?_)
            ·
              refine ja_iincN dX8_between_97 rfl rfl (Nat.le_of_ble_eq_true rfl) ?_
              refine ja_goto (tgt := 6) dX8_between_100 (by decide) ?_
              refine ja_forget (i := 6) ?_
              exact ih6 (q + 1) r (by omega) (by omega) (by first | (rw [hr, show nx = 256 by omega]; exact (lst_cg (fun m => btP_row)).symm) | (rw [hr]; exact (lst_cg (fun m => btP_skip c33)).symm)) hb
            ·
              refine ja_aload_n (i := 0) dX8_between_25 rfl rfl ?_
              refine ja_iload_n (i := 1) dX8_between_26 rfl rfl ?_
              refine ja_iload (i := 5) dX8_between_27 rfl ?_
              refine ja_cVr (st := []) (s_at (D := D) l hz (ly := ly) (q := q) (by omega) (by omega)) rfl rfl (ce_X8_at 0 0) im_X8_at se_X8_at lk_X8_92 k_X8 (zM_s hz) ⟨(Nat.le_of_ble_eq_true rfl), (Nat.le_of_ble_eq_true rfl)⟩ dX8_between_29 rfl rfl (Nat.le_of_ble_eq_true rfl) (Nat.zero_le _) (Nat.zero_le _) ?_
              refine ja_iload_n (i := 2) dX8_between_32 rfl rfl ?_
              refine ja_icmp_ne (tgt := 97) dX8_between_33 (by decide) (fun c33 => ?_) (fun c33 => ?_)
              ·
                refine ja_iincN dX8_between_97 rfl rfl (Nat.le_of_ble_eq_true rfl) ?_
                refine ja_goto (tgt := 6) dX8_between_100 (by decide) ?_
                refine ja_forget (i := 6) ?_
                exact ih6 (q + 1) r (by omega) (by omega) (by first | (rw [hr, show nx = 256 by omega]; exact (lst_cg (fun m => btP_row)).symm) | (rw [hr]; exact (lst_cg (fun m => btP_skip c33)).symm)) hb
              ·
                refine ja_aload_n (i := 0) dX8_between_36 rfl rfl ?_
                refine ja_iload_n (i := 1) dX8_between_37 rfl rfl ?_
                refine ja_iload (i := 6) dX8_between_38 rfl ?_
                refine ja_cVr (st := []) (s_at (D := D) l hz (ly := ly) (q := nx) (by omega) (by omega)) rfl rfl (ce_X8_at 0 0) im_X8_at se_X8_at lk_X8_92 k_X8 (zM_s hz) ⟨(Nat.le_of_ble_eq_true rfl), (Nat.le_of_ble_eq_true rfl)⟩ dX8_between_40 rfl rfl (Nat.le_of_ble_eq_true rfl) (Nat.zero_le _) (Nat.zero_le _) ?_
                refine ja_iload_n (i := 3) dX8_between_43 rfl rfl ?_
                refine ja_icmp_ne (tgt := 69) dX8_between_44 (by decide) (fun c44 => ?_) (fun c44 => ?_)
                ·
                  refine ja_iconst (v := nI 0) dX8_between_69 (by decide +kernel) ?_
                  refine ja_istore (i := 7) dX8_between_70 rfl (Nat.le_of_ble_eq_true rfl) ?_
                  refine ja_iload (i := 7) dX8_between_72 rfl ?_
                  refine ja_ifN_eq (tgt := 87) dX8_between_74 (by decide) (by omega) (fun c74 => ?_) (fun c74 => absurd c74 (by decide))
                  refine ja_iload (i := 4) dX8_between_87 rfl ?_
                  refine ja_istore (i := 4) dX8_between_89 rfl (Nat.le_of_ble_eq_true rfl) ?_
                  refine ja_iincN dX8_between_91 rfl rfl (Nat.le_of_ble_eq_true rfl) ?_
                  refine ja_goto (tgt := 17) dX8_between_94 (by decide) ?_
                  refine ja_forget (i := 7) ?_
                  exact ih17 (nx + 1) r (by omega) (by omega) (by rw [hr]; exact (lst_cg (fun m => btP_no (by rintro ⟨e1, e2⟩; first | exact c33 e1 | exact c44 e2))).symm) hb
                ·
                  rcases r with _ | m
                  ·
                    refine ja_iload (i := 4) dX8_between_47 rfl ?_
                    refine ja_iconst (v := (-1)) dX8_between_49 (by decide +kernel) ?_
                    refine ja_icmp_eq (tgt := 65) dX8_between_50 (by decide) (fun c50 => ?_) (fun c50 => absurd rfl c50)
                    refine ja_iconst (v := nI 1) dX8_between_65 (by decide +kernel) ?_
                    refine ja_goto (tgt := 70) dX8_between_66 (by decide) ?_
                    refine ja_istore (i := 7) dX8_between_70 rfl (Nat.le_of_ble_eq_true rfl) ?_
                    refine ja_iload (i := 7) dX8_between_72 rfl ?_
                    refine ja_ifN_eq (tgt := 87) dX8_between_74 (by decide) (by omega) (fun c74 => absurd c74 (by decide)) (fun c74 => ?_)
                    refine ja_iload (i := 5) dX8_between_77 rfl ?_
                    refine ja_iload (i := 6) dX8_between_79 rfl ?_
                    refine ja_cSr (st := []) (s_steps l (q := q) (o := nx) (by omega) (by omega)) rfl rfl (ce_X8_steps 0 0) st_X8_steps lk_X8_145 ⟨(Nat.le_of_ble_eq_true rfl), (Nat.le_of_ble_eq_true rfl)⟩ dX8_between_81 rfl rfl (Nat.le_of_ble_eq_true rfl) (Nat.zero_le _) (Nat.zero_le _) ?_
                    refine ja_goto (tgt := 89) dX8_between_84 (by decide) ?_
                    refine ja_istore (i := 4) dX8_between_89 rfl (Nat.le_of_ble_eq_true rfl) ?_
                    refine ja_iincN dX8_between_91 rfl rfl (Nat.le_of_ble_eq_true rfl) ?_
                    refine ja_goto (tgt := 17) dX8_between_94 (by decide) ?_
                    refine ja_forget (i := 7) ?_
                    exact ih17 (nx + 1) (some (stp q nx)) (by omega) (by omega) (by first | exact lst_addN (btP_yes c33 c44) hr | exact lst_addL (btP_yes c33 c44) hr (by omega)) (by intro m2 e2; cases e2; exact stp_le (by omega) (by omega))
                  ·
                    have hm := hb m rfl
                    have hst := stp_le (q := q) (o := nx) (by omega) (by omega)
                    refine ja_iload (i := 4) dX8_between_47 rfl ?_
                    refine ja_iconst (v := (-1)) dX8_between_49 (by decide +kernel) ?_
                    refine ja_icmp_eq (tgt := 65) dX8_between_50 (by decide) (fun c50 => absurd c50 (nI_nm1 (by omega))) (fun c50 => ?_)
                    refine ja_iload (i := 5) dX8_between_53 rfl ?_
                    refine ja_iload (i := 6) dX8_between_55 rfl ?_
                    refine ja_cSr (st := []) (s_steps l (q := q) (o := nx) (by omega) (by omega)) rfl rfl (ce_X8_steps 0 0) st_X8_steps lk_X8_145 ⟨(Nat.le_of_ble_eq_true rfl), (Nat.le_of_ble_eq_true rfl)⟩ dX8_between_57 rfl rfl (Nat.le_of_ble_eq_true rfl) (Nat.zero_le _) (Nat.zero_le _) ?_
                    refine ja_iload (i := 4) dX8_between_60 rfl ?_
                    refine ja_icmpN_ge (tgt := 69) dX8_between_62 (by decide) (by omega) (by omega) (fun c62 => ?_) (fun c62 => ?_)
                    ·
                      refine ja_iconst (v := nI 0) dX8_between_69 (by decide +kernel) ?_
                      refine ja_istore (i := 7) dX8_between_70 rfl (Nat.le_of_ble_eq_true rfl) ?_
                      refine ja_iload (i := 7) dX8_between_72 rfl ?_
                      refine ja_ifN_eq (tgt := 87) dX8_between_74 (by decide) (by omega) (fun c74 => ?_) (fun c74 => absurd c74 (by decide))
                      refine ja_iload (i := 4) dX8_between_87 rfl ?_
                      refine ja_istore (i := 4) dX8_between_89 rfl (Nat.le_of_ble_eq_true rfl) ?_
                      refine ja_iincN dX8_between_91 rfl rfl (Nat.le_of_ble_eq_true rfl) ?_
                      refine ja_goto (tgt := 17) dX8_between_94 (by decide) ?_
                      refine ja_forget (i := 7) ?_
                      exact ih17 (nx + 1) (some (m)) (by omega) (by omega) (lst_addG (btP_yes c33 c44) hr (by omega)) hb
                    ·
                      refine ja_iconst (v := nI 1) dX8_between_65 (by decide +kernel) ?_
                      refine ja_goto (tgt := 70) dX8_between_66 (by decide) ?_
                      refine ja_istore (i := 7) dX8_between_70 rfl (Nat.le_of_ble_eq_true rfl) ?_
                      refine ja_iload (i := 7) dX8_between_72 rfl ?_
                      refine ja_ifN_eq (tgt := 87) dX8_between_74 (by decide) (by omega) (fun c74 => absurd c74 (by decide)) (fun c74 => ?_)
                      refine ja_iload (i := 5) dX8_between_77 rfl ?_
                      refine ja_iload (i := 6) dX8_between_79 rfl ?_
                      refine ja_cSr (st := []) (s_steps l (q := q) (o := nx) (by omega) (by omega)) rfl rfl (ce_X8_steps 0 0) st_X8_steps lk_X8_145 ⟨(Nat.le_of_ble_eq_true rfl), (Nat.le_of_ble_eq_true rfl)⟩ dX8_between_81 rfl rfl (Nat.le_of_ble_eq_true rfl) (Nat.zero_le _) (Nat.zero_le _) ?_
                      refine ja_goto (tgt := 89) dX8_between_84 (by decide) ?_
                      refine ja_istore (i := 4) dX8_between_89 rfl (Nat.le_of_ble_eq_true rfl) ?_
                      refine ja_iincN dX8_between_91 rfl rfl (Nat.le_of_ble_eq_true rfl) ?_
                      refine ja_goto (tgt := 17) dX8_between_94 (by decide) ?_
                      refine ja_forget (i := 7) ?_
                      exact ih17 (nx + 1) (some (stp q nx)) (by omega) (by omega) (by first | exact lst_addN (btP_yes c33 c44) hr | exact lst_addL (btP_yes c33 c44) hr (by omega)) (by intro m2 e2; cases e2; exact stp_le (by omega) (by omega))
        exact lp17 257 0 r (by omega) (by omega) hr hb
  exact lp6 257 0 none (by omega) (by omega) (lst_none (fun m => by rintro ⟨q2, n2, h, -⟩; omega)).symm (fun m e => by cases e)

def cCm (f : Nat → Int32) (l1 : Nat) (a : Int32) (l2 : Nat) (o : Int32) (n : Nat) : Nat := fb_ct (fun q => decide (f (256 * l1 + q) = a) && decide (f (256 * l2 + q) = o)) n
theorem cCm_le (f : Nat → Int32) (l1 : Nat) (a : Int32) (l2 : Nat) (o : Int32) (n : Nat) : cCm f l1 a l2 o n ≤ n := fb_ct_le _ n
theorem cSz_le (f : Nat → Int32) (ly : Nat) (a : Int32) (n : Nat) : cSz f ly a n ≤ n := fb_ct_le _ n
/-- the best match among the areas below n -/
def bM (g : Nat → Nat) : Nat → Option Nat
  | 0 => none
  | n + 1 => match bM g n with
    | none => if 0 < g n then some n else none
    | some b => if g b < g n then some n else some b
theorem bM_lt {g : Nat → Nat} : ∀ {n b : Nat}, bM g n = some b → b < n ∧ 0 < g b
  | 0, b, h => by cases h
  | n + 1, b, h => by
    unfold bM at h
    split at h
    · split at h
      · cases h; omega
      · cases h
    · next c hc =>
      have ih := bM_lt hc
      split at h
      · cases h; omega
      · cases h; omega

set_option maxRecDepth 100000 in
set_option maxHeartbeats 4000000 in
theorem s_common (l : Launch) {Z : jZ} {D : jD} (hz : zM Z) {l1 l2 : Nat} (h1 : l1 < 3) (h2 : l2 < 3) (a o : Int32) : ja_M l (mX8_common 0 0) [.ref (100), .int (nI (l1)), .int (a), .int (nI (l2)), .int (o)] Z D (ja_jr (some (.int (nI (cCm (D 105) l1 a l2 o 256)))) Z D) ja_x0 := by
  refine ja_Mof (lv := [some (.ref (100)), some (.int (nI (l1))), some (.int (a)), some (.int (nI (l2))), some (.int (o)), none, none]) (by decide +kernel) rfl rfl (Nat.le_of_ble_eq_true rfl) rfl ?_
  refine ja_iconst (v := nI 0) dX8_common_0 (by decide +kernel) ?_
  refine ja_istore (i := 5) dX8_common_1 rfl (Nat.le_of_ble_eq_true rfl) ?_
  refine ja_iconst (v := nI 0) dX8_common_3 (by decide +kernel) ?_
  refine ja_istore (i := 6) dX8_common_4 rfl (Nat.le_of_ble_eq_true rfl) ?_
  have lp6 : ∀ (k6 : Nat) (q n : Nat), (256 < q + k6) → (q ≤ 256) → (n = cCm (D 105) l1 a l2 o q) → ja_A l (mX8_common 0 0) ja_sn (ja_Qf (mX8_common 0 0) (ja_jr (some (.int (nI (cCm (D 105) l1 a l2 o 256)))) Z D) ja_x0) 6 [some (.ref (100)), some (.int (nI (l1))), some (.int (a)), some (.int (nI (l2))), some (.int (o)), some (.int (nI (n))), some (.int (nI (q)))] [] Z D 0 0 := by
    intro k6
    induction k6 with
    | zero => intro q n hk hq hn; exfalso; omega
    | succ k6 ih6 =>
      intro q n hk hq hn
      refine ja_iload (i := 6) dX8_common_6 rfl ?_
      refine ja_sipush (v := nI 256) dX8_common_8 (by decide +kernel) ?_
      refine ja_icmpN_ge (tgt := 53) dX8_common_11 (by decide) (by omega) (by omega) (fun c11 => ?_) (fun c11 => ?_)
      ·
        refine ja_iload (i := 5) dX8_common_53 rfl ?_
        refine ja_iret rfl rfl dX8_common_55 (Nat.zero_le _) (Nat.zero_le _) ?_
        refine ⟨?_, rfl, rfl⟩
        rw [hn, show q = 256 by omega]
      ·
        refine ja_iload (i := 5) dX8_common_14 rfl ?_
        refine ja_aload_n (i := 0) dX8_common_16 rfl rfl ?_
        refine ja_iload_n (i := 1) dX8_common_17 rfl rfl ?_
        refine ja_iload (i := 6) dX8_common_18 rfl ?_
        refine ja_cVr (st := [.int (nI (n))]) (s_at (D := D) l hz (ly := l1) (q := q) (by omega) (by omega)) rfl rfl (ce_X8_at 0 0) im_X8_at se_X8_at lk_X8_92 k_X8 (zM_s hz) ⟨(Nat.le_of_ble_eq_true rfl), (Nat.le_of_ble_eq_true rfl)⟩ dX8_common_20 rfl rfl (Nat.le_of_ble_eq_true rfl) (Nat.zero_le _) (Nat.zero_le _) ?_
        refine ja_iload_n (i := 2) dX8_common_23 rfl rfl ?_
        refine ja_icmp_ne (tgt := 43) dX8_common_24 (by decide) (fun c24 => ?_) (fun c24 => ?_)
        ·
          refine ja_iconst (v := nI 0) dX8_common_43 (by decide +kernel) ?_
          refine ja_iaddN dX8_common_44 ?_
          refine ja_istore (i := 5) dX8_common_45 rfl (Nat.le_of_ble_eq_true rfl) ?_
          refine ja_iincN dX8_common_47 rfl rfl (Nat.le_of_ble_eq_true rfl) ?_
          refine ja_goto (tgt := 6) dX8_common_50 (by decide) ?_
          exact ih6 (q + 1) _ (by omega) (by omega) (by rw [hn, cCm, cCm, fb_ct_succ]; simp_all)
        ·
          refine ja_aload_n (i := 0) dX8_common_27 rfl rfl ?_
          refine ja_iload_n (i := 3) dX8_common_28 rfl rfl ?_
          refine ja_iload (i := 6) dX8_common_29 rfl ?_
          refine ja_cVr (st := [.int (nI (n))]) (s_at (D := D) l hz (ly := l2) (q := q) (by omega) (by omega)) rfl rfl (ce_X8_at 0 0) im_X8_at se_X8_at lk_X8_92 k_X8 (zM_s hz) ⟨(Nat.le_of_ble_eq_true rfl), (Nat.le_of_ble_eq_true rfl)⟩ dX8_common_31 rfl rfl (Nat.le_of_ble_eq_true rfl) (Nat.zero_le _) (Nat.zero_le _) ?_
          refine ja_iload (i := 4) dX8_common_34 rfl ?_
          refine ja_icmp_ne (tgt := 43) dX8_common_36 (by decide) (fun c36 => ?_) (fun c36 => ?_)
          ·
            refine ja_iconst (v := nI 0) dX8_common_43 (by decide +kernel) ?_
            refine ja_iaddN dX8_common_44 ?_
            refine ja_istore (i := 5) dX8_common_45 rfl (Nat.le_of_ble_eq_true rfl) ?_
            refine ja_iincN dX8_common_47 rfl rfl (Nat.le_of_ble_eq_true rfl) ?_
            refine ja_goto (tgt := 6) dX8_common_50 (by decide) ?_
            exact ih6 (q + 1) _ (by omega) (by omega) (by rw [hn, cCm, cCm, fb_ct_succ]; simp_all)
          ·
            refine ja_iconst (v := nI 1) dX8_common_39 (by decide +kernel) ?_
            refine ja_goto (tgt := 44) dX8_common_40 (by decide) ?_
            refine ja_iaddN dX8_common_44 ?_
            refine ja_istore (i := 5) dX8_common_45 rfl (Nat.le_of_ble_eq_true rfl) ?_
            refine ja_iincN dX8_common_47 rfl rfl (Nat.le_of_ble_eq_true rfl) ?_
            refine ja_goto (tgt := 6) dX8_common_50 (by decide) ?_
            exact ih6 (q + 1) _ (by omega) (by omega) (by rw [hn, cCm, cCm, fb_ct_succ]; simp_all)
  exact lp6 257 0 0 (by omega) (by omega) rfl

set_option maxRecDepth 100000 in
set_option maxHeartbeats 4000000 in
theorem s_matched (l : Launch) {Z : jZ} {D : jD} (hz : zM Z) {l1 l2 : Nat} (h1 : l1 < 3) (h2 : l2 < 3) (a : Int32) : ja_M l (mX8_matched 0 0) [.ref (100), .int (nI (l1)), .int (a), .int (nI (l2))] Z D (ja_jr (some (.int (oI (bM (fun o => cCm (D 105) l1 a l2 (nI o) 256) 10)))) Z D) ja_x0 := by
  refine ja_Mof (lv := [some (.ref (100)), some (.int (nI (l1))), some (.int (a)), some (.int (nI (l2))), none, none, none]) (by decide +kernel) rfl rfl (Nat.le_of_ble_eq_true rfl) rfl ?_
  refine ja_iconst (v := (-1)) dX8_matched_0 (by decide +kernel) ?_
  refine ja_istore (i := 4) dX8_matched_1 rfl (Nat.le_of_ble_eq_true rfl) ?_
  refine ja_iconst (v := nI 0) dX8_matched_3 (by decide +kernel) ?_
  refine ja_istore (i := 5) dX8_matched_4 rfl (Nat.le_of_ble_eq_true rfl) ?_
  have lp6 : ∀ (k6 : Nat) (o : Nat) (r : Option Nat), (10 < o + k6) → (o ≤ 10) → (r = bM (fun o => cCm (D 105) l1 a l2 (nI o) 256) o) → ja_A l (mX8_matched 0 0) ja_sn (ja_Qf (mX8_matched 0 0) (ja_jr (some (.int (oI (bM (fun o => cCm (D 105) l1 a l2 (nI o) 256) 10)))) Z D) ja_x0) 6 [some (.ref (100)), some (.int (nI (l1))), some (.int (a)), some (.int (nI (l2))), some (.int (oI r)), some (.int (nI (o))), none] [] Z D 0 0 := by
    intro k6
    induction k6 with
    | zero => intro o r hk hq hr; exfalso; omega
    | succ k6 ih6 =>
      intro o r hk hq hr
      have hc2 := cCm_le (D 105) l1 a l2 (nI o) 256
      refine ja_iload (i := 5) dX8_matched_6 rfl ?_
      refine ja_bipush (v := nI 10) dX8_matched_8 (by decide +kernel) ?_
      refine ja_icmpN_ge (tgt := 64) dX8_matched_10 (by decide) (by omega) (by omega) (fun c10 => ?_) (fun c10 => ?_)
      ·
        refine ja_iload (i := 4) dX8_matched_64 rfl ?_
        refine ja_iret rfl rfl dX8_matched_66 (Nat.zero_le _) (Nat.zero_le _) ?_
        refine ⟨?_, rfl, rfl⟩
        rw [hr, show o = 10 by omega]
      ·
        rcases r with _ | b
        ·
          refine ja_aload_n (i := 0) dX8_matched_13 rfl rfl ?_
          refine ja_iload_n (i := 1) dX8_matched_14 rfl rfl ?_
          refine ja_iload_n (i := 2) dX8_matched_15 rfl rfl ?_
          refine ja_iload_n (i := 3) dX8_matched_16 rfl rfl ?_
          refine ja_iload (i := 5) dX8_matched_17 rfl ?_
          refine ja_cVr (st := []) (s_common (D := D) l hz (l1 := l1) (l2 := l2) (by omega) (by omega) (a) (nI (o))) rfl rfl (ce_X8_common 0 0) im_X8_common se_X8_common lk_X8_170 k_X8 (zM_s hz) ⟨(Nat.le_of_ble_eq_true rfl), (Nat.le_of_ble_eq_true rfl)⟩ dX8_matched_19 rfl rfl (Nat.le_of_ble_eq_true rfl) (Nat.zero_le _) (Nat.zero_le _) ?_
          refine ja_istore (i := 6) dX8_matched_22 rfl (Nat.le_of_ble_eq_true rfl) ?_
          refine ja_iload (i := 6) dX8_matched_24 rfl ?_
          refine ja_ifN_le (tgt := 54) dX8_matched_26 (by decide) (by omega) (fun c26 => ?_) (fun c26 => ?_)
          ·
            refine ja_iload (i := 4) dX8_matched_54 rfl ?_
            refine ja_istore (i := 4) dX8_matched_56 rfl (Nat.le_of_ble_eq_true rfl) ?_
            refine ja_iincN dX8_matched_58 rfl rfl (Nat.le_of_ble_eq_true rfl) ?_
            refine ja_goto (tgt := 6) dX8_matched_61 (by decide) ?_
            refine ja_forget (i := 6) ?_
            exact ih6 (o + 1) none (by omega) (by omega) (by unfold bM; rw [← hr]; first | exact (if_pos (by first | omega | (show _ < _; omega))).symm | exact (if_neg (by first | omega | (show ¬ _ < _; omega))).symm)
          ·
            refine ja_iload (i := 4) dX8_matched_29 rfl ?_
            refine ja_iconst (v := (-1)) dX8_matched_31 (by decide +kernel) ?_
            refine ja_icmp_eq (tgt := 49) dX8_matched_32 (by decide) (fun c32 => ?_) (fun c32 => absurd rfl c32)
            refine ja_iload (i := 5) dX8_matched_49 rfl ?_
            refine ja_goto (tgt := 56) dX8_matched_51 (by decide) ?_
            refine ja_istore (i := 4) dX8_matched_56 rfl (Nat.le_of_ble_eq_true rfl) ?_
            refine ja_iincN dX8_matched_58 rfl rfl (Nat.le_of_ble_eq_true rfl) ?_
            refine ja_goto (tgt := 6) dX8_matched_61 (by decide) ?_
            refine ja_forget (i := 6) ?_
            exact ih6 (o + 1) (some (o)) (by omega) (by omega) (by unfold bM; rw [← hr]; first | exact (if_pos (by first | omega | (show _ < _; omega))).symm | exact (if_neg (by first | omega | (show ¬ _ < _; omega))).symm)
        ·
          have hb := bM_lt hr.symm
          have hc1 := cCm_le (D 105) l1 a l2 (nI b) 256
          refine ja_aload_n (i := 0) dX8_matched_13 rfl rfl ?_
          refine ja_iload_n (i := 1) dX8_matched_14 rfl rfl ?_
          refine ja_iload_n (i := 2) dX8_matched_15 rfl rfl ?_
          refine ja_iload_n (i := 3) dX8_matched_16 rfl rfl ?_
          refine ja_iload (i := 5) dX8_matched_17 rfl ?_
          refine ja_cVr (st := []) (s_common (D := D) l hz (l1 := l1) (l2 := l2) (by omega) (by omega) (a) (nI (o))) rfl rfl (ce_X8_common 0 0) im_X8_common se_X8_common lk_X8_170 k_X8 (zM_s hz) ⟨(Nat.le_of_ble_eq_true rfl), (Nat.le_of_ble_eq_true rfl)⟩ dX8_matched_19 rfl rfl (Nat.le_of_ble_eq_true rfl) (Nat.zero_le _) (Nat.zero_le _) ?_
          refine ja_istore (i := 6) dX8_matched_22 rfl (Nat.le_of_ble_eq_true rfl) ?_
          refine ja_iload (i := 6) dX8_matched_24 rfl ?_
          refine ja_ifN_le (tgt := 54) dX8_matched_26 (by decide) (by omega) (fun c26 => ?_) (fun c26 => ?_)
          ·
            refine ja_iload (i := 4) dX8_matched_54 rfl ?_
            refine ja_istore (i := 4) dX8_matched_56 rfl (Nat.le_of_ble_eq_true rfl) ?_
            refine ja_iincN dX8_matched_58 rfl rfl (Nat.le_of_ble_eq_true rfl) ?_
            refine ja_goto (tgt := 6) dX8_matched_61 (by decide) ?_
            refine ja_forget (i := 6) ?_
            exact ih6 (o + 1) (some (b)) (by omega) (by omega) (by unfold bM; rw [← hr]; first | exact (if_pos (by first | omega | (show _ < _; omega))).symm | exact (if_neg (by first | omega | (show ¬ _ < _; omega))).symm)
          ·
            refine ja_iload (i := 4) dX8_matched_29 rfl ?_
            refine ja_iconst (v := (-1)) dX8_matched_31 (by decide +kernel) ?_
            refine ja_icmp_eq (tgt := 49) dX8_matched_32 (by decide) (fun c32 => absurd c32 (nI_nm1 (by omega))) (fun c32 => ?_)
            refine ja_iload (i := 6) dX8_matched_35 rfl ?_
            refine ja_aload_n (i := 0) dX8_matched_37 rfl rfl ?_
            refine ja_iload_n (i := 1) dX8_matched_38 rfl rfl ?_
            refine ja_iload_n (i := 2) dX8_matched_39 rfl rfl ?_
            refine ja_iload_n (i := 3) dX8_matched_40 rfl rfl ?_
            refine ja_iload (i := 4) dX8_matched_41 rfl ?_
            refine ja_cVr (st := [.int (nI (cCm (D 105) l1 (a) l2 (nI (o)) 256))]) (s_common (D := D) l hz (l1 := l1) (l2 := l2) (by omega) (by omega) (a) (nI (b))) rfl rfl (ce_X8_common 0 0) im_X8_common se_X8_common lk_X8_170 k_X8 (zM_s hz) ⟨(Nat.le_of_ble_eq_true rfl), (Nat.le_of_ble_eq_true rfl)⟩ dX8_matched_43 rfl rfl (Nat.le_of_ble_eq_true rfl) (Nat.zero_le _) (Nat.zero_le _) ?_
            refine ja_icmpN_le (tgt := 54) dX8_matched_46 (by decide) (by omega) (by omega) (fun c46 => ?_) (fun c46 => ?_)
            ·
              refine ja_iload (i := 4) dX8_matched_54 rfl ?_
              refine ja_istore (i := 4) dX8_matched_56 rfl (Nat.le_of_ble_eq_true rfl) ?_
              refine ja_iincN dX8_matched_58 rfl rfl (Nat.le_of_ble_eq_true rfl) ?_
              refine ja_goto (tgt := 6) dX8_matched_61 (by decide) ?_
              refine ja_forget (i := 6) ?_
              exact ih6 (o + 1) (some (b)) (by omega) (by omega) (by unfold bM; rw [← hr]; first | exact (if_pos (by first | omega | (show _ < _; omega))).symm | exact (if_neg (by first | omega | (show ¬ _ < _; omega))).symm)
            ·
              refine ja_iload (i := 5) dX8_matched_49 rfl ?_
              refine ja_goto (tgt := 56) dX8_matched_51 (by decide) ?_
              refine ja_istore (i := 4) dX8_matched_56 rfl (Nat.le_of_ble_eq_true rfl) ?_
              refine ja_iincN dX8_matched_58 rfl rfl (Nat.le_of_ble_eq_true rfl) ?_
              refine ja_goto (tgt := 6) dX8_matched_61 (by decide) ?_
              refine ja_forget (i := 6) ?_
              exact ih6 (o + 1) (some (o)) (by omega) (by omega) (by unfold bM; rw [← hr]; first | exact (if_pos (by first | omega | (show _ < _; omega))).symm | exact (if_neg (by first | omega | (show ¬ _ < _; omega))).symm)
  exact lp6 11 0 none (by omega) (by omega) rfl
