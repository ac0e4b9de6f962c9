/-! THE CLASS: the steps to an area -/
theorem stp_e (q o : Nat) : stp q o = (if q % 16 ≤ o % 16 then o % 16 - q % 16 else q % 16 - o % 16) + (if q / 16 ≤ o / 16 then o / 16 - q / 16 else q / 16 - o / 16) := rfl
theorem stp_L {q j : Nat} (h : 0 < q % 16) (hj : j % 16 < q % 16) : stp (q - 1) j + 1 = stp q j ∧ (q - 1) % 16 = q % 16 - 1 ∧ (q - 1) / 16 = q / 16 := by
  have e1 : (q - 1) % 16 = q % 16 - 1 := by omega
  have e2 : (q - 1) / 16 = q / 16 := by omega
  refine ⟨?_, e1, e2⟩
  rw [stp_e, stp_e, e1, e2, if_neg (show ¬ q % 16 ≤ j % 16 by omega)]
  split <;> omega
theorem stp_U {q j : Nat} (h : 0 < q / 16) (hj : j / 16 < q / 16) : stp (q - 16) j + 1 = stp q j ∧ (q - 16) % 16 = q % 16 ∧ (q - 16) / 16 = q / 16 - 1 := by
  have e1 : (q - 16) % 16 = q % 16 := by omega
  have e2 : (q - 16) / 16 = q / 16 - 1 := by omega
  refine ⟨?_, e1, e2⟩
  rw [stp_e, stp_e, e1, e2, if_neg (show ¬ q / 16 ≤ j / 16 by omega)]
  by_cases e : q % 16 ≤ j % 16
  · rw [if_pos e]; split <;> omega
  · rw [if_neg e]; split <;> omega
theorem stp_R {q j : Nat} (h : q % 16 < 15) (hj : q % 16 < j % 16) : stp (q + 1) j + 1 = stp q j := by
  have e1 : (q + 1) % 16 = q % 16 + 1 := by omega
  have e2 : (q + 1) / 16 = q / 16 := by omega
  rw [stp_e, stp_e, e1, e2, if_pos (show q % 16 + 1 ≤ j % 16 by omega), if_pos (show q % 16 ≤ j % 16 by omega)]
  omega
theorem stp_D {q j : Nat} (h : q / 16 < 15) (hj : q / 16 < j / 16) : stp (q + 16) j + 1 = stp q j := by
  have e1 : (q + 16) % 16 = q % 16 := by omega
  have e2 : (q + 16) / 16 = q / 16 + 1 := by omega
  rw [stp_e, stp_e, e1, e2, if_pos (show q / 16 + 1 ≤ j / 16 by omega), if_pos (show q / 16 ≤ j / 16 by omega)]
  omega
theorem stp_0 (q : Nat) : stp q q = 0 := by
  rw [stp_e, if_pos (Nat.le_refl _), if_pos (Nat.le_refl _)]
  omega
theorem stp_sym (q j : Nat) : stp q j = stp j q := by
  rw [stp_e, stp_e]
  by_cases e : q % 16 ≤ j % 16
  · by_cases e2 : q / 16 ≤ j / 16
    · rw [if_pos e, if_pos e2]; split <;> split <;> omega
    · rw [if_pos e, if_neg e2]; split <;> split <;> omega
  · by_cases e2 : q / 16 ≤ j / 16
    · rw [if_neg e, if_pos e2]; split <;> split <;> omega
    · rw [if_neg e, if_neg e2]; split <;> split <;> omega
/-- one step more -/
theorem stp_tri {q j k s : Nat} (hq : q < 256) (h : nbX s q = some j) : stp q k ≤ stp j k + 1 := by
  have hh : (q % 16 < 15 ∧ j = q + 1) ∨ (q / 16 < 15 ∧ j = q + 16) ∨ (0 < q % 16 ∧ j = q - 1) ∨ (0 < q / 16 ∧ j = q - 16) := by
    unfold nbX nR nDn nLf nUp at h
    split at h
    · split at h
      · cases h; exact Or.inl ⟨by assumption, rfl⟩
      · cases h
    · split at h
      · split at h
        · cases h; exact Or.inr (Or.inl ⟨by assumption, rfl⟩)
        · cases h
      · split at h
        · split at h
          · cases h; exact Or.inr (Or.inr (Or.inl ⟨by assumption, rfl⟩))
          · cases h
        · split at h
          · cases h; exact Or.inr (Or.inr (Or.inr ⟨by assumption, rfl⟩))
          · cases h
  rw [stp_e, stp_e]
  rcases hh with ⟨h1, rfl⟩ | ⟨h1, rfl⟩ | ⟨h1, rfl⟩ | ⟨h1, rfl⟩
  · rw [show (q + 1) % 16 = q % 16 + 1 by omega, show (q + 1) / 16 = q / 16 by omega]; split <;> split <;> split <;> omega
  · rw [show (q + 16) % 16 = q % 16 by omega, show (q + 16) / 16 = q / 16 + 1 by omega]; split <;> split <;> split <;> omega
  · rw [show (q - 1) % 16 = q % 16 - 1 by omega, show (q - 1) / 16 = q / 16 by omega]; split <;> split <;> split <;> omega
  · rw [show (q - 16) % 16 = q % 16 by omega, show (q - 16) / 16 = q / 16 - 1 by omega]; split <;> split <;> split <;> omega
theorem sfr_ne {t : Nat → Nat} {q s k : Nat} (h : ¬ k = q) : sfr t q s k = t k := by
  cases hnb : nbX s q with
  | none => rw [sfr, hnb]
  | some j =>
    rw [sfr, hnb]
    show (if t j + 1 < t q then (fun k => if k = q then t j + 1 else t k) else t) k = t k
    split
    · exact if_neg h
    · rfl
theorem sfr_dn {t : Nat → Nat} {q s k : Nat} : sfr t q s k ≤ t k := by
  by_cases e : k = q
  · cases hnb : nbX s q with
    | none => rw [sfr, hnb]; exact Nat.le_refl _
    | some j =>
      rw [sfr, hnb]
      show (if t j + 1 < t q then (fun k => if k = q then t j + 1 else t k) else t) k ≤ t k
      split
      · rw [e]; show (if q = q then t j + 1 else t q) ≤ t q; rw [if_pos rfl]; omega
      · exact Nat.le_refl _
  · rw [sfr_ne e]; exact Nat.le_refl _
theorem sfr_nb {t : Nat → Nat} {q s j : Nat} (h : nbX s q = some j) : sfr t q s q ≤ t j + 1 := by
  rw [sfr, h]
  show (if t j + 1 < t q then (fun k => if k = q then t j + 1 else t k) else t) q ≤ t j + 1
  split
  · show (if q = q then t j + 1 else t q) ≤ t j + 1; rw [if_pos rfl]; omega
  · omega
theorem sfr_or {t : Nat → Nat} {q s : Nat} : sfr t q s q = t q ∨ ∃ j, nbX s q = some j ∧ sfr t q s q = t j + 1 ∧ t j + 1 < t q := by
  cases hnb : nbX s q with
  | none => left; rw [sfr, hnb]
  | some j =>
    by_cases e : t j + 1 < t q
    · right
      refine ⟨j, rfl, ?_, e⟩
      rw [sfr, hnb]
      show (if t j + 1 < t q then (fun k => if k = q then t j + 1 else t k) else t) q = _
      rw [if_pos e]
      exact if_pos rfl
    · left
      rw [sfr, hnb]
      show (if t j + 1 < t q then (fun k => if k = q then t j + 1 else t k) else t) q = _
      rw [if_neg e]
/-- t k is far, or the steps to one -/
def sSo (c : Nat → Int32) (a : Int32) (t : Nat → Nat) (k : Nat) : Prop := t k = 1000 ∨ ∃ j, j < 256 ∧ c j = a ∧ stp k j ≤ t k
def sLe (c : Nat → Int32) (a : Int32) (t : Nat → Nat) (k : Nat) : Prop := ∀ j, j < 256 → c j = a → t k ≤ stp k j
def sLo (c : Nat → Int32) (a : Int32) (t : Nat → Nat) (k : Nat) : Prop := ∀ j, j < 256 → c j = a → j % 16 ≤ k % 16 → j / 16 ≤ k / 16 → t k ≤ stp k j
def sT (t : Nat → Nat) : Prop := ∀ k, k < 256 → t k ≤ 1000
theorem sT_nup {t : Nat → Nat} {q x : Nat} (h : sT t) (hx : x ≤ 1000) : sT (nup t q x) := fun k hk => by
  unfold nup
  split
  · exact hx
  · exact h k hk
theorem sT_sfr {t : Nat → Nat} {q s : Nat} (h : sT t) : sT (sfr t q s) := fun k hk => Nat.le_trans sfr_dn (h k hk)
theorem sSo_sfr {c : Nat → Int32} {a : Int32} {t : Nat → Nat} {q s : Nat} (hq : q < 256) (hT : sT t) (h : ∀ j, nbX s q = some j → sSo c a t j) (hs : sSo c a t q) : sSo c a (sfr t q s) q := by
  rcases sfr_or (t := t) (q := q) (s := s) with e | ⟨j, h1, h2, h3⟩
  · unfold sSo; rw [e]; exact hs
  · rcases h j h1 with e | ⟨i, i1, i2, i3⟩
    · have := hT q hq; omega
    · have := stp_tri (k := i) hq h1
      exact Or.inr ⟨i, i1, i2, by rw [h2]; omega⟩
theorem sSo_ne {c : Nat → Int32} {a : Int32} {t : Nat → Nat} {q s k : Nat} (hk : ¬ k = q) (h : sSo c a t k) : sSo c a (sfr t q s) k := by
  unfold sSo
  rw [sfr_ne hk]
  exact h
theorem nbX2 {q j : Nat} (h : nbX 2 q = some j) : 0 < q % 16 ∧ j = q - 1 := by
  have h : nLf q = some j := h
  unfold nLf at h
  split at h
  · cases h; exact ⟨by assumption, rfl⟩
  · cases h
theorem nbX3 {q j : Nat} (h : nbX 3 q = some j) : 0 < q / 16 ∧ j = q - 16 := by
  have h : nUp q = some j := h
  unfold nUp at h
  split at h
  · cases h; exact ⟨by assumption, rfl⟩
  · cases h
/-- there -/
theorem fwd_s {c : Nat → Int32} {a : Int32} {t : Nat → Nat} {q v : Nat} (hq : q < 256) (hT : sT t) (hA : ∀ k, k < q → sSo c a t k) (hB : ∀ k, k < q → sLo c a t k) (hv : v = if c q = a then 0 else 1000) :
    sT (sfr (sfr (nup t q v) q 2) q 3) ∧ (∀ k, k < q + 1 → sSo c a (sfr (sfr (nup t q v) q 2) q 3) k) ∧ ∀ k, k < q + 1 → sLo c a (sfr (sfr (nup t q v) q 2) q 3) k := by
  have hv1 : v ≤ 1000 := by rw [hv]; split <;> omega
  have T1 := sT_nup (q := q) hT hv1
  have T2 := sT_sfr (q := q) (s := 2) T1
  have k0 : ∀ k, ¬ k = q → nup t q v k = t k := fun k h => if_neg h
  have k1 : nup t q v q = v := if_pos rfl
  have A1 : ∀ k, k < q + 1 → sSo c a (nup t q v) k := fun k hk => by
    by_cases e : k = q
    · unfold sSo
      rw [e, k1, hv]
      by_cases e2 : c q = a
      · rw [if_pos e2]; exact Or.inr ⟨q, hq, e2, by rw [stp_0]; omega⟩
      · rw [if_neg e2]; exact Or.inl rfl
    · unfold sSo; rw [k0 k e]; exact hA k (by omega)
  have A2 : ∀ k, k < q + 1 → sSo c a (sfr (nup t q v) q 2) k := fun k hk => by
    by_cases e : k = q
    · rw [e]; exact sSo_sfr hq T1 (fun j hj => A1 j (by have := nbX2 hj; omega)) (A1 q (by omega))
    · exact sSo_ne e (A1 k hk)
  refine ⟨sT_sfr T2, fun k hk => ?_, fun k hk => ?_⟩
  · by_cases e : k = q
    · rw [e]; exact sSo_sfr hq T2 (fun j hj => A2 j (by have := nbX3 hj; omega)) (A2 q (by omega))
    · exact sSo_ne e (A2 k hk)
  · by_cases e : k = q
    · subst e
      intro j hj hc h1 h2
      by_cases e1 : j % 16 < k % 16
      · obtain ⟨s1, s2, s3⟩ := stp_L (by omega) e1
        have n1 : nbX 2 k = some (k - 1) := by show nLf k = _; exact if_pos (by omega)
        have b1 := hB (k - 1) (by omega) j hj hc (by omega) (by omega)
        have b2 := sfr_nb (t := nup t k v) n1
        rw [k0 _ (by omega)] at b2
        have b3 := sfr_dn (t := sfr (nup t k v) k 2) (q := k) (s := 3) (k := k)
        omega
      · by_cases e2 : j / 16 < k / 16
        · obtain ⟨s1, s2, s3⟩ := stp_U (by omega) e2
          have n1 : nbX 3 k = some (k - 16) := by show nUp k = _; exact if_pos (by omega)
          have b1 := hB (k - 16) (by omega) j hj hc (by omega) (by omega)
          have b2 := sfr_nb (t := sfr (nup t k v) k 2) n1
          rw [sfr_ne (k := k - 16) (by omega), k0 (k - 16) (by omega)] at b2
          omega
        · have : j = k := by omega
          subst this
          have b3 := sfr_dn (t := sfr (nup t j v) j 2) (q := j) (s := 3) (k := j)
          have b4 := sfr_dn (t := nup t j v) (q := j) (s := 2) (k := j)
          rw [k1] at b4
          have hv0 : v = 0 := by rw [hv, if_pos hc]
          have := stp_0 j
          omega
    · intro j hj hc h1 h2
      rw [sfr_ne e, sfr_ne e, k0 k e]
      exact hB k (by omega) j hj hc h1 h2
/-- and back -/
theorem bwd_s {c : Nat → Int32} {a : Int32} {t : Nat → Nat} {q : Nat} (hq : q < 256) (hT : sT t) (hA : ∀ k, k < 256 → sSo c a t k) (hB : ∀ k, k < 256 → sLo c a t k) (hC : ∀ k, k < 256 → q + 1 ≤ k → sLe c a t k) :
    sT (sfr (sfr t q 0) q 1) ∧ (∀ k, k < 256 → sSo c a (sfr (sfr t q 0) q 1) k) ∧ (∀ k, k < 256 → sLo c a (sfr (sfr t q 0) q 1) k) ∧ ∀ k, k < 256 → q ≤ k → sLe c a (sfr (sfr t q 0) q 1) k := by
  have T1 := sT_sfr (q := q) (s := 0) hT
  have A1 : ∀ k, k < 256 → sSo c a (sfr t q 0) k := fun k hk => by
    by_cases e : k = q
    · rw [e]; exact sSo_sfr hq hT (fun j hj => hA j (nbX_lt hq hj)) (hA q hq)
    · exact sSo_ne e (hA k hk)
  have dn : ∀ k, sfr (sfr t q 0) q 1 k ≤ t k := fun k => Nat.le_trans sfr_dn sfr_dn
  refine ⟨sT_sfr T1, fun k hk => ?_, fun k hk j hj hc h1 h2 => Nat.le_trans (dn k) (hB k hk j hj hc h1 h2), fun k hk hqk => ?_⟩
  · by_cases e : k = q
    · rw [e]; exact sSo_sfr hq T1 (fun j hj => A1 j (nbX_lt hq hj)) (A1 q hq)
    · exact sSo_ne e (A1 k hk)
  · by_cases e : k = q
    · subst e
      intro j hj hc
      by_cases e1 : k % 16 < j % 16
      · have s1 := stp_R (by omega) e1
        have n1 : nbX 0 k = some (k + 1) := by show nR k = _; exact if_pos (by omega)
        have b1 := hC (k + 1) (by omega) (by omega) j hj hc
        have b2 := sfr_nb (t := t) n1
        have b3 := sfr_dn (t := sfr t k 0) (q := k) (s := 1) (k := k)
        omega
      · by_cases e2 : k / 16 < j / 16
        · have s1 := stp_D (by omega) e2
          have n1 : nbX 1 k = some (k + 16) := by show nDn k = _; exact if_pos (by omega)
          have b1 := hC (k + 16) (by omega) (by omega) j hj hc
          have b2 := sfr_nb (t := sfr t k 0) n1
          rw [sfr_ne (k := k + 16) (by omega)] at b2
          omega
        · exact Nat.le_trans (dn k) (hB k hk j hj hc (by omega) (by omega))
    · intro j hj hc
      exact Nat.le_trans (dn k) (hC k hk (by omega) j hj hc)
def stpOK (c : Nat → Int32) (a : Int32) (t : Nat → Nat) : Prop := sT t ∧ (∀ k, k < 256 → sSo c a t k) ∧ ∀ k, k < 256 → sLe c a t k
def prO : Nat → Option Nat
  | 0 => none
  | q + 1 => some q
theorem oI_dec (q : Nat) : nI q + Int32.ofInt (-1) = oI (prO q) := by
  cases q with
  | zero => decide
  | succ q => exact nI_dec (Nat.succ_pos q)

set_option maxRecDepth 100000 in
set_option maxHeartbeats 4000000 in
theorem c_measure (l : Launch) {Z : jZ} {D : jD} (hx : zX Z) {ly : Nat} (h1 : ly < 3) {a : Int32} {t0 : Nat → Nat} (hT0 : sT t0) : ja_M l (mX5_measure 0 0) [.ref (11), .ref (30 + 10 * ly), .int (a)] Z (stU D t0) (ja_jd none Z (fun D2 => ∃ t, D2 = stU D t ∧ stpOK (D (31 + 10 * ly)) a t)) ja_x0 := by
  have hsq : ∀ (t : Nat → Nat) (k : Nat), stU D t (31 + 10 * ly) k = D (31 + 10 * ly) k := fun t k => fnU_o (by omega)
  refine ja_Mof (lv := [some (.ref (11)), some (.ref (30 + 10 * ly)), some (.int (a)), none]) (by decide +kernel) rfl rfl (Nat.le_of_ble_eq_true rfl) rfl ?_
  refine ja_iconst (v := nI 0) dX5_measure_0 (by decide +kernel) ?_
  refine ja_istore_n (i := 3) dX5_measure_1 rfl rfl (Nat.le_of_ble_eq_true rfl) ?_
  have lp2 : ∀ (f2 : Nat) (q : Nat) (t : Nat → Nat), (256 < q + f2) → (q ≤ 256) → (sT t) → (∀ k, k < q → sSo (D (31 + 10 * ly)) a t k) → (∀ k, k < q → sLo (D (31 + 10 * ly)) a t k) → ja_A l (mX5_measure 0 0) ja_sn (ja_Qf (mX5_measure 0 0) (ja_jd none Z (fun D2 => ∃ t, D2 = stU D t ∧ stpOK (D (31 + 10 * ly)) a t)) ja_x0) 2 [some (.ref (11)), some (.ref (30 + 10 * ly)), some (.int (a)), some (.int (nI (q)))] [] Z (stU D t) 0 0 := by
    intro f2
    induction f2 with
    | zero => intro q t hf hq hT hA hB; exfalso; omega
    | succ f2 ih2 =>
      intro q t hf hq hT hA hB
      refine ja_iload_n (i := 3) dX5_measure_2 rfl rfl ?_
      refine ja_sipush (v := nI 256) dX5_measure_3 (by decide +kernel) ?_
      refine ja_icmpN_ge (tgt := 50) dX5_measure_6 (by decide) (by omega) (by omega) (fun c6 => ?_) (fun c6 => ?_)
      ·
        refine ja_sipush (v := nI 255) dX5_measure_50 (by decide +kernel) ?_
        refine ja_istore_n (i := 3) dX5_measure_53 rfl rfl (Nat.le_of_ble_eq_true rfl) ?_
        have lp54 : ∀ (f54 : Nat) (n : Nat) (t : Nat → Nat), (n < f54) → (n ≤ 256) → (sT t) → (∀ k, k < 256 → sSo (D (31 + 10 * ly)) a t k) → (∀ k, k < 256 → sLo (D (31 + 10 * ly)) a t k) → (∀ k, k < 256 → n ≤ k → sLe (D (31 + 10 * ly)) a t k) → ja_A l (mX5_measure 0 0) ja_sn (ja_Qf (mX5_measure 0 0) (ja_jd none Z (fun D2 => ∃ t, D2 = stU D t ∧ stpOK (D (31 + 10 * ly)) a t)) ja_x0) 54 [some (.ref (11)), some (.ref (30 + 10 * ly)), some (.int (a)), some (.int (oI (prO n)))] [] Z (stU D t) 0 0 := by
          intro f54
          induction f54 with
          | zero => intro n t hf hn hT hA hB hC; exfalso; omega
          | succ f54 ih54 =>
            intro n t hf hn hT hA hB hC
            refine ja_iload_n (i := 3) dX5_measure_54 rfl rfl ?_
            rcases n with _ | q
            ·
              refine ja_if_lt (tgt := 76) dX5_measure_55 (by decide) (fun c55 => ?_) (fun c55 => absurd (show (-1 : Int32) < 0 by decide) c55)
              refine ja_vret rfl dX5_measure_76 (Nat.zero_le _) (Nat.zero_le _) ?_
              exact ⟨rfl, rfl, _, rfl, hT, hA, fun k hk => hC k hk (by omega)⟩
            ·
              refine ja_ifN_lt dX5_measure_55 (tgt := 76) (by decide) (by omega) ?_
              refine ja_aload_n (i := 0) dX5_measure_58 rfl rfl ?_
              refine ja_iload_n (i := 3) dX5_measure_59 rfl rfl ?_
              refine ja_iconst (v := nI 0) dX5_measure_60 (by decide +kernel) ?_
              refine ja_cVd0 (st := []) (c_stepFrom l hx (D := D) (t := t) hT (q := q) (s := 0) (by omega) (by omega)) rfl rfl (ce_X5_stepFrom 0 0) im_X5_stepFrom se_X5_stepFrom lk_X5_20 k_X5 (zX_o11 hx) ⟨(Nat.le_of_ble_eq_true rfl), (Nat.le_of_ble_eq_true rfl)⟩ dX5_measure_61 rfl rfl (Nat.le_of_ble_eq_true rfl) (Nat.zero_le _) (Nat.zero_le _) ?_
              intro D61 hD61
              subst hD61
              have T2 := sT_sfr (q := q) (s := 0) hT
              refine ja_aload_n (i := 0) dX5_measure_64 rfl rfl ?_
              refine ja_iload_n (i := 3) dX5_measure_65 rfl rfl ?_
              refine ja_iconst (v := nI 1) dX5_measure_66 (by decide +kernel) ?_
              refine ja_cVd0 (st := []) (c_stepFrom l hx (D := D) (t := (sfr t q 0)) T2 (q := q) (s := 1) (by omega) (by omega)) rfl rfl (ce_X5_stepFrom 0 0) im_X5_stepFrom se_X5_stepFrom lk_X5_20 k_X5 (zX_o11 hx) ⟨(Nat.le_of_ble_eq_true rfl), (Nat.le_of_ble_eq_true rfl)⟩ dX5_measure_67 rfl rfl (Nat.le_of_ble_eq_true rfl) (Nat.zero_le _) (Nat.zero_le _) ?_
              intro D67 hD67
              subst hD67
              refine ja_iinc (v := oI (prO q)) dX5_measure_70 rfl (oI_dec q) rfl (Nat.le_of_ble_eq_true rfl) ?_
              refine ja_goto (tgt := 54) dX5_measure_73 (by decide) ?_
              exact ih54 q _ (by omega) (by omega) (bwd_s (by omega) hT hA hB hC).1 (bwd_s (by omega) hT hA hB hC).2.1 (bwd_s (by omega) hT hA hB hC).2.2.1 (bwd_s (by omega) hT hA hB hC).2.2.2
        exact lp54 257 256 t (by omega) (by omega) hT (fun k hk => hA k (by omega)) (fun k hk => hB k (by omega)) (fun k hk hk2 => absurd hk (by omega))
      ·
        refine ja_aload_n (i := 0) dX5_measure_9 rfl rfl ?_
        refine ja_getR fl_X5_9 (zX_o11 hx) rfl (zX_p11_0 hx) dX5_measure_10 ?_
        refine ja_iload_n (i := 3) dX5_measure_13 rfl rfl ?_
        refine ja_aload_n (i := 1) dX5_measure_14 rfl rfl ?_
        refine ja_getR fl_X5_15 (zL_o hx (l := ly) (by omega)) rfl (zL_p0 hx (l := ly) (by omega)) dX5_measure_15 ?_
        refine ja_iload_n (i := 3) dX5_measure_18 rfl rfl ?_
        refine ja_iald (zL_a0 hx (l := ly) (by omega)) rfl (by omega) (by decide) dX5_measure_19 ?_
        refine ja_iload_n (i := 2) dX5_measure_20 rfl rfl ?_
        refine ja_icmp_ne (tgt := 28) dX5_measure_21 (by decide) (fun c21 => ?_) (fun c21 => ?_)
        ·
          refine ja_sipush (v := nI 1000) dX5_measure_28 (by decide +kernel) ?_
          refine ja_iast (zX_o12 hx) rfl (by omega) (by decide) dX5_measure_31 ?_
          refine ja_num (stU_s (by omega)) ?_
          have hv : 1000 = if D (31 + 10 * ly) q = a then 0 else 1000 := by rw [if_neg (by rw [← hsq t q]; exact c21)]
          have T1 : sT (nup t q 1000) := sT_nup hT (by omega)
          refine ja_aload_n (i := 0) dX5_measure_32 rfl rfl ?_
          refine ja_iload_n (i := 3) dX5_measure_33 rfl rfl ?_
          refine ja_iconst (v := nI 2) dX5_measure_34 (by decide +kernel) ?_
          refine ja_cVd0 (st := []) (c_stepFrom l hx (D := D) (t := (nup t q 1000)) T1 (q := q) (s := 2) (by omega) (by omega)) rfl rfl (ce_X5_stepFrom 0 0) im_X5_stepFrom se_X5_stepFrom lk_X5_20 k_X5 (zX_o11 hx) ⟨(Nat.le_of_ble_eq_true rfl), (Nat.le_of_ble_eq_true rfl)⟩ dX5_measure_35 rfl rfl (Nat.le_of_ble_eq_true rfl) (Nat.zero_le _) (Nat.zero_le _) ?_
          intro D35 hD35
          subst hD35
          have T2 := sT_sfr (q := q) (s := 2) T1
          refine ja_aload_n (i := 0) dX5_measure_38 rfl rfl ?_
          refine ja_iload_n (i := 3) dX5_measure_39 rfl rfl ?_
          refine ja_iconst (v := nI 3) dX5_measure_40 (by decide +kernel) ?_
          refine ja_cVd0 (st := []) (c_stepFrom l hx (D := D) (t := (sfr (nup t q 1000) q 2)) T2 (q := q) (s := 3) (by omega) (by omega)) rfl rfl (ce_X5_stepFrom 0 0) im_X5_stepFrom se_X5_stepFrom lk_X5_20 k_X5 (zX_o11 hx) ⟨(Nat.le_of_ble_eq_true rfl), (Nat.le_of_ble_eq_true rfl)⟩ dX5_measure_41 rfl rfl (Nat.le_of_ble_eq_true rfl) (Nat.zero_le _) (Nat.zero_le _) ?_
          intro D41 hD41
          subst hD41
          refine ja_iincN dX5_measure_44 rfl rfl (Nat.le_of_ble_eq_true rfl) ?_
          refine ja_goto (tgt := 2) dX5_measure_47 (by decide) ?_
          exact ih2 (q + 1) _ (by omega) (by omega) (fwd_s (by omega) hT hA hB hv).1 (fwd_s (by omega) hT hA hB hv).2.1 (fwd_s (by omega) hT hA hB hv).2.2
        ·
          refine ja_iconst (v := nI 0) dX5_measure_24 (by decide +kernel) ?_
          refine ja_goto (tgt := 31) dX5_measure_25 (by decide) ?_
          refine ja_iast (zX_o12 hx) rfl (by omega) (by decide) dX5_measure_31 ?_
          refine ja_num (stU_s (by omega)) ?_
          have hv : 0 = if D (31 + 10 * ly) q = a then 0 else 1000 := by rw [if_pos (by rw [← hsq t q]; exact c21)]
          have T1 : sT (nup t q 0) := sT_nup hT (by omega)
          refine ja_aload_n (i := 0) dX5_measure_32 rfl rfl ?_
          refine ja_iload_n (i := 3) dX5_measure_33 rfl rfl ?_
          refine ja_iconst (v := nI 2) dX5_measure_34 (by decide +kernel) ?_
          refine ja_cVd0 (st := []) (c_stepFrom l hx (D := D) (t := (nup t q 0)) T1 (q := q) (s := 2) (by omega) (by omega)) rfl rfl (ce_X5_stepFrom 0 0) im_X5_stepFrom se_X5_stepFrom lk_X5_20 k_X5 (zX_o11 hx) ⟨(Nat.le_of_ble_eq_true rfl), (Nat.le_of_ble_eq_true rfl)⟩ dX5_measure_35 rfl rfl (Nat.le_of_ble_eq_true rfl) (Nat.zero_le _) (Nat.zero_le _) ?_
          intro D35 hD35
          subst hD35
          have T2 := sT_sfr (q := q) (s := 2) T1
          refine ja_aload_n (i := 0) dX5_measure_38 rfl rfl ?_
          refine ja_iload_n (i := 3) dX5_measure_39 rfl rfl ?_
          refine ja_iconst (v := nI 3) dX5_measure_40 (by decide +kernel) ?_
          refine ja_cVd0 (st := []) (c_stepFrom l hx (D := D) (t := (sfr (nup t q 0) q 2)) T2 (q := q) (s := 3) (by omega) (by omega)) rfl rfl (ce_X5_stepFrom 0 0) im_X5_stepFrom se_X5_stepFrom lk_X5_20 k_X5 (zX_o11 hx) ⟨(Nat.le_of_ble_eq_true rfl), (Nat.le_of_ble_eq_true rfl)⟩ dX5_measure_41 rfl rfl (Nat.le_of_ble_eq_true rfl) (Nat.zero_le _) (Nat.zero_le _) ?_
          intro D41 hD41
          subst hD41
          refine ja_iincN dX5_measure_44 rfl rfl (Nat.le_of_ble_eq_true rfl) ?_
          refine ja_goto (tgt := 2) dX5_measure_47 (by decide) ?_
          exact ih2 (q + 1) _ (by omega) (by omega) (fwd_s (by omega) hT hA hB hv).1 (fwd_s (by omega) hT hA hB hv).2.1 (fwd_s (by omega) hT hA hB hv).2.2
  exact lp2 257 0 t0 (by omega) (by omega) hT0 (fun k hk => absurd hk (Nat.not_lt_zero k)) (fun k hk => absurd hk (Nat.not_lt_zero k))

def fwt (c : Nat → Int32) (o : Int32) (t : Nat → Nat) : Nat → Nat
  | 0 => 1000
  | q + 1 => if c q = o ∧ t q < fwt c o t q then t q else fwt c o t q
theorem fwt_le (c : Nat → Int32) (o : Int32) (t : Nat → Nat) : ∀ q, fwt c o t q ≤ 1000
  | 0 => Nat.le_refl _
  | q + 1 => by
    have := fwt_le c o t q
    rw [fwt]
    split <;> omega

set_option maxRecDepth 100000 in
set_option maxHeartbeats 4000000 in
theorem c_fewestTo (l : Launch) {Z : jZ} {D : jD} (hx : zX Z) {ly : Nat} (h1 : ly < 3) {o : Int32} {t : Nat → Nat} (hT : sT t) : ja_M l (mX5_fewestTo 0 0) [.ref (11), .ref (30 + 10 * ly), .int (o)] Z (stU D t) (ja_jr (some (.int (nI (fwt (D (31 + 10 * ly)) o t 256)))) Z (stU D t)) ja_x0 := by
  have hsq : ∀ (k : Nat), stU D t (31 + 10 * ly) k = D (31 + 10 * ly) k := fun k => fnU_o (by omega)
  refine ja_Mof (lv := [some (.ref (11)), some (.ref (30 + 10 * ly)), some (.int (o)), none, none]) (by decide +kernel) rfl rfl (Nat.le_of_ble_eq_true rfl) rfl ?_
  refine ja_sipush (v := nI 1000) dX5_fewestTo_0 (by decide +kernel) ?_
  refine ja_istore_n (i := 3) dX5_fewestTo_3 rfl rfl (Nat.le_of_ble_eq_true rfl) ?_
  refine ja_iconst (v := nI 0) dX5_fewestTo_4 (by decide +kernel) ?_
  refine ja_istore (i := 4) dX5_fewestTo_5 rfl (Nat.le_of_ble_eq_true rfl) ?_
  have lp7 : ∀ (f7 : Nat) (q n : Nat), (256 < q + f7) → (q ≤ 256) → (n ≤ 1000) → (n = fwt (D (31 + 10 * ly)) o t q) → ja_A l (mX5_fewestTo 0 0) ja_sn (ja_Qf (mX5_fewestTo 0 0) (ja_jr (some (.int (nI (fwt (D (31 + 10 * ly)) o t 256)))) Z (stU D t)) ja_x0) 7 [some (.ref (11)), some (.ref (30 + 10 * ly)), some (.int (o)), some (.int (nI (n))), some (.int (nI (q)))] [] Z (stU D t) 0 0 := by
    intro f7
    induction f7 with
    | zero => intro q n hf hq hn1 hn; exfalso; omega
    | succ f7 ih7 =>
      intro q n hf hq hn1 hn
      refine ja_iload (i := 4) dX5_fewestTo_7 rfl ?_
      refine ja_sipush (v := nI 256) dX5_fewestTo_9 (by decide +kernel) ?_
      refine ja_icmpN_ge (tgt := 51) dX5_fewestTo_12 (by decide) (by omega) (by omega) (fun c12 => ?_) (fun c12 => ?_)
      ·
        refine ja_iload_n (i := 3) dX5_fewestTo_51 rfl rfl ?_
        refine ja_iret rfl rfl dX5_fewestTo_52 (Nat.zero_le _) (Nat.zero_le _) ?_
        exact ⟨by rw [hn, show q = 256 by omega], rfl, rfl⟩
      ·
        have t1 := hT q (by omega)
        refine ja_aload_n (i := 1) dX5_fewestTo_15 rfl rfl ?_
        refine ja_getR fl_X5_15 (zL_o hx (l := ly) (by omega)) rfl (zL_p0 hx (l := ly) (by omega)) dX5_fewestTo_16 ?_
        refine ja_iload (i := 4) dX5_fewestTo_19 rfl ?_
        refine ja_iald (zL_a0 hx (l := ly) (by omega)) rfl (by omega) (by decide) dX5_fewestTo_21 ?_
        refine ja_top (y := D (31 + 10 * ly) q) (hsq q) ?_
        refine ja_iload_n (i := 2) dX5_fewestTo_22 rfl rfl ?_
        refine ja_icmp_ne (tgt := 45) dX5_fewestTo_23 (by decide) (fun c23 => ?_) (fun c23 => ?_)
        ·
          refine ja_iincN dX5_fewestTo_45 rfl rfl (Nat.le_of_ble_eq_true rfl) ?_
          refine ja_goto (tgt := 7) dX5_fewestTo_48 (by decide) ?_
          exact ih7 (q + 1) n (by omega) (by omega) hn1 (by rw [fwt, ← hn]; first | (rw [if_neg (fun h => c23 h.1)]; done) | (rw [if_neg (fun h => by omega)]; done))
        ·
          refine ja_aload_n (i := 0) dX5_fewestTo_26 rfl rfl ?_
          refine ja_getR fl_X5_9 (zX_o11 hx) rfl (zX_p11_0 hx) dX5_fewestTo_27 ?_
          refine ja_iload (i := 4) dX5_fewestTo_30 rfl ?_
          refine ja_iald (zX_o12 hx) rfl (by omega) (by decide) dX5_fewestTo_32 ?_
          refine ja_top (y := nI (t q)) (stU_i (by omega)) ?_
          refine ja_iload_n (i := 3) dX5_fewestTo_33 rfl rfl ?_
          refine ja_icmpN_ge (tgt := 45) dX5_fewestTo_34 (by decide) (by omega) (by omega) (fun c34 => ?_) (fun c34 => ?_)
          ·
            refine ja_iincN dX5_fewestTo_45 rfl rfl (Nat.le_of_ble_eq_true rfl) ?_
            refine ja_goto (tgt := 7) dX5_fewestTo_48 (by decide) ?_
            exact ih7 (q + 1) n (by omega) (by omega) hn1 (by rw [fwt, ← hn]; first | (rw [if_neg (fun h => c23 h.1)]; done) | (rw [if_neg (fun h => by omega)]; done))
          ·
            refine ja_aload_n (i := 0) dX5_fewestTo_37 rfl rfl ?_
            refine ja_getR fl_X5_9 (zX_o11 hx) rfl (zX_p11_0 hx) dX5_fewestTo_38 ?_
            refine ja_iload (i := 4) dX5_fewestTo_41 rfl ?_
            refine ja_iald (zX_o12 hx) rfl (by omega) (by decide) dX5_fewestTo_43 ?_
            refine ja_top (y := nI (t q)) (stU_i (by omega)) ?_
            refine ja_istore_n (i := 3) dX5_fewestTo_44 rfl rfl (Nat.le_of_ble_eq_true rfl) ?_
            refine ja_iincN dX5_fewestTo_45 rfl rfl (Nat.le_of_ble_eq_true rfl) ?_
            refine ja_goto (tgt := 7) dX5_fewestTo_48 (by decide) ?_
            exact ih7 (q + 1) _ (by omega) (by omega) (by omega) (by rw [fwt, ← hn, if_pos ⟨c23, by omega⟩])
  exact lp7 257 0 1000 (by omega) (by omega) (by omega) rfl

/-- the least number of steps between two areas -/
theorem fwt_s {c : Nat → Int32} {o : Int32} {t : Nat → Nat} : ∀ {n}, (fwt c o t n = 1000 ∨ ∃ q, q < n ∧ c q = o ∧ t q = fwt c o t n) ∧ ∀ q, q < n → c q = o → fwt c o t n ≤ t q
  | 0 => ⟨Or.inl rfl, fun q h => absurd h (Nat.not_lt_zero q)⟩
  | n + 1 => by
    obtain ⟨h1, h2⟩ := fwt_s (c := c) (o := o) (t := t) (n := n)
    rw [fwt]
    by_cases e : c n = o ∧ t n < fwt c o t n
    · rw [if_pos e]
      refine ⟨Or.inr ⟨n, by omega, e.1, rfl⟩, fun q hq hc => ?_⟩
      by_cases e2 : q = n
      · rw [e2]; exact Nat.le_refl _
      · have := h2 q (by omega) hc; omega
    · rw [if_neg e]
      refine ⟨?_, fun q hq hc => ?_⟩
      · rcases h1 with h | ⟨q, a, b, d⟩
        · exact Or.inl h
        · exact Or.inr ⟨q, by omega, b, d⟩
      · by_cases e2 : q = n
        · subst e2
          have h9 : ¬ t q < fwt c o t q := fun y => e ⟨hc, y⟩
          omega
        · exact h2 q (by omega) hc
theorem fwt_lst {f c : Nat → Int32} {ly : Nat} {a o : Int32} {t : Nat → Nat} (hf : ∀ q, q < 256 → c q = f (256 * ly + q)) (h : stpOK c a t) :
    fwt c o t 256 = match lst (btw f ly a o) with | none => 1000 | some m => m := by
  obtain ⟨h1, h2⟩ := fwt_s (c := c) (o := o) (t := t) (n := 256)
  obtain ⟨T, A, B⟩ := h
  cases hl : lst (btw f ly a o) with
  | none =>
    show fwt c o t 256 = 1000
    rcases h1 with h | ⟨q, q1, q2, q3⟩
    · exact h
    · rcases A q q1 with h | ⟨j, j1, j2, j3⟩
      · omega
      · exact absurd ⟨j, q, j1, q1, by rw [← hf j j1]; exact j2, by rw [← hf q q1]; exact q2, rfl⟩ (lst_no hl (stp j q))
  | some m =>
    show fwt c o t 256 = m
    obtain ⟨⟨j, q, j1, q1, j2, q2, e⟩, hm⟩ := lst_is hl
    rw [← hf j j1] at j2
    rw [← hf q q1] at q2
    have b1 := B q q1 j j1 j2
    have b2 := h2 q q1 q2
    have b3 := stp_sym j q
    have b4 := stp_le j1 q1
    rcases h1 with h | ⟨k, k1, k2, k3⟩
    · omega
    · rcases A k k1 with h | ⟨i, i1, i2, i3⟩
      · omega
      · have := stp_sym i k
        have b5 : ¬ stp i k < m := fun hlt => hm _ hlt ⟨i, k, i1, k1, by rw [← hf i i1]; exact i2, by rw [← hf k k1]; exact k2, rfl⟩
        omega
