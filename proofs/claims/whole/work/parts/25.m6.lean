/-! THE REFERENCE: more calls that only read -/
theorem btw_le {f : Nat → Int32} {ly : Nat} {a o : Int32} {m : Nat} (h : lst (btw f ly a o) = some m) : m ≤ 30 := by
  obtain ⟨q, n, h1, h2, -, -, rfl⟩ := (lst_is h).1
  exact stp_le h1 h2
def nrs (g : Nat → Option Nat) (a : Nat) : Nat → Option (Nat × Nat)
  | 0 => none
  | o + 1 => match (if o = a then none else g o), nrs g a o with
    | none, r => r
    | some d, none => some (o, d)
    | some d, some (b, m) => if d < m then some (o, d) else some (b, m)
theorem nrs_skip {g : Nat → Option Nat} {a o : Nat} (h : (if o = a then none else g o) = none) : nrs g a (o + 1) = nrs g a o := by
  rw [nrs, h]
theorem nrs_first {g : Nat → Option Nat} {a o d : Nat} (h1 : ¬ o = a) (h : g o = some d) (h2 : nrs g a o = none) : nrs g a (o + 1) = some (o, d) := by
  rw [nrs, if_neg h1, h, h2]
theorem nrs_less {g : Nat → Option Nat} {a o d b m : Nat} (h1 : ¬ o = a) (h : g o = some d) (h2 : nrs g a o = some (b, m)) (h3 : d < m) : nrs g a (o + 1) = some (o, d) := by
  rw [nrs, if_neg h1, h, h2]
  exact if_pos h3
theorem nrs_keep {g : Nat → Option Nat} {a o d b m : Nat} (h1 : ¬ o = a) (h : g o = some d) (h2 : nrs g a o = some (b, m)) (h3 : ¬ d < m) : nrs g a (o + 1) = some (b, m) := by
  rw [nrs, if_neg h1, h, h2]
  exact if_neg h3
theorem nrs_lt {g : Nat → Option Nat} {a : Nat} : ∀ {o b m : Nat}, nrs g a o = some (b, m) → b < o
  | 0, b, m, h => by cases h
  | o + 1, b, m, h => by
    rw [nrs] at h
    split at h
    · have := nrs_lt h
      omega
    · cases h
      omega
    · next hx =>
      have := nrs_lt hx
      split at h
      · cases h
        omega
      · cases h
        omega
def oN : Option Nat → Int32
  | none => nI 0
  | some b => nI b
def oC (k : Nat) : Option Nat → Int32
  | none => nI k
  | some _ => nI 0
def oF (r : Option (Nat × Nat)) : Option Nat := match r with
  | none => none
  | some (b, _) => some b

set_option maxRecDepth 100000 in
set_option maxHeartbeats 4000000 in
theorem r_nearest_f1 (l : Launch) {Z : jZ} {D : jD} (hz : zM Z) {ly a : Int32} (hl : ¬ (nI 0 ≤ ly ∧ ly ≤ nI 2)) : ja_M l (mX8_nearest 0 0) [.ref (100), .int (ly), .int (a)] Z D (ja_jd (some (.int (nI 0))) Z (fun D2 => D2 = ja_up D 100 0 (nI 1))) ja_x0 := by
  refine ja_Mof (lv := [some (.ref (100)), some (.int (ly)), some (.int (a)), none, none, none, none]) (by decide +kernel) rfl rfl (Nat.le_of_ble_eq_true rfl) rfl ?_
  refine ja_aload_n (i := 0) dX8_nearest_0 rfl rfl ?_
  refine ja_iload_n (i := 1) dX8_nearest_1 rfl rfl ?_
  refine ja_iload_n (i := 2) dX8_nearest_2 rfl rfl ?_
  refine ja_cVd (st := []) (s_looksF1 l hz (a := a) hl) rfl rfl (ce_X8_looks 0 0) im_X8_looks se_X8_looks lk_X8_136 k_X8 (zM_s hz) ⟨(Nat.le_of_ble_eq_true rfl), (Nat.le_of_ble_eq_true rfl)⟩ dX8_nearest_3 rfl rfl (Nat.le_of_ble_eq_true rfl) (Nat.zero_le _) (Nat.zero_le _) ?_
  intro D3 hD3
  subst hD3
  refine ja_ifB_ne (tgt := 11) dX8_nearest_6 (by decide) (fun c6 => absurd c6 (by decide)) (fun c6 => ?_)
  refine ja_iconst (v := nI 0) dX8_nearest_9 (by decide +kernel) ?_
  refine ja_iret rfl rfl dX8_nearest_10 (Nat.zero_le _) (Nat.zero_le _) ?_
  exact ⟨rfl, rfl, rfl⟩

set_option maxRecDepth 100000 in
set_option maxHeartbeats 4000000 in
theorem r_nearest_f2 (l : Launch) {Z : jZ} {D : jD} (hz : zM Z) {ly : Nat} {a : Int32} (h1 : ly < 3) (ha : ¬ (nI 0 ≤ a ∧ a ≤ nI 9)) : ja_M l (mX8_nearest 0 0) [.ref (100), .int (nI (ly)), .int (a)] Z D (ja_jd (some (.int (nI 0))) Z (fun D2 => D2 = ja_up D 100 0 (nI 2))) ja_x0 := by
  refine ja_Mof (lv := [some (.ref (100)), some (.int (nI (ly))), some (.int (a)), none, none, none, none]) (by decide +kernel) rfl rfl (Nat.le_of_ble_eq_true rfl) rfl ?_
  refine ja_aload_n (i := 0) dX8_nearest_0 rfl rfl ?_
  refine ja_iload_n (i := 1) dX8_nearest_1 rfl rfl ?_
  refine ja_iload_n (i := 2) dX8_nearest_2 rfl rfl ?_
  refine ja_cVd (st := []) (s_looksF2 l hz (by omega) ha) rfl rfl (ce_X8_looks 0 0) im_X8_looks se_X8_looks lk_X8_136 k_X8 (zM_s hz) ⟨(Nat.le_of_ble_eq_true rfl), (Nat.le_of_ble_eq_true rfl)⟩ dX8_nearest_3 rfl rfl (Nat.le_of_ble_eq_true rfl) (Nat.zero_le _) (Nat.zero_le _) ?_
  intro D3 hD3
  subst hD3
  refine ja_ifB_ne (tgt := 11) dX8_nearest_6 (by decide) (fun c6 => absurd c6 (by decide)) (fun c6 => ?_)
  refine ja_iconst (v := nI 0) dX8_nearest_9 (by decide +kernel) ?_
  refine ja_iret rfl rfl dX8_nearest_10 (Nat.zero_le _) (Nat.zero_le _) ?_
  exact ⟨rfl, rfl, rfl⟩

set_option maxRecDepth 100000 in
set_option maxHeartbeats 4000000 in
theorem r_nearest_ok (l : Launch) {Z : jZ} {D : jD} (hz : zM Z) {ly a : Nat} (h1 : ly < 3) (h2 : a < 10) : ja_M l (mX8_nearest 0 0) [.ref (100), .int (nI (ly)), .int (nI (a))] Z D (ja_jd (some (.int (oN (oF (nrs (fun o => lst (btw (D 105) ly (nI a) (nI o))) a 10))))) Z (fun D2 => D2 = ja_up D 100 0 (oC 3 (oF (nrs (fun o => lst (btw (D 105) ly (nI a) (nI o))) a 10))))) ja_x0 := by
  refine ja_Mof (lv := [some (.ref (100)), some (.int (nI (ly))), some (.int (nI (a))), none, none, none, none]) (by decide +kernel) rfl rfl (Nat.le_of_ble_eq_true rfl) rfl ?_
  refine ja_aload_n (i := 0) dX8_nearest_0 rfl rfl ?_
  refine ja_iload_n (i := 1) dX8_nearest_1 rfl rfl ?_
  refine ja_iload_n (i := 2) dX8_nearest_2 rfl rfl ?_
  refine ja_cVd (st := []) (s_looksT l hz (by omega) (by omega)) rfl rfl (ce_X8_looks 0 0) im_X8_looks se_X8_looks lk_X8_136 k_X8 (zM_s hz) ⟨(Nat.le_of_ble_eq_true rfl), (Nat.le_of_ble_eq_true rfl)⟩ dX8_nearest_3 rfl rfl (Nat.le_of_ble_eq_true rfl) (Nat.zero_le _) (Nat.zero_le _) ?_
  intro D3 hD3
  subst hD3
  refine ja_ifB_ne (tgt := 11) dX8_nearest_6 (by decide) (fun c6 => ?_) (fun c6 => absurd c6 (by decide))
  refine ja_iconst (v := (-1)) dX8_nearest_11 (by decide +kernel) ?_
  refine ja_istore_n (i := 3) dX8_nearest_12 rfl rfl (Nat.le_of_ble_eq_true rfl) ?_
  refine ja_iconst (v := nI 0) dX8_nearest_13 (by decide +kernel) ?_
  refine ja_istore (i := 4) dX8_nearest_14 rfl (Nat.le_of_ble_eq_true rfl) ?_
  refine ja_iconst (v := nI 0) dX8_nearest_16 (by decide +kernel) ?_
  refine ja_istore (i := 5) dX8_nearest_17 rfl (Nat.le_of_ble_eq_true rfl) ?_
  have lp19 : ∀ (k19 : Nat) (o mm : Nat) (r : Option Nat), (10 < o + k19) → (o ≤ 10) → (mm ≤ 30) → (nrs (fun o => lst (btw ((ja_up D 100 0 (nI 0)) 105) ly (nI a) (nI o))) a o = r.map (fun b => (b, mm))) → ja_A l (mX8_nearest 0 0) ja_sn (ja_Qf (mX8_nearest 0 0) (ja_jd (some (.int (oN (oF (nrs (fun o => lst (btw (D 105) ly (nI a) (nI o))) a 10))))) Z (fun D2 => D2 = ja_up D 100 0 (oC 3 (oF (nrs (fun o => lst (btw (D 105) ly (nI a) (nI o))) a 10))))) ja_x0) 19 [some (.ref (100)), some (.int (nI (ly))), some (.int (nI (a))), some (.int (oI r)), some (.int (nI (mm))), some (.int (nI (o))), none] [] Z (ja_up D 100 0 (nI 0)) 0 0 := by
    intro k19
    induction k19 with
    | zero => intro o mm r hk ho hm hr; exfalso; omega
    | succ k19 ih19 =>
      intro o mm r hk ho hm hr
      refine ja_iload (i := 5) dX8_nearest_19 rfl ?_
      refine ja_bipush (v := nI 10) dX8_nearest_21 (by decide +kernel) ?_
      refine ja_icmpN_ge (tgt := 77) dX8_nearest_23 (by decide) (by omega) (by omega) (fun c23 => ?_) (fun c23 => ?_)
      ·
        rcases r with _ | b
        ·
          refine ja_iload_n (i := 3) dX8_nearest_77 rfl rfl ?_
          refine ja_iconst (v := (-1)) dX8_nearest_78 (by decide +kernel) ?_
          refine ja_icmp_ne (tgt := 90) dX8_nearest_79 (by decide) (fun c79 => absurd rfl c79) (fun c79 => ?_)
          refine ja_aload_n (i := 0) dX8_nearest_82 rfl rfl ?_
          refine ja_iconst (v := nI 3) dX8_nearest_83 (by decide +kernel) ?_
          refine ja_cVd (st := []) (s_fails l hz (nI (3))) rfl rfl (ce_X8_fails 0 0) im_X8_fails se_X8_fails lk_X8_96 k_X8 (zM_s hz) ⟨(Nat.le_of_ble_eq_true rfl), (Nat.le_of_ble_eq_true rfl)⟩ dX8_nearest_84 rfl rfl (Nat.le_of_ble_eq_true rfl) (Nat.zero_le _) (Nat.zero_le _) ?_
          intro D84 hD84
          subst hD84
          refine ja_num (D2 := ja_up D 100 0 (nI (3))) up_2 ?_
          refine ja_goto (tgt := 91) dX8_nearest_87 (by decide) ?_
          refine ja_iret rfl rfl dX8_nearest_91 (Nat.zero_le _) (Nat.zero_le _) ?_
          have e10 : nrs (fun o => lst (btw ((ja_up D 100 0 (nI 0)) 105) ly (nI a) (nI o))) a 10 = none := by rw [← show o = 10 by omega]; exact hr
          exact ⟨by rw [show nrs (fun o => lst (btw (D 105) ly (nI a) (nI o))) a 10 = none from e10]; rfl, rfl, by rw [show nrs (fun o => lst (btw (D 105) ly (nI a) (nI o))) a 10 = none from e10]; rfl⟩
        ·
          have hb : b < 10 := by have e := nrs_lt (show nrs (fun o => lst (btw ((ja_up D 100 0 (nI 0)) 105) ly (nI a) (nI o))) a o = some (b, mm) from hr); omega
          refine ja_iload_n (i := 3) dX8_nearest_77 rfl rfl ?_
          refine ja_iconst (v := (-1)) dX8_nearest_78 (by decide +kernel) ?_
          refine ja_icmp_ne (tgt := 90) dX8_nearest_79 (by decide) (fun c79 => ?_) (fun c79 => absurd c79 (nI_nm1 (by omega)))
          refine ja_iload_n (i := 3) dX8_nearest_90 rfl rfl ?_
          refine ja_iret rfl rfl dX8_nearest_91 (Nat.zero_le _) (Nat.zero_le _) ?_
          have e10 : nrs (fun o => lst (btw ((ja_up D 100 0 (nI 0)) 105) ly (nI a) (nI o))) a 10 = some (b, mm) := by rw [← show o = 10 by omega]; exact hr
          exact ⟨by rw [show nrs (fun o => lst (btw (D 105) ly (nI a) (nI o))) a 10 = some (b, mm) from e10]; rfl, rfl, by rw [show nrs (fun o => lst (btw (D 105) ly (nI a) (nI o))) a 10 = some (b, mm) from e10]; rfl⟩
      ·
        refine ja_iload (i := 5) dX8_nearest_26 rfl ?_
        refine ja_iload_n (i := 2) dX8_nearest_28 rfl rfl ?_
        refine ja_icmpN_ne (tgt := 36) dX8_nearest_29 (by decide) (by omega) (by omega) (fun c29 => ?_) (fun c29 => ?_)
        ·
          refine ja_aload_n (i := 0) dX8_nearest_36 rfl rfl ?_
          refine ja_iload_n (i := 1) dX8_nearest_37 rfl rfl ?_
          refine ja_iload_n (i := 2) dX8_nearest_38 rfl rfl ?_
          refine ja_iload (i := 5) dX8_nearest_39 rfl ?_
          refine ja_cVr (st := []) (s_between (D := (ja_up D 100 0 (nI 0))) l hz (ly := ly) (by omega) (nI (a)) (nI (o))) rfl rfl (ce_X8_between 0 0) im_X8_between se_X8_between lk_X8_148 k_X8 (zM_s hz) ⟨(Nat.le_of_ble_eq_true rfl), (Nat.le_of_ble_eq_true rfl)⟩ dX8_nearest_41 rfl rfl (Nat.le_of_ble_eq_true rfl) (Nat.zero_le _) (Nat.zero_le _) ?_
          refine ja_istore (i := 6) dX8_nearest_44 rfl (Nat.le_of_ble_eq_true rfl) ?_
          rcases hg : lst (btw ((ja_up D 100 0 (nI 0)) 105) ly (nI a) (nI o)) with _ | d
          ·
            refine ja_iload (i := 6) dX8_nearest_46 rfl ?_
            refine ja_iconst (v := (-1)) dX8_nearest_48 (by decide +kernel) ?_
            refine ja_icmp_eq (tgt := 71) dX8_nearest_49 (by decide) (fun c49 => ?_) (fun c49 => absurd rfl c49)
            refine ja_iincN dX8_nearest_71 rfl rfl (Nat.le_of_ble_eq_true rfl) ?_
            refine ja_goto (tgt := 19) dX8_nearest_74 (by decide) ?_
            refine ja_forget (i := 6) ?_
            exact ih19 (o + 1) mm r (by omega) (by omega) hm ((nrs_skip (by first | exact if_pos (show o = a by omega) | (rw [if_neg (show ¬ o = a by omega)]; exact hg))).trans hr)
          ·
            have hd := btw_le hg
            refine ja_iload (i := 6) dX8_nearest_46 rfl ?_
            refine ja_iconst (v := (-1)) dX8_nearest_48 (by decide +kernel) ?_
            refine ja_icmp_eq (tgt := 71) dX8_nearest_49 (by decide) (fun c49 => absurd c49 (nI_nm1 (by omega))) (fun c49 => ?_)
            rcases r with _ | b
            ·
              refine ja_iload_n (i := 3) dX8_nearest_52 rfl rfl ?_
              refine ja_iconst (v := (-1)) dX8_nearest_53 (by decide +kernel) ?_
              refine ja_icmp_eq (tgt := 64) dX8_nearest_54 (by decide) (fun c54 => ?_) (fun c54 => absurd rfl c54)
              refine ja_iload (i := 5) dX8_nearest_64 rfl ?_
              refine ja_istore_n (i := 3) dX8_nearest_66 rfl rfl (Nat.le_of_ble_eq_true rfl) ?_
              refine ja_iload (i := 6) dX8_nearest_67 rfl ?_
              refine ja_istore (i := 4) dX8_nearest_69 rfl (Nat.le_of_ble_eq_true rfl) ?_
              refine ja_iincN dX8_nearest_71 rfl rfl (Nat.le_of_ble_eq_true rfl) ?_
              refine ja_goto (tgt := 19) dX8_nearest_74 (by decide) ?_
              refine ja_forget (i := 6) ?_
              exact ih19 (o + 1) d (some o) (by omega) (by omega) (by omega) (by first | exact nrs_first (show ¬ o = a by omega) hg hr | exact nrs_less (show ¬ o = a by omega) hg hr (by omega))
            ·
              have hb : b < 10 := by have e := nrs_lt (show nrs (fun o => lst (btw ((ja_up D 100 0 (nI 0)) 105) ly (nI a) (nI o))) a o = some (b, mm) from hr); omega
              refine ja_iload_n (i := 3) dX8_nearest_52 rfl rfl ?_
              refine ja_iconst (v := (-1)) dX8_nearest_53 (by decide +kernel) ?_
              refine ja_icmp_eq (tgt := 64) dX8_nearest_54 (by decide) (fun c54 => absurd c54 (nI_nm1 (by omega))) (fun c54 => ?_)
              refine ja_iload (i := 6) dX8_nearest_57 rfl ?_
              refine ja_iload (i := 4) dX8_nearest_59 rfl ?_
              refine ja_icmpN_ge (tgt := 71) dX8_nearest_61 (by decide) (by omega) (by omega) (fun c61 => ?_) (fun c61 => ?_)
              ·
                refine ja_iincN dX8_nearest_71 rfl rfl (Nat.le_of_ble_eq_true rfl) ?_
                refine ja_goto (tgt := 19) dX8_nearest_74 (by decide) ?_
                refine ja_forget (i := 6) ?_
                exact ih19 (o + 1) mm (some b) (by omega) (by omega) hm (nrs_keep (show ¬ o = a by omega) hg hr (by omega))
              ·
                refine ja_iload (i := 5) dX8_nearest_64 rfl ?_
                refine ja_istore_n (i := 3) dX8_nearest_66 rfl rfl (Nat.le_of_ble_eq_true rfl) ?_
                refine ja_iload (i := 6) dX8_nearest_67 rfl ?_
                refine ja_istore (i := 4) dX8_nearest_69 rfl (Nat.le_of_ble_eq_true rfl) ?_
                refine ja_iincN dX8_nearest_71 rfl rfl (Nat.le_of_ble_eq_true rfl) ?_
                refine ja_goto (tgt := 19) dX8_nearest_74 (by decide) ?_
                refine ja_forget (i := 6) ?_
                exact ih19 (o + 1) d (some o) (by omega) (by omega) (by omega) (by first | exact nrs_first (show ¬ o = a by omega) hg hr | exact nrs_less (show ¬ o = a by omega) hg hr (by omega))
        ·
          refine ja_iconst (v := (-1)) dX8_nearest_32 (by decide +kernel) ?_
          refine ja_goto (tgt := 44) dX8_nearest_33 (by decide) ?_
          refine ja_istore (i := 6) dX8_nearest_44 rfl (Nat.le_of_ble_eq_true rfl) ?_
          refine ja_iload (i := 6) dX8_nearest_46 rfl ?_
          refine ja_iconst (v := (-1)) dX8_nearest_48 (by decide +kernel) ?_
          refine ja_icmp_eq (tgt := 71) dX8_nearest_49 (by decide) (fun c49 => ?_) (fun c49 => absurd rfl c49)
          refine ja_iincN dX8_nearest_71 rfl rfl (Nat.le_of_ble_eq_true rfl) ?_
          refine ja_goto (tgt := 19) dX8_nearest_74 (by decide) ?_
          refine ja_forget (i := 6) ?_
          exact ih19 (o + 1) mm r (by omega) (by omega) hm ((nrs_skip (by first | exact if_pos (show o = a by omega) | (rw [if_neg (show ¬ o = a by omega)]; exact hg))).trans hr)
  exact lp19 11 0 0 none (by omega) (by omega) (by omega) rfl

def anyB (p : Nat → Bool) : Nat → Bool
  | 0 => false
  | n + 1 => anyB p n || p n
theorem anyB_iff {p : Nat → Bool} : ∀ {n : Nat}, anyB p n = true ↔ ∃ k, k < n ∧ p k = true
  | 0 => by simp [anyB]
  | n + 1 => by
    simp only [anyB, Bool.or_eq_true, anyB_iff]
    constructor
    · rintro (⟨k, h1, h2⟩ | h)
      · exact ⟨k, by omega, h2⟩
      · exact ⟨n, by omega, h⟩
    · rintro ⟨k, h1, h2⟩
      by_cases e : k = n
      · subst e
        exact Or.inr h2
      · exact Or.inl ⟨k, by omega, h2⟩
def blQ (c : Nat → Int32) (a : Int32) (w q nx : Nat) : Bool := decide (c nx = a) && decide (stp q nx ≤ w)
def blt (c : Nat → Int32) (a : Int32) (w n : Nat) : Nat := fb_ct (fun q => anyB (blQ c a w q) 256 && !decide (c q = a)) n

set_option maxRecDepth 100000 in
set_option maxHeartbeats 4000000 in
theorem r_belt_f1 (l : Launch) {Z : jZ} {D : jD} (hz : zM Z) {ly a : Int32} (w : Int32) (hl : ¬ (nI 0 ≤ ly ∧ ly ≤ nI 2)) : ja_M l (mX8_belt 0 0) [.ref (100), .int (ly), .int (a), .int (w)] Z D (ja_jd (some (.int (nI 0))) Z (fun D2 => D2 = ja_up D 100 0 (nI 1))) ja_x0 := by
  refine ja_Mof (lv := [some (.ref (100)), some (.int (ly)), some (.int (a)), some (.int (w)), none, none, none, none]) (by decide +kernel) rfl rfl (Nat.le_of_ble_eq_true rfl) rfl ?_
  refine ja_aload_n (i := 0) dX8_belt_0 rfl rfl ?_
  refine ja_iload_n (i := 1) dX8_belt_1 rfl rfl ?_
  refine ja_iload_n (i := 2) dX8_belt_2 rfl rfl ?_
  refine ja_cVd (st := []) (s_looksF1 l hz (a := a) hl) rfl rfl (ce_X8_looks 0 0) im_X8_looks se_X8_looks lk_X8_136 k_X8 (zM_s hz) ⟨(Nat.le_of_ble_eq_true rfl), (Nat.le_of_ble_eq_true rfl)⟩ dX8_belt_3 rfl rfl (Nat.le_of_ble_eq_true rfl) (Nat.zero_le _) (Nat.zero_le _) ?_
  intro D3 hD3
  subst hD3
  refine ja_ifB_ne (tgt := 11) dX8_belt_6 (by decide) (fun c6 => absurd c6 (by decide)) (fun c6 => ?_)
  refine ja_iconst (v := nI 0) dX8_belt_9 (by decide +kernel) ?_
  refine ja_iret rfl rfl dX8_belt_10 (Nat.zero_le _) (Nat.zero_le _) ?_
  exact ⟨rfl, rfl, rfl⟩

set_option maxRecDepth 100000 in
set_option maxHeartbeats 4000000 in
theorem r_belt_f2 (l : Launch) {Z : jZ} {D : jD} (hz : zM Z) {ly : Nat} {a : Int32} (w : Int32) (h1 : ly < 3) (ha : ¬ (nI 0 ≤ a ∧ a ≤ nI 9)) : ja_M l (mX8_belt 0 0) [.ref (100), .int (nI (ly)), .int (a), .int (w)] Z D (ja_jd (some (.int (nI 0))) Z (fun D2 => D2 = ja_up D 100 0 (nI 2))) ja_x0 := by
  refine ja_Mof (lv := [some (.ref (100)), some (.int (nI (ly))), some (.int (a)), some (.int (w)), none, none, none, none]) (by decide +kernel) rfl rfl (Nat.le_of_ble_eq_true rfl) rfl ?_
  refine ja_aload_n (i := 0) dX8_belt_0 rfl rfl ?_
  refine ja_iload_n (i := 1) dX8_belt_1 rfl rfl ?_
  refine ja_iload_n (i := 2) dX8_belt_2 rfl rfl ?_
  refine ja_cVd (st := []) (s_looksF2 l hz (by omega) ha) rfl rfl (ce_X8_looks 0 0) im_X8_looks se_X8_looks lk_X8_136 k_X8 (zM_s hz) ⟨(Nat.le_of_ble_eq_true rfl), (Nat.le_of_ble_eq_true rfl)⟩ dX8_belt_3 rfl rfl (Nat.le_of_ble_eq_true rfl) (Nat.zero_le _) (Nat.zero_le _) ?_
  intro D3 hD3
  subst hD3
  refine ja_ifB_ne (tgt := 11) dX8_belt_6 (by decide) (fun c6 => absurd c6 (by decide)) (fun c6 => ?_)
  refine ja_iconst (v := nI 0) dX8_belt_9 (by decide +kernel) ?_
  refine ja_iret rfl rfl dX8_belt_10 (Nat.zero_le _) (Nat.zero_le _) ?_
  exact ⟨rfl, rfl, rfl⟩

set_option maxRecDepth 100000 in
set_option maxHeartbeats 4000000 in
theorem r_belt_f2b (l : Launch) {Z : jZ} {D : jD} (hz : zM Z) {ly a : Nat} (h1 : ly < 3) (h2 : a < 10) {w : Int32} (hw : ¬ (nI 1 ≤ w ∧ w ≤ nI 30)) : ja_M l (mX8_belt 0 0) [.ref (100), .int (nI (ly)), .int (nI (a)), .int (w)] Z D (ja_jd (some (.int (nI 0))) Z (fun D2 => D2 = ja_up D 100 0 (nI 2))) ja_x0 := by
  refine ja_Mof (lv := [some (.ref (100)), some (.int (nI (ly))), some (.int (nI (a))), some (.int (w)), none, none, none, none]) (by decide +kernel) rfl rfl (Nat.le_of_ble_eq_true rfl) rfl ?_
  refine ja_aload_n (i := 0) dX8_belt_0 rfl rfl ?_
  refine ja_iload_n (i := 1) dX8_belt_1 rfl rfl ?_
  refine ja_iload_n (i := 2) dX8_belt_2 rfl rfl ?_
  refine ja_cVd (st := []) (s_looksT l hz (by omega) (by omega)) rfl rfl (ce_X8_looks 0 0) im_X8_looks se_X8_looks lk_X8_136 k_X8 (zM_s hz) ⟨(Nat.le_of_ble_eq_true rfl), (Nat.le_of_ble_eq_true rfl)⟩ dX8_belt_3 rfl rfl (Nat.le_of_ble_eq_true rfl) (Nat.zero_le _) (Nat.zero_le _) ?_
  intro D3 hD3
  subst hD3
  refine ja_ifB_ne (tgt := 11) dX8_belt_6 (by decide) (fun c6 => ?_) (fun c6 => absurd c6 (by decide))
  refine ja_iload_n (i := 3) dX8_belt_11 rfl rfl ?_
  refine ja_iconst (v := nI 1) dX8_belt_12 (by decide +kernel) ?_
  refine ja_bipush (v := nI 30) dX8_belt_13 (by decide +kernel) ?_
  refine ja_cSr (st := []) (s_inF l (w) (nI (1)) (nI (30)) hw) rfl rfl (ce_X8_in 0 0) st_X8_in lk_X8_88 ⟨(Nat.le_of_ble_eq_true rfl), (Nat.le_of_ble_eq_true rfl)⟩ dX8_belt_15 rfl rfl (Nat.le_of_ble_eq_true rfl) (Nat.zero_le _) (Nat.zero_le _) ?_
  refine ja_ifB_ne (tgt := 27) dX8_belt_18 (by decide) (fun c18 => absurd c18 (by decide)) (fun c18 => ?_)
  refine ja_aload_n (i := 0) dX8_belt_21 rfl rfl ?_
  refine ja_iconst (v := nI 2) dX8_belt_22 (by decide +kernel) ?_
  refine ja_cVd (st := []) (s_fails l hz (nI (2))) rfl rfl (ce_X8_fails 0 0) im_X8_fails se_X8_fails lk_X8_96 k_X8 (zM_s hz) ⟨(Nat.le_of_ble_eq_true rfl), (Nat.le_of_ble_eq_true rfl)⟩ dX8_belt_23 rfl rfl (Nat.le_of_ble_eq_true rfl) (Nat.zero_le _) (Nat.zero_le _) ?_
  intro D23 hD23
  subst hD23
  refine ja_num (D2 := ja_up D 100 0 (nI (2))) up_2 ?_
  refine ja_iret rfl rfl dX8_belt_26 (Nat.zero_le _) (Nat.zero_le _) ?_
  exact ⟨rfl, rfl, rfl⟩

set_option maxRecDepth 100000 in
set_option maxHeartbeats 4000000 in
theorem r_belt_ok (l : Launch) {Z : jZ} {D : jD} (hz : zM Z) {ly a : Nat} (h1 : ly < 3) (h2 : a < 10) {w : Nat} (h3 : 1 ≤ w) (h4 : w ≤ 30) : ja_M l (mX8_belt 0 0) [.ref (100), .int (nI (ly)), .int (nI (a)), .int (nI (w))] Z D (ja_jd (some (.int (nI (blt (lyr (D 105) ly) (nI a) w 256)))) Z (fun D2 => D2 = ja_up D 100 0 (nI 0))) ja_x0 := by
  refine ja_Mof (lv := [some (.ref (100)), some (.int (nI (ly))), some (.int (nI (a))), some (.int (nI (w))), none, none, none, none]) (by decide +kernel) rfl rfl (Nat.le_of_ble_eq_true rfl) rfl ?_
  refine ja_aload_n (i := 0) dX8_belt_0 rfl rfl ?_
  refine ja_iload_n (i := 1) dX8_belt_1 rfl rfl ?_
  refine ja_iload_n (i := 2) dX8_belt_2 rfl rfl ?_
  refine ja_cVd (st := []) (s_looksT l hz (by omega) (by omega)) rfl rfl (ce_X8_looks 0 0) im_X8_looks se_X8_looks lk_X8_136 k_X8 (zM_s hz) ⟨(Nat.le_of_ble_eq_true rfl), (Nat.le_of_ble_eq_true rfl)⟩ dX8_belt_3 rfl rfl (Nat.le_of_ble_eq_true rfl) (Nat.zero_le _) (Nat.zero_le _) ?_
  intro D3 hD3
  subst hD3
  refine ja_ifB_ne (tgt := 11) dX8_belt_6 (by decide) (fun c6 => ?_) (fun c6 => absurd c6 (by decide))
  refine ja_iload_n (i := 3) dX8_belt_11 rfl rfl ?_
  refine ja_iconst (v := nI 1) dX8_belt_12 (by decide +kernel) ?_
  refine ja_bipush (v := nI 30) dX8_belt_13 (by decide +kernel) ?_
  refine ja_cSr (st := []) (s_inT l (w) 1 30 (by omega) (by omega) (by omega)) rfl rfl (ce_X8_in 0 0) st_X8_in lk_X8_88 ⟨(Nat.le_of_ble_eq_true rfl), (Nat.le_of_ble_eq_true rfl)⟩ dX8_belt_15 rfl rfl (Nat.le_of_ble_eq_true rfl) (Nat.zero_le _) (Nat.zero_le _) ?_
  refine ja_ifB_ne (tgt := 27) dX8_belt_18 (by decide) (fun c18 => ?_) (fun c18 => absurd c18 (by decide))
  refine ja_iconst (v := nI 0) dX8_belt_27 (by decide +kernel) ?_
  refine ja_istore (i := 4) dX8_belt_28 rfl (Nat.le_of_ble_eq_true rfl) ?_
  refine ja_iconst (v := nI 0) dX8_belt_30 (by decide +kernel) ?_
  refine ja_istore (i := 5) dX8_belt_31 rfl (Nat.le_of_ble_eq_true rfl) ?_
  have lp33 : ∀ (k33 : Nat) (q n : Nat), (256 < q + k33) → (q ≤ 256) → (n = blt (lyr ((ja_up D 100 0 (nI 0)) 105) ly) (nI a) w q) → ja_A l (mX8_belt 0 0) ja_sn (ja_Qf (mX8_belt 0 0) (ja_jd (some (.int (nI (blt (lyr (D 105) ly) (nI a) w 256)))) Z (fun D2 => D2 = ja_up D 100 0 (nI 0))) ja_x0) 33 [some (.ref (100)), some (.int (nI (ly))), some (.int (nI (a))), some (.int (nI (w))), some (.int (nI (n))), some (.int (nI (q))), none, none] [] Z (ja_up D 100 0 (nI 0)) 0 0 := by
    intro k33
    induction k33 with
    | zero => intro q n hk hq hn; exfalso; omega
    | succ k33 ih33 =>
      intro q n hk hq hn
      refine ja_iload (i := 5) dX8_belt_33 rfl ?_
      refine ja_sipush (v := nI 256) dX8_belt_35 (by decide +kernel) ?_
      refine ja_icmpN_ge (tgt := 127) dX8_belt_38 (by decide) (by omega) (by omega) (fun c38 => ?_) (fun c38 => ?_)
      ·
        refine ja_iload (i := 4) dX8_belt_127 rfl ?_
        refine ja_iret rfl rfl dX8_belt_129 (Nat.zero_le _) (Nat.zero_le _) ?_
        refine ⟨?_, rfl, rfl⟩
        rw [hn, show q = 256 by omega]
        rfl
      ·
        refine ja_iconst (v := nI 0) dX8_belt_41 (by decide +kernel) ?_
        refine ja_istore (i := 6) dX8_belt_42 rfl (Nat.le_of_ble_eq_true rfl) ?_
        refine ja_iconst (v := nI 0) dX8_belt_44 (by decide +kernel) ?_
        refine ja_istore (i := 7) dX8_belt_45 rfl (Nat.le_of_ble_eq_true rfl) ?_
        have lp47 : ∀ (k47 : Nat) (nx : Nat) (b : Bool), (256 < nx + k47) → (nx ≤ 256) → (b = anyB (blQ (lyr ((ja_up D 100 0 (nI 0)) 105) ly) (nI a) w q) nx) → ja_A l (mX8_belt 0 0) ja_sn (ja_Qf (mX8_belt 0 0) (ja_jd (some (.int (nI (blt (lyr (D 105) ly) (nI a) w 256)))) Z (fun D2 => D2 = ja_up D 100 0 (nI 0))) ja_x0) 47 [some (.ref (100)), some (.int (nI (ly))), some (.int (nI (a))), some (.int (nI (w))), some (.int (nI (n))), some (.int (nI (q))), some (.int (bI (b))), some (.int (nI (nx)))] [] Z (ja_up D 100 0 (nI 0)) 0 0 := by
          intro k47
          induction k47 with
          | zero => intro nx b hj hx hb; exfalso; omega
          | succ k47 ih47 =>
            intro nx b hj hx hb
            refine ja_iload (i := 7) dX8_belt_47 rfl ?_
            refine ja_sipush (v := nI 256) dX8_belt_49 (by decide +kernel) ?_
            refine ja_icmpN_ge (tgt := 95) dX8_belt_52 (by decide) (by omega) (by omega) (fun c52 => ?_) (fun c52 => ?_)
            ·
              refine ja_iload (i := 4) dX8_belt_95 rfl ?_
              refine ja_iload (i := 6) dX8_belt_97 rfl ?_
              refine ja_ifB_eq (tgt := 117) dX8_belt_99 (by decide) (fun c99 => ?_) (fun c99 => ?_)
              ·
                refine ja_iconst (v := nI 0) dX8_belt_117 (by decide +kernel) ?_
                refine ja_iaddN dX8_belt_118 ?_
                refine ja_istore (i := 4) dX8_belt_119 rfl (Nat.le_of_ble_eq_true rfl) ?_
                refine ja_iincN dX8_belt_121 rfl rfl (Nat.le_of_ble_eq_true rfl) ?_
                refine ja_goto (tgt := 33) dX8_belt_124 (by decide) ?_
                refine ja_forget (i := 6) ?_
                refine ja_forget (i := 7) ?_
                exact ih33 (q + 1) _ (by omega) (by omega) (by rw [hn]; unfold blt; rw [fb_ct_succ, ← show nx = 256 by omega, ← hb]; simp_all [lyr])
              ·
                refine ja_aload_n (i := 0) dX8_belt_102 rfl rfl ?_
                refine ja_iload_n (i := 1) dX8_belt_103 rfl rfl ?_
                refine ja_iload (i := 5) dX8_belt_104 rfl ?_
                refine ja_cVr (st := [.int (nI (n))]) (s_at (D := (ja_up D 100 0 (nI 0))) l hz (ly := ly) (q := q) (by omega) (by omega)) rfl rfl (ce_X8_at 0 0) im_X8_at se_X8_at lk_X8_92 k_X8 (zM_s hz) ⟨(Nat.le_of_ble_eq_true rfl), (Nat.le_of_ble_eq_true rfl)⟩ dX8_belt_106 rfl rfl (Nat.le_of_ble_eq_true rfl) (Nat.zero_le _) (Nat.zero_le _) ?_
                refine ja_iload_n (i := 2) dX8_belt_109 rfl rfl ?_
                refine ja_icmp_eq (tgt := 117) dX8_belt_110 (by decide) (fun c110 => ?_) (fun c110 => ?_)
                ·
                  refine ja_iconst (v := nI 0) dX8_belt_117 (by decide +kernel) ?_
                  refine ja_iaddN dX8_belt_118 ?_
                  refine ja_istore (i := 4) dX8_belt_119 rfl (Nat.le_of_ble_eq_true rfl) ?_
                  refine ja_iincN dX8_belt_121 rfl rfl (Nat.le_of_ble_eq_true rfl) ?_
                  refine ja_goto (tgt := 33) dX8_belt_124 (by decide) ?_
                  refine ja_forget (i := 6) ?_
                  refine ja_forget (i := 7) ?_
                  exact ih33 (q + 1) _ (by omega) (by omega) (by rw [hn]; unfold blt; rw [fb_ct_succ, ← show nx = 256 by omega, ← hb]; simp_all [lyr])
                ·
                  refine ja_iconst (v := nI 1) dX8_belt_113 (by decide +kernel) ?_
                  refine ja_goto (tgt := 118) dX8_belt_114 (by decide) ?_
                  refine ja_iaddN dX8_belt_118 ?_
                  refine ja_istore (i := 4) dX8_belt_119 rfl (Nat.le_of_ble_eq_true rfl) ?_
                  refine ja_iincN dX8_belt_121 rfl rfl (Nat.le_of_ble_eq_true rfl) ?_
                  refine ja_goto (tgt := 33) dX8_belt_124 (by decide) ?_
                  refine ja_forget (i := 6) ?_
                  refine ja_forget (i := 7) ?_
                  exact ih33 (q + 1) _ (by omega) (by omega) (by rw [hn]; unfold blt; rw [fb_ct_succ, ← show nx = 256 by omega, ← hb]; simp_all [lyr])
            ·
              refine ja_iload (i := 6) dX8_belt_55 rfl ?_
              refine ja_ifB_ne (tgt := 82) dX8_belt_57 (by decide) (fun c57 => ?_) (fun c57 => ?_)
              ·
                refine ja_iconst (v := nI 1) dX8_belt_82 (by decide +kernel) ?_
                refine ja_goto (tgt := 87) dX8_belt_83 (by decide) ?_
                refine ja_istore (i := 6) dX8_belt_87 rfl (Nat.le_of_ble_eq_true rfl) ?_
                refine ja_iincN dX8_belt_89 rfl rfl (Nat.le_of_ble_eq_true rfl) ?_
                refine ja_goto (tgt := 47) dX8_belt_92 (by decide) ?_
                exact ih47 (nx + 1) true (by omega) (by omega) (by rw [anyB, ← hb]; simp_all [blQ, lyr])
              ·
                refine ja_aload_n (i := 0) dX8_belt_60 rfl rfl ?_
                refine ja_iload_n (i := 1) dX8_belt_61 rfl rfl ?_
                refine ja_iload (i := 7) dX8_belt_62 rfl ?_
                refine ja_cVr (st := []) (s_at (D := (ja_up D 100 0 (nI 0))) l hz (ly := ly) (q := nx) (by omega) (by omega)) rfl rfl (ce_X8_at 0 0) im_X8_at se_X8_at lk_X8_92 k_X8 (zM_s hz) ⟨(Nat.le_of_ble_eq_true rfl), (Nat.le_of_ble_eq_true rfl)⟩ dX8_belt_64 rfl rfl (Nat.le_of_ble_eq_true rfl) (Nat.zero_le _) (Nat.zero_le _) ?_
                refine ja_iload_n (i := 2) dX8_belt_67 rfl rfl ?_
                refine ja_icmp_ne (tgt := 86) dX8_belt_68 (by decide) (fun c68 => ?_) (fun c68 => ?_)
                ·
                  refine ja_iconst (v := nI 0) dX8_belt_86 (by decide +kernel) ?_
                  refine ja_istore (i := 6) dX8_belt_87 rfl (Nat.le_of_ble_eq_true rfl) ?_
                  refine ja_iincN dX8_belt_89 rfl rfl (Nat.le_of_ble_eq_true rfl) ?_
                  refine ja_goto (tgt := 47) dX8_belt_92 (by decide) ?_
                  exact ih47 (nx + 1) false (by omega) (by omega) (by rw [anyB, ← hb]; simp_all [blQ, lyr])
                ·
                  refine ja_iload (i := 5) dX8_belt_71 rfl ?_
                  refine ja_iload (i := 7) dX8_belt_73 rfl ?_
                  refine ja_cSr (st := []) (s_steps l (q := q) (o := nx) (by omega) (by omega)) rfl rfl (ce_X8_steps 0 0) st_X8_steps lk_X8_145 ⟨(Nat.le_of_ble_eq_true rfl), (Nat.le_of_ble_eq_true rfl)⟩ dX8_belt_75 rfl rfl (Nat.le_of_ble_eq_true rfl) (Nat.zero_le _) (Nat.zero_le _) ?_
                  have hst := stp_le (q := q) (o := nx) (by omega) (by omega)
                  refine ja_iload_n (i := 3) dX8_belt_78 rfl rfl ?_
                  refine ja_icmpN_gt (tgt := 86) dX8_belt_79 (by decide) (by omega) (by omega) (fun c79 => ?_) (fun c79 => ?_)
                  ·
                    refine ja_iconst (v := nI 0) dX8_belt_86 (by decide +kernel) ?_
                    refine ja_istore (i := 6) dX8_belt_87 rfl (Nat.le_of_ble_eq_true rfl) ?_
                    refine ja_iincN dX8_belt_89 rfl rfl (Nat.le_of_ble_eq_true rfl) ?_
                    refine ja_goto (tgt := 47) dX8_belt_92 (by decide) ?_
                    exact ih47 (nx + 1) false (by omega) (by omega) (by rw [anyB, ← hb]; simp_all [blQ, lyr])
                  ·
                    refine ja_iconst (v := nI 1) dX8_belt_82 (by decide +kernel) ?_
                    refine ja_goto (tgt := 87) dX8_belt_83 (by decide) ?_
                    refine ja_istore (i := 6) dX8_belt_87 rfl (Nat.le_of_ble_eq_true rfl) ?_
                    refine ja_iincN dX8_belt_89 rfl rfl (Nat.le_of_ble_eq_true rfl) ?_
                    refine ja_goto (tgt := 47) dX8_belt_92 (by decide) ?_
                    exact ih47 (nx + 1) true (by omega) (by omega) (by rw [anyB, ← hb]; simp_all [blQ, lyr])
        exact lp47 257 0 false (by omega) (by omega) rfl
  exact lp33 257 0 0 (by omega) (by omega) rfl

set_option maxRecDepth 100000 in
set_option maxHeartbeats 4000000 in
theorem r_areaThen_f1 (l : Launch) {Z : jZ} {D : jD} (hz : zM Z) {ly : Int32} (q t : Int32) (hl : ¬ (nI 0 ≤ ly ∧ ly ≤ nI 2)) : ja_M l (mX8_areaThen 0 0) [.ref (100), .int (ly), .int (q), .int (t)] Z D (ja_jd (some (.int (nI 0))) Z (fun D2 => D2 = ja_up D 100 0 (nI 1))) ja_x0 := by
  refine ja_Mof (lv := [some (.ref (100)), some (.int (ly)), some (.int (q)), some (.int (t))]) (by decide +kernel) rfl rfl (Nat.le_of_ble_eq_true rfl) rfl ?_
  refine ja_aload_n (i := 0) dX8_areaThen_0 rfl rfl ?_
  refine ja_iconst (v := nI 0) dX8_areaThen_1 (by decide +kernel) ?_
  refine ja_putI fl_X8_85 (zM_s hz) rfl rfl rfl dX8_areaThen_2 ?_
  refine ja_iload_n (i := 1) dX8_areaThen_5 rfl rfl ?_
  refine ja_cSr (st := []) (s_isLayerF l hl) rfl rfl (ce_X8_isLayer 0 0) st_X8_isLayer lk_X8_106 ⟨(Nat.le_of_ble_eq_true rfl), (Nat.le_of_ble_eq_true rfl)⟩ dX8_areaThen_6 rfl rfl (Nat.le_of_ble_eq_true rfl) (Nat.zero_le _) (Nat.zero_le _) ?_
  refine ja_ifB_eq (tgt := 23) dX8_areaThen_9 (by decide) (fun c9 => ?_) (fun c9 => absurd c9 (by decide))
  refine ja_aload_n (i := 0) dX8_areaThen_23 rfl rfl ?_
  refine ja_iconst (v := nI 1) dX8_areaThen_24 (by decide +kernel) ?_
  refine ja_cVd (st := []) (s_fails l hz (nI (1))) rfl rfl (ce_X8_fails 0 0) im_X8_fails se_X8_fails lk_X8_96 k_X8 (zM_s hz) ⟨(Nat.le_of_ble_eq_true rfl), (Nat.le_of_ble_eq_true rfl)⟩ dX8_areaThen_25 rfl rfl (Nat.le_of_ble_eq_true rfl) (Nat.zero_le _) (Nat.zero_le _) ?_
  intro D25 hD25
  subst hD25
  refine ja_num (D2 := ja_up D 100 0 (nI (1))) up_2 ?_
  refine ja_iret rfl rfl dX8_areaThen_28 (Nat.zero_le _) (Nat.zero_le _) ?_
  exact ⟨rfl, rfl, rfl⟩

set_option maxRecDepth 100000 in
set_option maxHeartbeats 4000000 in
theorem r_areaThen_f1b (l : Launch) {Z : jZ} {D : jD} (hz : zM Z) {ly : Nat} {q : Int32} (t : Int32) (h1 : ly < 3) (hq : ¬ (nI 0 ≤ q ∧ q ≤ nI 255)) : ja_M l (mX8_areaThen 0 0) [.ref (100), .int (nI (ly)), .int (q), .int (t)] Z D (ja_jd (some (.int (nI 0))) Z (fun D2 => D2 = ja_up D 100 0 (nI 1))) ja_x0 := by
  refine ja_Mof (lv := [some (.ref (100)), some (.int (nI (ly))), some (.int (q)), some (.int (t))]) (by decide +kernel) rfl rfl (Nat.le_of_ble_eq_true rfl) rfl ?_
  refine ja_aload_n (i := 0) dX8_areaThen_0 rfl rfl ?_
  refine ja_iconst (v := nI 0) dX8_areaThen_1 (by decide +kernel) ?_
  refine ja_putI fl_X8_85 (zM_s hz) rfl rfl rfl dX8_areaThen_2 ?_
  refine ja_iload_n (i := 1) dX8_areaThen_5 rfl rfl ?_
  refine ja_cSr (st := []) (s_isLayerT l (by omega)) rfl rfl (ce_X8_isLayer 0 0) st_X8_isLayer lk_X8_106 ⟨(Nat.le_of_ble_eq_true rfl), (Nat.le_of_ble_eq_true rfl)⟩ dX8_areaThen_6 rfl rfl (Nat.le_of_ble_eq_true rfl) (Nat.zero_le _) (Nat.zero_le _) ?_
  refine ja_ifB_eq (tgt := 23) dX8_areaThen_9 (by decide) (fun c9 => absurd c9 (by decide)) (fun c9 => ?_)
  refine ja_iload_n (i := 2) dX8_areaThen_12 rfl rfl ?_
  refine ja_iconst (v := nI 0) dX8_areaThen_13 (by decide +kernel) ?_
  refine ja_sipush (v := nI 255) dX8_areaThen_14 (by decide +kernel) ?_
  refine ja_cSr (st := []) (s_inF l (q) (nI (0)) (nI (255)) hq) rfl rfl (ce_X8_in 0 0) st_X8_in lk_X8_88 ⟨(Nat.le_of_ble_eq_true rfl), (Nat.le_of_ble_eq_true rfl)⟩ dX8_areaThen_17 rfl rfl (Nat.le_of_ble_eq_true rfl) (Nat.zero_le _) (Nat.zero_le _) ?_
  refine ja_ifB_ne (tgt := 29) dX8_areaThen_20 (by decide) (fun c20 => absurd c20 (by decide)) (fun c20 => ?_)
  refine ja_aload_n (i := 0) dX8_areaThen_23 rfl rfl ?_
  refine ja_iconst (v := nI 1) dX8_areaThen_24 (by decide +kernel) ?_
  refine ja_cVd (st := []) (s_fails l hz (nI (1))) rfl rfl (ce_X8_fails 0 0) im_X8_fails se_X8_fails lk_X8_96 k_X8 (zM_s hz) ⟨(Nat.le_of_ble_eq_true rfl), (Nat.le_of_ble_eq_true rfl)⟩ dX8_areaThen_25 rfl rfl (Nat.le_of_ble_eq_true rfl) (Nat.zero_le _) (Nat.zero_le _) ?_
  intro D25 hD25
  subst hD25
  refine ja_num (D2 := ja_up D 100 0 (nI (1))) up_2 ?_
  refine ja_iret rfl rfl dX8_areaThen_28 (Nat.zero_le _) (Nat.zero_le _) ?_
  exact ⟨rfl, rfl, rfl⟩

set_option maxRecDepth 100000 in
set_option maxHeartbeats 4000000 in
theorem r_areaThen_f2 (l : Launch) {Z : jZ} {D : jD} (hz : zM Z) {tn : Nat} (ht : D 100 1 = nI tn) (htn : tn ≤ 40){ly q : Nat} (h1 : ly < 3) (h2 : q < 256) {t : Int32} (hb : ¬ (nI 0 ≤ t ∧ t ≤ nI tn)) : ja_M l (mX8_areaThen 0 0) [.ref (100), .int (nI (ly)), .int (nI (q)), .int (t)] Z D (ja_jd (some (.int (nI 0))) Z (fun D2 => D2 = ja_up D 100 0 (nI 2))) ja_x0 := by
  refine ja_Mof (lv := [some (.ref (100)), some (.int (nI (ly))), some (.int (nI (q))), some (.int (t))]) (by decide +kernel) rfl rfl (Nat.le_of_ble_eq_true rfl) rfl ?_
  refine ja_aload_n (i := 0) dX8_areaThen_0 rfl rfl ?_
  refine ja_iconst (v := nI 0) dX8_areaThen_1 (by decide +kernel) ?_
  refine ja_putI fl_X8_85 (zM_s hz) rfl rfl rfl dX8_areaThen_2 ?_
  refine ja_iload_n (i := 1) dX8_areaThen_5 rfl rfl ?_
  refine ja_cSr (st := []) (s_isLayerT l (by omega)) rfl rfl (ce_X8_isLayer 0 0) st_X8_isLayer lk_X8_106 ⟨(Nat.le_of_ble_eq_true rfl), (Nat.le_of_ble_eq_true rfl)⟩ dX8_areaThen_6 rfl rfl (Nat.le_of_ble_eq_true rfl) (Nat.zero_le _) (Nat.zero_le _) ?_
  refine ja_ifB_eq (tgt := 23) dX8_areaThen_9 (by decide) (fun c9 => absurd c9 (by decide)) (fun c9 => ?_)
  refine ja_iload_n (i := 2) dX8_areaThen_12 rfl rfl ?_
  refine ja_iconst (v := nI 0) dX8_areaThen_13 (by decide +kernel) ?_
  refine ja_sipush (v := nI 255) dX8_areaThen_14 (by decide +kernel) ?_
  refine ja_cSr (st := []) (s_inT l (q) 0 255 (by omega) (by omega) (by omega)) rfl rfl (ce_X8_in 0 0) st_X8_in lk_X8_88 ⟨(Nat.le_of_ble_eq_true rfl), (Nat.le_of_ble_eq_true rfl)⟩ dX8_areaThen_17 rfl rfl (Nat.le_of_ble_eq_true rfl) (Nat.zero_le _) (Nat.zero_le _) ?_
  refine ja_ifB_ne (tgt := 29) dX8_areaThen_20 (by decide) (fun c20 => ?_) (fun c20 => absurd c20 (by decide))
  refine ja_iload_n (i := 3) dX8_areaThen_29 rfl rfl ?_
  refine ja_iconst (v := nI 0) dX8_areaThen_30 (by decide +kernel) ?_
  refine ja_aload_n (i := 0) dX8_areaThen_31 rfl rfl ?_
  refine ja_getI fl_X8_100 (zM_s hz) rfl dX8_areaThen_32 ?_
  refine ja_top (y := nI tn) ht ?_
  refine ja_cSr (st := []) (s_inF l (t) (nI (0)) (nI tn) hb) rfl rfl (ce_X8_in 0 0) st_X8_in lk_X8_88 ⟨(Nat.le_of_ble_eq_true rfl), (Nat.le_of_ble_eq_true rfl)⟩ dX8_areaThen_35 rfl rfl (Nat.le_of_ble_eq_true rfl) (Nat.zero_le _) (Nat.zero_le _) ?_
  refine ja_ifB_eq (tgt := 62) dX8_areaThen_38 (by decide) (fun c38 => ?_) (fun c38 => absurd c38 (by decide))
  refine ja_aload_n (i := 0) dX8_areaThen_62 rfl rfl ?_
  refine ja_iconst (v := nI 2) dX8_areaThen_63 (by decide +kernel) ?_
  refine ja_cVd (st := []) (s_fails l hz (nI (2))) rfl rfl (ce_X8_fails 0 0) im_X8_fails se_X8_fails lk_X8_96 k_X8 (zM_s hz) ⟨(Nat.le_of_ble_eq_true rfl), (Nat.le_of_ble_eq_true rfl)⟩ dX8_areaThen_64 rfl rfl (Nat.le_of_ble_eq_true rfl) (Nat.zero_le _) (Nat.zero_le _) ?_
  intro D64 hD64
  subst hD64
  refine ja_num (D2 := ja_up D 100 0 (nI (2))) up_2 ?_
  refine ja_iret rfl rfl dX8_areaThen_67 (Nat.zero_le _) (Nat.zero_le _) ?_
  exact ⟨rfl, rfl, rfl⟩

set_option maxRecDepth 100000 in
set_option maxHeartbeats 4000000 in
theorem r_areaThen_ok (l : Launch) {Z : jZ} {D : jD} (hz : zM Z) {tn : Nat} (ht : D 100 1 = nI tn) (htn : tn ≤ 40){ly q : Nat} (h1 : ly < 3) (h2 : q < 256) {t : Nat} (hb : t ≤ tn) : ja_M l (mX8_areaThen 0 0) [.ref (100), .int (nI (ly)), .int (nI (q)), .int (nI (t))] Z D (ja_jd (some (.int (D 111 (768 * t + 256 * ly + q)))) Z (fun D2 => D2 = ja_up D 100 0 (nI 0))) ja_x0 := by
  refine ja_Mof (lv := [some (.ref (100)), some (.int (nI (ly))), some (.int (nI (q))), some (.int (nI (t)))]) (by decide +kernel) rfl rfl (Nat.le_of_ble_eq_true rfl) rfl ?_
  refine ja_aload_n (i := 0) dX8_areaThen_0 rfl rfl ?_
  refine ja_iconst (v := nI 0) dX8_areaThen_1 (by decide +kernel) ?_
  refine ja_putI fl_X8_85 (zM_s hz) rfl rfl rfl dX8_areaThen_2 ?_
  refine ja_iload_n (i := 1) dX8_areaThen_5 rfl rfl ?_
  refine ja_cSr (st := []) (s_isLayerT l (by omega)) rfl rfl (ce_X8_isLayer 0 0) st_X8_isLayer lk_X8_106 ⟨(Nat.le_of_ble_eq_true rfl), (Nat.le_of_ble_eq_true rfl)⟩ dX8_areaThen_6 rfl rfl (Nat.le_of_ble_eq_true rfl) (Nat.zero_le _) (Nat.zero_le _) ?_
  refine ja_ifB_eq (tgt := 23) dX8_areaThen_9 (by decide) (fun c9 => absurd c9 (by decide)) (fun c9 => ?_)
  refine ja_iload_n (i := 2) dX8_areaThen_12 rfl rfl ?_
  refine ja_iconst (v := nI 0) dX8_areaThen_13 (by decide +kernel) ?_
  refine ja_sipush (v := nI 255) dX8_areaThen_14 (by decide +kernel) ?_
  refine ja_cSr (st := []) (s_inT l (q) 0 255 (by omega) (by omega) (by omega)) rfl rfl (ce_X8_in 0 0) st_X8_in lk_X8_88 ⟨(Nat.le_of_ble_eq_true rfl), (Nat.le_of_ble_eq_true rfl)⟩ dX8_areaThen_17 rfl rfl (Nat.le_of_ble_eq_true rfl) (Nat.zero_le _) (Nat.zero_le _) ?_
  refine ja_ifB_ne (tgt := 29) dX8_areaThen_20 (by decide) (fun c20 => ?_) (fun c20 => absurd c20 (by decide))
  refine ja_iload_n (i := 3) dX8_areaThen_29 rfl rfl ?_
  refine ja_iconst (v := nI 0) dX8_areaThen_30 (by decide +kernel) ?_
  refine ja_aload_n (i := 0) dX8_areaThen_31 rfl rfl ?_
  refine ja_getI fl_X8_100 (zM_s hz) rfl dX8_areaThen_32 ?_
  refine ja_top (y := nI (tn)) ht ?_
  refine ja_cSr (st := []) (s_inT l (t) 0 tn (by omega) (by omega) (by omega)) rfl rfl (ce_X8_in 0 0) st_X8_in lk_X8_88 ⟨(Nat.le_of_ble_eq_true rfl), (Nat.le_of_ble_eq_true rfl)⟩ dX8_areaThen_35 rfl rfl (Nat.le_of_ble_eq_true rfl) (Nat.zero_le _) (Nat.zero_le _) ?_
  refine ja_ifB_eq (tgt := 62) dX8_areaThen_38 (by decide) (fun c38 => absurd c38 (by decide)) (fun c38 => ?_)
  refine ja_aload_n (i := 0) dX8_areaThen_41 rfl rfl ?_
  refine ja_getR fl_X8_36 (zM_s hz) rfl (zM_p10 hz) dX8_areaThen_42 ?_
  refine ja_sipush (v := nI 768) dX8_areaThen_45 (by decide +kernel) ?_
  refine ja_iload_n (i := 3) dX8_areaThen_48 rfl rfl ?_
  refine ja_imulN dX8_areaThen_49 ?_
  refine ja_sipush (v := nI 256) dX8_areaThen_50 (by decide +kernel) ?_
  refine ja_iload_n (i := 1) dX8_areaThen_53 rfl rfl ?_
  refine ja_imulN dX8_areaThen_54 ?_
  refine ja_iaddN dX8_areaThen_55 ?_
  refine ja_iload_n (i := 2) dX8_areaThen_56 rfl rfl ?_
  refine ja_iaddN dX8_areaThen_57 ?_
  refine ja_iald (zM_a10 hz) rfl (by omega) (by decide) dX8_areaThen_58 ?_
  refine ja_goto (tgt := 67) dX8_areaThen_59 (by decide) ?_
  refine ja_iret rfl rfl dX8_areaThen_67 (Nat.zero_le _) (Nat.zero_le _) ?_
  exact ⟨rfl, rfl, rfl⟩

set_option maxRecDepth 100000 in
set_option maxHeartbeats 4000000 in
theorem r_authorOf_f1 (l : Launch) {Z : jZ} {D : jD} (hz : zM Z) {ly : Int32} (q t : Int32) (hl : ¬ (nI 0 ≤ ly ∧ ly ≤ nI 2)) : ja_M l (mX8_authorOf 0 0) [.ref (100), .int (ly), .int (q), .int (t)] Z D (ja_jd (some (.int (nI 0))) Z (fun D2 => D2 = ja_up D 100 0 (nI 1))) ja_x0 := by
  refine ja_Mof (lv := [some (.ref (100)), some (.int (ly)), some (.int (q)), some (.int (t)), none, none]) (by decide +kernel) rfl rfl (Nat.le_of_ble_eq_true rfl) rfl ?_
  refine ja_aload_n (i := 0) dX8_authorOf_0 rfl rfl ?_
  refine ja_iload_n (i := 1) dX8_authorOf_1 rfl rfl ?_
  refine ja_iload_n (i := 2) dX8_authorOf_2 rfl rfl ?_
  refine ja_iload_n (i := 3) dX8_authorOf_3 rfl rfl ?_
  refine ja_cVd (st := []) (r_areaThen_f1 l hz q t hl) rfl rfl (ce_X8_areaThen 0 0) im_X8_areaThen se_X8_areaThen lk_X8_132 k_X8 (zM_s hz) ⟨(Nat.le_of_ble_eq_true rfl), (Nat.le_of_ble_eq_true rfl)⟩ dX8_authorOf_4 rfl rfl (Nat.le_of_ble_eq_true rfl) (Nat.zero_le _) (Nat.zero_le _) ?_
  intro D4 hD4
  subst hD4
  refine ja_istore (i := 4) dX8_authorOf_7 rfl (Nat.le_of_ble_eq_true rfl) ?_
  refine ja_aload_n (i := 0) dX8_authorOf_9 rfl rfl ?_
  refine ja_getI fl_X8_85 (zM_s hz) rfl dX8_authorOf_10 ?_
  refine ja_top (y := nI (1)) up_s ?_
  refine ja_ifN_le (tgt := 18) dX8_authorOf_13 (by decide) (by omega) (fun c13 => absurd c13 (by decide)) (fun c13 => ?_)
  refine ja_iconst (v := nI 0) dX8_authorOf_16 (by decide +kernel) ?_
  refine ja_iret rfl rfl dX8_authorOf_17 (Nat.zero_le _) (Nat.zero_le _) ?_
  exact ⟨rfl, rfl, rfl⟩

set_option maxRecDepth 100000 in
set_option maxHeartbeats 4000000 in
theorem r_authorOf_f1b (l : Launch) {Z : jZ} {D : jD} (hz : zM Z) {ly : Nat} {q : Int32} (t : Int32) (h1 : ly < 3) (hq : ¬ (nI 0 ≤ q ∧ q ≤ nI 255)) : ja_M l (mX8_authorOf 0 0) [.ref (100), .int (nI (ly)), .int (q), .int (t)] Z D (ja_jd (some (.int (nI 0))) Z (fun D2 => D2 = ja_up D 100 0 (nI 1))) ja_x0 := by
  refine ja_Mof (lv := [some (.ref (100)), some (.int (nI (ly))), some (.int (q)), some (.int (t)), none, none]) (by decide +kernel) rfl rfl (Nat.le_of_ble_eq_true rfl) rfl ?_
  refine ja_aload_n (i := 0) dX8_authorOf_0 rfl rfl ?_
  refine ja_iload_n (i := 1) dX8_authorOf_1 rfl rfl ?_
  refine ja_iload_n (i := 2) dX8_authorOf_2 rfl rfl ?_
  refine ja_iload_n (i := 3) dX8_authorOf_3 rfl rfl ?_
  refine ja_cVd (st := []) (r_areaThen_f1b l hz t h1 hq) rfl rfl (ce_X8_areaThen 0 0) im_X8_areaThen se_X8_areaThen lk_X8_132 k_X8 (zM_s hz) ⟨(Nat.le_of_ble_eq_true rfl), (Nat.le_of_ble_eq_true rfl)⟩ dX8_authorOf_4 rfl rfl (Nat.le_of_ble_eq_true rfl) (Nat.zero_le _) (Nat.zero_le _) ?_
  intro D4 hD4
  subst hD4
  refine ja_istore (i := 4) dX8_authorOf_7 rfl (Nat.le_of_ble_eq_true rfl) ?_
  refine ja_aload_n (i := 0) dX8_authorOf_9 rfl rfl ?_
  refine ja_getI fl_X8_85 (zM_s hz) rfl dX8_authorOf_10 ?_
  refine ja_top (y := nI (1)) up_s ?_
  refine ja_ifN_le (tgt := 18) dX8_authorOf_13 (by decide) (by omega) (fun c13 => absurd c13 (by decide)) (fun c13 => ?_)
  refine ja_iconst (v := nI 0) dX8_authorOf_16 (by decide +kernel) ?_
  refine ja_iret rfl rfl dX8_authorOf_17 (Nat.zero_le _) (Nat.zero_le _) ?_
  exact ⟨rfl, rfl, rfl⟩

set_option maxRecDepth 100000 in
set_option maxHeartbeats 4000000 in
theorem r_authorOf_f2 (l : Launch) {Z : jZ} {D : jD} (hz : zM Z) {tn : Nat} (ht : D 100 1 = nI tn) (htn : tn ≤ 40){ly q : Nat} (h1 : ly < 3) (h2 : q < 256) {t : Int32} (hb : ¬ (nI 0 ≤ t ∧ t ≤ nI tn)) : ja_M l (mX8_authorOf 0 0) [.ref (100), .int (nI (ly)), .int (nI (q)), .int (t)] Z D (ja_jd (some (.int (nI 0))) Z (fun D2 => D2 = ja_up D 100 0 (nI 2))) ja_x0 := by
  refine ja_Mof (lv := [some (.ref (100)), some (.int (nI (ly))), some (.int (nI (q))), some (.int (t)), none, none]) (by decide +kernel) rfl rfl (Nat.le_of_ble_eq_true rfl) rfl ?_
  refine ja_aload_n (i := 0) dX8_authorOf_0 rfl rfl ?_
  refine ja_iload_n (i := 1) dX8_authorOf_1 rfl rfl ?_
  refine ja_iload_n (i := 2) dX8_authorOf_2 rfl rfl ?_
  refine ja_iload_n (i := 3) dX8_authorOf_3 rfl rfl ?_
  refine ja_cVd (st := []) (r_areaThen_f2 l hz ht htn h1 h2 hb) rfl rfl (ce_X8_areaThen 0 0) im_X8_areaThen se_X8_areaThen lk_X8_132 k_X8 (zM_s hz) ⟨(Nat.le_of_ble_eq_true rfl), (Nat.le_of_ble_eq_true rfl)⟩ dX8_authorOf_4 rfl rfl (Nat.le_of_ble_eq_true rfl) (Nat.zero_le _) (Nat.zero_le _) ?_
  intro D4 hD4
  subst hD4
  refine ja_istore (i := 4) dX8_authorOf_7 rfl (Nat.le_of_ble_eq_true rfl) ?_
  refine ja_aload_n (i := 0) dX8_authorOf_9 rfl rfl ?_
  refine ja_getI fl_X8_85 (zM_s hz) rfl dX8_authorOf_10 ?_
  refine ja_top (y := nI (2)) up_s ?_
  refine ja_ifN_le (tgt := 18) dX8_authorOf_13 (by decide) (by omega) (fun c13 => absurd c13 (by decide)) (fun c13 => ?_)
  refine ja_iconst (v := nI 0) dX8_authorOf_16 (by decide +kernel) ?_
  refine ja_iret rfl rfl dX8_authorOf_17 (Nat.zero_le _) (Nat.zero_le _) ?_
  exact ⟨rfl, rfl, rfl⟩

/-- the last place up to k at which a row of numbers changes, or 0 -/
def lcg (f : Nat → Int32) : Nat → Nat
  | 0 => 0
  | k + 1 => if f (k + 1) = f k then lcg f k else k + 1
theorem lcg_go {f : Nat → Int32} {k : Nat} (h : ¬ k = 0) (e : f k = f (k - 1)) : lcg f (k - 1) = lcg f k := by
  obtain ⟨j, rfl⟩ : ∃ j, k = j + 1 := ⟨k - 1, by omega⟩
  exact (if_pos e).symm
theorem lcg_stay {f : Nat → Int32} {k : Nat} (e : ¬ f k = f (k - 1)) : lcg f k = k := by
  cases k with
  | zero => rfl
  | succ j => exact if_neg e
theorem lcg_le (f : Nat → Int32) : ∀ k, lcg f k ≤ k
  | 0 => Nat.le_refl _
  | k + 1 => by
    have ih := lcg_le f k
    rw [lcg]
    split <;> omega
theorem nI_dec {k : Nat} (h : 0 < k) : nI k + (-1) = nI (k - 1) := by
  obtain ⟨j, rfl⟩ : ∃ j, k = j + 1 := ⟨k - 1, by omega⟩
  rw [← Int32.sub_eq_add_neg]
  exact nI_pred j
def hst (f : Nat → Int32) (j t : Nat) : Int32 := f (768 * t + j)
def auV (D : jD) (k : Nat) : Int32 := if k = 0 then nI 0 else D 112 k
def auC (k : Nat) : Int32 := if k = 0 then nI 3 else nI 0

set_option maxRecDepth 100000 in
set_option maxHeartbeats 4000000 in
theorem r_authorOf_ok (l : Launch) {Z : jZ} {D : jD} (hz : zM Z) {tn : Nat} (ht : D 100 1 = nI tn) (htn : tn ≤ 40){ly q : Nat} (h1 : ly < 3) (h2 : q < 256) {t : Nat} (hb : t ≤ tn) : ja_M l (mX8_authorOf 0 0) [.ref (100), .int (nI (ly)), .int (nI (q)), .int (nI (t))] Z D (ja_jd (some (.int (auV D (lcg (fun t => D 111 (768 * t + 256 * ly + q)) t)))) Z (fun D2 => D2 = ja_up D 100 0 (auC (lcg (fun t => D 111 (768 * t + 256 * ly + q)) t)))) ja_x0 := by
  refine ja_Mof (lv := [some (.ref (100)), some (.int (nI (ly))), some (.int (nI (q))), some (.int (nI (t))), none, none]) (by decide +kernel) rfl rfl (Nat.le_of_ble_eq_true rfl) rfl ?_
  refine ja_aload_n (i := 0) dX8_authorOf_0 rfl rfl ?_
  refine ja_iload_n (i := 1) dX8_authorOf_1 rfl rfl ?_
  refine ja_iload_n (i := 2) dX8_authorOf_2 rfl rfl ?_
  refine ja_iload_n (i := 3) dX8_authorOf_3 rfl rfl ?_
  refine ja_cVd (st := []) (r_areaThen_ok l hz ht htn h1 h2 hb) rfl rfl (ce_X8_areaThen 0 0) im_X8_areaThen se_X8_areaThen lk_X8_132 k_X8 (zM_s hz) ⟨(Nat.le_of_ble_eq_true rfl), (Nat.le_of_ble_eq_true rfl)⟩ dX8_authorOf_4 rfl rfl (Nat.le_of_ble_eq_true rfl) (Nat.zero_le _) (Nat.zero_le _) ?_
  intro D4 hD4
  subst hD4
  refine ja_istore (i := 4) dX8_authorOf_7 rfl (Nat.le_of_ble_eq_true rfl) ?_
  refine ja_aload_n (i := 0) dX8_authorOf_9 rfl rfl ?_
  refine ja_getI fl_X8_85 (zM_s hz) rfl dX8_authorOf_10 ?_
  refine ja_top (y := nI (0)) up_s ?_
  refine ja_ifN_le (tgt := 18) dX8_authorOf_13 (by decide) (by omega) (fun c13 => ?_) (fun c13 => absurd c13 (by decide))
  refine ja_iload_n (i := 3) dX8_authorOf_18 rfl rfl ?_
  refine ja_istore (i := 5) dX8_authorOf_19 rfl (Nat.le_of_ble_eq_true rfl) ?_
  refine ja_forget (i := 4) ?_
  have lp21 : ∀ (f21 : Nat) (k : Nat), (k < f21) → (k ≤ t) → (lcg (fun t => D 111 (768 * t + 256 * ly + q)) k = lcg (fun t => D 111 (768 * t + 256 * ly + q)) t) → ja_A l (mX8_authorOf 0 0) ja_sn (ja_Qf (mX8_authorOf 0 0) (ja_jd (some (.int (auV D (lcg (fun t => D 111 (768 * t + 256 * ly + q)) t)))) Z (fun D2 => D2 = ja_up D 100 0 (auC (lcg (fun t => D 111 (768 * t + 256 * ly + q)) t)))) ja_x0) 21 [some (.ref (100)), some (.int (nI (ly))), some (.int (nI (q))), some (.int (nI (t))), none, some (.int (nI (k)))] [] Z (ja_up D 100 0 (nI 0)) 0 0 := by
    intro f21
    induction f21 with
    | zero => intro k hf hk hc; exfalso; omega
    | succ f21 ih21 =>
      intro k hf hk hc
      refine ja_iload (i := 5) dX8_authorOf_21 rfl ?_
      refine ja_ifN_le (tgt := 75) dX8_authorOf_23 (by decide) (by omega) (fun c23 => ?_) (fun c23 => ?_)
      ·
        refine ja_iload (i := 5) dX8_authorOf_75 rfl ?_
        refine ja_ifN_ne (tgt := 88) dX8_authorOf_77 (by decide) (by omega) (fun c77 => ?_) (fun c77 => ?_)
        ·
          refine ja_aload_n (i := 0) dX8_authorOf_88 rfl rfl ?_
          refine ja_getR fl_X8_39 (zM_s hz) rfl (zM_p11 hz) dX8_authorOf_89 ?_
          refine ja_iload (i := 5) dX8_authorOf_92 rfl ?_
          refine ja_iald (zM_a11 hz) rfl (by omega) (by decide) dX8_authorOf_94 ?_
          refine ja_iret rfl rfl dX8_authorOf_95 (Nat.zero_le _) (Nat.zero_le _) ?_
          have e : lcg (fun t => D 111 (768 * t + 256 * ly + q)) t = k := hc.symm.trans (by first | exact lcg_stay (f := fun t => D 111 (768 * t + 256 * ly + q)) c66 | (rw [show k = 0 by omega]; rfl))
          first | (exfalso; omega) | exact ⟨by rw [e]; first | (rw [auV, if_neg (by omega)]; rfl) | (rw [auV, if_pos (by omega)]), rfl, by rw [e]; first | (rw [auC, if_neg (by omega)]; done) | (rw [auC, if_pos (by omega)]; done)⟩
        ·
          refine ja_aload_n (i := 0) dX8_authorOf_80 rfl rfl ?_
          refine ja_iconst (v := nI 3) dX8_authorOf_81 (by decide +kernel) ?_
          refine ja_cVd (st := []) (s_fails l hz (nI (3))) rfl rfl (ce_X8_fails 0 0) im_X8_fails se_X8_fails lk_X8_96 k_X8 (zM_s hz) ⟨(Nat.le_of_ble_eq_true rfl), (Nat.le_of_ble_eq_true rfl)⟩ dX8_authorOf_82 rfl rfl (Nat.le_of_ble_eq_true rfl) (Nat.zero_le _) (Nat.zero_le _) ?_
          intro D82 hD82
          subst hD82
          refine ja_num (D2 := ja_up D 100 0 (nI (3))) up_2 ?_
          refine ja_goto (tgt := 95) dX8_authorOf_85 (by decide) ?_
          refine ja_iret rfl rfl dX8_authorOf_95 (Nat.zero_le _) (Nat.zero_le _) ?_
          have e : lcg (fun t => D 111 (768 * t + 256 * ly + q)) t = k := hc.symm.trans (by first | exact lcg_stay (f := fun t => D 111 (768 * t + 256 * ly + q)) c66 | (rw [show k = 0 by omega]; rfl))
          first | (exfalso; omega) | exact ⟨by rw [e]; first | (rw [auV, if_neg (by omega)]; rfl) | (rw [auV, if_pos (by omega)]), rfl, by rw [e]; first | (rw [auC, if_neg (by omega)]; done) | (rw [auC, if_pos (by omega)]; done)⟩
      ·
        refine ja_aload_n (i := 0) dX8_authorOf_26 rfl rfl ?_
        refine ja_getR fl_X8_36 (zM_s hz) rfl (zM_p10 hz) dX8_authorOf_27 ?_
        refine ja_sipush (v := nI 768) dX8_authorOf_30 (by decide +kernel) ?_
        refine ja_iload (i := 5) dX8_authorOf_33 rfl ?_
        refine ja_imulN dX8_authorOf_35 ?_
        refine ja_sipush (v := nI 256) dX8_authorOf_36 (by decide +kernel) ?_
        refine ja_iload_n (i := 1) dX8_authorOf_39 rfl rfl ?_
        refine ja_imulN dX8_authorOf_40 ?_
        refine ja_iaddN dX8_authorOf_41 ?_
        refine ja_iload_n (i := 2) dX8_authorOf_42 rfl rfl ?_
        refine ja_iaddN dX8_authorOf_43 ?_
        refine ja_iald (zM_a10 hz) rfl (by omega) (by decide) dX8_authorOf_44 ?_
        refine ja_aload_n (i := 0) dX8_authorOf_45 rfl rfl ?_
        refine ja_getR fl_X8_36 (zM_s hz) rfl (zM_p10 hz) dX8_authorOf_46 ?_
        refine ja_sipush (v := nI 768) dX8_authorOf_49 (by decide +kernel) ?_
        refine ja_iload (i := 5) dX8_authorOf_52 rfl ?_
        refine ja_iconst (v := nI 1) dX8_authorOf_54 (by decide +kernel) ?_
        refine ja_isubN dX8_authorOf_55 (by omega) ?_
        refine ja_imulN dX8_authorOf_56 ?_
        refine ja_sipush (v := nI 256) dX8_authorOf_57 (by decide +kernel) ?_
        refine ja_iload_n (i := 1) dX8_authorOf_60 rfl rfl ?_
        refine ja_imulN dX8_authorOf_61 ?_
        refine ja_iaddN dX8_authorOf_62 ?_
        refine ja_iload_n (i := 2) dX8_authorOf_63 rfl rfl ?_
        refine ja_iaddN dX8_authorOf_64 ?_
        refine ja_iald (zM_a10 hz) rfl (by omega) (by decide) dX8_authorOf_65 ?_
        refine ja_icmp_ne (tgt := 75) dX8_authorOf_66 (by decide) (fun c66 => ?_) (fun c66 => ?_)
        ·
          refine ja_iload (i := 5) dX8_authorOf_75 rfl ?_
          refine ja_ifN_ne (tgt := 88) dX8_authorOf_77 (by decide) (by omega) (fun c77 => ?_) (fun c77 => ?_)
          ·
            refine ja_aload_n (i := 0) dX8_authorOf_88 rfl rfl ?_
            refine ja_getR fl_X8_39 (zM_s hz) rfl (zM_p11 hz) dX8_authorOf_89 ?_
            refine ja_iload (i := 5) dX8_authorOf_92 rfl ?_
            refine ja_iald (zM_a11 hz) rfl (by omega) (by decide) dX8_authorOf_94 ?_
            refine ja_iret rfl rfl dX8_authorOf_95 (Nat.zero_le _) (Nat.zero_le _) ?_
            have e : lcg (fun t => D 111 (768 * t + 256 * ly + q)) t = k := hc.symm.trans (by first | exact lcg_stay (f := fun t => D 111 (768 * t + 256 * ly + q)) c66 | (rw [show k = 0 by omega]; rfl))
            first | (exfalso; omega) | exact ⟨by rw [e]; first | (rw [auV, if_neg (by omega)]; rfl) | (rw [auV, if_pos (by omega)]), rfl, by rw [e]; first | (rw [auC, if_neg (by omega)]; done) | (rw [auC, if_pos (by omega)]; done)⟩
          ·
            refine ja_aload_n (i := 0) dX8_authorOf_80 rfl rfl ?_
            refine ja_iconst (v := nI 3) dX8_authorOf_81 (by decide +kernel) ?_
            refine ja_cVd (st := []) (s_fails l hz (nI (3))) rfl rfl (ce_X8_fails 0 0) im_X8_fails se_X8_fails lk_X8_96 k_X8 (zM_s hz) ⟨(Nat.le_of_ble_eq_true rfl), (Nat.le_of_ble_eq_true rfl)⟩ dX8_authorOf_82 rfl rfl (Nat.le_of_ble_eq_true rfl) (Nat.zero_le _) (Nat.zero_le _) ?_
            intro D82 hD82
            subst hD82
            refine ja_num (D2 := ja_up D 100 0 (nI (3))) up_2 ?_
            refine ja_goto (tgt := 95) dX8_authorOf_85 (by decide) ?_
            refine ja_iret rfl rfl dX8_authorOf_95 (Nat.zero_le _) (Nat.zero_le _) ?_
            have e : lcg (fun t => D 111 (768 * t + 256 * ly + q)) t = k := hc.symm.trans (by first | exact lcg_stay (f := fun t => D 111 (768 * t + 256 * ly + q)) c66 | (rw [show k = 0 by omega]; rfl))
            first | (exfalso; omega) | exact ⟨by rw [e]; first | (rw [auV, if_neg (by omega)]; rfl) | (rw [auV, if_pos (by omega)]), rfl, by rw [e]; first | (rw [auC, if_neg (by omega)]; done) | (rw [auC, if_pos (by omega)]; done)⟩
        ·
          refine ja_iinc (v := nI (k - 1)) dX8_authorOf_69 rfl (nI_dec (by omega)) rfl (Nat.le_of_ble_eq_true rfl) ?_
          refine ja_goto (tgt := 21) dX8_authorOf_72 (by decide) ?_
          exact ih21 (k - 1) (by omega) (by omega) ((lcg_go (f := fun t => D 111 (768 * t + 256 * ly + q)) (by omega) c66).trans hc)
  exact lp21 41 t (by omega) (by omega) rfl
