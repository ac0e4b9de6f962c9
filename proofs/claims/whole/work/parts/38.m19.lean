/-! THE REFERENCE: placeOf -/
/-- where the search for names' places starts -/
def plS (D : jD) (lm : Nat → Nat) : jD := fnU (fiU D 128 256 0) 127 (fun o => if lm o = 0 then -1 else -2) 10
/-- the largest area whose name has no place yet -/
def plK (E : jD) (ly n : Nat) : Option Nat := cbM (fun o => decide (E 127 o = -2)) (fun o => 256 - cSz (E 105) ly (nI o) 256) n
noncomputable def plN (D : jD) (ly : Nat) (lm : Nat → Nat) : Nat → jD
  | 0 => plS D lm
  | k + 1 => match plK (plN D ly lm k) ly 10 with
    | none => plN D ly lm k
    | some b => plR (plN D ly lm k) ly b (lm b)
theorem plN_y {D : jD} {ly k b : Nat} {lm : Nat → Nat} (h : plK (plN D ly lm k) ly 10 = some b) : plN D ly lm (k + 1) = plR (plN D ly lm k) ly b (lm b) := by
  show (match plK (plN D ly lm k) ly 10 with | none => plN D ly lm k | some b => plR (plN D ly lm k) ly b (lm b)) = _
  rw [h]
theorem plN_n {D : jD} {ly k : Nat} {lm : Nat → Nat} (h : plK (plN D ly lm k) ly 10 = none) : plN D ly lm (k + 1) = plN D ly lm k := by
  show (match plK (plN D ly lm k) ly 10 with | none => plN D ly lm k | some b => plR (plN D ly lm k) ly b (lm b)) = _
  rw [h]
theorem plN_stay {D : jD} {ly k : Nat} {lm : Nat → Nat} (h : plK (plN D ly lm k) ly 10 = none) : ∀ j, plN D ly lm (k + j) = plN D ly lm k
  | 0 => rfl
  | j + 1 => by
    have ih := plN_stay h j
    exact (plN_n (k := k + j) (by rw [ih]; exact h)).trans ih
theorem plS_o {D : jD} {lm : Nat → Nat} {i k : Nat} (h1 : ¬ i = 127) (h2 : ¬ i = 128) : plS D lm i k = D i k := by
  rw [plS, fnU_o h1, fiU, if_neg (fun e => h2 e.1)]
theorem plN_o {D : jD} {ly i k : Nat} {lm : Nat → Nat} (h1 : ¬ i = 127) (h2 : ¬ i = 128) : ∀ {n}, plN D ly lm n i k = D i k
  | 0 => plS_o h1 h2
  | n + 1 => by
    cases h : plK (plN D ly lm n) ly 10 with
    | none => rw [plN_n h]; exact plN_o h1 h2
    | some b => rw [plN_y h, plR_o h1 h2]; exact plN_o h1 h2
def plC (E : jD) : Nat := fb_ct (fun o => decide (E 127 o = -2)) 10
theorem plC_lt {E : jD} {ly b m : Nat} (h : plK E ly 10 = some b) : plC (plR E ly b m) < plC E := by
  obtain ⟨h1, h2⟩ := cbM_lt h
  have hne : ∀ r : Option Nat, (∀ x, r = some x → x < 256) → ¬ oI r = -2 := by
    intro r hr e
    cases r with
    | none => exact absurd e (by decide)
    | some x =>
      have e2 := congrArg Int32.toInt e
      rw [oI_s, nI_toInt (by have := hr x rfl; omega)] at e2
      have e3 : ((-2 : Int32)).toInt = -2 := by decide
      omega
  refine ct_lt (j := b) (fun k hk => ?_) ?_ ?_ h1
  · have e := of_decide_eq_true hk
    rw [plR_p] at e
    by_cases e2 : k = b
    · rw [if_pos e2] at e
      exact absurd e (hne _ (fun x hx => by rw [plB] at hx; split at hx; cases hx; exact (cbM_lt hx).1))
    · rw [if_neg e2] at e
      exact decide_eq_true e
  · refine decide_eq_false (fun e => ?_)
    rw [plR_p, if_pos rfl] at e
    exact hne _ (fun x hx => by rw [plB] at hx; split at hx; cases hx; exact (cbM_lt hx).1) e
  · exact h2

set_option maxRecDepth 100000 in
set_option maxHeartbeats 4000000 in
theorem r_placeOf_f1 (l : Launch) {Z : jZ} {D : jD} (hz : zM Z) {ly a : Int32} (hl : ¬ (nI 0 ≤ ly ∧ ly ≤ nI 2)) : ja_M l (mX8_placeOf 0 0) [.ref (100), .int (ly), .int (a)] Z D (ja_jd (some (.int (nI 0))) Z (fun D2 => D2 = ja_up D 100 0 (nI 1))) ja_x0 := by
  refine ja_Mof (lv := [some (.ref (100)), some (.int (ly)), some (.int (a)), none, none, none]) (by decide +kernel) rfl rfl (Nat.le_of_ble_eq_true rfl) rfl ?_
  refine ja_aload_n (i := 0) dX8_placeOf_0 rfl rfl ?_
  refine ja_iload_n (i := 1) dX8_placeOf_1 rfl rfl ?_
  refine ja_iload_n (i := 2) dX8_placeOf_2 rfl rfl ?_
  refine ja_cVd (st := []) (s_looksF1 l hz (a := a) hl) rfl rfl (ce_X8_looks 0 0) im_X8_looks se_X8_looks lk_X8_136 k_X8 (zM_s hz) ⟨(Nat.le_of_ble_eq_true rfl), (Nat.le_of_ble_eq_true rfl)⟩ dX8_placeOf_3 rfl rfl (Nat.le_of_ble_eq_true rfl) (Nat.zero_le _) (Nat.zero_le _) ?_
  intro D3 hD3
  subst hD3
  refine ja_ifB_ne (tgt := 11) dX8_placeOf_6 (by decide) (fun c6 => absurd c6 (by decide)) (fun c6 => ?_)
  refine ja_iconst (v := nI 0) dX8_placeOf_9 (by decide +kernel) ?_
  refine ja_iret rfl rfl dX8_placeOf_10 (Nat.zero_le _) (Nat.zero_le _) ?_
  exact ⟨rfl, rfl, rfl⟩

set_option maxRecDepth 100000 in
set_option maxHeartbeats 4000000 in
theorem r_placeOf_f2 (l : Launch) {Z : jZ} {D : jD} (hz : zM Z) {ly : Nat} {a : Int32} (h1 : ly < 3) (ha : ¬ (nI 0 ≤ a ∧ a ≤ nI 9)) : ja_M l (mX8_placeOf 0 0) [.ref (100), .int (nI (ly)), .int (a)] Z D (ja_jd (some (.int (nI 0))) Z (fun D2 => D2 = ja_up D 100 0 (nI 2))) ja_x0 := by
  refine ja_Mof (lv := [some (.ref (100)), some (.int (nI (ly))), some (.int (a)), none, none, none]) (by decide +kernel) rfl rfl (Nat.le_of_ble_eq_true rfl) rfl ?_
  refine ja_aload_n (i := 0) dX8_placeOf_0 rfl rfl ?_
  refine ja_iload_n (i := 1) dX8_placeOf_1 rfl rfl ?_
  refine ja_iload_n (i := 2) dX8_placeOf_2 rfl rfl ?_
  refine ja_cVd (st := []) (s_looksF2 l hz (by omega) ha) rfl rfl (ce_X8_looks 0 0) im_X8_looks se_X8_looks lk_X8_136 k_X8 (zM_s hz) ⟨(Nat.le_of_ble_eq_true rfl), (Nat.le_of_ble_eq_true rfl)⟩ dX8_placeOf_3 rfl rfl (Nat.le_of_ble_eq_true rfl) (Nat.zero_le _) (Nat.zero_le _) ?_
  intro D3 hD3
  subst hD3
  refine ja_ifB_ne (tgt := 11) dX8_placeOf_6 (by decide) (fun c6 => absurd c6 (by decide)) (fun c6 => ?_)
  refine ja_iconst (v := nI 0) dX8_placeOf_9 (by decide +kernel) ?_
  refine ja_iret rfl rfl dX8_placeOf_10 (Nat.zero_le _) (Nat.zero_le _) ?_
  exact ⟨rfl, rfl, rfl⟩

set_option maxRecDepth 100000 in
set_option maxHeartbeats 4000000 in
theorem r_placeOf_f3 (l : Launch) {Z : jZ} {D : jD} (hz : zM Z) {ly a : Nat} (h1 : ly < 3) (h2 : a < 10) {lm : Nat → Nat} (hlm : ∀ o, o < 10 → D 107 (10 * ly + o) = nI (lm o) ∧ lm o ≤ 6) (hp : (plN (ja_up D 100 0 (nI 0)) ly lm 10) 127 a = -1) : ja_M l (mX8_placeOf 0 0) [.ref (100), .int (nI (ly)), .int (nI (a))] Z D (ja_jd (some (.int (nI 0))) Z (fun D2 => D2 = ja_up (plN (ja_up D 100 0 (nI 0)) ly lm 10) 100 0 (nI 3))) ja_x0 := by
  refine ja_Mof (lv := [some (.ref (100)), some (.int (nI (ly))), some (.int (nI (a))), none, none, none]) (by decide +kernel) rfl rfl (Nat.le_of_ble_eq_true rfl) rfl ?_
  refine ja_aload_n (i := 0) dX8_placeOf_0 rfl rfl ?_
  refine ja_iload_n (i := 1) dX8_placeOf_1 rfl rfl ?_
  refine ja_iload_n (i := 2) dX8_placeOf_2 rfl rfl ?_
  refine ja_cVd (st := []) (s_looksT l hz (by omega) (by omega)) rfl rfl (ce_X8_looks 0 0) im_X8_looks se_X8_looks lk_X8_136 k_X8 (zM_s hz) ⟨(Nat.le_of_ble_eq_true rfl), (Nat.le_of_ble_eq_true rfl)⟩ dX8_placeOf_3 rfl rfl (Nat.le_of_ble_eq_true rfl) (Nat.zero_le _) (Nat.zero_le _) ?_
  intro D3 hD3
  subst hD3
  refine ja_ifB_ne (tgt := 11) dX8_placeOf_6 (by decide) (fun c6 => ?_) (fun c6 => absurd c6 (by decide))
  refine ja_iconst (v := nI 0) dX8_placeOf_11 (by decide +kernel) ?_
  refine ja_istore_n (i := 3) dX8_placeOf_12 rfl rfl (Nat.le_of_ble_eq_true rfl) ?_
  have lp13 : ∀ (f13 : Nat) (k : Nat) (E : jD), (256 < k + f13) → (k ≤ 256) → (E = fiU (ja_up D 100 0 (nI 0)) 128 k 0) → ja_A l (mX8_placeOf 0 0) ja_sn (ja_Qf (mX8_placeOf 0 0) (ja_jd (some (.int (nI 0))) Z (fun D2 => D2 = ja_up (plN (ja_up D 100 0 (nI 0)) ly lm 10) 100 0 (nI 3))) ja_x0) 13 [some (.ref (100)), some (.int (nI (ly))), some (.int (nI (a))), some (.int (nI (k))), none, none] [] Z E 0 0 := by
    intro f13
    induction f13 with
    | zero => intro k E hk0 hk1 hE; exfalso; omega
    | succ f13 ih13 =>
      intro k E hk0 hk1 hE
      refine ja_iload_n (i := 3) dX8_placeOf_13 rfl rfl ?_
      refine ja_sipush (v := nI 256) dX8_placeOf_14 (by decide +kernel) ?_
      refine ja_icmpN_ge (tgt := 33) dX8_placeOf_17 (by decide) (by omega) (by omega) (fun c17 => ?_) (fun c17 => ?_)
      ·
        refine ja_iconst (v := nI 0) dX8_placeOf_33 (by decide +kernel) ?_
        refine ja_istore_n (i := 3) dX8_placeOf_34 rfl rfl (Nat.le_of_ble_eq_true rfl) ?_
        have lp35 : ∀ (f35 : Nat) (o : Nat) (E : jD), (10 < o + f35) → (o ≤ 10) → (E = fnU (fiU (ja_up D 100 0 (nI 0)) 128 256 0) 127 (fun o => if lm o = 0 then -1 else -2) o) → ja_A l (mX8_placeOf 0 0) ja_sn (ja_Qf (mX8_placeOf 0 0) (ja_jd (some (.int (nI 0))) Z (fun D2 => D2 = ja_up (plN (ja_up D 100 0 (nI 0)) ly lm 10) 100 0 (nI 3))) ja_x0) 35 [some (.ref (100)), some (.int (nI (ly))), some (.int (nI (a))), some (.int (nI (o))), none, none] [] Z E 0 0 := by
          intro f35
          induction f35 with
          | zero => intro o E hk35 ho hE; exfalso; omega
          | succ f35 ih35 =>
            intro o E hk35 ho hE
            refine ja_iload_n (i := 3) dX8_placeOf_35 rfl rfl ?_
            refine ja_bipush (v := nI 10) dX8_placeOf_36 (by decide +kernel) ?_
            refine ja_icmpN_ge (tgt := 73) dX8_placeOf_38 (by decide) (by omega) (by omega) (fun c38 => ?_) (fun c38 => ?_)
            ·
              refine ja_iconst (v := nI 1) dX8_placeOf_73 (by decide +kernel) ?_
              refine ja_istore_n (i := 3) dX8_placeOf_74 rfl rfl (Nat.le_of_ble_eq_true rfl) ?_
              have lp75 : ∀ (f75 : Nat) (k : Nat) (E : jD) (g : Bool), ((g = true ∧ 11 < k + f75) ∨ (g = false ∧ 10 < k + f75)) → (k + plC E ≤ 10) → (E = plN (ja_up D 100 0 (nI 0)) ly lm k) → (g = false → plK E ly 10 = none) → ja_A l (mX8_placeOf 0 0) ja_sn (ja_Qf (mX8_placeOf 0 0) (ja_jd (some (.int (nI 0))) Z (fun D2 => D2 = ja_up (plN (ja_up D 100 0 (nI 0)) ly lm 10) 100 0 (nI 3))) ja_x0) 75 [some (.ref (100)), some (.int (nI (ly))), some (.int (nI (a))), some (.int (bI (g))), none, none] [] Z E 0 0 := by
                intro f75
                induction f75 with
                | zero => intro k E g hfu hm hE hg; exfalso; rcases hfu with ⟨_, h⟩ | ⟨_, h⟩ <;> omega
                | succ f75 ih75 =>
                  intro k E g hfu hm hE hg
                  have hf1 : 11 < k + (f75 + 1) ∨ g = false := by rcases hfu with ⟨_, h⟩ | ⟨h, _⟩; exact Or.inl h; exact Or.inr h
                  refine ja_iload_n (i := 3) dX8_placeOf_75 rfl rfl ?_
                  refine ja_ifB_eq (tgt := 168) dX8_placeOf_76 (by decide) (fun c76 => ?_) (fun c76 => ?_)
                  ·
                    have hpn : E = (plN (ja_up D 100 0 (nI 0)) ly lm 10) := by have h5 := plN_stay (by rw [← hE]; exact hg c76) (10 - k); rw [show k + (10 - k) = 10 by omega] at h5; rw [hE, h5]
                    refine ja_aload_n (i := 0) dX8_placeOf_168 rfl rfl ?_
                    refine ja_getR fl_X8_79 (zM_s hz) rfl (zM_p26 hz) dX8_placeOf_169 ?_
                    refine ja_iload_n (i := 2) dX8_placeOf_172 rfl rfl ?_
                    refine ja_iald (zM_a26 hz) rfl (by omega) (by decide) dX8_placeOf_173 ?_
                    refine ja_iconst (v := (-1)) dX8_placeOf_174 (by decide +kernel) ?_
                    refine ja_icmp_ne (tgt := 186) dX8_placeOf_175 (by decide) (fun c175 => absurd (by rw [hpn]; exact hp) c175) (fun c175 => ?_)
                    refine ja_aload_n (i := 0) dX8_placeOf_178 rfl rfl ?_
                    refine ja_iconst (v := nI 3) dX8_placeOf_179 (by decide +kernel) ?_
                    refine ja_cVd (st := []) (s_fails l hz (nI (3))) rfl rfl (ce_X8_fails 0 0) im_X8_fails se_X8_fails lk_X8_96 k_X8 (zM_s hz) ⟨(Nat.le_of_ble_eq_true rfl), (Nat.le_of_ble_eq_true rfl)⟩ dX8_placeOf_180 rfl rfl (Nat.le_of_ble_eq_true rfl) (Nat.zero_le _) (Nat.zero_le _) ?_
                    intro D180 hD180
                    subst hD180
                    refine ja_goto (tgt := 192) dX8_placeOf_183 (by decide) ?_
                    refine ja_iret rfl rfl dX8_placeOf_192 (Nat.zero_le _) (Nat.zero_le _) ?_
                    exact ⟨rfl, rfl, congrArg (fun X => ja_up X 100 0 (nI 3)) hpn⟩
                  ·
                    refine ja_iconst (v := (-1)) dX8_placeOf_79 (by decide +kernel) ?_
                    refine ja_istore (i := 4) dX8_placeOf_80 rfl (Nat.le_of_ble_eq_true rfl) ?_
                    refine ja_iconst (v := nI 0) dX8_placeOf_82 (by decide +kernel) ?_
                    refine ja_istore (i := 5) dX8_placeOf_83 rfl (Nat.le_of_ble_eq_true rfl) ?_
                    have lp85 : ∀ (f85 : Nat) (o : Nat) (r : Option Nat), (10 < o + f85) → (o ≤ 10) → (r = plK E ly o) → ja_A l (mX8_placeOf 0 0) ja_sn (ja_Qf (mX8_placeOf 0 0) (ja_jd (some (.int (nI 0))) Z (fun D2 => D2 = ja_up (plN (ja_up D 100 0 (nI 0)) ly lm 10) 100 0 (nI 3))) ja_x0) 85 [some (.ref (100)), some (.int (nI (ly))), some (.int (nI (a))), some (.int (bI (g))), some (.int (oI r)), some (.int (nI (o)))] [] Z E 0 0 := by
                      intro f85
                      induction f85 with
                      | zero => intro o r hk85 ho hr; exfalso; omega
                      | succ f85 ih85 =>
                        intro o r hk85 ho hr
                        have hzo := cSz_le (E 105) ly (nI o) 256
                        refine ja_iload (i := 5) dX8_placeOf_85 rfl ?_
                        refine ja_bipush (v := nI 10) dX8_placeOf_87 (by decide +kernel) ?_
                        refine ja_icmpN_ge (tgt := 142) dX8_placeOf_89 (by decide) (by omega) (by omega) (fun c89 => ?_) (fun c89 => ?_)
                        ·
                          rcases r with _ | b
                          ·
                            refine ja_iload (i := 4) dX8_placeOf_142 rfl ?_
                            refine ja_iconst (v := (-1)) dX8_placeOf_144 (by decide +kernel) ?_
                            refine ja_icmp_eq (tgt := 152) dX8_placeOf_145 (by decide) (fun c145 => ?_) (fun c145 => absurd rfl c145)
                            refine ja_iconst (v := nI 0) dX8_placeOf_152 (by decide +kernel) ?_
                            refine ja_istore_n (i := 3) dX8_placeOf_153 rfl rfl (Nat.le_of_ble_eq_true rfl) ?_
                            refine ja_iload_n (i := 3) dX8_placeOf_154 rfl rfl ?_
                            refine ja_ifN_eq (tgt := 165) dX8_placeOf_155 (by decide) (by omega) (fun c155 => ?_) (fun c155 => absurd c155 (by decide))
                            refine ja_goto (tgt := 75) dX8_placeOf_165 (by decide) ?_
                            refine ja_forget (i := 4) ?_
                            refine ja_forget (i := 5) ?_
                            exact ih75 k E false (Or.inr ⟨rfl, by have := hf1.resolve_right (by rw [c76]; decide); omega⟩) hm hE (fun _ => by rw [← show o = 10 by omega]; exact hr.symm)
                          ·
                            have hbl := cbM_lt hr.symm
                            have hzb := cSz_le (E 105) ly (nI b) 256
                            refine ja_iload (i := 4) dX8_placeOf_142 rfl ?_
                            refine ja_iconst (v := (-1)) dX8_placeOf_144 (by decide +kernel) ?_
                            refine ja_icmp_eq (tgt := 152) dX8_placeOf_145 (by decide) (fun c145 => absurd c145 (nI_nm1 (by omega))) (fun c145 => ?_)
                            refine ja_iconst (v := nI 1) dX8_placeOf_148 (by decide +kernel) ?_
                            refine ja_goto (tgt := 153) dX8_placeOf_149 (by decide) ?_
                            refine ja_istore_n (i := 3) dX8_placeOf_153 rfl rfl (Nat.le_of_ble_eq_true rfl) ?_
                            refine ja_iload_n (i := 3) dX8_placeOf_154 rfl rfl ?_
                            refine ja_ifN_eq (tgt := 165) dX8_placeOf_155 (by decide) (by omega) (fun c155 => absurd c155 (by decide)) (fun c155 => ?_)
                            have hcs : plK E ly 10 = some b := by rw [← show o = 10 by omega]; exact hr.symm
                            refine ja_aload_n (i := 0) dX8_placeOf_158 rfl rfl ?_
                            refine ja_iload_n (i := 1) dX8_placeOf_159 rfl rfl ?_
                            refine ja_iload (i := 4) dX8_placeOf_160 rfl ?_
                            refine ja_cVd0 (st := []) (s_places (D := E) l hz (ly := ly) (a := b) (m := lm b) h1 (by omega) (by rw [hE, plN_o (by decide) (by decide)]; exact (hlm b (by omega)).1) (hlm b (by omega)).2) rfl rfl (ce_X8_places 0 0) im_X8_places se_X8_places lk_X8_195 k_X8 (zM_s hz) ⟨(Nat.le_of_ble_eq_true rfl), (Nat.le_of_ble_eq_true rfl)⟩ dX8_placeOf_162 rfl rfl (Nat.le_of_ble_eq_true rfl) (Nat.zero_le _) (Nat.zero_le _) ?_
                            intro D162 hD162
                            subst hD162
                            refine ja_goto (tgt := 75) dX8_placeOf_165 (by decide) ?_
                            refine ja_forget (i := 4) ?_
                            refine ja_forget (i := 5) ?_
                            exact ih75 (k + 1) _ true (Or.inl ⟨rfl, by have := hf1.resolve_right (by rw [c76]; decide); omega⟩) (by have := plC_lt (m := lm b) hcs; omega) (by rw [hE] at hcs ⊢; exact (plN_y hcs).symm) (fun e => by cases e)
                        ·
                          refine ja_aload_n (i := 0) dX8_placeOf_92 rfl rfl ?_
                          refine ja_getR fl_X8_79 (zM_s hz) rfl (zM_p26 hz) dX8_placeOf_93 ?_
                          refine ja_iload (i := 5) dX8_placeOf_96 rfl ?_
                          refine ja_iald (zM_a26 hz) rfl (by omega) (by decide) dX8_placeOf_98 ?_
                          refine ja_top (y := E 127 o) rfl ?_
                          refine ja_bipush (v := (-2)) dX8_placeOf_99 (by decide +kernel) ?_
                          refine ja_icmp_ne (tgt := 132) dX8_placeOf_101 (by decide) (fun c101 => ?_) (fun c101 => ?_)
                          ·
                            refine ja_iload (i := 4) dX8_placeOf_132 rfl ?_
                            refine ja_istore (i := 4) dX8_placeOf_134 rfl (Nat.le_of_ble_eq_true rfl) ?_
                            refine ja_iincN dX8_placeOf_136 rfl rfl (Nat.le_of_ble_eq_true rfl) ?_
                            refine ja_goto (tgt := 85) dX8_placeOf_139 (by decide) ?_
                            exact ih85 (o + 1) r (by omega) (by omega) (by first | exact hr.trans (cbM_n (decide_eq_false c101)).symm | exact (cbM_t2 hr.symm (by omega)).symm)
                          ·
                            rcases r with _ | b
                            ·
                              refine ja_iload (i := 4) dX8_placeOf_104 rfl ?_
                              refine ja_iconst (v := (-1)) dX8_placeOf_106 (by decide +kernel) ?_
                              refine ja_icmp_eq (tgt := 127) dX8_placeOf_107 (by decide) (fun c107 => ?_) (fun c107 => absurd rfl c107)
                              refine ja_iload (i := 5) dX8_placeOf_127 rfl ?_
                              refine ja_goto (tgt := 134) dX8_placeOf_129 (by decide) ?_
                              refine ja_istore (i := 4) dX8_placeOf_134 rfl (Nat.le_of_ble_eq_true rfl) ?_
                              refine ja_iincN dX8_placeOf_136 rfl rfl (Nat.le_of_ble_eq_true rfl) ?_
                              refine ja_goto (tgt := 85) dX8_placeOf_139 (by decide) ?_
                              exact ih85 (o + 1) (some o) (by omega) (by omega) (by first | exact (cbM_t0 hr.symm (decide_eq_true c101)).symm | exact (cbM_t1 hr.symm (decide_eq_true c101) (by have hzo := cSz_le (E 105) ly (nI o) 256; omega)).symm)
                            ·
                              have hbl := cbM_lt hr.symm
                              have hzb := cSz_le (E 105) ly (nI b) 256
                              refine ja_iload (i := 4) dX8_placeOf_104 rfl ?_
                              refine ja_iconst (v := (-1)) dX8_placeOf_106 (by decide +kernel) ?_
                              refine ja_icmp_eq (tgt := 127) dX8_placeOf_107 (by decide) (fun c107 => absurd c107 (nI_nm1 (by omega))) (fun c107 => ?_)
                              refine ja_aload_n (i := 0) dX8_placeOf_110 rfl rfl ?_
                              refine ja_iload_n (i := 1) dX8_placeOf_111 rfl rfl ?_
                              refine ja_iload (i := 5) dX8_placeOf_112 rfl ?_
                              refine ja_cVr (st := []) (s_sizeOf (D := E) l hz (ly := ly) (by omega) (nI (o))) rfl rfl (ce_X8_sizeOf 0 0) im_X8_sizeOf se_X8_sizeOf lk_X8_103 k_X8 (zM_s hz) ⟨(Nat.le_of_ble_eq_true rfl), (Nat.le_of_ble_eq_true rfl)⟩ dX8_placeOf_114 rfl rfl (Nat.le_of_ble_eq_true rfl) (Nat.zero_le _) (Nat.zero_le _) ?_
                              refine ja_aload_n (i := 0) dX8_placeOf_117 rfl rfl ?_
                              refine ja_iload_n (i := 1) dX8_placeOf_118 rfl rfl ?_
                              refine ja_iload (i := 4) dX8_placeOf_119 rfl ?_
                              refine ja_cVr (st := [.int (nI (cSz (E 105) ly (nI (o)) 256))]) (s_sizeOf (D := E) l hz (ly := ly) (by omega) (nI (b))) rfl rfl (ce_X8_sizeOf 0 0) im_X8_sizeOf se_X8_sizeOf lk_X8_103 k_X8 (zM_s hz) ⟨(Nat.le_of_ble_eq_true rfl), (Nat.le_of_ble_eq_true rfl)⟩ dX8_placeOf_121 rfl rfl (Nat.le_of_ble_eq_true rfl) (Nat.zero_le _) (Nat.zero_le _) ?_
                              refine ja_icmpN_le (tgt := 132) dX8_placeOf_124 (by decide) (by omega) (by omega) (fun c124 => ?_) (fun c124 => ?_)
                              ·
                                refine ja_iload (i := 4) dX8_placeOf_132 rfl ?_
                                refine ja_istore (i := 4) dX8_placeOf_134 rfl (Nat.le_of_ble_eq_true rfl) ?_
                                refine ja_iincN dX8_placeOf_136 rfl rfl (Nat.le_of_ble_eq_true rfl) ?_
                                refine ja_goto (tgt := 85) dX8_placeOf_139 (by decide) ?_
                                exact ih85 (o + 1) (some b) (by omega) (by omega) (by first | exact hr.trans (cbM_n (decide_eq_false c101)).symm | exact (cbM_t2 hr.symm (by omega)).symm)
                              ·
                                refine ja_iload (i := 5) dX8_placeOf_127 rfl ?_
                                refine ja_goto (tgt := 134) dX8_placeOf_129 (by decide) ?_
                                refine ja_istore (i := 4) dX8_placeOf_134 rfl (Nat.le_of_ble_eq_true rfl) ?_
                                refine ja_iincN dX8_placeOf_136 rfl rfl (Nat.le_of_ble_eq_true rfl) ?_
                                refine ja_goto (tgt := 85) dX8_placeOf_139 (by decide) ?_
                                exact ih85 (o + 1) (some o) (by omega) (by omega) (by first | exact (cbM_t0 hr.symm (decide_eq_true c101)).symm | exact (cbM_t1 hr.symm (decide_eq_true c101) (by have hzo := cSz_le (E 105) ly (nI o) 256; omega)).symm)
                    exact lp85 11 0 none (by omega) (by omega) rfl
              exact lp75 12 0 E true (Or.inl ⟨rfl, by omega⟩) (by have := fb_ct_le (fun o => decide (E 127 o = -2)) 10; rw [plC]; omega) (by rw [hE, show o = 10 by omega]; rfl) (fun e => by cases e)
            ·
              refine ja_aload_n (i := 0) dX8_placeOf_41 rfl rfl ?_
              refine ja_getR fl_X8_79 (zM_s hz) rfl (zM_p26 hz) dX8_placeOf_42 ?_
              refine ja_iload_n (i := 3) dX8_placeOf_45 rfl rfl ?_
              refine ja_aload_n (i := 0) dX8_placeOf_46 rfl rfl ?_
              refine ja_getR fl_X8_24 (zM_s hz) rfl (zM_p6 hz) dX8_placeOf_47 ?_
              refine ja_bipush (v := nI 10) dX8_placeOf_50 (by decide +kernel) ?_
              refine ja_iload_n (i := 1) dX8_placeOf_52 rfl rfl ?_
              refine ja_imulN dX8_placeOf_53 ?_
              refine ja_iload_n (i := 3) dX8_placeOf_54 rfl rfl ?_
              refine ja_iaddN dX8_placeOf_55 ?_
              refine ja_iald (zM_a6 hz) rfl (by omega) (by decide) dX8_placeOf_56 ?_
              refine ja_top (y := nI (lm o)) (by rw [hE, fnU_o (by decide), fiU, if_neg (fun e => absurd e.1 (by decide))]; exact (hlm o (by omega)).1) ?_
              have hl6 := (hlm o (by omega)).2
              refine ja_ifN_le (tgt := 65) dX8_placeOf_57 (by decide) (by omega) (fun c57 => ?_) (fun c57 => ?_)
              ·
                refine ja_iconst (v := (-1)) dX8_placeOf_65 (by decide +kernel) ?_
                refine ja_iast (zM_a26 hz) rfl (by omega) (by decide) dX8_placeOf_66 ?_
                refine ja_iincN dX8_placeOf_67 rfl rfl (Nat.le_of_ble_eq_true rfl) ?_
                refine ja_goto (tgt := 35) dX8_placeOf_70 (by decide) ?_
                exact ih35 (o + 1) _ (by omega) (by omega) (by rw [hE]; exact fnU_s (by first | exact (if_pos c57).symm | exact (if_neg c57).symm))
              ·
                refine ja_bipush (v := (-2)) dX8_placeOf_60 (by decide +kernel) ?_
                refine ja_goto (tgt := 66) dX8_placeOf_62 (by decide) ?_
                refine ja_iast (zM_a26 hz) rfl (by omega) (by decide) dX8_placeOf_66 ?_
                refine ja_iincN dX8_placeOf_67 rfl rfl (Nat.le_of_ble_eq_true rfl) ?_
                refine ja_goto (tgt := 35) dX8_placeOf_70 (by decide) ?_
                exact ih35 (o + 1) _ (by omega) (by omega) (by rw [hE]; exact fnU_s (by first | exact (if_pos c57).symm | exact (if_neg c57).symm))
        exact lp35 11 0 E (by omega) (by omega) (by rw [hE, show k = 256 by omega]; exact fnU_0)
      ·
        refine ja_aload_n (i := 0) dX8_placeOf_20 rfl rfl ?_
        refine ja_getR fl_X8_82 (zM_s hz) rfl (zM_p27 hz) dX8_placeOf_21 ?_
        refine ja_iload_n (i := 3) dX8_placeOf_24 rfl rfl ?_
        refine ja_iconst (v := nI 0) dX8_placeOf_25 (by decide +kernel) ?_
        refine ja_zast (zM_a27 hz) rfl (by omega) (by decide) (by decide +kernel) dX8_placeOf_26 ?_
        refine ja_iincN dX8_placeOf_27 rfl rfl (Nat.le_of_ble_eq_true rfl) ?_
        refine ja_goto (tgt := 13) dX8_placeOf_30 (by decide) ?_
        exact ih13 (k + 1) _ (by omega) (by omega) (by rw [hE]; exact fiU_s)
  exact lp13 257 0 (ja_up D 100 0 (nI 0)) (by omega) (by omega) fiU_0

set_option maxRecDepth 100000 in
set_option maxHeartbeats 4000000 in
theorem r_placeOf_ok (l : Launch) {Z : jZ} {D : jD} (hz : zM Z) {ly a : Nat} (h1 : ly < 3) (h2 : a < 10) {lm : Nat → Nat} (hlm : ∀ o, o < 10 → D 107 (10 * ly + o) = nI (lm o) ∧ lm o ≤ 6) (hp : ¬ (plN (ja_up D 100 0 (nI 0)) ly lm 10) 127 a = -1) : ja_M l (mX8_placeOf 0 0) [.ref (100), .int (nI (ly)), .int (nI (a))] Z D (ja_jd (some (.int ((plN (ja_up D 100 0 (nI 0)) ly lm 10) 127 a))) Z (fun D2 => D2 = (plN (ja_up D 100 0 (nI 0)) ly lm 10))) ja_x0 := by
  refine ja_Mof (lv := [some (.ref (100)), some (.int (nI (ly))), some (.int (nI (a))), none, none, none]) (by decide +kernel) rfl rfl (Nat.le_of_ble_eq_true rfl) rfl ?_
  refine ja_aload_n (i := 0) dX8_placeOf_0 rfl rfl ?_
  refine ja_iload_n (i := 1) dX8_placeOf_1 rfl rfl ?_
  refine ja_iload_n (i := 2) dX8_placeOf_2 rfl rfl ?_
  refine ja_cVd (st := []) (s_looksT l hz (by omega) (by omega)) rfl rfl (ce_X8_looks 0 0) im_X8_looks se_X8_looks lk_X8_136 k_X8 (zM_s hz) ⟨(Nat.le_of_ble_eq_true rfl), (Nat.le_of_ble_eq_true rfl)⟩ dX8_placeOf_3 rfl rfl (Nat.le_of_ble_eq_true rfl) (Nat.zero_le _) (Nat.zero_le _) ?_
  intro D3 hD3
  subst hD3
  refine ja_ifB_ne (tgt := 11) dX8_placeOf_6 (by decide) (fun c6 => ?_) (fun c6 => absurd c6 (by decide))
  refine ja_iconst (v := nI 0) dX8_placeOf_11 (by decide +kernel) ?_
  refine ja_istore_n (i := 3) dX8_placeOf_12 rfl rfl (Nat.le_of_ble_eq_true rfl) ?_
  have lp13 : ∀ (f13 : Nat) (k : Nat) (E : jD), (256 < k + f13) → (k ≤ 256) → (E = fiU (ja_up D 100 0 (nI 0)) 128 k 0) → ja_A l (mX8_placeOf 0 0) ja_sn (ja_Qf (mX8_placeOf 0 0) (ja_jd (some (.int ((plN (ja_up D 100 0 (nI 0)) ly lm 10) 127 a))) Z (fun D2 => D2 = (plN (ja_up D 100 0 (nI 0)) ly lm 10))) ja_x0) 13 [some (.ref (100)), some (.int (nI (ly))), some (.int (nI (a))), some (.int (nI (k))), none, none] [] Z E 0 0 := by
    intro f13
    induction f13 with
    | zero => intro k E hk0 hk1 hE; exfalso; omega
    | succ f13 ih13 =>
      intro k E hk0 hk1 hE
      refine ja_iload_n (i := 3) dX8_placeOf_13 rfl rfl ?_
      refine ja_sipush (v := nI 256) dX8_placeOf_14 (by decide +kernel) ?_
      refine ja_icmpN_ge (tgt := 33) dX8_placeOf_17 (by decide) (by omega) (by omega) (fun c17 => ?_) (fun c17 => ?_)
      ·
        refine ja_iconst (v := nI 0) dX8_placeOf_33 (by decide +kernel) ?_
        refine ja_istore_n (i := 3) dX8_placeOf_34 rfl rfl (Nat.le_of_ble_eq_true rfl) ?_
        have lp35 : ∀ (f35 : Nat) (o : Nat) (E : jD), (10 < o + f35) → (o ≤ 10) → (E = fnU (fiU (ja_up D 100 0 (nI 0)) 128 256 0) 127 (fun o => if lm o = 0 then -1 else -2) o) → ja_A l (mX8_placeOf 0 0) ja_sn (ja_Qf (mX8_placeOf 0 0) (ja_jd (some (.int ((plN (ja_up D 100 0 (nI 0)) ly lm 10) 127 a))) Z (fun D2 => D2 = (plN (ja_up D 100 0 (nI 0)) ly lm 10))) ja_x0) 35 [some (.ref (100)), some (.int (nI (ly))), some (.int (nI (a))), some (.int (nI (o))), none, none] [] Z E 0 0 := by
          intro f35
          induction f35 with
          | zero => intro o E hk35 ho hE; exfalso; omega
          | succ f35 ih35 =>
            intro o E hk35 ho hE
            refine ja_iload_n (i := 3) dX8_placeOf_35 rfl rfl ?_
            refine ja_bipush (v := nI 10) dX8_placeOf_36 (by decide +kernel) ?_
            refine ja_icmpN_ge (tgt := 73) dX8_placeOf_38 (by decide) (by omega) (by omega) (fun c38 => ?_) (fun c38 => ?_)
            ·
              refine ja_iconst (v := nI 1) dX8_placeOf_73 (by decide +kernel) ?_
              refine ja_istore_n (i := 3) dX8_placeOf_74 rfl rfl (Nat.le_of_ble_eq_true rfl) ?_
              have lp75 : ∀ (f75 : Nat) (k : Nat) (E : jD) (g : Bool), ((g = true ∧ 11 < k + f75) ∨ (g = false ∧ 10 < k + f75)) → (k + plC E ≤ 10) → (E = plN (ja_up D 100 0 (nI 0)) ly lm k) → (g = false → plK E ly 10 = none) → ja_A l (mX8_placeOf 0 0) ja_sn (ja_Qf (mX8_placeOf 0 0) (ja_jd (some (.int ((plN (ja_up D 100 0 (nI 0)) ly lm 10) 127 a))) Z (fun D2 => D2 = (plN (ja_up D 100 0 (nI 0)) ly lm 10))) ja_x0) 75 [some (.ref (100)), some (.int (nI (ly))), some (.int (nI (a))), some (.int (bI (g))), none, none] [] Z E 0 0 := by
                intro f75
                induction f75 with
                | zero => intro k E g hfu hm hE hg; exfalso; rcases hfu with ⟨_, h⟩ | ⟨_, h⟩ <;> omega
                | succ f75 ih75 =>
                  intro k E g hfu hm hE hg
                  have hf1 : 11 < k + (f75 + 1) ∨ g = false := by rcases hfu with ⟨_, h⟩ | ⟨h, _⟩; exact Or.inl h; exact Or.inr h
                  refine ja_iload_n (i := 3) dX8_placeOf_75 rfl rfl ?_
                  refine ja_ifB_eq (tgt := 168) dX8_placeOf_76 (by decide) (fun c76 => ?_) (fun c76 => ?_)
                  ·
                    have hpn : E = (plN (ja_up D 100 0 (nI 0)) ly lm 10) := by have h5 := plN_stay (by rw [← hE]; exact hg c76) (10 - k); rw [show k + (10 - k) = 10 by omega] at h5; rw [hE, h5]
                    refine ja_aload_n (i := 0) dX8_placeOf_168 rfl rfl ?_
                    refine ja_getR fl_X8_79 (zM_s hz) rfl (zM_p26 hz) dX8_placeOf_169 ?_
                    refine ja_iload_n (i := 2) dX8_placeOf_172 rfl rfl ?_
                    refine ja_iald (zM_a26 hz) rfl (by omega) (by decide) dX8_placeOf_173 ?_
                    refine ja_iconst (v := (-1)) dX8_placeOf_174 (by decide +kernel) ?_
                    refine ja_icmp_ne (tgt := 186) dX8_placeOf_175 (by decide) (fun c175 => ?_) (fun c175 => absurd (by rw [hpn] at c175; exact c175) hp)
                    refine ja_aload_n (i := 0) dX8_placeOf_186 rfl rfl ?_
                    refine ja_getR fl_X8_79 (zM_s hz) rfl (zM_p26 hz) dX8_placeOf_187 ?_
                    refine ja_iload_n (i := 2) dX8_placeOf_190 rfl rfl ?_
                    refine ja_iald (zM_a26 hz) rfl (by omega) (by decide) dX8_placeOf_191 ?_
                    refine ja_iret rfl rfl dX8_placeOf_192 (Nat.zero_le _) (Nat.zero_le _) ?_
                    exact ⟨by rw [← hpn], rfl, hpn⟩
                  ·
                    refine ja_iconst (v := (-1)) dX8_placeOf_79 (by decide +kernel) ?_
                    refine ja_istore (i := 4) dX8_placeOf_80 rfl (Nat.le_of_ble_eq_true rfl) ?_
                    refine ja_iconst (v := nI 0) dX8_placeOf_82 (by decide +kernel) ?_
                    refine ja_istore (i := 5) dX8_placeOf_83 rfl (Nat.le_of_ble_eq_true rfl) ?_
                    have lp85 : ∀ (f85 : Nat) (o : Nat) (r : Option Nat), (10 < o + f85) → (o ≤ 10) → (r = plK E ly o) → ja_A l (mX8_placeOf 0 0) ja_sn (ja_Qf (mX8_placeOf 0 0) (ja_jd (some (.int ((plN (ja_up D 100 0 (nI 0)) ly lm 10) 127 a))) Z (fun D2 => D2 = (plN (ja_up D 100 0 (nI 0)) ly lm 10))) ja_x0) 85 [some (.ref (100)), some (.int (nI (ly))), some (.int (nI (a))), some (.int (bI (g))), some (.int (oI r)), some (.int (nI (o)))] [] Z E 0 0 := by
                      intro f85
                      induction f85 with
                      | zero => intro o r hk85 ho hr; exfalso; omega
                      | succ f85 ih85 =>
                        intro o r hk85 ho hr
                        have hzo := cSz_le (E 105) ly (nI o) 256
                        refine ja_iload (i := 5) dX8_placeOf_85 rfl ?_
                        refine ja_bipush (v := nI 10) dX8_placeOf_87 (by decide +kernel) ?_
                        refine ja_icmpN_ge (tgt := 142) dX8_placeOf_89 (by decide) (by omega) (by omega) (fun c89 => ?_) (fun c89 => ?_)
                        ·
                          rcases r with _ | b
                          ·
                            refine ja_iload (i := 4) dX8_placeOf_142 rfl ?_
                            refine ja_iconst (v := (-1)) dX8_placeOf_144 (by decide +kernel) ?_
                            refine ja_icmp_eq (tgt := 152) dX8_placeOf_145 (by decide) (fun c145 => ?_) (fun c145 => absurd rfl c145)
                            refine ja_iconst (v := nI 0) dX8_placeOf_152 (by decide +kernel) ?_
                            refine ja_istore_n (i := 3) dX8_placeOf_153 rfl rfl (Nat.le_of_ble_eq_true rfl) ?_
                            refine ja_iload_n (i := 3) dX8_placeOf_154 rfl rfl ?_
                            refine ja_ifN_eq (tgt := 165) dX8_placeOf_155 (by decide) (by omega) (fun c155 => ?_) (fun c155 => absurd c155 (by decide))
                            refine ja_goto (tgt := 75) dX8_placeOf_165 (by decide) ?_
                            refine ja_forget (i := 4) ?_
                            refine ja_forget (i := 5) ?_
                            exact ih75 k E false (Or.inr ⟨rfl, by have := hf1.resolve_right (by rw [c76]; decide); omega⟩) hm hE (fun _ => by rw [← show o = 10 by omega]; exact hr.symm)
                          ·
                            have hbl := cbM_lt hr.symm
                            have hzb := cSz_le (E 105) ly (nI b) 256
                            refine ja_iload (i := 4) dX8_placeOf_142 rfl ?_
                            refine ja_iconst (v := (-1)) dX8_placeOf_144 (by decide +kernel) ?_
                            refine ja_icmp_eq (tgt := 152) dX8_placeOf_145 (by decide) (fun c145 => absurd c145 (nI_nm1 (by omega))) (fun c145 => ?_)
                            refine ja_iconst (v := nI 1) dX8_placeOf_148 (by decide +kernel) ?_
                            refine ja_goto (tgt := 153) dX8_placeOf_149 (by decide) ?_
                            refine ja_istore_n (i := 3) dX8_placeOf_153 rfl rfl (Nat.le_of_ble_eq_true rfl) ?_
                            refine ja_iload_n (i := 3) dX8_placeOf_154 rfl rfl ?_
                            refine ja_ifN_eq (tgt := 165) dX8_placeOf_155 (by decide) (by omega) (fun c155 => absurd c155 (by decide)) (fun c155 => ?_)
                            have hcs : plK E ly 10 = some b := by rw [← show o = 10 by omega]; exact hr.symm
                            refine ja_aload_n (i := 0) dX8_placeOf_158 rfl rfl ?_
                            refine ja_iload_n (i := 1) dX8_placeOf_159 rfl rfl ?_
                            refine ja_iload (i := 4) dX8_placeOf_160 rfl ?_
                            refine ja_cVd0 (st := []) (s_places (D := E) l hz (ly := ly) (a := b) (m := lm b) h1 (by omega) (by rw [hE, plN_o (by decide) (by decide)]; exact (hlm b (by omega)).1) (hlm b (by omega)).2) rfl rfl (ce_X8_places 0 0) im_X8_places se_X8_places lk_X8_195 k_X8 (zM_s hz) ⟨(Nat.le_of_ble_eq_true rfl), (Nat.le_of_ble_eq_true rfl)⟩ dX8_placeOf_162 rfl rfl (Nat.le_of_ble_eq_true rfl) (Nat.zero_le _) (Nat.zero_le _) ?_
                            intro D162 hD162
                            subst hD162
                            refine ja_goto (tgt := 75) dX8_placeOf_165 (by decide) ?_
                            refine ja_forget (i := 4) ?_
                            refine ja_forget (i := 5) ?_
                            exact ih75 (k + 1) _ true (Or.inl ⟨rfl, by have := hf1.resolve_right (by rw [c76]; decide); omega⟩) (by have := plC_lt (m := lm b) hcs; omega) (by rw [hE] at hcs ⊢; exact (plN_y hcs).symm) (fun e => by cases e)
                        ·
                          refine ja_aload_n (i := 0) dX8_placeOf_92 rfl rfl ?_
                          refine ja_getR fl_X8_79 (zM_s hz) rfl (zM_p26 hz) dX8_placeOf_93 ?_
                          refine ja_iload (i := 5) dX8_placeOf_96 rfl ?_
                          refine ja_iald (zM_a26 hz) rfl (by omega) (by decide) dX8_placeOf_98 ?_
                          refine ja_top (y := E 127 o) rfl ?_
                          refine ja_bipush (v := (-2)) dX8_placeOf_99 (by decide +kernel) ?_
                          refine ja_icmp_ne (tgt := 132) dX8_placeOf_101 (by decide) (fun c101 => ?_) (fun c101 => ?_)
                          ·
                            refine ja_iload (i := 4) dX8_placeOf_132 rfl ?_
                            refine ja_istore (i := 4) dX8_placeOf_134 rfl (Nat.le_of_ble_eq_true rfl) ?_
                            refine ja_iincN dX8_placeOf_136 rfl rfl (Nat.le_of_ble_eq_true rfl) ?_
                            refine ja_goto (tgt := 85) dX8_placeOf_139 (by decide) ?_
                            exact ih85 (o + 1) r (by omega) (by omega) (by first | exact hr.trans (cbM_n (decide_eq_false c101)).symm | exact (cbM_t2 hr.symm (by omega)).symm)
                          ·
                            rcases r with _ | b
                            ·
                              refine ja_iload (i := 4) dX8_placeOf_104 rfl ?_
                              refine ja_iconst (v := (-1)) dX8_placeOf_106 (by decide +kernel) ?_
                              refine ja_icmp_eq (tgt := 127) dX8_placeOf_107 (by decide) (fun c107 => ?_) (fun c107 => absurd rfl c107)
                              refine ja_iload (i := 5) dX8_placeOf_127 rfl ?_
                              refine ja_goto (tgt := 134) dX8_placeOf_129 (by decide) ?_
                              refine ja_istore (i := 4) dX8_placeOf_134 rfl (Nat.le_of_ble_eq_true rfl) ?_
                              refine ja_iincN dX8_placeOf_136 rfl rfl (Nat.le_of_ble_eq_true rfl) ?_
                              refine ja_goto (tgt := 85) dX8_placeOf_139 (by decide) ?_
                              exact ih85 (o + 1) (some o) (by omega) (by omega) (by first | exact (cbM_t0 hr.symm (decide_eq_true c101)).symm | exact (cbM_t1 hr.symm (decide_eq_true c101) (by have hzo := cSz_le (E 105) ly (nI o) 256; omega)).symm)
                            ·
                              have hbl := cbM_lt hr.symm
                              have hzb := cSz_le (E 105) ly (nI b) 256
                              refine ja_iload (i := 4) dX8_placeOf_104 rfl ?_
                              refine ja_iconst (v := (-1)) dX8_placeOf_106 (by decide +kernel) ?_
                              refine ja_icmp_eq (tgt := 127) dX8_placeOf_107 (by decide) (fun c107 => absurd c107 (nI_nm1 (by omega))) (fun c107 => ?_)
                              refine ja_aload_n (i := 0) dX8_placeOf_110 rfl rfl ?_
                              refine ja_iload_n (i := 1) dX8_placeOf_111 rfl rfl ?_
                              refine ja_iload (i := 5) dX8_placeOf_112 rfl ?_
                              refine ja_cVr (st := []) (s_sizeOf (D := E) l hz (ly := ly) (by omega) (nI (o))) rfl rfl (ce_X8_sizeOf 0 0) im_X8_sizeOf se_X8_sizeOf lk_X8_103 k_X8 (zM_s hz) ⟨(Nat.le_of_ble_eq_true rfl), (Nat.le_of_ble_eq_true rfl)⟩ dX8_placeOf_114 rfl rfl (Nat.le_of_ble_eq_true rfl) (Nat.zero_le _) (Nat.zero_le _) ?_
                              refine ja_aload_n (i := 0) dX8_placeOf_117 rfl rfl ?_
                              refine ja_iload_n (i := 1) dX8_placeOf_118 rfl rfl ?_
                              refine ja_iload (i := 4) dX8_placeOf_119 rfl ?_
                              refine ja_cVr (st := [.int (nI (cSz (E 105) ly (nI (o)) 256))]) (s_sizeOf (D := E) l hz (ly := ly) (by omega) (nI (b))) rfl rfl (ce_X8_sizeOf 0 0) im_X8_sizeOf se_X8_sizeOf lk_X8_103 k_X8 (zM_s hz) ⟨(Nat.le_of_ble_eq_true rfl), (Nat.le_of_ble_eq_true rfl)⟩ dX8_placeOf_121 rfl rfl (Nat.le_of_ble_eq_true rfl) (Nat.zero_le _) (Nat.zero_le _) ?_
                              refine ja_icmpN_le (tgt := 132) dX8_placeOf_124 (by decide) (by omega) (by omega) (fun c124 => ?_) (fun c124 => ?_)
                              ·
                                refine ja_iload (i := 4) dX8_placeOf_132 rfl ?_
                                refine ja_istore (i := 4) dX8_placeOf_134 rfl (Nat.le_of_ble_eq_true rfl) ?_
                                refine ja_iincN dX8_placeOf_136 rfl rfl (Nat.le_of_ble_eq_true rfl) ?_
                                refine ja_goto (tgt := 85) dX8_placeOf_139 (by decide) ?_
                                exact ih85 (o + 1) (some b) (by omega) (by omega) (by first | exact hr.trans (cbM_n (decide_eq_false c101)).symm | exact (cbM_t2 hr.symm (by omega)).symm)
                              ·
                                refine ja_iload (i := 5) dX8_placeOf_127 rfl ?_
                                refine ja_goto (tgt := 134) dX8_placeOf_129 (by decide) ?_
                                refine ja_istore (i := 4) dX8_placeOf_134 rfl (Nat.le_of_ble_eq_true rfl) ?_
                                refine ja_iincN dX8_placeOf_136 rfl rfl (Nat.le_of_ble_eq_true rfl) ?_
                                refine ja_goto (tgt := 85) dX8_placeOf_139 (by decide) ?_
                                exact ih85 (o + 1) (some o) (by omega) (by omega) (by first | exact (cbM_t0 hr.symm (decide_eq_true c101)).symm | exact (cbM_t1 hr.symm (decide_eq_true c101) (by have hzo := cSz_le (E 105) ly (nI o) 256; omega)).symm)
                    exact lp85 11 0 none (by omega) (by omega) rfl
              exact lp75 12 0 E true (Or.inl ⟨rfl, by omega⟩) (by have := fb_ct_le (fun o => decide (E 127 o = -2)) 10; rw [plC]; omega) (by rw [hE, show o = 10 by omega]; rfl) (fun e => by cases e)
            ·
              refine ja_aload_n (i := 0) dX8_placeOf_41 rfl rfl ?_
              refine ja_getR fl_X8_79 (zM_s hz) rfl (zM_p26 hz) dX8_placeOf_42 ?_
              refine ja_iload_n (i := 3) dX8_placeOf_45 rfl rfl ?_
              refine ja_aload_n (i := 0) dX8_placeOf_46 rfl rfl ?_
              refine ja_getR fl_X8_24 (zM_s hz) rfl (zM_p6 hz) dX8_placeOf_47 ?_
              refine ja_bipush (v := nI 10) dX8_placeOf_50 (by decide +kernel) ?_
              refine ja_iload_n (i := 1) dX8_placeOf_52 rfl rfl ?_
              refine ja_imulN dX8_placeOf_53 ?_
              refine ja_iload_n (i := 3) dX8_placeOf_54 rfl rfl ?_
              refine ja_iaddN dX8_placeOf_55 ?_
              refine ja_iald (zM_a6 hz) rfl (by omega) (by decide) dX8_placeOf_56 ?_
              refine ja_top (y := nI (lm o)) (by rw [hE, fnU_o (by decide), fiU, if_neg (fun e => absurd e.1 (by decide))]; exact (hlm o (by omega)).1) ?_
              have hl6 := (hlm o (by omega)).2
              refine ja_ifN_le (tgt := 65) dX8_placeOf_57 (by decide) (by omega) (fun c57 => ?_) (fun c57 => ?_)
              ·
                refine ja_iconst (v := (-1)) dX8_placeOf_65 (by decide +kernel) ?_
                refine ja_iast (zM_a26 hz) rfl (by omega) (by decide) dX8_placeOf_66 ?_
                refine ja_iincN dX8_placeOf_67 rfl rfl (Nat.le_of_ble_eq_true rfl) ?_
                refine ja_goto (tgt := 35) dX8_placeOf_70 (by decide) ?_
                exact ih35 (o + 1) _ (by omega) (by omega) (by rw [hE]; exact fnU_s (by first | exact (if_pos c57).symm | exact (if_neg c57).symm))
              ·
                refine ja_bipush (v := (-2)) dX8_placeOf_60 (by decide +kernel) ?_
                refine ja_goto (tgt := 66) dX8_placeOf_62 (by decide) ?_
                refine ja_iast (zM_a26 hz) rfl (by omega) (by decide) dX8_placeOf_66 ?_
                refine ja_iincN dX8_placeOf_67 rfl rfl (Nat.le_of_ble_eq_true rfl) ?_
                refine ja_goto (tgt := 35) dX8_placeOf_70 (by decide) ?_
                exact ih35 (o + 1) _ (by omega) (by omega) (by rw [hE]; exact fnU_s (by first | exact (if_pos c57).symm | exact (if_neg c57).symm))
        exact lp35 11 0 E (by omega) (by omega) (by rw [hE, show k = 256 by omega]; exact fnU_0)
      ·
        refine ja_aload_n (i := 0) dX8_placeOf_20 rfl rfl ?_
        refine ja_getR fl_X8_82 (zM_s hz) rfl (zM_p27 hz) dX8_placeOf_21 ?_
        refine ja_iload_n (i := 3) dX8_placeOf_24 rfl rfl ?_
        refine ja_iconst (v := nI 0) dX8_placeOf_25 (by decide +kernel) ?_
        refine ja_zast (zM_a27 hz) rfl (by omega) (by decide) (by decide +kernel) dX8_placeOf_26 ?_
        refine ja_iincN dX8_placeOf_27 rfl rfl (Nat.le_of_ble_eq_true rfl) ?_
        refine ja_goto (tgt := 13) dX8_placeOf_30 (by decide) ?_
        exact ih13 (k + 1) _ (by omega) (by omega) (by rw [hE]; exact fiU_s)
  exact lp13 257 0 (ja_up D 100 0 (nI 0)) (by omega) (by omega) fiU_0
