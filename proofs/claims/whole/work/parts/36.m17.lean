/-! THE REFERENCE: coarse, coarseAreas, meanPiece -/
theorem cbM_t0 {c : Nat → Bool} {g : Nat → Nat} {a : Nat} (h : cbM c g a = none) (h1 : c a = true) : cbM c g (a + 1) = some a := by
  rw [cbM, h]
  exact if_pos h1
theorem cbM_t1 {c : Nat → Bool} {g : Nat → Nat} {a b : Nat} (h : cbM c g a = some b) (h1 : c a = true) (h2 : g a < g b) : cbM c g (a + 1) = some a := by
  rw [cbM, h]
  exact if_pos ⟨h1, h2⟩
theorem cbM_t2 {c : Nat → Bool} {g : Nat → Nat} {a b : Nat} (h : cbM c g a = some b) (h2 : ¬ g a < g b) : cbM c g (a + 1) = some b := by
  rw [cbM, h]
  exact if_neg (fun x => h2 x.2)
theorem cbM_n {c : Nat → Bool} {g : Nat → Nat} {a : Nat} (h1 : c a = false) : cbM c g (a + 1) = cbM c g a := by
  rw [cbM]
  cases cbM c g a with
  | none => exact if_neg (by rw [h1]; decide)
  | some b => exact if_neg (fun x => by rw [h1] at x; exact absurd x.1 (by decide))

set_option maxRecDepth 100000 in
set_option maxHeartbeats 4000000 in
theorem s_coarsens (l : Launch) {Z : jZ} {D : jD} (hz : zM Z) (hw : wfA (D 105)) {ly le : Nat} (h1 : ly < 3) (hle : le ≤ 256) : ja_M l (mX8_coarsens 0 0) [.ref (100), .int (nI (ly)), .int (nI (le))] Z D (ja_jd none Z (fun D2 => D2 = fnU D 126 (crI (D 105) ly le 10) 10)) ja_x0 := by
  refine ja_Mof (lv := [some (.ref (100)), some (.int (nI (ly))), some (.int (nI (le))), none, none, none, none, none]) (by decide +kernel) rfl rfl (Nat.le_of_ble_eq_true rfl) rfl ?_
  refine ja_iconst (v := nI 0) dX8_coarsens_0 (by decide +kernel) ?_
  refine ja_istore_n (i := 3) dX8_coarsens_1 rfl rfl (Nat.le_of_ble_eq_true rfl) ?_
  have lp2 : ∀ (f2 : Nat) (k : Nat) (E : jD), (10 < k + f2) → (k ≤ 10) → (E = fnU D 126 (fun a => nI a) k) → ja_A l (mX8_coarsens 0 0) ja_sn (ja_Qf (mX8_coarsens 0 0) (ja_jd none Z (fun D2 => D2 = fnU D 126 (crI (D 105) ly le 10) 10)) ja_x0) 2 [some (.ref (100)), some (.int (nI (ly))), some (.int (nI (le))), some (.int (nI (k))), none, none, none, none] [] Z E 0 0 := by
    intro f2
    induction f2 with
    | zero => intro k E hk0 hk1 hE; exfalso; omega
    | succ f2 ih2 =>
      intro k E hk0 hk1 hE
      refine ja_iload_n (i := 3) dX8_coarsens_2 rfl rfl ?_
      refine ja_bipush (v := nI 10) dX8_coarsens_3 (by decide +kernel) ?_
      refine ja_icmpN_ge (tgt := 21) dX8_coarsens_5 (by decide) (by omega) (by omega) (fun c5 => ?_) (fun c5 => ?_)
      ·
        refine ja_iconst (v := nI 1) dX8_coarsens_21 (by decide +kernel) ?_
        refine ja_istore_n (i := 3) dX8_coarsens_22 rfl rfl (Nat.le_of_ble_eq_true rfl) ?_
        have lp23 : ∀ (f23 : Nat) (k : Nat) (J : Nat → Int32) (E : jD) (g : Bool), ((g = true ∧ 11 < k + f23) ∨ (g = false ∧ 10 < k + f23)) → (J = (crI (D 105) ly le k)) → (k + cnz (D 105) J ly ≤ 10) → (E = fnU D 126 J 10) → (g = false → cbs (D 105) J ly le 10 = none) → ja_A l (mX8_coarsens 0 0) ja_sn (ja_Qf (mX8_coarsens 0 0) (ja_jd none Z (fun D2 => D2 = fnU D 126 (crI (D 105) ly le 10) 10)) ja_x0) 23 [some (.ref (100)), some (.int (nI (ly))), some (.int (nI (le))), some (.int (bI (g))), none, none, none, none] [] Z E 0 0 := by
          intro f23
          induction f23 with
          | zero => intro k J E g hfu hJ hm hE hg; exfalso; rcases hfu with ⟨_, h⟩ | ⟨_, h⟩ <;> omega
          | succ f23 ih23 =>
            intro k J E g hfu hJ hm hE hg
            have hwE : wfA (E 105) := by rw [hE, show fnU D 126 J 10 105 = D 105 from funext fun _ => fnU_o (by decide)]; exact hw
            have hf1 : 11 < k + (f23 + 1) ∨ g = false := by rcases hfu with ⟨_, h⟩ | ⟨h, _⟩; exact Or.inl h; exact Or.inr h
            refine ja_iload_n (i := 3) dX8_coarsens_23 rfl rfl ?_
            refine ja_ifB_eq (tgt := 201) dX8_coarsens_24 (by decide) (fun c24 => ?_) (fun c24 => ?_)
            ·
              refine ja_vret rfl dX8_coarsens_201 (Nat.zero_le _) (Nat.zero_le _) ?_
              exact ⟨rfl, rfl, by rw [hE, hJ]; have h5 := crI_stay (by rw [← hJ]; exact hg c24) (10 - k); rw [show k + (10 - k) = 10 by omega] at h5; rw [h5]⟩
            ·
              refine ja_iconst (v := (-1)) dX8_coarsens_27 (by decide +kernel) ?_
              refine ja_istore (i := 4) dX8_coarsens_28 rfl (Nat.le_of_ble_eq_true rfl) ?_
              refine ja_iconst (v := nI 0) dX8_coarsens_30 (by decide +kernel) ?_
              refine ja_istore (i := 5) dX8_coarsens_31 rfl (Nat.le_of_ble_eq_true rfl) ?_
              have lp33 : ∀ (f33 : Nat) (a : Nat) (r : Option Nat), (10 < a + f33) → (a ≤ 10) → (r = cbs (D 105) J ly le a) → ja_A l (mX8_coarsens 0 0) ja_sn (ja_Qf (mX8_coarsens 0 0) (ja_jd none Z (fun D2 => D2 = fnU D 126 (crI (D 105) ly le 10) 10)) ja_x0) 33 [some (.ref (100)), some (.int (nI (ly))), some (.int (nI (le))), some (.int (bI (g))), some (.int (oI r)), some (.int (nI (a))), none, none] [] Z E 0 0 := by
                intro f33
                induction f33 with
                | zero => intro a r hk33 ha hr; exfalso; omega
                | succ f33 ih33 =>
                  intro a r hk33 ha hr
                  have hza := cz_le (D 105) J ly a
                  refine ja_iload (i := 5) dX8_coarsens_33 rfl ?_
                  refine ja_bipush (v := nI 10) dX8_coarsens_35 (by decide +kernel) ?_
                  refine ja_icmpN_ge (tgt := 117) dX8_coarsens_37 (by decide) (by omega) (by omega) (fun c37 => ?_) (fun c37 => ?_)
                  ·
                    rcases r with _ | b
                    ·
                      refine ja_iload (i := 4) dX8_coarsens_117 rfl ?_
                      refine ja_iconst (v := (-1)) dX8_coarsens_119 (by decide +kernel) ?_
                      refine ja_icmp_eq (tgt := 127) dX8_coarsens_120 (by decide) (fun c120 => ?_) (fun c120 => absurd rfl c120)
                      refine ja_iconst (v := nI 0) dX8_coarsens_127 (by decide +kernel) ?_
                      refine ja_istore_n (i := 3) dX8_coarsens_128 rfl rfl (Nat.le_of_ble_eq_true rfl) ?_
                      refine ja_iload_n (i := 3) dX8_coarsens_129 rfl rfl ?_
                      refine ja_ifN_eq (tgt := 144) dX8_coarsens_130 (by decide) (by omega) (fun c130 => ?_) (fun c130 => absurd c130 (by decide))
                      refine ja_iconst (v := (-1)) dX8_coarsens_144 (by decide +kernel) ?_
                      refine ja_istore (i := 5) dX8_coarsens_145 rfl (Nat.le_of_ble_eq_true rfl) ?_
                      refine ja_iconst (v := nI 0) dX8_coarsens_147 (by decide +kernel) ?_
                      refine ja_istore (i := 6) dX8_coarsens_148 rfl (Nat.le_of_ble_eq_true rfl) ?_
                      refine ja_iload (i := 6) dX8_coarsens_150 rfl ?_
                      refine ja_bipush (v := nI 10) dX8_coarsens_152 (by decide +kernel) ?_
                      refine ja_icmpN_ge (tgt := 198) dX8_coarsens_154 (by decide) (by omega) (by omega) (fun c154 => absurd c154 (by decide)) (fun c154 => ?_)
                      refine ja_iload_n (i := 3) dX8_coarsens_157 rfl rfl ?_
                      refine ja_ifN_eq (tgt := 198) dX8_coarsens_158 (by decide) (by omega) (fun c158 => ?_) (fun c158 => absurd c158 (by decide))
                      refine ja_goto (tgt := 23) dX8_coarsens_198 (by decide) ?_
                      refine ja_forget (i := 4) ?_
                      refine ja_forget (i := 5) ?_
                      refine ja_forget (i := 6) ?_
                      exact ih23 k J E false (Or.inr ⟨rfl, by have := hf1.resolve_right (by rw [c24]; decide); omega⟩) hJ hm hE (fun _ => by rw [← show a = 10 by omega]; exact hr.symm)
                    ·
                      have hcs : cbs (D 105) J ly le 10 = some b := by rw [← show a = 10 by omega]; exact hr.symm
                      have hbl := cbM_lt hcs
                      obtain ⟨i, hi⟩ : ∃ i, cb (D 105) J ly b = some i := by have h2 := hbl.2; rw [cc, Bool.and_eq_true] at h2; exact Option.isSome_iff_exists.mp h2.2
                      have hi10 := (cb_pos hi).1
                      refine ja_iload (i := 4) dX8_coarsens_117 rfl ?_
                      refine ja_iconst (v := (-1)) dX8_coarsens_119 (by decide +kernel) ?_
                      refine ja_icmp_eq (tgt := 127) dX8_coarsens_120 (by decide) (fun c120 => absurd c120 (nI_nm1 (by omega))) (fun c120 => ?_)
                      refine ja_iconst (v := nI 1) dX8_coarsens_123 (by decide +kernel) ?_
                      refine ja_goto (tgt := 128) dX8_coarsens_124 (by decide) ?_
                      refine ja_istore_n (i := 3) dX8_coarsens_128 rfl rfl (Nat.le_of_ble_eq_true rfl) ?_
                      refine ja_iload_n (i := 3) dX8_coarsens_129 rfl rfl ?_
                      refine ja_ifN_eq (tgt := 144) dX8_coarsens_130 (by decide) (by omega) (fun c130 => absurd c130 (by decide)) (fun c130 => ?_)
                      refine ja_aload_n (i := 0) dX8_coarsens_133 rfl rfl ?_
                      refine ja_iload_n (i := 1) dX8_coarsens_134 rfl rfl ?_
                      refine ja_iload (i := 4) dX8_coarsens_135 rfl ?_
                      refine ja_iconst (v := (-1)) dX8_coarsens_137 (by decide +kernel) ?_
                      refine ja_cVr (st := []) (s_besideB (D := E) l hz hwE (ly := ly) (by omega) (a := b) (by omega)) rfl rfl (ce_X8_beside_ 0 0) im_X8_beside_ se_X8_beside_ lk_X8_186 k_X8 (zM_s hz) ⟨(Nat.le_of_ble_eq_true rfl), (Nat.le_of_ble_eq_true rfl)⟩ dX8_coarsens_138 rfl rfl (Nat.le_of_ble_eq_true rfl) (Nat.zero_le _) (Nat.zero_le _) ?_
                      refine ja_top (y := oI (cb (D 105) J ly b)) (by rw [hE]; exact congrArg oI (cb_cg hw h1)) ?_
                      refine ja_goto (tgt := 145) dX8_coarsens_141 (by decide) ?_
                      refine ja_top (y := nI i) (congrArg oI hi) ?_
                      refine ja_istore (i := 5) dX8_coarsens_145 rfl (Nat.le_of_ble_eq_true rfl) ?_
                      refine ja_iconst (v := nI 0) dX8_coarsens_147 (by decide +kernel) ?_
                      refine ja_istore (i := 6) dX8_coarsens_148 rfl (Nat.le_of_ble_eq_true rfl) ?_
                      have lp150 : ∀ (f150 : Nat) (x : Nat) (F : jD), (10 < x + f150) → (x ≤ 10) → (F = fnU (fnU D 126 J 10) 126 (cjn J b (nI i)) x) → ja_A l (mX8_coarsens 0 0) ja_sn (ja_Qf (mX8_coarsens 0 0) (ja_jd none Z (fun D2 => D2 = fnU D 126 (crI (D 105) ly le 10) 10)) ja_x0) 150 [some (.ref (100)), some (.int (nI (ly))), some (.int (nI (le))), some (.int (nI (1))), some (.int (nI (b))), some (.int (nI (i))), some (.int (nI (x))), none] [] Z F 0 0 := by
                        intro f150
                        induction f150 with
                        | zero => intro x F hk150 hx hF; exfalso; omega
                        | succ f150 ih150 =>
                          intro x F hk150 hx hF
                          refine ja_iload (i := 6) dX8_coarsens_150 rfl ?_
                          refine ja_bipush (v := nI 10) dX8_coarsens_152 (by decide +kernel) ?_
                          refine ja_icmpN_ge (tgt := 198) dX8_coarsens_154 (by decide) (by omega) (by omega) (fun c154 => ?_) (fun c154 => ?_)
                          ·
                            refine ja_goto (tgt := 23) dX8_coarsens_198 (by decide) ?_
                            refine ja_forget (i := 4) ?_
                            refine ja_forget (i := 5) ?_
                            refine ja_forget (i := 6) ?_
                            exact ih23 (k + 1) (cjn J b (nI i)) F true (Or.inl ⟨rfl, by have := hf1.resolve_right (by rw [c24]; decide); omega⟩) (by subst hJ; exact (crI_step hcs hi).symm) (by have := cnz_lt hcs; rw [hi, oI_s] at this; omega) (by rw [hF, show x = 10 by omega, fnU_2]) (fun e => by cases e)
                          ·
                            refine ja_iload_n (i := 3) dX8_coarsens_157 rfl rfl ?_
                            refine ja_ifN_eq (tgt := 198) dX8_coarsens_158 (by decide) (by omega) (fun c158 => absurd c158 (by decide)) (fun c158 => ?_)
                            refine ja_aload_n (i := 0) dX8_coarsens_161 rfl rfl ?_
                            refine ja_getR fl_X8_76 (zM_s hz) rfl (zM_p25 hz) dX8_coarsens_162 ?_
                            refine ja_iload (i := 6) dX8_coarsens_165 rfl ?_
                            refine ja_aload_n (i := 0) dX8_coarsens_167 rfl rfl ?_
                            refine ja_getR fl_X8_76 (zM_s hz) rfl (zM_p25 hz) dX8_coarsens_168 ?_
                            refine ja_iload (i := 6) dX8_coarsens_171 rfl ?_
                            refine ja_iald (zM_a25 hz) rfl (by omega) (by decide) dX8_coarsens_173 ?_
                            refine ja_top (y := J x) (by rw [hF, fnU, if_neg (by omega), fnU, if_pos ⟨rfl, by omega⟩]) ?_
                            refine ja_iload (i := 4) dX8_coarsens_174 rfl ?_
                            refine ja_icmp_ne (tgt := 184) dX8_coarsens_176 (by decide) (fun c176 => ?_) (fun c176 => ?_)
                            ·
                              refine ja_aload_n (i := 0) dX8_coarsens_184 rfl rfl ?_
                              refine ja_getR fl_X8_76 (zM_s hz) rfl (zM_p25 hz) dX8_coarsens_185 ?_
                              refine ja_iload (i := 6) dX8_coarsens_188 rfl ?_
                              refine ja_iald (zM_a25 hz) rfl (by omega) (by decide) dX8_coarsens_190 ?_
                              refine ja_top (y := J x) (by rw [hF, fnU, if_neg (by omega), fnU, if_pos ⟨rfl, by omega⟩]) ?_
                              refine ja_iast (zM_a25 hz) rfl (by omega) (by decide) dX8_coarsens_191 ?_
                              refine ja_iincN dX8_coarsens_192 rfl rfl (Nat.le_of_ble_eq_true rfl) ?_
                              refine ja_goto (tgt := 150) dX8_coarsens_195 (by decide) ?_
                              exact ih150 (x + 1) _ (by omega) (by omega) (by rw [hF]; exact fnU_s (by rw [cjn]; first | exact (if_pos c176).symm | exact (if_neg c176).symm))
                            ·
                              refine ja_iload (i := 5) dX8_coarsens_179 rfl ?_
                              refine ja_goto (tgt := 191) dX8_coarsens_181 (by decide) ?_
                              refine ja_iast (zM_a25 hz) rfl (by omega) (by decide) dX8_coarsens_191 ?_
                              refine ja_iincN dX8_coarsens_192 rfl rfl (Nat.le_of_ble_eq_true rfl) ?_
                              refine ja_goto (tgt := 150) dX8_coarsens_195 (by decide) ?_
                              exact ih150 (x + 1) _ (by omega) (by omega) (by rw [hF]; exact fnU_s (by rw [cjn]; first | exact (if_pos c176).symm | exact (if_neg c176).symm))
                      exact lp150 11 0 E (by omega) (by omega) (by rw [hE]; exact fnU_0)
                  ·
                    refine ja_aload_n (i := 0) dX8_coarsens_40 rfl rfl ?_
                    refine ja_iload_n (i := 1) dX8_coarsens_41 rfl rfl ?_
                    refine ja_iload (i := 5) dX8_coarsens_42 rfl ?_
                    refine ja_cVr (st := []) (s_coarseSize (D := E) l hz hwE (ly := ly) (by omega) (nI (a))) rfl rfl (ce_X8_coarseSize 0 0) im_X8_coarseSize se_X8_coarseSize lk_X8_183 k_X8 (zM_s hz) ⟨(Nat.le_of_ble_eq_true rfl), (Nat.le_of_ble_eq_true rfl)⟩ dX8_coarsens_44 rfl rfl (Nat.le_of_ble_eq_true rfl) (Nat.zero_le _) (Nat.zero_le _) ?_
                    refine ja_top (y := nI (cz (D 105) J ly a)) (by rw [hE]; exact congrArg nI (cz_cg hw h1)) ?_
                    refine ja_istore (i := 6) dX8_coarsens_47 rfl (Nat.le_of_ble_eq_true rfl) ?_
                    refine ja_iload (i := 6) dX8_coarsens_49 rfl ?_
                    refine ja_ifN_le (tgt := 76) dX8_coarsens_51 (by decide) (by omega) (fun c51 => ?_) (fun c51 => ?_)
                    ·
                      refine ja_iconst (v := nI 0) dX8_coarsens_76 (by decide +kernel) ?_
                      refine ja_istore (i := 7) dX8_coarsens_77 rfl (Nat.le_of_ble_eq_true rfl) ?_
                      refine ja_iload (i := 7) dX8_coarsens_79 rfl ?_
                      refine ja_ifN_eq (tgt := 107) dX8_coarsens_81 (by decide) (by omega) (fun c81 => ?_) (fun c81 => absurd c81 (by decide))
                      refine ja_iload (i := 4) dX8_coarsens_107 rfl ?_
                      refine ja_istore (i := 4) dX8_coarsens_109 rfl (Nat.le_of_ble_eq_true rfl) ?_
                      refine ja_iincN dX8_coarsens_111 rfl rfl (Nat.le_of_ble_eq_true rfl) ?_
                      refine ja_goto (tgt := 33) dX8_coarsens_114 (by decide) ?_
                      refine ja_forget (i := 6) ?_
                      refine ja_forget (i := 7) ?_
                      exact ih33 (a + 1) r (by omega) (by omega) (by first | exact hr.trans (cbM_n (cbs_n (by first | exact Or.inl c51 | exact Or.inr (Or.inl c57) | exact Or.inr (Or.inr c69)))).symm | exact (cbM_t2 hr.symm (by omega)).symm)
                    ·
                      refine ja_iload (i := 6) dX8_coarsens_54 rfl ?_
                      refine ja_iload_n (i := 2) dX8_coarsens_56 rfl rfl ?_
                      refine ja_icmpN_ge (tgt := 76) dX8_coarsens_57 (by decide) (by omega) (by omega) (fun c57 => ?_) (fun c57 => ?_)
                      ·
                        refine ja_iconst (v := nI 0) dX8_coarsens_76 (by decide +kernel) ?_
                        refine ja_istore (i := 7) dX8_coarsens_77 rfl (Nat.le_of_ble_eq_true rfl) ?_
                        refine ja_iload (i := 7) dX8_coarsens_79 rfl ?_
                        refine ja_ifN_eq (tgt := 107) dX8_coarsens_81 (by decide) (by omega) (fun c81 => ?_) (fun c81 => absurd c81 (by decide))
                        refine ja_iload (i := 4) dX8_coarsens_107 rfl ?_
                        refine ja_istore (i := 4) dX8_coarsens_109 rfl (Nat.le_of_ble_eq_true rfl) ?_
                        refine ja_iincN dX8_coarsens_111 rfl rfl (Nat.le_of_ble_eq_true rfl) ?_
                        refine ja_goto (tgt := 33) dX8_coarsens_114 (by decide) ?_
                        refine ja_forget (i := 6) ?_
                        refine ja_forget (i := 7) ?_
                        exact ih33 (a + 1) r (by omega) (by omega) (by first | exact hr.trans (cbM_n (cbs_n (by first | exact Or.inl c51 | exact Or.inr (Or.inl c57) | exact Or.inr (Or.inr c69)))).symm | exact (cbM_t2 hr.symm (by omega)).symm)
                      ·
                        refine ja_aload_n (i := 0) dX8_coarsens_60 rfl rfl ?_
                        refine ja_iload_n (i := 1) dX8_coarsens_61 rfl rfl ?_
                        refine ja_iload (i := 5) dX8_coarsens_62 rfl ?_
                        refine ja_iconst (v := (-1)) dX8_coarsens_64 (by decide +kernel) ?_
                        refine ja_cVr (st := []) (s_besideB (D := E) l hz hwE (ly := ly) (by omega) (a := a) (by omega)) rfl rfl (ce_X8_beside_ 0 0) im_X8_beside_ se_X8_beside_ lk_X8_186 k_X8 (zM_s hz) ⟨(Nat.le_of_ble_eq_true rfl), (Nat.le_of_ble_eq_true rfl)⟩ dX8_coarsens_65 rfl rfl (Nat.le_of_ble_eq_true rfl) (Nat.zero_le _) (Nat.zero_le _) ?_
                        refine ja_top (y := oI (cb (D 105) J ly a)) (by rw [hE]; exact congrArg oI (cb_cg hw h1)) ?_
                        refine ja_iconst (v := (-1)) dX8_coarsens_68 (by decide +kernel) ?_
                        refine ja_icmp_eq (tgt := 76) dX8_coarsens_69 (by decide) (fun c69 => ?_) (fun c69 => ?_)
                        ·
                          refine ja_iconst (v := nI 0) dX8_coarsens_76 (by decide +kernel) ?_
                          refine ja_istore (i := 7) dX8_coarsens_77 rfl (Nat.le_of_ble_eq_true rfl) ?_
                          refine ja_iload (i := 7) dX8_coarsens_79 rfl ?_
                          refine ja_ifN_eq (tgt := 107) dX8_coarsens_81 (by decide) (by omega) (fun c81 => ?_) (fun c81 => absurd c81 (by decide))
                          refine ja_iload (i := 4) dX8_coarsens_107 rfl ?_
                          refine ja_istore (i := 4) dX8_coarsens_109 rfl (Nat.le_of_ble_eq_true rfl) ?_
                          refine ja_iincN dX8_coarsens_111 rfl rfl (Nat.le_of_ble_eq_true rfl) ?_
                          refine ja_goto (tgt := 33) dX8_coarsens_114 (by decide) ?_
                          refine ja_forget (i := 6) ?_
                          refine ja_forget (i := 7) ?_
                          exact ih33 (a + 1) r (by omega) (by omega) (by first | exact hr.trans (cbM_n (cbs_n (by first | exact Or.inl c51 | exact Or.inr (Or.inl c57) | exact Or.inr (Or.inr c69)))).symm | exact (cbM_t2 hr.symm (by omega)).symm)
                        ·
                          refine ja_iconst (v := nI 1) dX8_coarsens_72 (by decide +kernel) ?_
                          refine ja_goto (tgt := 77) dX8_coarsens_73 (by decide) ?_
                          refine ja_istore (i := 7) dX8_coarsens_77 rfl (Nat.le_of_ble_eq_true rfl) ?_
                          refine ja_iload (i := 7) dX8_coarsens_79 rfl ?_
                          refine ja_ifN_eq (tgt := 107) dX8_coarsens_81 (by decide) (by omega) (fun c81 => absurd c81 (by decide)) (fun c81 => ?_)
                          rcases r with _ | b
                          ·
                            refine ja_iload (i := 4) dX8_coarsens_84 rfl ?_
                            refine ja_iconst (v := (-1)) dX8_coarsens_86 (by decide +kernel) ?_
                            refine ja_icmp_eq (tgt := 102) dX8_coarsens_87 (by decide) (fun c87 => ?_) (fun c87 => absurd rfl c87)
                            refine ja_iload (i := 5) dX8_coarsens_102 rfl ?_
                            refine ja_goto (tgt := 109) dX8_coarsens_104 (by decide) ?_
                            refine ja_istore (i := 4) dX8_coarsens_109 rfl (Nat.le_of_ble_eq_true rfl) ?_
                            refine ja_iincN dX8_coarsens_111 rfl rfl (Nat.le_of_ble_eq_true rfl) ?_
                            refine ja_goto (tgt := 33) dX8_coarsens_114 (by decide) ?_
                            refine ja_forget (i := 6) ?_
                            refine ja_forget (i := 7) ?_
                            exact ih33 (a + 1) (some a) (by omega) (by omega) (by first | exact (cbM_t0 hr.symm (cbs_y c51 (Nat.lt_of_not_le c57) c69)).symm | exact (cbM_t1 hr.symm (cbs_y c51 (Nat.lt_of_not_le c57) c69) (by omega)).symm)
                          ·
                            have hbl := cbM_lt hr.symm
                            have hzb := cz_le (D 105) J ly b
                            refine ja_iload (i := 4) dX8_coarsens_84 rfl ?_
                            refine ja_iconst (v := (-1)) dX8_coarsens_86 (by decide +kernel) ?_
                            refine ja_icmp_eq (tgt := 102) dX8_coarsens_87 (by decide) (fun c87 => absurd c87 (nI_nm1 (by omega))) (fun c87 => ?_)
                            refine ja_iload (i := 6) dX8_coarsens_90 rfl ?_
                            refine ja_aload_n (i := 0) dX8_coarsens_92 rfl rfl ?_
                            refine ja_iload_n (i := 1) dX8_coarsens_93 rfl rfl ?_
                            refine ja_iload (i := 4) dX8_coarsens_94 rfl ?_
                            refine ja_cVr (st := [.int (nI (cz (D 105) J ly a))]) (s_coarseSize (D := E) l hz hwE (ly := ly) (by omega) (nI (b))) rfl rfl (ce_X8_coarseSize 0 0) im_X8_coarseSize se_X8_coarseSize lk_X8_183 k_X8 (zM_s hz) ⟨(Nat.le_of_ble_eq_true rfl), (Nat.le_of_ble_eq_true rfl)⟩ dX8_coarsens_96 rfl rfl (Nat.le_of_ble_eq_true rfl) (Nat.zero_le _) (Nat.zero_le _) ?_
                            refine ja_top (y := nI (cz (D 105) J ly b)) (by rw [hE]; exact congrArg nI (cz_cg hw h1)) ?_
                            refine ja_icmpN_ge (tgt := 107) dX8_coarsens_99 (by decide) (by omega) (by omega) (fun c99 => ?_) (fun c99 => ?_)
                            ·
                              refine ja_iload (i := 4) dX8_coarsens_107 rfl ?_
                              refine ja_istore (i := 4) dX8_coarsens_109 rfl (Nat.le_of_ble_eq_true rfl) ?_
                              refine ja_iincN dX8_coarsens_111 rfl rfl (Nat.le_of_ble_eq_true rfl) ?_
                              refine ja_goto (tgt := 33) dX8_coarsens_114 (by decide) ?_
                              refine ja_forget (i := 6) ?_
                              refine ja_forget (i := 7) ?_
                              exact ih33 (a + 1) (some b) (by omega) (by omega) (by first | exact hr.trans (cbM_n (cbs_n (by first | exact Or.inl c51 | exact Or.inr (Or.inl c57) | exact Or.inr (Or.inr c69)))).symm | exact (cbM_t2 hr.symm (by omega)).symm)
                            ·
                              refine ja_iload (i := 5) dX8_coarsens_102 rfl ?_
                              refine ja_goto (tgt := 109) dX8_coarsens_104 (by decide) ?_
                              refine ja_istore (i := 4) dX8_coarsens_109 rfl (Nat.le_of_ble_eq_true rfl) ?_
                              refine ja_iincN dX8_coarsens_111 rfl rfl (Nat.le_of_ble_eq_true rfl) ?_
                              refine ja_goto (tgt := 33) dX8_coarsens_114 (by decide) ?_
                              refine ja_forget (i := 6) ?_
                              refine ja_forget (i := 7) ?_
                              exact ih33 (a + 1) (some a) (by omega) (by omega) (by first | exact (cbM_t0 hr.symm (cbs_y c51 (Nat.lt_of_not_le c57) c69)).symm | exact (cbM_t1 hr.symm (cbs_y c51 (Nat.lt_of_not_le c57) c69) (by omega)).symm)
              exact lp33 11 0 none (by omega) (by omega) rfl
        exact lp23 12 0 (fun a => nI a) E true (Or.inl ⟨rfl, by omega⟩) rfl (by have := fb_ct_le (fun a => decide (0 < cz (D 105) (fun a => nI a) ly a)) 10; rw [cnz]; omega) (by rw [hE, show k = 10 by omega]) (fun e => by cases e)
      ·
        refine ja_aload_n (i := 0) dX8_coarsens_8 rfl rfl ?_
        refine ja_getR fl_X8_76 (zM_s hz) rfl (zM_p25 hz) dX8_coarsens_9 ?_
        refine ja_iload_n (i := 3) dX8_coarsens_12 rfl rfl ?_
        refine ja_iload_n (i := 3) dX8_coarsens_13 rfl rfl ?_
        refine ja_iast (zM_a25 hz) rfl (by omega) (by decide) dX8_coarsens_14 ?_
        refine ja_iincN dX8_coarsens_15 rfl rfl (Nat.le_of_ble_eq_true rfl) ?_
        refine ja_goto (tgt := 2) dX8_coarsens_18 (by decide) ?_
        exact ih2 (k + 1) _ (by omega) (by omega) (by rw [hE]; exact fnU_s rfl)
  exact lp2 11 0 D (by omega) (by omega) fnU_0

set_option maxRecDepth 100000 in
set_option maxHeartbeats 4000000 in
theorem r_coarse_f1 (l : Launch) {Z : jZ} {D : jD} (hz : zM Z) {ly : Int32} (le a : Int32) (hl : ¬ (nI 0 ≤ ly ∧ ly ≤ nI 2)) : ja_M l (mX8_coarse 0 0) [.ref (100), .int (ly), .int (le), .int (a)] Z D (ja_jd (some (.int (nI 0))) Z (fun D2 => D2 = ja_up D 100 0 (nI 1))) ja_x0 := by
  refine ja_Mof (lv := [some (.ref (100)), some (.int (ly)), some (.int (le)), some (.int (a))]) (by decide +kernel) rfl rfl (Nat.le_of_ble_eq_true rfl) rfl ?_
  refine ja_aload_n (i := 0) dX8_coarse_0 rfl rfl ?_
  refine ja_iconst (v := nI 0) dX8_coarse_1 (by decide +kernel) ?_
  refine ja_putI fl_X8_85 (zM_s hz) rfl rfl rfl dX8_coarse_2 ?_
  refine ja_iload_n (i := 1) dX8_coarse_5 rfl rfl ?_
  refine ja_cSr (st := []) (s_isLayerF l hl) rfl rfl (ce_X8_isLayer 0 0) st_X8_isLayer lk_X8_106 ⟨(Nat.le_of_ble_eq_true rfl), (Nat.le_of_ble_eq_true rfl)⟩ dX8_coarse_6 rfl rfl (Nat.le_of_ble_eq_true rfl) (Nat.zero_le _) (Nat.zero_le _) ?_
  refine ja_ifB_ne (tgt := 18) dX8_coarse_9 (by decide) (fun c9 => absurd c9 (by decide)) (fun c9 => ?_)
  refine ja_aload_n (i := 0) dX8_coarse_12 rfl rfl ?_
  refine ja_iconst (v := nI 1) dX8_coarse_13 (by decide +kernel) ?_
  refine ja_cVd (st := []) (s_fails l hz (nI (1))) rfl rfl (ce_X8_fails 0 0) im_X8_fails se_X8_fails lk_X8_96 k_X8 (zM_s hz) ⟨(Nat.le_of_ble_eq_true rfl), (Nat.le_of_ble_eq_true rfl)⟩ dX8_coarse_14 rfl rfl (Nat.le_of_ble_eq_true rfl) (Nat.zero_le _) (Nat.zero_le _) ?_
  intro D14 hD14
  subst hD14
  refine ja_num (D2 := ja_up D 100 0 (nI (1))) up_2 ?_
  refine ja_iret rfl rfl dX8_coarse_17 (Nat.zero_le _) (Nat.zero_le _) ?_
  exact ⟨rfl, rfl, rfl⟩

set_option maxRecDepth 100000 in
set_option maxHeartbeats 4000000 in
theorem r_coarse_f2 (l : Launch) {Z : jZ} {D : jD} (hz : zM Z) {ly : Nat} (h1 : ly < 3) {le : Int32} (hle : ¬ (nI 1 ≤ le ∧ le ≤ nI 256)) (a : Int32) : ja_M l (mX8_coarse 0 0) [.ref (100), .int (nI (ly)), .int (le), .int (a)] Z D (ja_jd (some (.int (nI 0))) Z (fun D2 => D2 = ja_up D 100 0 (nI 2))) ja_x0 := by
  refine ja_Mof (lv := [some (.ref (100)), some (.int (nI (ly))), some (.int (le)), some (.int (a))]) (by decide +kernel) rfl rfl (Nat.le_of_ble_eq_true rfl) rfl ?_
  refine ja_aload_n (i := 0) dX8_coarse_0 rfl rfl ?_
  refine ja_iconst (v := nI 0) dX8_coarse_1 (by decide +kernel) ?_
  refine ja_putI fl_X8_85 (zM_s hz) rfl rfl rfl dX8_coarse_2 ?_
  refine ja_iload_n (i := 1) dX8_coarse_5 rfl rfl ?_
  refine ja_cSr (st := []) (s_isLayerT l (by omega)) rfl rfl (ce_X8_isLayer 0 0) st_X8_isLayer lk_X8_106 ⟨(Nat.le_of_ble_eq_true rfl), (Nat.le_of_ble_eq_true rfl)⟩ dX8_coarse_6 rfl rfl (Nat.le_of_ble_eq_true rfl) (Nat.zero_le _) (Nat.zero_le _) ?_
  refine ja_ifB_ne (tgt := 18) dX8_coarse_9 (by decide) (fun c9 => ?_) (fun c9 => absurd c9 (by decide))
  refine ja_iload_n (i := 2) dX8_coarse_18 rfl rfl ?_
  refine ja_iconst (v := nI 1) dX8_coarse_19 (by decide +kernel) ?_
  refine ja_sipush (v := nI 256) dX8_coarse_20 (by decide +kernel) ?_
  refine ja_cSr (st := []) (s_inF l (le) (nI (1)) (nI (256)) hle) rfl rfl (ce_X8_in 0 0) st_X8_in lk_X8_88 ⟨(Nat.le_of_ble_eq_true rfl), (Nat.le_of_ble_eq_true rfl)⟩ dX8_coarse_23 rfl rfl (Nat.le_of_ble_eq_true rfl) (Nat.zero_le _) (Nat.zero_le _) ?_
  refine ja_ifB_eq (tgt := 36) dX8_coarse_26 (by decide) (fun c26 => ?_) (fun c26 => absurd c26 (by decide))
  refine ja_aload_n (i := 0) dX8_coarse_36 rfl rfl ?_
  refine ja_iconst (v := nI 2) dX8_coarse_37 (by decide +kernel) ?_
  refine ja_cVd (st := []) (s_fails l hz (nI (2))) rfl rfl (ce_X8_fails 0 0) im_X8_fails se_X8_fails lk_X8_96 k_X8 (zM_s hz) ⟨(Nat.le_of_ble_eq_true rfl), (Nat.le_of_ble_eq_true rfl)⟩ dX8_coarse_38 rfl rfl (Nat.le_of_ble_eq_true rfl) (Nat.zero_le _) (Nat.zero_le _) ?_
  intro D38 hD38
  subst hD38
  refine ja_num (D2 := ja_up D 100 0 (nI (2))) up_2 ?_
  refine ja_iret rfl rfl dX8_coarse_41 (Nat.zero_le _) (Nat.zero_le _) ?_
  exact ⟨rfl, rfl, rfl⟩

set_option maxRecDepth 100000 in
set_option maxHeartbeats 4000000 in
theorem r_coarse_f2b (l : Launch) {Z : jZ} {D : jD} (hz : zM Z) {ly : Nat} (h1 : ly < 3) {le : Nat} (hl1 : 1 ≤ le) (hl2 : le ≤ 256) {a : Int32} (ha : ¬ (nI 0 ≤ a ∧ a ≤ nI 9)) : ja_M l (mX8_coarse 0 0) [.ref (100), .int (nI (ly)), .int (nI (le)), .int (a)] Z D (ja_jd (some (.int (nI 0))) Z (fun D2 => D2 = ja_up D 100 0 (nI 2))) ja_x0 := by
  refine ja_Mof (lv := [some (.ref (100)), some (.int (nI (ly))), some (.int (nI (le))), some (.int (a))]) (by decide +kernel) rfl rfl (Nat.le_of_ble_eq_true rfl) rfl ?_
  refine ja_aload_n (i := 0) dX8_coarse_0 rfl rfl ?_
  refine ja_iconst (v := nI 0) dX8_coarse_1 (by decide +kernel) ?_
  refine ja_putI fl_X8_85 (zM_s hz) rfl rfl rfl dX8_coarse_2 ?_
  refine ja_iload_n (i := 1) dX8_coarse_5 rfl rfl ?_
  refine ja_cSr (st := []) (s_isLayerT l (by omega)) rfl rfl (ce_X8_isLayer 0 0) st_X8_isLayer lk_X8_106 ⟨(Nat.le_of_ble_eq_true rfl), (Nat.le_of_ble_eq_true rfl)⟩ dX8_coarse_6 rfl rfl (Nat.le_of_ble_eq_true rfl) (Nat.zero_le _) (Nat.zero_le _) ?_
  refine ja_ifB_ne (tgt := 18) dX8_coarse_9 (by decide) (fun c9 => ?_) (fun c9 => absurd c9 (by decide))
  refine ja_iload_n (i := 2) dX8_coarse_18 rfl rfl ?_
  refine ja_iconst (v := nI 1) dX8_coarse_19 (by decide +kernel) ?_
  refine ja_sipush (v := nI 256) dX8_coarse_20 (by decide +kernel) ?_
  refine ja_cSr (st := []) (s_inT l (le) 1 256 (by omega) (by omega) (by omega)) rfl rfl (ce_X8_in 0 0) st_X8_in lk_X8_88 ⟨(Nat.le_of_ble_eq_true rfl), (Nat.le_of_ble_eq_true rfl)⟩ dX8_coarse_23 rfl rfl (Nat.le_of_ble_eq_true rfl) (Nat.zero_le _) (Nat.zero_le _) ?_
  refine ja_ifB_eq (tgt := 36) dX8_coarse_26 (by decide) (fun c26 => absurd c26 (by decide)) (fun c26 => ?_)
  refine ja_iload_n (i := 3) dX8_coarse_29 rfl rfl ?_
  refine ja_cSr (st := []) (s_isAreaF l ha) rfl rfl (ce_X8_isArea 0 0) st_X8_isArea lk_X8_110 ⟨(Nat.le_of_ble_eq_true rfl), (Nat.le_of_ble_eq_true rfl)⟩ dX8_coarse_30 rfl rfl (Nat.le_of_ble_eq_true rfl) (Nat.zero_le _) (Nat.zero_le _) ?_
  refine ja_ifB_ne (tgt := 42) dX8_coarse_33 (by decide) (fun c33 => absurd c33 (by decide)) (fun c33 => ?_)
  refine ja_aload_n (i := 0) dX8_coarse_36 rfl rfl ?_
  refine ja_iconst (v := nI 2) dX8_coarse_37 (by decide +kernel) ?_
  refine ja_cVd (st := []) (s_fails l hz (nI (2))) rfl rfl (ce_X8_fails 0 0) im_X8_fails se_X8_fails lk_X8_96 k_X8 (zM_s hz) ⟨(Nat.le_of_ble_eq_true rfl), (Nat.le_of_ble_eq_true rfl)⟩ dX8_coarse_38 rfl rfl (Nat.le_of_ble_eq_true rfl) (Nat.zero_le _) (Nat.zero_le _) ?_
  intro D38 hD38
  subst hD38
  refine ja_num (D2 := ja_up D 100 0 (nI (2))) up_2 ?_
  refine ja_iret rfl rfl dX8_coarse_41 (Nat.zero_le _) (Nat.zero_le _) ?_
  exact ⟨rfl, rfl, rfl⟩

set_option maxRecDepth 100000 in
set_option maxHeartbeats 4000000 in
theorem r_coarse_f3 (l : Launch) {Z : jZ} {D : jD} (hz : zM Z) {ly a : Nat} (h1 : ly < 3) (h2 : a < 10){le : Nat} (hl1 : 1 ≤ le) (hl2 : le ≤ 256) (hs : cSz (D 105) ly (nI a) 256 = 0) : ja_M l (mX8_coarse 0 0) [.ref (100), .int (nI (ly)), .int (nI (le)), .int (nI (a))] Z D (ja_jd (some (.int (nI 0))) Z (fun D2 => D2 = ja_up D 100 0 (nI 3))) ja_x0 := by
  refine ja_Mof (lv := [some (.ref (100)), some (.int (nI (ly))), some (.int (nI (le))), some (.int (nI (a)))]) (by decide +kernel) rfl rfl (Nat.le_of_ble_eq_true rfl) rfl ?_
  refine ja_aload_n (i := 0) dX8_coarse_0 rfl rfl ?_
  refine ja_iconst (v := nI 0) dX8_coarse_1 (by decide +kernel) ?_
  refine ja_putI fl_X8_85 (zM_s hz) rfl rfl rfl dX8_coarse_2 ?_
  refine ja_iload_n (i := 1) dX8_coarse_5 rfl rfl ?_
  refine ja_cSr (st := []) (s_isLayerT l (by omega)) rfl rfl (ce_X8_isLayer 0 0) st_X8_isLayer lk_X8_106 ⟨(Nat.le_of_ble_eq_true rfl), (Nat.le_of_ble_eq_true rfl)⟩ dX8_coarse_6 rfl rfl (Nat.le_of_ble_eq_true rfl) (Nat.zero_le _) (Nat.zero_le _) ?_
  refine ja_ifB_ne (tgt := 18) dX8_coarse_9 (by decide) (fun c9 => ?_) (fun c9 => absurd c9 (by decide))
  refine ja_iload_n (i := 2) dX8_coarse_18 rfl rfl ?_
  refine ja_iconst (v := nI 1) dX8_coarse_19 (by decide +kernel) ?_
  refine ja_sipush (v := nI 256) dX8_coarse_20 (by decide +kernel) ?_
  refine ja_cSr (st := []) (s_inT l (le) 1 256 (by omega) (by omega) (by omega)) rfl rfl (ce_X8_in 0 0) st_X8_in lk_X8_88 ⟨(Nat.le_of_ble_eq_true rfl), (Nat.le_of_ble_eq_true rfl)⟩ dX8_coarse_23 rfl rfl (Nat.le_of_ble_eq_true rfl) (Nat.zero_le _) (Nat.zero_le _) ?_
  refine ja_ifB_eq (tgt := 36) dX8_coarse_26 (by decide) (fun c26 => absurd c26 (by decide)) (fun c26 => ?_)
  refine ja_iload_n (i := 3) dX8_coarse_29 rfl rfl ?_
  refine ja_cSr (st := []) (s_isAreaT l (by omega)) rfl rfl (ce_X8_isArea 0 0) st_X8_isArea lk_X8_110 ⟨(Nat.le_of_ble_eq_true rfl), (Nat.le_of_ble_eq_true rfl)⟩ dX8_coarse_30 rfl rfl (Nat.le_of_ble_eq_true rfl) (Nat.zero_le _) (Nat.zero_le _) ?_
  refine ja_ifB_ne (tgt := 42) dX8_coarse_33 (by decide) (fun c33 => ?_) (fun c33 => absurd c33 (by decide))
  refine ja_aload_n (i := 0) dX8_coarse_42 rfl rfl ?_
  refine ja_iload_n (i := 1) dX8_coarse_43 rfl rfl ?_
  refine ja_iload_n (i := 3) dX8_coarse_44 rfl rfl ?_
  refine ja_cVr (st := []) (s_sizeOf (D := (ja_up D 100 0 (nI (0)))) l hz (ly := ly) (by omega) (nI (a))) rfl rfl (ce_X8_sizeOf 0 0) im_X8_sizeOf se_X8_sizeOf lk_X8_103 k_X8 (zM_s hz) ⟨(Nat.le_of_ble_eq_true rfl), (Nat.le_of_ble_eq_true rfl)⟩ dX8_coarse_45 rfl rfl (Nat.le_of_ble_eq_true rfl) (Nat.zero_le _) (Nat.zero_le _) ?_
  refine ja_top (y := nI (0)) (congrArg nI hs) ?_
  refine ja_ifN_ne (tgt := 57) dX8_coarse_48 (by decide) (by omega) (fun c48 => absurd c48 (by decide)) (fun c48 => ?_)
  refine ja_aload_n (i := 0) dX8_coarse_51 rfl rfl ?_
  refine ja_iconst (v := nI 3) dX8_coarse_52 (by decide +kernel) ?_
  refine ja_cVd (st := []) (s_fails l hz (nI (3))) rfl rfl (ce_X8_fails 0 0) im_X8_fails se_X8_fails lk_X8_96 k_X8 (zM_s hz) ⟨(Nat.le_of_ble_eq_true rfl), (Nat.le_of_ble_eq_true rfl)⟩ dX8_coarse_53 rfl rfl (Nat.le_of_ble_eq_true rfl) (Nat.zero_le _) (Nat.zero_le _) ?_
  intro D53 hD53
  subst hD53
  refine ja_num (D2 := ja_up D 100 0 (nI (3))) up_2 ?_
  refine ja_iret rfl rfl dX8_coarse_56 (Nat.zero_le _) (Nat.zero_le _) ?_
  exact ⟨rfl, rfl, rfl⟩

set_option maxRecDepth 100000 in
set_option maxHeartbeats 4000000 in
theorem r_coarse_ok (l : Launch) {Z : jZ} {D : jD} (hz : zM Z) (hw : wfA (D 105)) {ly a : Nat} (h1 : ly < 3) (h2 : a < 10){le : Nat} (hl1 : 1 ≤ le) (hl2 : le ≤ 256) (hs : ¬ cSz (D 105) ly (nI a) 256 = 0) : ja_M l (mX8_coarse 0 0) [.ref (100), .int (nI (ly)), .int (nI (le)), .int (nI (a))] Z D (ja_jd (some (.int (crI (D 105) ly le 10 a))) Z (fun D2 => D2 = fnU (ja_up D 100 0 (nI 0)) 126 (crI (D 105) ly le 10) 10)) ja_x0 := by
  refine ja_Mof (lv := [some (.ref (100)), some (.int (nI (ly))), some (.int (nI (le))), some (.int (nI (a)))]) (by decide +kernel) rfl rfl (Nat.le_of_ble_eq_true rfl) rfl ?_
  refine ja_aload_n (i := 0) dX8_coarse_0 rfl rfl ?_
  refine ja_iconst (v := nI 0) dX8_coarse_1 (by decide +kernel) ?_
  refine ja_putI fl_X8_85 (zM_s hz) rfl rfl rfl dX8_coarse_2 ?_
  refine ja_iload_n (i := 1) dX8_coarse_5 rfl rfl ?_
  refine ja_cSr (st := []) (s_isLayerT l (by omega)) rfl rfl (ce_X8_isLayer 0 0) st_X8_isLayer lk_X8_106 ⟨(Nat.le_of_ble_eq_true rfl), (Nat.le_of_ble_eq_true rfl)⟩ dX8_coarse_6 rfl rfl (Nat.le_of_ble_eq_true rfl) (Nat.zero_le _) (Nat.zero_le _) ?_
  refine ja_ifB_ne (tgt := 18) dX8_coarse_9 (by decide) (fun c9 => ?_) (fun c9 => absurd c9 (by decide))
  refine ja_iload_n (i := 2) dX8_coarse_18 rfl rfl ?_
  refine ja_iconst (v := nI 1) dX8_coarse_19 (by decide +kernel) ?_
  refine ja_sipush (v := nI 256) dX8_coarse_20 (by decide +kernel) ?_
  refine ja_cSr (st := []) (s_inT l (le) 1 256 (by omega) (by omega) (by omega)) rfl rfl (ce_X8_in 0 0) st_X8_in lk_X8_88 ⟨(Nat.le_of_ble_eq_true rfl), (Nat.le_of_ble_eq_true rfl)⟩ dX8_coarse_23 rfl rfl (Nat.le_of_ble_eq_true rfl) (Nat.zero_le _) (Nat.zero_le _) ?_
  refine ja_ifB_eq (tgt := 36) dX8_coarse_26 (by decide) (fun c26 => absurd c26 (by decide)) (fun c26 => ?_)
  refine ja_iload_n (i := 3) dX8_coarse_29 rfl rfl ?_
  refine ja_cSr (st := []) (s_isAreaT l (by omega)) rfl rfl (ce_X8_isArea 0 0) st_X8_isArea lk_X8_110 ⟨(Nat.le_of_ble_eq_true rfl), (Nat.le_of_ble_eq_true rfl)⟩ dX8_coarse_30 rfl rfl (Nat.le_of_ble_eq_true rfl) (Nat.zero_le _) (Nat.zero_le _) ?_
  refine ja_ifB_ne (tgt := 42) dX8_coarse_33 (by decide) (fun c33 => ?_) (fun c33 => absurd c33 (by decide))
  refine ja_aload_n (i := 0) dX8_coarse_42 rfl rfl ?_
  refine ja_iload_n (i := 1) dX8_coarse_43 rfl rfl ?_
  refine ja_iload_n (i := 3) dX8_coarse_44 rfl rfl ?_
  refine ja_cVr (st := []) (s_sizeOf (D := (ja_up D 100 0 (nI (0)))) l hz (ly := ly) (by omega) (nI (a))) rfl rfl (ce_X8_sizeOf 0 0) im_X8_sizeOf se_X8_sizeOf lk_X8_103 k_X8 (zM_s hz) ⟨(Nat.le_of_ble_eq_true rfl), (Nat.le_of_ble_eq_true rfl)⟩ dX8_coarse_45 rfl rfl (Nat.le_of_ble_eq_true rfl) (Nat.zero_le _) (Nat.zero_le _) ?_
  have z1 := cSz_le ((ja_up D 100 0 (nI 0)) 105) ly (nI a) 256
  refine ja_ifN_ne (tgt := 57) dX8_coarse_48 (by decide) (by omega) (fun c48 => ?_) (fun c48 => absurd c48 hs)
  refine ja_aload_n (i := 0) dX8_coarse_57 rfl rfl ?_
  refine ja_iload_n (i := 1) dX8_coarse_58 rfl rfl ?_
  refine ja_iload_n (i := 2) dX8_coarse_59 rfl rfl ?_
  refine ja_cVd0 (st := []) (s_coarsens (D := (ja_up D 100 0 (nI (0)))) l hz hw (ly := ly) (le := le) (by omega) (by omega)) rfl rfl (ce_X8_coarsens 0 0) im_X8_coarsens se_X8_coarsens lk_X8_188 k_X8 (zM_s hz) ⟨(Nat.le_of_ble_eq_true rfl), (Nat.le_of_ble_eq_true rfl)⟩ dX8_coarse_60 rfl rfl (Nat.le_of_ble_eq_true rfl) (Nat.zero_le _) (Nat.zero_le _) ?_
  intro D60 hD60
  subst hD60
  refine ja_aload_n (i := 0) dX8_coarse_63 rfl rfl ?_
  refine ja_getR fl_X8_76 (zM_s hz) rfl (zM_p25 hz) dX8_coarse_64 ?_
  refine ja_iload_n (i := 3) dX8_coarse_67 rfl rfl ?_
  refine ja_iald (zM_a25 hz) rfl (by omega) (by decide) dX8_coarse_68 ?_
  refine ja_top (y := crI (D 105) ly le 10 a) (by rw [fnU, if_pos ⟨rfl, h2⟩]; rfl) ?_
  refine ja_iret rfl rfl dX8_coarse_69 (Nat.zero_le _) (Nat.zero_le _) ?_
  exact ⟨rfl, rfl, rfl⟩

set_option maxRecDepth 100000 in
set_option maxHeartbeats 4000000 in
theorem r_coarseAreas_f1 (l : Launch) {Z : jZ} {D : jD} (hz : zM Z) {ly : Int32} (le : Int32) (hl : ¬ (nI 0 ≤ ly ∧ ly ≤ nI 2)) : ja_M l (mX8_coarseAreas 0 0) [.ref (100), .int (ly), .int (le)] Z D (ja_jd (some (.int (nI 0))) Z (fun D2 => D2 = ja_up D 100 0 (nI 1))) ja_x0 := by
  refine ja_Mof (lv := [some (.ref (100)), some (.int (ly)), some (.int (le)), none, none]) (by decide +kernel) rfl rfl (Nat.le_of_ble_eq_true rfl) rfl ?_
  refine ja_aload_n (i := 0) dX8_coarseAreas_0 rfl rfl ?_
  refine ja_iconst (v := nI 0) dX8_coarseAreas_1 (by decide +kernel) ?_
  refine ja_putI fl_X8_85 (zM_s hz) rfl rfl rfl dX8_coarseAreas_2 ?_
  refine ja_iload_n (i := 1) dX8_coarseAreas_5 rfl rfl ?_
  refine ja_cSr (st := []) (s_isLayerF l hl) rfl rfl (ce_X8_isLayer 0 0) st_X8_isLayer lk_X8_106 ⟨(Nat.le_of_ble_eq_true rfl), (Nat.le_of_ble_eq_true rfl)⟩ dX8_coarseAreas_6 rfl rfl (Nat.le_of_ble_eq_true rfl) (Nat.zero_le _) (Nat.zero_le _) ?_
  refine ja_ifB_ne (tgt := 18) dX8_coarseAreas_9 (by decide) (fun c9 => absurd c9 (by decide)) (fun c9 => ?_)
  refine ja_aload_n (i := 0) dX8_coarseAreas_12 rfl rfl ?_
  refine ja_iconst (v := nI 1) dX8_coarseAreas_13 (by decide +kernel) ?_
  refine ja_cVd (st := []) (s_fails l hz (nI (1))) rfl rfl (ce_X8_fails 0 0) im_X8_fails se_X8_fails lk_X8_96 k_X8 (zM_s hz) ⟨(Nat.le_of_ble_eq_true rfl), (Nat.le_of_ble_eq_true rfl)⟩ dX8_coarseAreas_14 rfl rfl (Nat.le_of_ble_eq_true rfl) (Nat.zero_le _) (Nat.zero_le _) ?_
  intro D14 hD14
  subst hD14
  refine ja_num (D2 := ja_up D 100 0 (nI (1))) up_2 ?_
  refine ja_iret rfl rfl dX8_coarseAreas_17 (Nat.zero_le _) (Nat.zero_le _) ?_
  exact ⟨rfl, rfl, rfl⟩

set_option maxRecDepth 100000 in
set_option maxHeartbeats 4000000 in
theorem r_coarseAreas_f2 (l : Launch) {Z : jZ} {D : jD} (hz : zM Z) {ly : Nat} (h1 : ly < 3) {le : Int32} (hle : ¬ (nI 1 ≤ le ∧ le ≤ nI 256))  : ja_M l (mX8_coarseAreas 0 0) [.ref (100), .int (nI (ly)), .int (le)] Z D (ja_jd (some (.int (nI 0))) Z (fun D2 => D2 = ja_up D 100 0 (nI 2))) ja_x0 := by
  refine ja_Mof (lv := [some (.ref (100)), some (.int (nI (ly))), some (.int (le)), none, none]) (by decide +kernel) rfl rfl (Nat.le_of_ble_eq_true rfl) rfl ?_
  refine ja_aload_n (i := 0) dX8_coarseAreas_0 rfl rfl ?_
  refine ja_iconst (v := nI 0) dX8_coarseAreas_1 (by decide +kernel) ?_
  refine ja_putI fl_X8_85 (zM_s hz) rfl rfl rfl dX8_coarseAreas_2 ?_
  refine ja_iload_n (i := 1) dX8_coarseAreas_5 rfl rfl ?_
  refine ja_cSr (st := []) (s_isLayerT l (by omega)) rfl rfl (ce_X8_isLayer 0 0) st_X8_isLayer lk_X8_106 ⟨(Nat.le_of_ble_eq_true rfl), (Nat.le_of_ble_eq_true rfl)⟩ dX8_coarseAreas_6 rfl rfl (Nat.le_of_ble_eq_true rfl) (Nat.zero_le _) (Nat.zero_le _) ?_
  refine ja_ifB_ne (tgt := 18) dX8_coarseAreas_9 (by decide) (fun c9 => ?_) (fun c9 => absurd c9 (by decide))
  refine ja_iload_n (i := 2) dX8_coarseAreas_18 rfl rfl ?_
  refine ja_iconst (v := nI 1) dX8_coarseAreas_19 (by decide +kernel) ?_
  refine ja_sipush (v := nI 256) dX8_coarseAreas_20 (by decide +kernel) ?_
  refine ja_cSr (st := []) (s_inF l (le) (nI (1)) (nI (256)) hle) rfl rfl (ce_X8_in 0 0) st_X8_in lk_X8_88 ⟨(Nat.le_of_ble_eq_true rfl), (Nat.le_of_ble_eq_true rfl)⟩ dX8_coarseAreas_23 rfl rfl (Nat.le_of_ble_eq_true rfl) (Nat.zero_le _) (Nat.zero_le _) ?_
  refine ja_ifB_ne (tgt := 35) dX8_coarseAreas_26 (by decide) (fun c26 => absurd c26 (by decide)) (fun c26 => ?_)
  refine ja_aload_n (i := 0) dX8_coarseAreas_29 rfl rfl ?_
  refine ja_iconst (v := nI 2) dX8_coarseAreas_30 (by decide +kernel) ?_
  refine ja_cVd (st := []) (s_fails l hz (nI (2))) rfl rfl (ce_X8_fails 0 0) im_X8_fails se_X8_fails lk_X8_96 k_X8 (zM_s hz) ⟨(Nat.le_of_ble_eq_true rfl), (Nat.le_of_ble_eq_true rfl)⟩ dX8_coarseAreas_31 rfl rfl (Nat.le_of_ble_eq_true rfl) (Nat.zero_le _) (Nat.zero_le _) ?_
  intro D31 hD31
  subst hD31
  refine ja_num (D2 := ja_up D 100 0 (nI (2))) up_2 ?_
  refine ja_iret rfl rfl dX8_coarseAreas_34 (Nat.zero_le _) (Nat.zero_le _) ?_
  exact ⟨rfl, rfl, rfl⟩

set_option maxRecDepth 100000 in
set_option maxHeartbeats 4000000 in
theorem r_coarseAreas_ok (l : Launch) {Z : jZ} {D : jD} (hz : zM Z) (hw : wfA (D 105)) {ly : Nat} (h1 : ly < 3) {le : Nat} (hl1 : 1 ≤ le) (hl2 : le ≤ 256)  : ja_M l (mX8_coarseAreas 0 0) [.ref (100), .int (nI (ly)), .int (nI (le))] Z D (ja_jd (some (.int (nI (cnz (D 105) (crI (D 105) ly le 10) ly)))) Z (fun D2 => D2 = fnU (ja_up D 100 0 (nI 0)) 126 (crI (D 105) ly le 10) 10)) ja_x0 := by
  refine ja_Mof (lv := [some (.ref (100)), some (.int (nI (ly))), some (.int (nI (le))), none, none]) (by decide +kernel) rfl rfl (Nat.le_of_ble_eq_true rfl) rfl ?_
  refine ja_aload_n (i := 0) dX8_coarseAreas_0 rfl rfl ?_
  refine ja_iconst (v := nI 0) dX8_coarseAreas_1 (by decide +kernel) ?_
  refine ja_putI fl_X8_85 (zM_s hz) rfl rfl rfl dX8_coarseAreas_2 ?_
  refine ja_iload_n (i := 1) dX8_coarseAreas_5 rfl rfl ?_
  refine ja_cSr (st := []) (s_isLayerT l (by omega)) rfl rfl (ce_X8_isLayer 0 0) st_X8_isLayer lk_X8_106 ⟨(Nat.le_of_ble_eq_true rfl), (Nat.le_of_ble_eq_true rfl)⟩ dX8_coarseAreas_6 rfl rfl (Nat.le_of_ble_eq_true rfl) (Nat.zero_le _) (Nat.zero_le _) ?_
  refine ja_ifB_ne (tgt := 18) dX8_coarseAreas_9 (by decide) (fun c9 => ?_) (fun c9 => absurd c9 (by decide))
  refine ja_iload_n (i := 2) dX8_coarseAreas_18 rfl rfl ?_
  refine ja_iconst (v := nI 1) dX8_coarseAreas_19 (by decide +kernel) ?_
  refine ja_sipush (v := nI 256) dX8_coarseAreas_20 (by decide +kernel) ?_
  refine ja_cSr (st := []) (s_inT l (le) 1 256 (by omega) (by omega) (by omega)) rfl rfl (ce_X8_in 0 0) st_X8_in lk_X8_88 ⟨(Nat.le_of_ble_eq_true rfl), (Nat.le_of_ble_eq_true rfl)⟩ dX8_coarseAreas_23 rfl rfl (Nat.le_of_ble_eq_true rfl) (Nat.zero_le _) (Nat.zero_le _) ?_
  refine ja_ifB_ne (tgt := 35) dX8_coarseAreas_26 (by decide) (fun c26 => ?_) (fun c26 => absurd c26 (by decide))
  refine ja_aload_n (i := 0) dX8_coarseAreas_35 rfl rfl ?_
  refine ja_iload_n (i := 1) dX8_coarseAreas_36 rfl rfl ?_
  refine ja_iload_n (i := 2) dX8_coarseAreas_37 rfl rfl ?_
  refine ja_cVd0 (st := []) (s_coarsens (D := (ja_up D 100 0 (nI (0)))) l hz hw (ly := ly) (le := le) (by omega) (by omega)) rfl rfl (ce_X8_coarsens 0 0) im_X8_coarsens se_X8_coarsens lk_X8_188 k_X8 (zM_s hz) ⟨(Nat.le_of_ble_eq_true rfl), (Nat.le_of_ble_eq_true rfl)⟩ dX8_coarseAreas_38 rfl rfl (Nat.le_of_ble_eq_true rfl) (Nat.zero_le _) (Nat.zero_le _) ?_
  intro D38 hD38
  subst hD38
  have hwE : wfA ((fnU (ja_up D 100 0 (nI (0))) 126 (crI ((ja_up D 100 0 (nI (0))) 105) ly le 10) 10) 105) := by rw [show (fnU (ja_up D 100 0 (nI (0))) 126 (crI ((ja_up D 100 0 (nI (0))) 105) ly le 10) 10) 105 = D 105 from funext fun _ => (fnU_o (by decide)).trans rfl]; exact hw
  refine ja_iconst (v := nI 0) dX8_coarseAreas_41 (by decide +kernel) ?_
  refine ja_istore_n (i := 3) dX8_coarseAreas_42 rfl rfl (Nat.le_of_ble_eq_true rfl) ?_
  refine ja_iconst (v := nI 0) dX8_coarseAreas_43 (by decide +kernel) ?_
  refine ja_istore (i := 4) dX8_coarseAreas_44 rfl (Nat.le_of_ble_eq_true rfl) ?_
  have lp46 : ∀ (f46 : Nat) (a n : Nat), (10 < a + f46) → (a ≤ 10) → (n = fb_ct (fun a => decide (0 < cz (D 105) (crI (D 105) ly le 10) ly a)) a) → ja_A l (mX8_coarseAreas 0 0) ja_sn (ja_Qf (mX8_coarseAreas 0 0) (ja_jd (some (.int (nI (cnz (D 105) (crI (D 105) ly le 10) ly)))) Z (fun D2 => D2 = fnU (ja_up D 100 0 (nI 0)) 126 (crI (D 105) ly le 10) 10)) ja_x0) 46 [some (.ref (100)), some (.int (nI (ly))), some (.int (nI (le))), some (.int (nI (n))), some (.int (nI (a)))] [] Z (fnU (ja_up D 100 0 (nI (0))) 126 (crI ((ja_up D 100 0 (nI (0))) 105) ly le 10) 10) 0 0 := by
    intro f46
    induction f46 with
    | zero => intro a n hf ha hn; exfalso; omega
    | succ f46 ih46 =>
      intro a n hf ha hn
      have hza := cz_le (D 105) (crI (D 105) ly le 10) ly a
      refine ja_iload (i := 4) dX8_coarseAreas_46 rfl ?_
      refine ja_bipush (v := nI 10) dX8_coarseAreas_48 (by decide +kernel) ?_
      refine ja_icmpN_ge (tgt := 77) dX8_coarseAreas_50 (by decide) (by omega) (by omega) (fun c50 => ?_) (fun c50 => ?_)
      ·
        refine ja_iload_n (i := 3) dX8_coarseAreas_77 rfl rfl ?_
        refine ja_iret rfl rfl dX8_coarseAreas_78 (Nat.zero_le _) (Nat.zero_le _) ?_
        exact ⟨by rw [hn, show a = 10 by omega]; rfl, rfl, rfl⟩
      ·
        refine ja_iload_n (i := 3) dX8_coarseAreas_53 rfl rfl ?_
        refine ja_aload_n (i := 0) dX8_coarseAreas_54 rfl rfl ?_
        refine ja_iload_n (i := 1) dX8_coarseAreas_55 rfl rfl ?_
        refine ja_iload (i := 4) dX8_coarseAreas_56 rfl ?_
        refine ja_cVr (st := [.int (nI (n))]) (s_coarseSize (D := (fnU (ja_up D 100 0 (nI (0))) 126 (crI ((ja_up D 100 0 (nI (0))) 105) ly le 10) 10)) l hz hwE (ly := ly) (by omega) (nI (a))) rfl rfl (ce_X8_coarseSize 0 0) im_X8_coarseSize se_X8_coarseSize lk_X8_183 k_X8 (zM_s hz) ⟨(Nat.le_of_ble_eq_true rfl), (Nat.le_of_ble_eq_true rfl)⟩ dX8_coarseAreas_58 rfl rfl (Nat.le_of_ble_eq_true rfl) (Nat.zero_le _) (Nat.zero_le _) ?_
        refine ja_top (y := nI (cz (D 105) (crI (D 105) ly le 10) ly a)) (congrArg nI (cz_cg (D := (ja_up D 100 0 (nI 0))) (J := crI (D 105) ly le 10) hw h1)) ?_
        refine ja_ifN_le (tgt := 68) dX8_coarseAreas_61 (by decide) (by omega) (fun c61 => ?_) (fun c61 => ?_)
        ·
          refine ja_iconst (v := nI 0) dX8_coarseAreas_68 (by decide +kernel) ?_
          refine ja_iaddN dX8_coarseAreas_69 ?_
          refine ja_istore_n (i := 3) dX8_coarseAreas_70 rfl rfl (Nat.le_of_ble_eq_true rfl) ?_
          refine ja_iincN dX8_coarseAreas_71 rfl rfl (Nat.le_of_ble_eq_true rfl) ?_
          refine ja_goto (tgt := 46) dX8_coarseAreas_74 (by decide) ?_
          exact ih46 (a + 1) _ (by omega) (by omega) (by rw [hn, fb_ct_succ]; first | rw [if_pos (decide_eq_true (show 0 < cz (D 105) (crI (D 105) ly le 10) ly a by omega))] | rw [if_neg (by rw [decide_eq_false (show ¬ 0 < cz (D 105) (crI (D 105) ly le 10) ly a by omega)]; decide)])
        ·
          refine ja_iconst (v := nI 1) dX8_coarseAreas_64 (by decide +kernel) ?_
          refine ja_goto (tgt := 69) dX8_coarseAreas_65 (by decide) ?_
          refine ja_iaddN dX8_coarseAreas_69 ?_
          refine ja_istore_n (i := 3) dX8_coarseAreas_70 rfl rfl (Nat.le_of_ble_eq_true rfl) ?_
          refine ja_iincN dX8_coarseAreas_71 rfl rfl (Nat.le_of_ble_eq_true rfl) ?_
          refine ja_goto (tgt := 46) dX8_coarseAreas_74 (by decide) ?_
          exact ih46 (a + 1) _ (by omega) (by omega) (by rw [hn, fb_ct_succ]; first | rw [if_pos (decide_eq_true (show 0 < cz (D 105) (crI (D 105) ly le 10) ly a by omega))] | rw [if_neg (by rw [decide_eq_false (show ¬ 0 < cz (D 105) (crI (D 105) ly le 10) ly a by omega)]; decide)])
  exact lp46 11 0 0 (by omega) (by omega) rfl

set_option maxRecDepth 100000 in
set_option maxHeartbeats 4000000 in
theorem r_meanPiece_f1 (l : Launch) {Z : jZ} {D : jD} (hz : zM Z) {x y : Int32} (hal : ¬ areL x y)  : ja_M l (mX8_meanPiece 0 0) [.ref (100), .int (x), .int (y)] Z D (ja_jd (some (.double (FP.dconst0))) Z (fun D2 => D2 = ja_up D 100 0 (nI 1))) ja_x0 := by
  refine ja_Mof (lv := [some (.ref (100)), some (.int (x)), some (.int (y)), none, none, none]) (by decide +kernel) rfl rfl (Nat.le_of_ble_eq_true rfl) rfl ?_
  refine ja_aload_n (i := 0) dX8_meanPiece_0 rfl rfl ?_
  refine ja_iload_n (i := 1) dX8_meanPiece_1 rfl rfl ?_
  refine ja_iload_n (i := 2) dX8_meanPiece_2 rfl rfl ?_
  refine ja_cSr (st := [.ref (100)]) (s_areLayersF l hal) rfl rfl (ce_X8_areLayers 0 0) st_X8_areLayers lk_X8_164 ⟨(Nat.le_of_ble_eq_true rfl), (Nat.le_of_ble_eq_true rfl)⟩ dX8_meanPiece_3 rfl rfl (Nat.le_of_ble_eq_true rfl) (Nat.zero_le _) (Nat.zero_le _) ?_
  refine ja_ifB_eq (tgt := 13) dX8_meanPiece_6 (by decide) (fun c6 => ?_) (fun c6 => absurd c6 (by decide))
  refine ja_iconst (v := nI 1) dX8_meanPiece_13 (by decide +kernel) ?_
  refine ja_putI fl_X8_85 (zM_s hz) rfl rfl rfl dX8_meanPiece_14 ?_
  refine ja_aload_n (i := 0) dX8_meanPiece_17 rfl rfl ?_
  refine ja_getI fl_X8_85 (zM_s hz) rfl dX8_meanPiece_18 ?_
  refine ja_top (y := nI (1)) up_s ?_
  refine ja_ifN_le (tgt := 26) dX8_meanPiece_21 (by decide) (by omega) (fun c21 => absurd c21 (by decide)) (fun c21 => ?_)
  refine ja_dconst0 dX8_meanPiece_24 ?_
  refine ja_dret rfl dX8_meanPiece_25 (Nat.zero_le _) (Nat.zero_le _) ?_
  exact ⟨rfl, rfl, rfl⟩

set_option maxRecDepth 100000 in
set_option maxHeartbeats 4000000 in
theorem r_meanPiece_f2 (l : Launch) {Z : jZ} {D : jD} (hz : zM Z) {l1 l2 : Nat} (h1 : l1 < 3) (h2 : l2 < 3) (h3 : l1 ≠ l2) (h0 : (ovP (ja_up D 100 0 (nI 0)) l1 l2).2 = 0) : ja_M l (mX8_meanPiece 0 0) [.ref (100), .int (nI (l1)), .int (nI (l2))] Z D (ja_jd (some (.double (FP.dconst0))) Z (fun D2 => D2 = ja_up (ovR (ja_up D 100 0 (nI 0)) l1 l2) 100 0 (nI 2))) ja_x0 := by
  refine ja_Mof (lv := [some (.ref (100)), some (.int (nI (l1))), some (.int (nI (l2))), none, none, none]) (by decide +kernel) rfl rfl (Nat.le_of_ble_eq_true rfl) rfl ?_
  refine ja_aload_n (i := 0) dX8_meanPiece_0 rfl rfl ?_
  refine ja_iload_n (i := 1) dX8_meanPiece_1 rfl rfl ?_
  refine ja_iload_n (i := 2) dX8_meanPiece_2 rfl rfl ?_
  refine ja_cSr (st := [.ref (100)]) (s_areLayersT l (by omega) (by omega) (by omega)) rfl rfl (ce_X8_areLayers 0 0) st_X8_areLayers lk_X8_164 ⟨(Nat.le_of_ble_eq_true rfl), (Nat.le_of_ble_eq_true rfl)⟩ dX8_meanPiece_3 rfl rfl (Nat.le_of_ble_eq_true rfl) (Nat.zero_le _) (Nat.zero_le _) ?_
  refine ja_ifB_eq (tgt := 13) dX8_meanPiece_6 (by decide) (fun c6 => absurd c6 (by decide)) (fun c6 => ?_)
  refine ja_iconst (v := nI 0) dX8_meanPiece_9 (by decide +kernel) ?_
  refine ja_goto (tgt := 14) dX8_meanPiece_10 (by decide) ?_
  refine ja_putI fl_X8_85 (zM_s hz) rfl rfl rfl dX8_meanPiece_14 ?_
  refine ja_aload_n (i := 0) dX8_meanPiece_17 rfl rfl ?_
  refine ja_getI fl_X8_85 (zM_s hz) rfl dX8_meanPiece_18 ?_
  refine ja_top (y := nI (0)) up_s ?_
  refine ja_ifN_le (tgt := 26) dX8_meanPiece_21 (by decide) (by omega) (fun c21 => ?_) (fun c21 => absurd c21 (by decide))
  refine ja_aload_n (i := 0) dX8_meanPiece_26 rfl rfl ?_
  refine ja_iload_n (i := 1) dX8_meanPiece_27 rfl rfl ?_
  refine ja_iload_n (i := 2) dX8_meanPiece_28 rfl rfl ?_
  refine ja_cVd (st := []) (s_overlay (D := (ja_up D 100 0 (nI (0)))) l hz (l1 := l1) (l2 := l2) (by omega) (by omega)) rfl rfl (ce_X8_overlay 0 0) im_X8_overlay se_X8_overlay lk_X8_167 k_X8 (zM_s hz) ⟨(Nat.le_of_ble_eq_true rfl), (Nat.le_of_ble_eq_true rfl)⟩ dX8_meanPiece_29 rfl rfl (Nat.le_of_ble_eq_true rfl) (Nat.zero_le _) (Nat.zero_le _) ?_
  intro D29 hD29
  subst hD29
  have hov := ovP_le (ja_up D 100 0 (nI (0))) l1 l2
  refine ja_istore_n (i := 3) dX8_meanPiece_32 rfl rfl (Nat.le_of_ble_eq_true rfl) ?_
  refine ja_iconst (v := nI 0) dX8_meanPiece_33 (by decide +kernel) ?_
  refine ja_istore (i := 4) dX8_meanPiece_34 rfl (Nat.le_of_ble_eq_true rfl) ?_
  refine ja_iconst (v := nI 0) dX8_meanPiece_36 (by decide +kernel) ?_
  refine ja_istore (i := 5) dX8_meanPiece_37 rfl (Nat.le_of_ble_eq_true rfl) ?_
  have lp39 : ∀ (f39 : Nat) (q n : Nat), (256 < q + f39) → (q ≤ 256) → (n = fb_ct (fun q => decide (¬ (ovP (ja_up D 100 0 (nI 0)) l1 l2).1 q = -1)) q) → ja_A l (mX8_meanPiece 0 0) ja_sn (ja_Qf (mX8_meanPiece 0 0) (ja_jd (some (.double (FP.dconst0))) Z (fun D2 => D2 = ja_up (ovR (ja_up D 100 0 (nI 0)) l1 l2) 100 0 (nI 2))) ja_x0) 39 [some (.ref (100)), some (.int (nI (l1))), some (.int (nI (l2))), some (.int (nI ((ovP (ja_up D 100 0 (nI 0)) l1 l2).2))), some (.int (nI (n))), some (.int (nI (q)))] [] Z (ovR (ja_up D 100 0 (nI (0))) l1 l2) 0 0 := by
    intro f39
    induction f39 with
    | zero => intro q n hf hq hn; exfalso; omega
    | succ f39 ih39 =>
      intro q n hf hq hn
      refine ja_iload (i := 5) dX8_meanPiece_39 rfl ?_
      refine ja_sipush (v := nI 256) dX8_meanPiece_41 (by decide +kernel) ?_
      refine ja_icmpN_ge (tgt := 74) dX8_meanPiece_44 (by decide) (by omega) (by omega) (fun c44 => ?_) (fun c44 => ?_)
      ·
        refine ja_aload_n (i := 0) dX8_meanPiece_74 rfl rfl ?_
        refine ja_iload_n (i := 3) dX8_meanPiece_75 rfl rfl ?_
        refine ja_ifN_ne (tgt := 83) dX8_meanPiece_76 (by decide) (by omega) (fun c76 => absurd h0 c76) (fun c76 => ?_)
        refine ja_iconst (v := nI 2) dX8_meanPiece_79 (by decide +kernel) ?_
        refine ja_goto (tgt := 84) dX8_meanPiece_80 (by decide) ?_
        refine ja_putI fl_X8_85 (zM_s hz) rfl rfl rfl dX8_meanPiece_84 ?_
        refine ja_aload_n (i := 0) dX8_meanPiece_87 rfl rfl ?_
        refine ja_getI fl_X8_85 (zM_s hz) rfl dX8_meanPiece_88 ?_
        refine ja_top (y := nI (2)) up_s ?_
        refine ja_ifN_le (tgt := 98) dX8_meanPiece_91 (by decide) (by omega) (fun c91 => absurd c91 (by decide)) (fun c91 => ?_)
        refine ja_dconst0 dX8_meanPiece_94 ?_
        refine ja_goto (tgt := 104) dX8_meanPiece_95 (by decide) ?_
        refine ja_dret rfl dX8_meanPiece_104 (Nat.zero_le _) (Nat.zero_le _) ?_
        exact ⟨rfl, rfl, rfl⟩
      ·
        refine ja_iload (i := 4) dX8_meanPiece_47 rfl ?_
        refine ja_aload_n (i := 0) dX8_meanPiece_49 rfl rfl ?_
        refine ja_getR fl_X8_64 (zM_s hz) rfl (zM_p21 hz) dX8_meanPiece_50 ?_
        refine ja_iload (i := 5) dX8_meanPiece_53 rfl ?_
        refine ja_iald (zM_a21 hz) rfl (by omega) (by decide) dX8_meanPiece_55 ?_
        refine ja_top (y := (ovP (ja_up D 100 0 (nI 0)) l1 l2).1 q) (ovR_p (by omega)) ?_
        refine ja_iconst (v := (-1)) dX8_meanPiece_56 (by decide +kernel) ?_
        refine ja_icmp_ne (tgt := 64) dX8_meanPiece_57 (by decide) (fun c57 => ?_) (fun c57 => ?_)
        ·
          refine ja_iconst (v := nI 1) dX8_meanPiece_64 (by decide +kernel) ?_
          refine ja_iaddN dX8_meanPiece_65 ?_
          refine ja_istore (i := 4) dX8_meanPiece_66 rfl (Nat.le_of_ble_eq_true rfl) ?_
          refine ja_iincN dX8_meanPiece_68 rfl rfl (Nat.le_of_ble_eq_true rfl) ?_
          refine ja_goto (tgt := 39) dX8_meanPiece_71 (by decide) ?_
          exact ih39 (q + 1) _ (by omega) (by omega) (by rw [hn, fb_ct_succ]; simp [c57])
        ·
          refine ja_iconst (v := nI 0) dX8_meanPiece_60 (by decide +kernel) ?_
          refine ja_goto (tgt := 65) dX8_meanPiece_61 (by decide) ?_
          refine ja_iaddN dX8_meanPiece_65 ?_
          refine ja_istore (i := 4) dX8_meanPiece_66 rfl (Nat.le_of_ble_eq_true rfl) ?_
          refine ja_iincN dX8_meanPiece_68 rfl rfl (Nat.le_of_ble_eq_true rfl) ?_
          refine ja_goto (tgt := 39) dX8_meanPiece_71 (by decide) ?_
          exact ih39 (q + 1) _ (by omega) (by omega) (by rw [hn, fb_ct_succ]; simp [c57])
  exact lp39 257 0 0 (by omega) (by omega) rfl

set_option maxRecDepth 100000 in
set_option maxHeartbeats 4000000 in
theorem r_meanPiece_ok (l : Launch) {Z : jZ} {D : jD} (hz : zM Z) {l1 l2 : Nat} (h1 : l1 < 3) (h2 : l2 < 3) (h3 : l1 ≠ l2) (h0 : ¬ (ovP (ja_up D 100 0 (nI 0)) l1 l2).2 = 0) (hnn : ∀ a b, a ≤ 256 → 0 < b → b ≤ 256 → vf_n64 (FP.ddiv (FP.i2d (nI a)) (FP.i2d (nI b)))) : ja_M l (mX8_meanPiece 0 0) [.ref (100), .int (nI (l1)), .int (nI (l2))] Z D (ja_jd (some (.double (FP.ddiv (FP.i2d (nI (fb_ct (fun q => decide (¬ (ovP (ja_up D 100 0 (nI 0)) l1 l2).1 q = -1)) 256))) (FP.i2d (nI (ovP (ja_up D 100 0 (nI 0)) l1 l2).2))))) Z (fun D2 => D2 = ja_up (ovR (ja_up D 100 0 (nI 0)) l1 l2) 100 0 (nI 0))) ja_x0 := by
  refine ja_Mof (lv := [some (.ref (100)), some (.int (nI (l1))), some (.int (nI (l2))), none, none, none]) (by decide +kernel) rfl rfl (Nat.le_of_ble_eq_true rfl) rfl ?_
  refine ja_aload_n (i := 0) dX8_meanPiece_0 rfl rfl ?_
  refine ja_iload_n (i := 1) dX8_meanPiece_1 rfl rfl ?_
  refine ja_iload_n (i := 2) dX8_meanPiece_2 rfl rfl ?_
  refine ja_cSr (st := [.ref (100)]) (s_areLayersT l (by omega) (by omega) (by omega)) rfl rfl (ce_X8_areLayers 0 0) st_X8_areLayers lk_X8_164 ⟨(Nat.le_of_ble_eq_true rfl), (Nat.le_of_ble_eq_true rfl)⟩ dX8_meanPiece_3 rfl rfl (Nat.le_of_ble_eq_true rfl) (Nat.zero_le _) (Nat.zero_le _) ?_
  refine ja_ifB_eq (tgt := 13) dX8_meanPiece_6 (by decide) (fun c6 => absurd c6 (by decide)) (fun c6 => ?_)
  refine ja_iconst (v := nI 0) dX8_meanPiece_9 (by decide +kernel) ?_
  refine ja_goto (tgt := 14) dX8_meanPiece_10 (by decide) ?_
  refine ja_putI fl_X8_85 (zM_s hz) rfl rfl rfl dX8_meanPiece_14 ?_
  refine ja_aload_n (i := 0) dX8_meanPiece_17 rfl rfl ?_
  refine ja_getI fl_X8_85 (zM_s hz) rfl dX8_meanPiece_18 ?_
  refine ja_top (y := nI (0)) up_s ?_
  refine ja_ifN_le (tgt := 26) dX8_meanPiece_21 (by decide) (by omega) (fun c21 => ?_) (fun c21 => absurd c21 (by decide))
  refine ja_aload_n (i := 0) dX8_meanPiece_26 rfl rfl ?_
  refine ja_iload_n (i := 1) dX8_meanPiece_27 rfl rfl ?_
  refine ja_iload_n (i := 2) dX8_meanPiece_28 rfl rfl ?_
  refine ja_cVd (st := []) (s_overlay (D := (ja_up D 100 0 (nI (0)))) l hz (l1 := l1) (l2 := l2) (by omega) (by omega)) rfl rfl (ce_X8_overlay 0 0) im_X8_overlay se_X8_overlay lk_X8_167 k_X8 (zM_s hz) ⟨(Nat.le_of_ble_eq_true rfl), (Nat.le_of_ble_eq_true rfl)⟩ dX8_meanPiece_29 rfl rfl (Nat.le_of_ble_eq_true rfl) (Nat.zero_le _) (Nat.zero_le _) ?_
  intro D29 hD29
  subst hD29
  have hov := ovP_le (ja_up D 100 0 (nI (0))) l1 l2
  refine ja_istore_n (i := 3) dX8_meanPiece_32 rfl rfl (Nat.le_of_ble_eq_true rfl) ?_
  refine ja_iconst (v := nI 0) dX8_meanPiece_33 (by decide +kernel) ?_
  refine ja_istore (i := 4) dX8_meanPiece_34 rfl (Nat.le_of_ble_eq_true rfl) ?_
  refine ja_iconst (v := nI 0) dX8_meanPiece_36 (by decide +kernel) ?_
  refine ja_istore (i := 5) dX8_meanPiece_37 rfl (Nat.le_of_ble_eq_true rfl) ?_
  have lp39 : ∀ (f39 : Nat) (q n : Nat), (256 < q + f39) → (q ≤ 256) → (n = fb_ct (fun q => decide (¬ (ovP (ja_up D 100 0 (nI 0)) l1 l2).1 q = -1)) q) → ja_A l (mX8_meanPiece 0 0) ja_sn (ja_Qf (mX8_meanPiece 0 0) (ja_jd (some (.double (FP.ddiv (FP.i2d (nI (fb_ct (fun q => decide (¬ (ovP (ja_up D 100 0 (nI 0)) l1 l2).1 q = -1)) 256))) (FP.i2d (nI (ovP (ja_up D 100 0 (nI 0)) l1 l2).2))))) Z (fun D2 => D2 = ja_up (ovR (ja_up D 100 0 (nI 0)) l1 l2) 100 0 (nI 0))) ja_x0) 39 [some (.ref (100)), some (.int (nI (l1))), some (.int (nI (l2))), some (.int (nI ((ovP (ja_up D 100 0 (nI 0)) l1 l2).2))), some (.int (nI (n))), some (.int (nI (q)))] [] Z (ovR (ja_up D 100 0 (nI (0))) l1 l2) 0 0 := by
    intro f39
    induction f39 with
    | zero => intro q n hf hq hn; exfalso; omega
    | succ f39 ih39 =>
      intro q n hf hq hn
      refine ja_iload (i := 5) dX8_meanPiece_39 rfl ?_
      refine ja_sipush (v := nI 256) dX8_meanPiece_41 (by decide +kernel) ?_
      refine ja_icmpN_ge (tgt := 74) dX8_meanPiece_44 (by decide) (by omega) (by omega) (fun c44 => ?_) (fun c44 => ?_)
      ·
        refine ja_aload_n (i := 0) dX8_meanPiece_74 rfl rfl ?_
        refine ja_iload_n (i := 3) dX8_meanPiece_75 rfl rfl ?_
        refine ja_ifN_ne (tgt := 83) dX8_meanPiece_76 (by decide) (by omega) (fun c76 => ?_) (fun c76 => absurd c76 h0)
        refine ja_iconst (v := nI 0) dX8_meanPiece_83 (by decide +kernel) ?_
        refine ja_putI fl_X8_85 (zM_s hz) rfl rfl rfl dX8_meanPiece_84 ?_
        refine ja_aload_n (i := 0) dX8_meanPiece_87 rfl rfl ?_
        refine ja_getI fl_X8_85 (zM_s hz) rfl dX8_meanPiece_88 ?_
        refine ja_top (y := nI (0)) up_s ?_
        refine ja_ifN_le (tgt := 98) dX8_meanPiece_91 (by decide) (by omega) (fun c91 => ?_) (fun c91 => absurd c91 (by decide))
        refine ja_iload (i := 4) dX8_meanPiece_98 rfl ?_
        refine ja_i2d dX8_meanPiece_100 ?_
        refine ja_iload_n (i := 3) dX8_meanPiece_101 rfl rfl ?_
        refine ja_i2d dX8_meanPiece_102 ?_
        refine ja_ddiv dX8_meanPiece_103 (hnn _ _ (by rw [hn]; exact Nat.le_trans (fb_ct_le _ _) hq) (by omega) (by omega)) ?_
        refine ja_dret rfl dX8_meanPiece_104 (Nat.zero_le _) (Nat.zero_le _) ?_
        exact ⟨by rw [hn, show q = 256 by omega], rfl, rfl⟩
      ·
        refine ja_iload (i := 4) dX8_meanPiece_47 rfl ?_
        refine ja_aload_n (i := 0) dX8_meanPiece_49 rfl rfl ?_
        refine ja_getR fl_X8_64 (zM_s hz) rfl (zM_p21 hz) dX8_meanPiece_50 ?_
        refine ja_iload (i := 5) dX8_meanPiece_53 rfl ?_
        refine ja_iald (zM_a21 hz) rfl (by omega) (by decide) dX8_meanPiece_55 ?_
        refine ja_top (y := (ovP (ja_up D 100 0 (nI 0)) l1 l2).1 q) (ovR_p (by omega)) ?_
        refine ja_iconst (v := (-1)) dX8_meanPiece_56 (by decide +kernel) ?_
        refine ja_icmp_ne (tgt := 64) dX8_meanPiece_57 (by decide) (fun c57 => ?_) (fun c57 => ?_)
        ·
          refine ja_iconst (v := nI 1) dX8_meanPiece_64 (by decide +kernel) ?_
          refine ja_iaddN dX8_meanPiece_65 ?_
          refine ja_istore (i := 4) dX8_meanPiece_66 rfl (Nat.le_of_ble_eq_true rfl) ?_
          refine ja_iincN dX8_meanPiece_68 rfl rfl (Nat.le_of_ble_eq_true rfl) ?_
          refine ja_goto (tgt := 39) dX8_meanPiece_71 (by decide) ?_
          exact ih39 (q + 1) _ (by omega) (by omega) (by rw [hn, fb_ct_succ]; simp [c57])
        ·
          refine ja_iconst (v := nI 0) dX8_meanPiece_60 (by decide +kernel) ?_
          refine ja_goto (tgt := 65) dX8_meanPiece_61 (by decide) ?_
          refine ja_iaddN dX8_meanPiece_65 ?_
          refine ja_istore (i := 4) dX8_meanPiece_66 rfl (Nat.le_of_ble_eq_true rfl) ?_
          refine ja_iincN dX8_meanPiece_68 rfl rfl (Nat.le_of_ble_eq_true rfl) ?_
          refine ja_goto (tgt := 39) dX8_meanPiece_71 (by decide) ?_
          exact ih39 (q + 1) _ (by omega) (by omega) (by rw [hn, fb_ct_succ]; simp [c57])
  exact lp39 257 0 0 (by omega) (by omega) rfl
