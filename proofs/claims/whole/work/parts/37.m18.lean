/-! THE REFERENCE: names -/
theorem adf_le (a b : Nat) : adf a b ≤ a + b := by
  unfold adf
  split <;> omega
/-- the sums of an area's columns and rows -/
def sxF (f : Nat → Int32) (ly : Nat) (a : Int32) (n : Nat) : Nat := fb_sm (fun q => if f (256 * ly + q) = a then q % 16 else 0) n
def syF (f : Nat → Int32) (ly : Nat) (a : Int32) (n : Nat) : Nat := fb_sm (fun q => if f (256 * ly + q) = a then q / 16 else 0) n
theorem sxF_le (f : Nat → Int32) (ly : Nat) (a : Int32) (n : Nat) : sxF f ly a n ≤ n * 15 := fb_sm_bound (fun k _ => by split <;> omega)
/-- how far a place is from the middle of an area -/
def bad (f : Nat → Int32) (ly : Nat) (a : Int32) (m q : Nat) : Nat := adf (q % 16 + m / 2) (sxF f ly a 256 / cSz f ly a 256) + adf (q / 16) (syF f ly a 256 / cSz f ly a 256)
noncomputable def plB (D : jD) (ly a m : Nat) : Option Nat := if cSz (D 105) ly (nI a) 256 = 0 then none else cbM (fun q => bP (cst (D 105) (D 128) ly (nI a) q m)) (bad (D 105) ly (nI a) m) 256
def tkU (D : jD) (b n : Nat) : jD := fun i k => if i = 128 ∧ b ≤ k ∧ k < b + n then 1 else D i k
theorem tkU_0 {D : jD} {b : Nat} : D = tkU D b 0 := by
  funext i k
  rw [tkU, if_neg (by omega)]
theorem tkU_o {D : jD} {b n i k : Nat} (h : ¬ i = 128) : tkU D b n i k = D i k := by
  rw [tkU, if_neg (fun e => h e.1)]
theorem tkU_s {D : jD} {b n : Nat} : ja_up (tkU D b n) 128 (b + n) 1 = tkU D b (n + 1) := by
  funext i k
  simp only [ja_up, tkU]
  by_cases e : i = 128 ∧ k = b + n
  · obtain ⟨rfl, rfl⟩ := e
    rw [if_pos ⟨rfl, rfl⟩, if_pos ⟨rfl, by omega, by omega⟩]
  · rw [if_neg e]
    by_cases e2 : i = 128 ∧ b ≤ k ∧ k < b + n
    · rw [if_pos e2, if_pos (show i = 128 ∧ b ≤ k ∧ k < b + (n + 1) from ⟨e2.1, e2.2.1, by omega⟩)]
    · rw [if_neg e2, if_neg (by omega)]
noncomputable def plR (D : jD) (ly a m : Nat) : jD := match plB D ly a m with
  | none => ja_up D 127 a (-1)
  | some b => tkU (ja_up D 127 a (nI b)) b m
theorem plR_n {D : jD} {ly a m : Nat} (h : plB D ly a m = none) : plR D ly a m = ja_up D 127 a (-1) := by
  rw [plR, h]
theorem plR_y {D : jD} {ly a m b : Nat} (h : plB D ly a m = some b) : plR D ly a m = tkU (ja_up D 127 a (nI b)) b m := by
  rw [plR, h]
theorem plR_o {D : jD} {ly a m i k : Nat} (h1 : ¬ i = 127) (h2 : ¬ i = 128) : plR D ly a m i k = D i k := by
  cases h : plB D ly a m with
  | none => rw [plR_n h, up_n (fun e => h1 e.1)]
  | some b => rw [plR_y h, tkU_o h2, up_n (fun e => h1 e.1)]
theorem plR_p {D : jD} {ly a m k : Nat} : plR D ly a m 127 k = if k = a then oI (plB D ly a m) else D 127 k := by
  cases h : plB D ly a m with
  | none =>
    rw [plR_n h, ja_up]
    by_cases e : k = a
    · rw [if_pos ⟨rfl, e⟩, if_pos e, oI_n]
    · rw [if_neg (fun x => e x.2), if_neg e]
  | some b =>
    rw [plR_y h, tkU_o (by decide), ja_up]
    by_cases e : k = a
    · rw [if_pos ⟨rfl, e⟩, if_pos e, oI_s]
    · rw [if_neg (fun x => e x.2), if_neg e]

theorem syF_le (f : Nat → Int32) (ly : Nat) (a : Int32) (n : Nat) : syF f ly a n ≤ n * n := fb_sm_bound (fun k _ => by split <;> omega)

set_option maxRecDepth 100000 in
set_option maxHeartbeats 4000000 in
theorem s_places (l : Launch) {Z : jZ} {D : jD} (hz : zM Z) {ly a m : Nat} (h1 : ly < 3) (h2 : a < 10) (hm : D 107 (10 * ly + a) = nI m) (h4 : m ≤ 6) : ja_M l (mX8_places 0 0) [.ref (100), .int (nI (ly)), .int (nI (a))] Z D (ja_jd none Z (fun D2 => D2 = plR D ly a m)) ja_x0 := by
  refine ja_Mof (lv := [some (.ref (100)), some (.int (nI (ly))), some (.int (nI (a))), none, none, none, none, none, none, none]) (by decide +kernel) rfl rfl (Nat.le_of_ble_eq_true rfl) rfl ?_
  refine ja_iconst (v := nI 0) dX8_places_0 (by decide +kernel) ?_
  refine ja_istore_n (i := 3) dX8_places_1 rfl rfl (Nat.le_of_ble_eq_true rfl) ?_
  refine ja_iconst (v := nI 0) dX8_places_2 (by decide +kernel) ?_
  refine ja_istore (i := 4) dX8_places_3 rfl (Nat.le_of_ble_eq_true rfl) ?_
  refine ja_aload_n (i := 0) dX8_places_5 rfl rfl ?_
  refine ja_iload_n (i := 1) dX8_places_6 rfl rfl ?_
  refine ja_iload_n (i := 2) dX8_places_7 rfl rfl ?_
  refine ja_cVr (st := []) (s_sizeOf (D := D) l hz (ly := ly) (by omega) (nI (a))) rfl rfl (ce_X8_sizeOf 0 0) im_X8_sizeOf se_X8_sizeOf lk_X8_103 k_X8 (zM_s hz) ⟨(Nat.le_of_ble_eq_true rfl), (Nat.le_of_ble_eq_true rfl)⟩ dX8_places_8 rfl rfl (Nat.le_of_ble_eq_true rfl) (Nat.zero_le _) (Nat.zero_le _) ?_
  refine ja_istore (i := 5) dX8_places_11 rfl (Nat.le_of_ble_eq_true rfl) ?_
  refine ja_iconst (v := nI 0) dX8_places_13 (by decide +kernel) ?_
  refine ja_istore (i := 6) dX8_places_14 rfl (Nat.le_of_ble_eq_true rfl) ?_
  have lp16 : ∀ (f16 : Nat) (q xs ys : Nat), (256 < q + f16) → (q ≤ 256) → (xs = sxF (D 105) ly (nI a) q) → (ys = syF (D 105) ly (nI a) q) → ja_A l (mX8_places 0 0) ja_sn (ja_Qf (mX8_places 0 0) (ja_jd none Z (fun D2 => D2 = plR D ly a m)) ja_x0) 16 [some (.ref (100)), some (.int (nI (ly))), some (.int (nI (a))), some (.int (nI (xs))), some (.int (nI (ys))), some (.int (nI (cSz (D 105) ly (nI a) 256))), some (.int (nI (q))), none, none, none] [] Z D 0 0 := by
    intro f16
    induction f16 with
    | zero => intro q xs ys hf hq hxs hys; exfalso; omega
    | succ f16 ih16 =>
      intro q xs ys hf hq hxs hys
      refine ja_iload (i := 6) dX8_places_16 rfl ?_
      refine ja_sipush (v := nI 256) dX8_places_18 (by decide +kernel) ?_
      refine ja_icmpN_ge (tgt := 78) dX8_places_21 (by decide) (by omega) (by omega) (fun c21 => ?_) (fun c21 => ?_)
      ·
        have e256 : q = 256 := by omega
        subst e256
        subst hxs
        subst hys
        refine ja_iconst (v := (-1)) dX8_places_78 (by decide +kernel) ?_
        refine ja_istore (i := 6) dX8_places_79 rfl (Nat.le_of_ble_eq_true rfl) ?_
        refine ja_iconst (v := nI 0) dX8_places_81 (by decide +kernel) ?_
        refine ja_istore (i := 7) dX8_places_82 rfl (Nat.le_of_ble_eq_true rfl) ?_
        refine ja_iconst (v := nI 0) dX8_places_84 (by decide +kernel) ?_
        refine ja_istore (i := 8) dX8_places_85 rfl (Nat.le_of_ble_eq_true rfl) ?_
        have lp87 : ∀ (f87 : Nat) (q2 ls : Nat) (r : Option Nat), (256 < q2 + f87) → (q2 ≤ 256) → (cSz (D 105) ly (nI a) 256 = 0 → q2 = 0) → (ls < 2 ^ 30) → (r = cbM (fun q => bP (cst (D 105) (D 128) ly (nI a) q m)) (bad (D 105) ly (nI a) m) q2) → (∀ b, r = some b → ls = (bad (D 105) ly (nI a) m) b) → ja_A l (mX8_places 0 0) ja_sn (ja_Qf (mX8_places 0 0) (ja_jd none Z (fun D2 => D2 = plR D ly a m)) ja_x0) 87 [some (.ref (100)), some (.int (nI (ly))), some (.int (nI (a))), some (.int (nI (sxF (D 105) ly (nI a) 256))), some (.int (nI (syF (D 105) ly (nI a) 256))), some (.int (nI (cSz (D 105) ly (nI a) 256))), some (.int (oI r)), some (.int (nI (ls))), some (.int (nI (q2))), none] [] Z D 0 0 := by
          intro f87
          induction f87 with
          | zero => intro q2 ls r hf2 hq2 hz0 hlsb hr hls; exfalso; omega
          | succ f87 ih87 =>
            intro q2 ls r hf2 hq2 hz0 hlsb hr hls
            have hzs := cSz_le (D 105) ly (nI a) 256
            have hx1 := sxF_le (D 105) ly (nI a) 256
            have hy1 := syF_le (D 105) ly (nI a) 256
            have hx2 := Nat.div_le_self (sxF (D 105) ly (nI a) 256) (cSz (D 105) ly (nI a) 256)
            have hy2 := Nat.div_le_self (syF (D 105) ly (nI a) 256) (cSz (D 105) ly (nI a) 256)
            have ha1 := adf_le (q2 % 16 + m / 2) (sxF (D 105) ly (nI a) 256 / cSz (D 105) ly (nI a) 256)
            have ha2 := adf_le (q2 / 16) (syF (D 105) ly (nI a) 256 / cSz (D 105) ly (nI a) 256)
            have hbd : (bad (D 105) ly (nI a) m) q2 = adf (q2 % 16 + m / 2) (sxF (D 105) ly (nI a) 256 / cSz (D 105) ly (nI a) 256) + adf (q2 / 16) (syF (D 105) ly (nI a) 256 / cSz (D 105) ly (nI a) 256) := rfl
            refine ja_iload (i := 8) dX8_places_87 rfl ?_
            refine ja_sipush (v := nI 256) dX8_places_89 (by decide +kernel) ?_
            refine ja_icmpN_ge (tgt := 182) dX8_places_92 (by decide) (by omega) (by omega) (fun c92 => ?_) (fun c92 => ?_)
            ·
              have hpl : plB D ly a m = r := by rw [plB]; by_cases e : cSz (D 105) ly (nI a) 256 = 0; (rw [if_pos e]; rw [hr, hz0 e]; rfl); (rw [if_neg e, hr, show q2 = 256 by omega])
              rcases r with _ | b
              ·
                refine ja_aload_n (i := 0) dX8_places_182 rfl rfl ?_
                refine ja_getR fl_X8_79 (zM_s hz) rfl (zM_p26 hz) dX8_places_183 ?_
                refine ja_iload_n (i := 2) dX8_places_186 rfl rfl ?_
                refine ja_iload (i := 6) dX8_places_187 rfl ?_
                refine ja_iast (zM_a26 hz) rfl (by omega) (by decide) dX8_places_189 ?_
                refine ja_iload (i := 6) dX8_places_190 rfl ?_
                refine ja_istore (i := 8) dX8_places_192 rfl (Nat.le_of_ble_eq_true rfl) ?_
                refine ja_iload (i := 6) dX8_places_194 rfl ?_
                refine ja_iconst (v := (-1)) dX8_places_196 (by decide +kernel) ?_
                refine ja_icmp_eq (tgt := 233) dX8_places_197 (by decide) (fun c197 => ?_) (fun c197 => absurd rfl c197)
                refine ja_vret rfl dX8_places_233 (Nat.zero_le _) (Nat.zero_le _) ?_
                exact ⟨rfl, rfl, (plR_n hpl).symm⟩
              ·
                have hbl := cbM_lt hr.symm
                have hbs := (bP_of hbl.2).1
                refine ja_aload_n (i := 0) dX8_places_182 rfl rfl ?_
                refine ja_getR fl_X8_79 (zM_s hz) rfl (zM_p26 hz) dX8_places_183 ?_
                refine ja_iload_n (i := 2) dX8_places_186 rfl rfl ?_
                refine ja_iload (i := 6) dX8_places_187 rfl ?_
                refine ja_iast (zM_a26 hz) rfl (by omega) (by decide) dX8_places_189 ?_
                refine ja_iload (i := 6) dX8_places_190 rfl ?_
                refine ja_istore (i := 8) dX8_places_192 rfl (Nat.le_of_ble_eq_true rfl) ?_
                refine ja_forget (i := 3) ?_
                refine ja_forget (i := 4) ?_
                refine ja_forget (i := 5) ?_
                refine ja_forget (i := 7) ?_
                have lp194 : ∀ (f194 : Nat) (k : Nat) (E : jD), (m < k + f194) → (k ≤ m) → (E = tkU (ja_up D 127 a (nI b)) b k) → ja_A l (mX8_places 0 0) ja_sn (ja_Qf (mX8_places 0 0) (ja_jd none Z (fun D2 => D2 = plR D ly a m)) ja_x0) 194 [some (.ref (100)), some (.int (nI (ly))), some (.int (nI (a))), none, none, none, some (.int (nI (b))), none, some (.int (nI (b + k))), none] [] Z E 0 0 := by
                  intro f194
                  induction f194 with
                  | zero => intro k E hf3 hk hE; exfalso; omega
                  | succ f194 ih194 =>
                    intro k E hf3 hk hE
                    refine ja_iload (i := 6) dX8_places_194 rfl ?_
                    refine ja_iconst (v := (-1)) dX8_places_196 (by decide +kernel) ?_
                    refine ja_icmp_eq (tgt := 233) dX8_places_197 (by decide) (fun c197 => absurd c197 (nI_nm1 (by omega))) (fun c197 => ?_)
                    refine ja_iload (i := 8) dX8_places_200 rfl ?_
                    refine ja_iload (i := 6) dX8_places_202 rfl ?_
                    refine ja_aload_n (i := 0) dX8_places_204 rfl rfl ?_
                    refine ja_getR fl_X8_24 (zM_s hz) rfl (zM_p6 hz) dX8_places_205 ?_
                    refine ja_bipush (v := nI 10) dX8_places_208 (by decide +kernel) ?_
                    refine ja_iload_n (i := 1) dX8_places_210 rfl rfl ?_
                    refine ja_imulN dX8_places_211 ?_
                    refine ja_iload_n (i := 2) dX8_places_212 rfl rfl ?_
                    refine ja_iaddN dX8_places_213 ?_
                    refine ja_iald (zM_a6 hz) rfl (by omega) (by decide) dX8_places_214 ?_
                    refine ja_top (y := nI (m)) (by rw [hE, tkU_o (by decide), up_n (fun e => absurd e.1 (by decide))]; exact hm) ?_
                    refine ja_iaddN dX8_places_215 ?_
                    refine ja_icmpN_ge (tgt := 233) dX8_places_216 (by decide) (by omega) (by omega) (fun c216 => ?_) (fun c216 => ?_)
                    ·
                      refine ja_vret rfl dX8_places_233 (Nat.zero_le _) (Nat.zero_le _) ?_
                      exact ⟨rfl, rfl, by rw [plR_y hpl, hE, show k = m by omega]⟩
                    ·
                      refine ja_aload_n (i := 0) dX8_places_219 rfl rfl ?_
                      refine ja_getR fl_X8_82 (zM_s hz) rfl (zM_p27 hz) dX8_places_220 ?_
                      refine ja_iload (i := 8) dX8_places_223 rfl ?_
                      refine ja_iconst (v := nI 1) dX8_places_225 (by decide +kernel) ?_
                      refine ja_zast (zM_a27 hz) rfl (by omega) (by decide) (by decide +kernel) dX8_places_226 ?_
                      refine ja_iincN dX8_places_227 rfl rfl (Nat.le_of_ble_eq_true rfl) ?_
                      refine ja_goto (tgt := 194) dX8_places_230 (by decide) ?_
                      exact ih194 (k + 1) _ (by omega) (by omega) (by rw [hE]; exact tkU_s)
                exact lp194 (m + 1) 0 (ja_up D 127 a (nI (b))) (by omega) (by omega) tkU_0
            ·
              refine ja_iload (i := 5) dX8_places_95 rfl ?_
              refine ja_ifN_le (tgt := 182) dX8_places_97 (by decide) (by omega) (fun c97 => ?_) (fun c97 => ?_)
              ·
                have hpl : plB D ly a m = r := by rw [plB]; by_cases e : cSz (D 105) ly (nI a) 256 = 0; (rw [if_pos e]; rw [hr, hz0 e]; rfl); (rw [if_neg e, hr, show q2 = 256 by omega])
                rcases r with _ | b
                ·
                  refine ja_aload_n (i := 0) dX8_places_182 rfl rfl ?_
                  refine ja_getR fl_X8_79 (zM_s hz) rfl (zM_p26 hz) dX8_places_183 ?_
                  refine ja_iload_n (i := 2) dX8_places_186 rfl rfl ?_
                  refine ja_iload (i := 6) dX8_places_187 rfl ?_
                  refine ja_iast (zM_a26 hz) rfl (by omega) (by decide) dX8_places_189 ?_
                  refine ja_iload (i := 6) dX8_places_190 rfl ?_
                  refine ja_istore (i := 8) dX8_places_192 rfl (Nat.le_of_ble_eq_true rfl) ?_
                  refine ja_iload (i := 6) dX8_places_194 rfl ?_
                  refine ja_iconst (v := (-1)) dX8_places_196 (by decide +kernel) ?_
                  refine ja_icmp_eq (tgt := 233) dX8_places_197 (by decide) (fun c197 => ?_) (fun c197 => absurd rfl c197)
                  refine ja_vret rfl dX8_places_233 (Nat.zero_le _) (Nat.zero_le _) ?_
                  exact ⟨rfl, rfl, (plR_n hpl).symm⟩
                ·
                  have hbl := cbM_lt hr.symm
                  have hbs := (bP_of hbl.2).1
                  refine ja_aload_n (i := 0) dX8_places_182 rfl rfl ?_
                  refine ja_getR fl_X8_79 (zM_s hz) rfl (zM_p26 hz) dX8_places_183 ?_
                  refine ja_iload_n (i := 2) dX8_places_186 rfl rfl ?_
                  refine ja_iload (i := 6) dX8_places_187 rfl ?_
                  refine ja_iast (zM_a26 hz) rfl (by omega) (by decide) dX8_places_189 ?_
                  refine ja_iload (i := 6) dX8_places_190 rfl ?_
                  refine ja_istore (i := 8) dX8_places_192 rfl (Nat.le_of_ble_eq_true rfl) ?_
                  refine ja_forget (i := 3) ?_
                  refine ja_forget (i := 4) ?_
                  refine ja_forget (i := 5) ?_
                  refine ja_forget (i := 7) ?_
                  have lp194 : ∀ (f194 : Nat) (k : Nat) (E : jD), (m < k + f194) → (k ≤ m) → (E = tkU (ja_up D 127 a (nI b)) b k) → ja_A l (mX8_places 0 0) ja_sn (ja_Qf (mX8_places 0 0) (ja_jd none Z (fun D2 => D2 = plR D ly a m)) ja_x0) 194 [some (.ref (100)), some (.int (nI (ly))), some (.int (nI (a))), none, none, none, some (.int (nI (b))), none, some (.int (nI (b + k))), none] [] Z E 0 0 := by
                    intro f194
                    induction f194 with
                    | zero => intro k E hf3 hk hE; exfalso; omega
                    | succ f194 ih194 =>
                      intro k E hf3 hk hE
                      refine ja_iload (i := 6) dX8_places_194 rfl ?_
                      refine ja_iconst (v := (-1)) dX8_places_196 (by decide +kernel) ?_
                      refine ja_icmp_eq (tgt := 233) dX8_places_197 (by decide) (fun c197 => absurd c197 (nI_nm1 (by omega))) (fun c197 => ?_)
                      refine ja_iload (i := 8) dX8_places_200 rfl ?_
                      refine ja_iload (i := 6) dX8_places_202 rfl ?_
                      refine ja_aload_n (i := 0) dX8_places_204 rfl rfl ?_
                      refine ja_getR fl_X8_24 (zM_s hz) rfl (zM_p6 hz) dX8_places_205 ?_
                      refine ja_bipush (v := nI 10) dX8_places_208 (by decide +kernel) ?_
                      refine ja_iload_n (i := 1) dX8_places_210 rfl rfl ?_
                      refine ja_imulN dX8_places_211 ?_
                      refine ja_iload_n (i := 2) dX8_places_212 rfl rfl ?_
                      refine ja_iaddN dX8_places_213 ?_
                      refine ja_iald (zM_a6 hz) rfl (by omega) (by decide) dX8_places_214 ?_
                      refine ja_top (y := nI (m)) (by rw [hE, tkU_o (by decide), up_n (fun e => absurd e.1 (by decide))]; exact hm) ?_
                      refine ja_iaddN dX8_places_215 ?_
                      refine ja_icmpN_ge (tgt := 233) dX8_places_216 (by decide) (by omega) (by omega) (fun c216 => ?_) (fun c216 => ?_)
                      ·
                        refine ja_vret rfl dX8_places_233 (Nat.zero_le _) (Nat.zero_le _) ?_
                        exact ⟨rfl, rfl, by rw [plR_y hpl, hE, show k = m by omega]⟩
                      ·
                        refine ja_aload_n (i := 0) dX8_places_219 rfl rfl ?_
                        refine ja_getR fl_X8_82 (zM_s hz) rfl (zM_p27 hz) dX8_places_220 ?_
                        refine ja_iload (i := 8) dX8_places_223 rfl ?_
                        refine ja_iconst (v := nI 1) dX8_places_225 (by decide +kernel) ?_
                        refine ja_zast (zM_a27 hz) rfl (by omega) (by decide) (by decide +kernel) dX8_places_226 ?_
                        refine ja_iincN dX8_places_227 rfl rfl (Nat.le_of_ble_eq_true rfl) ?_
                        refine ja_goto (tgt := 194) dX8_places_230 (by decide) ?_
                        exact ih194 (k + 1) _ (by omega) (by omega) (by rw [hE]; exact tkU_s)
                  exact lp194 (m + 1) 0 (ja_up D 127 a (nI (b))) (by omega) (by omega) tkU_0
              ·
                refine ja_iload (i := 8) dX8_places_100 rfl ?_
                refine ja_bipush (v := nI 16) dX8_places_102 (by decide +kernel) ?_
                refine ja_iremN dX8_places_104 (by omega) (by omega) (by omega) ?_
                refine ja_aload_n (i := 0) dX8_places_105 rfl rfl ?_
                refine ja_getR fl_X8_24 (zM_s hz) rfl (zM_p6 hz) dX8_places_106 ?_
                refine ja_bipush (v := nI 10) dX8_places_109 (by decide +kernel) ?_
                refine ja_iload_n (i := 1) dX8_places_111 rfl rfl ?_
                refine ja_imulN dX8_places_112 ?_
                refine ja_iload_n (i := 2) dX8_places_113 rfl rfl ?_
                refine ja_iaddN dX8_places_114 ?_
                refine ja_iald (zM_a6 hz) rfl (by omega) (by decide) dX8_places_115 ?_
                refine ja_top (y := nI (m)) hm ?_
                refine ja_iconst (v := nI 2) dX8_places_116 (by decide +kernel) ?_
                refine ja_idivN dX8_places_117 (by omega) (by omega) (by omega) ?_
                refine ja_iaddN dX8_places_118 ?_
                refine ja_iload_n (i := 3) dX8_places_119 rfl rfl ?_
                refine ja_iload (i := 5) dX8_places_120 rfl ?_
                refine ja_idivN dX8_places_122 (by omega) (by omega) (by omega) ?_
                refine ja_isub dX8_places_123 ?_
                refine ja_mabs lk_X8_140 ma_st ma_in ma_co (Nat.le_of_ble_eq_true rfl) (Nat.le_of_ble_eq_true rfl) (Nat.zero_le _) (Nat.zero_le _) dX8_places_124 ?_
                refine ja_top (y := nI (adf (q2 % 16 + m / 2) (sxF (D 105) ly (nI a) 256 / cSz (D 105) ly (nI a) 256))) (ja_adf (by omega) (by omega)) ?_
                refine ja_iload (i := 8) dX8_places_127 rfl ?_
                refine ja_bipush (v := nI 16) dX8_places_129 (by decide +kernel) ?_
                refine ja_idivN dX8_places_131 (by omega) (by omega) (by omega) ?_
                refine ja_iload (i := 4) dX8_places_132 rfl ?_
                refine ja_iload (i := 5) dX8_places_134 rfl ?_
                refine ja_idivN dX8_places_136 (by omega) (by omega) (by omega) ?_
                refine ja_isub dX8_places_137 ?_
                refine ja_mabs lk_X8_140 ma_st ma_in ma_co (Nat.le_of_ble_eq_true rfl) (Nat.le_of_ble_eq_true rfl) (Nat.zero_le _) (Nat.zero_le _) dX8_places_138 ?_
                refine ja_top (y := nI (adf (q2 / 16) (syF (D 105) ly (nI a) 256 / cSz (D 105) ly (nI a) 256))) (ja_adf (by omega) (by omega)) ?_
                refine ja_iaddN dX8_places_141 ?_
                refine ja_istore (i := 9) dX8_places_142 rfl (Nat.le_of_ble_eq_true rfl) ?_
                refine ja_aload_n (i := 0) dX8_places_144 rfl rfl ?_
                refine ja_iload_n (i := 1) dX8_places_145 rfl rfl ?_
                refine ja_iload_n (i := 2) dX8_places_146 rfl rfl ?_
                refine ja_iload (i := 8) dX8_places_147 rfl ?_
                refine ja_cVr (st := []) (s_canStand (D := D) l hz (ly := ly) (a := a) (q := q2) (m := m) h1 h2 (by omega) hm h4) rfl rfl (ce_X8_canStand 0 0) im_X8_canStand se_X8_canStand lk_X8_192 k_X8 (zM_s hz) ⟨(Nat.le_of_ble_eq_true rfl), (Nat.le_of_ble_eq_true rfl)⟩ dX8_places_149 rfl rfl (Nat.le_of_ble_eq_true rfl) (Nat.zero_le _) (Nat.zero_le _) ?_
                refine ja_ifB_eq (tgt := 176) dX8_places_152 (by decide) (fun c152 => ?_) (fun c152 => ?_)
                ·
                  refine ja_iincN dX8_places_176 rfl rfl (Nat.le_of_ble_eq_true rfl) ?_
                  refine ja_goto (tgt := 87) dX8_places_179 (by decide) ?_
                  refine ja_forget (i := 9) ?_
                  exact ih87 (q2 + 1) ls r (by omega) (by omega) (fun e => absurd e (by omega)) (by omega) (by first | exact hr.trans (cbM_n c152).symm | exact (cbM_t2 hr.symm (by rw [← hls b rfl]; omega)).symm) hls
                ·
                  rcases r with _ | b
                  ·
                    refine ja_iload (i := 6) dX8_places_155 rfl ?_
                    refine ja_iconst (v := (-1)) dX8_places_157 (by decide +kernel) ?_
                    refine ja_icmp_eq (tgt := 168) dX8_places_158 (by decide) (fun c158 => ?_) (fun c158 => absurd rfl c158)
                    refine ja_iload (i := 8) dX8_places_168 rfl ?_
                    refine ja_istore (i := 6) dX8_places_170 rfl (Nat.le_of_ble_eq_true rfl) ?_
                    refine ja_iload (i := 9) dX8_places_172 rfl ?_
                    refine ja_istore (i := 7) dX8_places_174 rfl (Nat.le_of_ble_eq_true rfl) ?_
                    refine ja_iincN dX8_places_176 rfl rfl (Nat.le_of_ble_eq_true rfl) ?_
                    refine ja_goto (tgt := 87) dX8_places_179 (by decide) ?_
                    refine ja_forget (i := 9) ?_
                    exact ih87 (q2 + 1) _ (some q2) (by omega) (by omega) (fun e => absurd e (by omega)) (by omega) (by first | exact (cbM_t0 hr.symm c152).symm | exact (cbM_t1 hr.symm c152 (by rw [← hls b rfl]; omega)).symm) (fun b2 e => by cases e; rfl)
                  ·
                    have hbl := cbM_lt hr.symm
                    refine ja_iload (i := 6) dX8_places_155 rfl ?_
                    refine ja_iconst (v := (-1)) dX8_places_157 (by decide +kernel) ?_
                    refine ja_icmp_eq (tgt := 168) dX8_places_158 (by decide) (fun c158 => absurd c158 (nI_nm1 (by omega))) (fun c158 => ?_)
                    refine ja_iload (i := 9) dX8_places_161 rfl ?_
                    refine ja_iload (i := 7) dX8_places_163 rfl ?_
                    refine ja_icmpN_ge (tgt := 176) dX8_places_165 (by decide) (by omega) (by omega) (fun c165 => ?_) (fun c165 => ?_)
                    ·
                      refine ja_iincN dX8_places_176 rfl rfl (Nat.le_of_ble_eq_true rfl) ?_
                      refine ja_goto (tgt := 87) dX8_places_179 (by decide) ?_
                      refine ja_forget (i := 9) ?_
                      exact ih87 (q2 + 1) ls (some b) (by omega) (by omega) (fun e => absurd e (by omega)) (by omega) (by first | exact hr.trans (cbM_n c152).symm | exact (cbM_t2 hr.symm (by rw [← hls b rfl]; omega)).symm) hls
                    ·
                      refine ja_iload (i := 8) dX8_places_168 rfl ?_
                      refine ja_istore (i := 6) dX8_places_170 rfl (Nat.le_of_ble_eq_true rfl) ?_
                      refine ja_iload (i := 9) dX8_places_172 rfl ?_
                      refine ja_istore (i := 7) dX8_places_174 rfl (Nat.le_of_ble_eq_true rfl) ?_
                      refine ja_iincN dX8_places_176 rfl rfl (Nat.le_of_ble_eq_true rfl) ?_
                      refine ja_goto (tgt := 87) dX8_places_179 (by decide) ?_
                      refine ja_forget (i := 9) ?_
                      exact ih87 (q2 + 1) _ (some q2) (by omega) (by omega) (fun e => absurd e (by omega)) (by omega) (by first | exact (cbM_t0 hr.symm c152).symm | exact (cbM_t1 hr.symm c152 (by rw [← hls b rfl]; omega)).symm) (fun b2 e => by cases e; rfl)
        exact lp87 257 0 0 none (by omega) (by omega) (fun _ => rfl) (by omega) rfl (fun b e => by cases e)
      ·
        refine ja_iload_n (i := 3) dX8_places_24 rfl rfl ?_
        refine ja_aload_n (i := 0) dX8_places_25 rfl rfl ?_
        refine ja_iload_n (i := 1) dX8_places_26 rfl rfl ?_
        refine ja_iload (i := 6) dX8_places_27 rfl ?_
        refine ja_cVr (st := [.int (nI (xs))]) (s_at (D := D) l hz (ly := ly) (q := q) (by omega) (by omega)) rfl rfl (ce_X8_at 0 0) im_X8_at se_X8_at lk_X8_92 k_X8 (zM_s hz) ⟨(Nat.le_of_ble_eq_true rfl), (Nat.le_of_ble_eq_true rfl)⟩ dX8_places_29 rfl rfl (Nat.le_of_ble_eq_true rfl) (Nat.zero_le _) (Nat.zero_le _) ?_
        refine ja_iload_n (i := 2) dX8_places_32 rfl rfl ?_
        refine ja_icmp_ne (tgt := 44) dX8_places_33 (by decide) (fun c33 => ?_) (fun c33 => ?_)
        ·
          refine ja_iconst (v := nI 0) dX8_places_44 (by decide +kernel) ?_
          refine ja_iaddN dX8_places_45 ?_
          refine ja_istore_n (i := 3) dX8_places_46 rfl rfl (Nat.le_of_ble_eq_true rfl) ?_
          refine ja_iload (i := 4) dX8_places_47 rfl ?_
          refine ja_aload_n (i := 0) dX8_places_49 rfl rfl ?_
          refine ja_iload_n (i := 1) dX8_places_50 rfl rfl ?_
          refine ja_iload (i := 6) dX8_places_51 rfl ?_
          refine ja_cVr (st := [.int (nI (ys))]) (s_at (D := D) l hz (ly := ly) (q := q) (by omega) (by omega)) rfl rfl (ce_X8_at 0 0) im_X8_at se_X8_at lk_X8_92 k_X8 (zM_s hz) ⟨(Nat.le_of_ble_eq_true rfl), (Nat.le_of_ble_eq_true rfl)⟩ dX8_places_53 rfl rfl (Nat.le_of_ble_eq_true rfl) (Nat.zero_le _) (Nat.zero_le _) ?_
          refine ja_iload_n (i := 2) dX8_places_56 rfl rfl ?_
          refine ja_icmp_ne (tgt := 68) dX8_places_57 (by decide) (fun c57 => ?_) (fun c57 => ?_)
          ·
            refine ja_iconst (v := nI 0) dX8_places_68 (by decide +kernel) ?_
            refine ja_iaddN dX8_places_69 ?_
            refine ja_istore (i := 4) dX8_places_70 rfl (Nat.le_of_ble_eq_true rfl) ?_
            refine ja_iincN dX8_places_72 rfl rfl (Nat.le_of_ble_eq_true rfl) ?_
            refine ja_goto (tgt := 16) dX8_places_75 (by decide) ?_
            exact ih16 (q + 1) _ _ (by omega) (by omega) (by rw [hxs, sxF, sxF, fb_sm_succ]; first | rw [if_pos c33] | rw [if_neg c33]) (by rw [hys, syF, syF, fb_sm_succ]; first | rw [if_pos c57] | rw [if_neg c57])
          ·
            refine ja_iload (i := 6) dX8_places_60 rfl ?_
            refine ja_bipush (v := nI 16) dX8_places_62 (by decide +kernel) ?_
            refine ja_idivN dX8_places_64 (by omega) (by omega) (by omega) ?_
            refine ja_goto (tgt := 69) dX8_places_65 (by decide) ?_
            refine ja_iaddN dX8_places_69 ?_
            refine ja_istore (i := 4) dX8_places_70 rfl (Nat.le_of_ble_eq_true rfl) ?_
            refine ja_iincN dX8_places_72 rfl rfl (Nat.le_of_ble_eq_true rfl) ?_
            refine ja_goto (tgt := 16) dX8_places_75 (by decide) ?_
            exact ih16 (q + 1) _ _ (by omega) (by omega) (by rw [hxs, sxF, sxF, fb_sm_succ]; first | rw [if_pos c33] | rw [if_neg c33]) (by rw [hys, syF, syF, fb_sm_succ]; first | rw [if_pos c57] | rw [if_neg c57])
        ·
          refine ja_iload (i := 6) dX8_places_36 rfl ?_
          refine ja_bipush (v := nI 16) dX8_places_38 (by decide +kernel) ?_
          refine ja_iremN dX8_places_40 (by omega) (by omega) (by omega) ?_
          refine ja_goto (tgt := 45) dX8_places_41 (by decide) ?_
          refine ja_iaddN dX8_places_45 ?_
          refine ja_istore_n (i := 3) dX8_places_46 rfl rfl (Nat.le_of_ble_eq_true rfl) ?_
          refine ja_iload (i := 4) dX8_places_47 rfl ?_
          refine ja_aload_n (i := 0) dX8_places_49 rfl rfl ?_
          refine ja_iload_n (i := 1) dX8_places_50 rfl rfl ?_
          refine ja_iload (i := 6) dX8_places_51 rfl ?_
          refine ja_cVr (st := [.int (nI (ys))]) (s_at (D := D) l hz (ly := ly) (q := q) (by omega) (by omega)) rfl rfl (ce_X8_at 0 0) im_X8_at se_X8_at lk_X8_92 k_X8 (zM_s hz) ⟨(Nat.le_of_ble_eq_true rfl), (Nat.le_of_ble_eq_true rfl)⟩ dX8_places_53 rfl rfl (Nat.le_of_ble_eq_true rfl) (Nat.zero_le _) (Nat.zero_le _) ?_
          refine ja_iload_n (i := 2) dX8_places_56 rfl rfl ?_
          refine ja_icmp_ne (tgt := 68) dX8_places_57 (by decide) (fun c57 => ?_) (fun c57 => ?_)
          ·
            refine ja_iconst (v := nI 0) dX8_places_68 (by decide +kernel) ?_
            refine ja_iaddN dX8_places_69 ?_
            refine ja_istore (i := 4) dX8_places_70 rfl (Nat.le_of_ble_eq_true rfl) ?_
            refine ja_iincN dX8_places_72 rfl rfl (Nat.le_of_ble_eq_true rfl) ?_
            refine ja_goto (tgt := 16) dX8_places_75 (by decide) ?_
            exact ih16 (q + 1) _ _ (by omega) (by omega) (by rw [hxs, sxF, sxF, fb_sm_succ]; first | rw [if_pos c33] | rw [if_neg c33]) (by rw [hys, syF, syF, fb_sm_succ]; first | rw [if_pos c57] | rw [if_neg c57])
          ·
            refine ja_iload (i := 6) dX8_places_60 rfl ?_
            refine ja_bipush (v := nI 16) dX8_places_62 (by decide +kernel) ?_
            refine ja_idivN dX8_places_64 (by omega) (by omega) (by omega) ?_
            refine ja_goto (tgt := 69) dX8_places_65 (by decide) ?_
            refine ja_iaddN dX8_places_69 ?_
            refine ja_istore (i := 4) dX8_places_70 rfl (Nat.le_of_ble_eq_true rfl) ?_
            refine ja_iincN dX8_places_72 rfl rfl (Nat.le_of_ble_eq_true rfl) ?_
            refine ja_goto (tgt := 16) dX8_places_75 (by decide) ?_
            exact ih16 (q + 1) _ _ (by omega) (by omega) (by rw [hxs, sxF, sxF, fb_sm_succ]; first | rw [if_pos c33] | rw [if_neg c33]) (by rw [hys, syF, syF, fb_sm_succ]; first | rw [if_pos c57] | rw [if_neg c57])
  exact lp16 257 0 0 0 (by omega) (by omega) rfl rfl
