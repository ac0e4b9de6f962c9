/-! THE REFERENCE: gives -/
/-- whether a square changes when the marked ones are given to t -/
def gvM (D : jD) (ly : Nat) (t : Int32) (q : Nat) : Bool := decide (¬ D 125 q = 0) && decide (¬ D 105 (256 * ly + q) = t)
/-- how many squares an area loses -/
def gvL (D : jD) (ly : Nat) (t : Int32) (a n : Nat) : Nat := fb_ct (fun q => gvM D ly t q && decide (D 105 (256 * ly + q) = nI a)) n
def lsU (D : jD) (ly : Nat) (t : Int32) (n : Nat) : jD := fun a b => if a = 124 ∧ b < 10 then nI (gvL D ly t b n) else D a b
def tk (v : Int32) (l s : Nat) : Int32 := if l = 0 then 0 else v * nI l / nI s
def vst (X : jD) (ly a : Nat) (t : Int32) : Option Nat → jD
  | none => ja_up X 106 (10 * ly + a) (X 106 (10 * ly + a) - t)
  | some b => ja_up (ja_up X 106 (10 * ly + a) (X 106 (10 * ly + a) - t)) 106 (10 * ly + b) (ja_up X 106 (10 * ly + a) (X 106 (10 * ly + a) - t) 106 (10 * ly + b) + t)
def vlU (G : jD) (ly : Nat) (to : Option Nat) (ls sz : Nat → Nat) : Nat → jD
  | 0 => G
  | a + 1 => vst (vlU G ly to ls sz a) ly a (tk (vlU G ly to ls sz a 106 (10 * ly + a)) (ls a) (sz a)) to
def gvV (D : jD) (ly : Nat) (to : Option Nat) (cp : Bool) : jD := if cp = true then lsU D ly (oI to) 256 else vlU (lsU D ly (oI to) 256) ly to (fun a => gvL D ly (oI to) a 256) (fun a => cSz (D 105) ly (nI a) 256) 10
def arU (X : jD) (ly : Nat) (t : Int32) (n : Nat) : jD := fun a b => if a = 105 ∧ 256 * ly ≤ b ∧ b < 256 * ly + n ∧ ¬ X 125 (b - 256 * ly) = 0 then t else X a b
def zrU (X : jD) (ly n : Nat) : jD := fun a b => if a = 106 ∧ 10 * ly ≤ b ∧ b < 10 * ly + n ∧ cSz (X 105) ly (nI (b - 10 * ly)) 256 = 0 then 0 else X a b
def gvR (D : jD) (ly : Nat) (to : Option Nat) (cp : Bool) : jD := zrU (arU (gvV D ly to cp) ly (oI to) 256) ly 10
theorem nI_j {a b : Nat} (h1 : a < 2 ^ 31) (h2 : b < 2 ^ 31) (h : nI a = nI b) : a = b := by
  have e := congrArg Int32.toInt h
  rw [nI_toInt h1, nI_toInt h2] at e
  omega
theorem gvL_le (D : jD) (ly : Nat) (t : Int32) (a n : Nat) : gvL D ly t a n ≤ cSz (D 105) ly (nI a) n := by
  induction n with
  | zero => exact Nat.le_refl _
  | succ n ih =>
    rw [gvL, cSz, fb_ct_succ, fb_ct_succ] at *
    by_cases h : D 105 (256 * ly + n) = nI a
    · simp only [h, decide_true, Bool.and_true, if_true]
      split <;> omega
    · simp only [h, decide_false, Bool.and_false]
      simpa using ih
theorem lsU_0 {D : jD} {ly : Nat} {t : Int32} : fiU D 124 10 0 = lsU D ly t 0 := by
  funext a b
  rw [fiU, lsU]
  rfl
theorem lsU_o {D : jD} {ly : Nat} {t : Int32} {n a b : Nat} (h : ¬ a = 124) : lsU D ly t n a b = D a b := by
  rw [lsU, if_neg (fun e => h e.1)]
theorem lsU_i {D : jD} {ly : Nat} {t : Int32} {n b : Nat} (h : b < 10) : lsU D ly t n 124 b = nI (gvL D ly t b n) := by
  rw [lsU, if_pos ⟨rfl, h⟩]
theorem lsU_k {D : jD} {ly : Nat} {t : Int32} {q : Nat} (h : gvM D ly t q = false ∨ D 105 (256 * ly + q) = -1) : lsU D ly t q = lsU D ly t (q + 1) := by
  funext a b
  rw [lsU, lsU]
  by_cases e : a = 124 ∧ b < 10
  · rw [if_pos e, if_pos e, gvL, gvL, fb_ct_succ]
    rcases h with h | h
    · simp [h]
    · rw [h]
      have e2 : ¬ (-1 : Int32) = nI b := fun x => nI_nm1 (by omega) x.symm
      simp [e2]
  · rw [if_neg e, if_neg e]
theorem lsU_y {D : jD} {ly q a : Nat} {t : Int32} (h : gvM D ly t q = true) (hf : D 105 (256 * ly + q) = nI a) (ha : a < 10) : ja_up (lsU D ly t q) 124 a (lsU D ly t q 124 a + nI 1) = lsU D ly t (q + 1) := by
  funext x b
  rw [lsU_i ha, nI_add]
  simp only [ja_up]
  rw [lsU, lsU]
  by_cases e : x = 124 ∧ b = a
  · obtain ⟨rfl, rfl⟩ := e
    rw [if_pos ⟨rfl, rfl⟩, if_pos ⟨rfl, ha⟩, gvL, gvL, fb_ct_succ, h, hf]
    simp
  · rw [if_neg e]
    by_cases e2 : x = 124 ∧ b < 10
    · rw [if_pos e2, if_pos e2, gvL, gvL, fb_ct_succ, hf]
      have e3 : ¬ nI a = nI b := fun x => e ⟨e2.1, nI_j (by omega) (by omega) x.symm⟩
      simp [e3]
    · rw [if_neg e2, if_neg e2]
theorem vst_o {X : jD} {ly k a b : Nat} {t : Int32} {to : Option Nat} (h : ¬ a = 106) : vst X ly k t to a b = X a b := by
  cases to with
  | none => exact up_n (fun e => h e.1)
  | some c => exact (up_n (fun e => h e.1)).trans (up_n (fun e => h e.1))
theorem vlU_o {G : jD} {ly a b : Nat} {to : Option Nat} {ls sz : Nat → Nat} (h : ¬ a = 106) : ∀ {k : Nat}, vlU G ly to ls sz k a b = G a b
  | 0 => rfl
  | k + 1 => (vst_o h).trans (vlU_o h)
theorem vlU_5 {G : jD} {ly : Nat} {to : Option Nat} {ls sz : Nat → Nat} {k : Nat} : vlU G ly to ls sz k 105 = G 105 := funext fun _ => vlU_o (by decide)
theorem lsU_5 {D : jD} {ly : Nat} {t : Int32} {n : Nat} : lsU D ly t n 105 = D 105 := funext fun _ => lsU_o (by decide)
theorem gvV_o {D : jD} {ly a b : Nat} {to : Option Nat} {cp : Bool} (h : ¬ a = 106) (h2 : ¬ a = 124) : gvV D ly to cp a b = D a b := by
  rw [gvV]
  split
  · exact lsU_o h2
  · exact (vlU_o h).trans (lsU_o h2)
theorem arU_0 {X : jD} {ly : Nat} {t : Int32} : X = arU X ly t 0 := by
  funext a b
  rw [arU, if_neg (by omega)]
theorem arU_o {X : jD} {ly a b n : Nat} {t : Int32} (h : ¬ a = 105) : arU X ly t n a b = X a b := by
  rw [arU, if_neg (fun e => h e.1)]
theorem arU_y {X : jD} {ly q : Nat} {t : Int32} (h : ¬ X 125 q = 0) : ja_up (arU X ly t q) 105 (256 * ly + q) t = arU X ly t (q + 1) := by
  funext a b
  simp only [ja_up]
  rw [arU, arU]
  by_cases e : a = 105 ∧ b = 256 * ly + q
  · obtain ⟨rfl, rfl⟩ := e
    rw [if_pos ⟨rfl, rfl⟩, if_pos ⟨rfl, by omega, by omega, by rw [Nat.add_sub_cancel_left]; exact h⟩]
  · rw [if_neg e]
    by_cases e2 : a = 105 ∧ 256 * ly ≤ b ∧ b < 256 * ly + q ∧ ¬ X 125 (b - 256 * ly) = 0
    · rw [if_pos e2, if_pos ⟨e2.1, e2.2.1, by omega, e2.2.2.2⟩]
    · rw [if_neg e2, if_neg (fun x => e2 ⟨x.1, x.2.1, by omega, x.2.2.2⟩)]
theorem arU_n {X : jD} {ly q : Nat} {t x : Int32} (h : X 125 q = 0) (hx : x = arU X ly t q 105 (256 * ly + q)) : ja_up (arU X ly t q) 105 (256 * ly + q) x = arU X ly t (q + 1) := by
  subst hx
  funext a b
  simp only [ja_up]
  by_cases e : a = 105 ∧ b = 256 * ly + q
  · obtain ⟨rfl, rfl⟩ := e
    rw [if_pos ⟨rfl, rfl⟩, arU, arU, if_neg (by omega), if_neg (fun x => x.2.2.2 (by rw [Nat.add_sub_cancel_left]; exact h))]
  · rw [if_neg e, arU, arU]
    by_cases e2 : a = 105 ∧ 256 * ly ≤ b ∧ b < 256 * ly + q ∧ ¬ X 125 (b - 256 * ly) = 0
    · rw [if_pos e2, if_pos ⟨e2.1, e2.2.1, by omega, e2.2.2.2⟩]
    · rw [if_neg e2, if_neg (fun x => e2 ⟨x.1, x.2.1, by have : ¬ b = 256 * ly + q := fun y => e ⟨x.1, y⟩; omega, x.2.2.2⟩)]
theorem zrU_0 {X : jD} {ly : Nat} : X = zrU X ly 0 := by
  funext a b
  rw [zrU, if_neg (by omega)]
theorem zrU_o {X : jD} {ly a b n : Nat} (h : ¬ a = 106) : zrU X ly n a b = X a b := by
  rw [zrU, if_neg (fun e => h e.1)]
theorem zrU_s {X : jD} {ly k : Nat} {x : Int32} (hx : x = if cSz (X 105) ly (nI k) 256 = 0 then 0 else zrU X ly k 106 (10 * ly + k)) : ja_up (zrU X ly k) 106 (10 * ly + k) x = zrU X ly (k + 1) := by
  subst hx
  funext a b
  simp only [ja_up]
  by_cases e : a = 106 ∧ b = 10 * ly + k
  · obtain ⟨rfl, rfl⟩ := e
    rw [if_pos ⟨rfl, rfl⟩, zrU, zrU]
    by_cases e2 : cSz (X 105) ly (nI k) 256 = 0
    · rw [if_pos e2, if_pos ⟨rfl, by omega, by omega, by rw [Nat.add_sub_cancel_left]; exact e2⟩]
    · rw [if_neg e2, if_neg (by omega), if_neg (fun y => e2 (by have := y.2.2.2; rwa [Nat.add_sub_cancel_left] at this))]
  · rw [if_neg e, zrU, zrU]
    by_cases e2 : a = 106 ∧ 10 * ly ≤ b ∧ b < 10 * ly + k ∧ cSz (X 105) ly (nI (b - 10 * ly)) 256 = 0
    · rw [if_pos e2, if_pos ⟨e2.1, e2.2.1, by omega, e2.2.2.2⟩]
    · rw [if_neg e2, if_neg (fun x => e2 ⟨x.1, x.2.1, by have : ¬ b = 10 * ly + k := fun y => e ⟨x.1, y⟩; omega, x.2.2.2⟩)]

theorem zrU_5 {X : jD} {ly n : Nat} : zrU X ly n 105 = X 105 := funext fun _ => zrU_o (by decide)

set_option maxRecDepth 100000 in
set_option maxHeartbeats 4000000 in
theorem s_gives_none (l : Launch) {Z : jZ} {D : jD} (hz : zM Z) (hw : wfA (D 105)) {ly : Nat} (h1 : ly < 3) {cp : Bool} (hc : D 104 ly = bI cp) : ja_M l (mX8_gives 0 0) [.ref (100), .int (nI (ly)), .int ((-1))] Z D (ja_jd (some (.int (nI (fb_ct (gvM D ly (-1)) 256)))) Z (fun D2 => D2 = gvR D ly none cp)) ja_x0 := by
  refine ja_Mof (lv := [some (.ref (100)), some (.int (nI (ly))), some (.int ((-1))), none, none, none]) (by decide +kernel) rfl rfl (Nat.le_of_ble_eq_true rfl) rfl ?_
  refine ja_iconst (v := nI 0) dX8_gives_0 (by decide +kernel) ?_
  refine ja_istore_n (i := 3) dX8_gives_1 rfl rfl (Nat.le_of_ble_eq_true rfl) ?_
  refine ja_iconst (v := nI 0) dX8_gives_2 (by decide +kernel) ?_
  refine ja_istore (i := 4) dX8_gives_3 rfl (Nat.le_of_ble_eq_true rfl) ?_
  have lp5 : ∀ (f5 : Nat) (k : Nat) (E : jD), (10 < k + f5) → (k ≤ 10) → (E = fiU D 124 k 0) → ja_A l (mX8_gives 0 0) ja_sn (ja_Qf (mX8_gives 0 0) (ja_jd (some (.int (nI (fb_ct (gvM D ly (-1)) 256)))) Z (fun D2 => D2 = gvR D ly none cp)) ja_x0) 5 [some (.ref (100)), some (.int (nI (ly))), some (.int ((-1))), some (.int (nI (0))), some (.int (nI (k))), none] [] Z E 0 0 := by
    intro f5
    induction f5 with
    | zero => intro k E hk hq hE; exfalso; omega
    | succ f5 ih5 =>
      intro k E hk hq hE
      refine ja_iload (i := 4) dX8_gives_5 rfl ?_
      refine ja_bipush (v := nI 10) dX8_gives_7 (by decide +kernel) ?_
      refine ja_icmpN_ge (tgt := 26) dX8_gives_9 (by decide) (by omega) (by omega) (fun c9 => ?_) (fun c9 => ?_)
      ·
        refine ja_iconst (v := nI 0) dX8_gives_26 (by decide +kernel) ?_
        refine ja_istore (i := 4) dX8_gives_27 rfl (Nat.le_of_ble_eq_true rfl) ?_
        have lp29 : ∀ (f29 : Nat) (q n : Nat) (E : jD), (256 < q + f29) → (q ≤ 256) → (n = fb_ct (gvM D ly (-1)) q) → (E = lsU D ly (-1) q) → ja_A l (mX8_gives 0 0) ja_sn (ja_Qf (mX8_gives 0 0) (ja_jd (some (.int (nI (fb_ct (gvM D ly (-1)) 256)))) Z (fun D2 => D2 = gvR D ly none cp)) ja_x0) 29 [some (.ref (100)), some (.int (nI (ly))), some (.int ((-1))), some (.int (nI (n))), some (.int (nI (q))), none] [] Z E 0 0 := by
          intro f29
          induction f29 with
          | zero => intro q n E hk hq hn hE; exfalso; omega
          | succ f29 ih29 =>
            intro q n E hk hq hn hE
            refine ja_iload (i := 4) dX8_gives_29 rfl ?_
            refine ja_sipush (v := nI 256) dX8_gives_31 (by decide +kernel) ?_
            refine ja_icmpN_ge (tgt := 88) dX8_gives_34 (by decide) (by omega) (by omega) (fun c34 => ?_) (fun c34 => ?_)
            ·
              refine ja_iconst (v := nI 0) dX8_gives_88 (by decide +kernel) ?_
              refine ja_istore (i := 4) dX8_gives_89 rfl (Nat.le_of_ble_eq_true rfl) ?_
              have lp91 : ∀ (f91 : Nat) (k : Nat) (E : jD), (10 < k + f91) → (k ≤ 10) → (cp = true → k = 0) → (E = (vlU (lsU D ly (-1) 256) ly none (fun a => gvL D ly (-1) a 256) (fun a => cSz (D 105) ly (nI a) 256) k)) → ja_A l (mX8_gives 0 0) ja_sn (ja_Qf (mX8_gives 0 0) (ja_jd (some (.int (nI (fb_ct (gvM D ly (-1)) 256)))) Z (fun D2 => D2 = gvR D ly none cp)) ja_x0) 91 [some (.ref (100)), some (.int (nI (ly))), some (.int ((-1))), some (.int (nI (n))), some (.int (nI (k))), none] [] Z E 0 0 := by
                intro f91
                induction f91 with
                | zero => intro k E hk2 hq2 hcp hE; exfalso; omega
                | succ f91 ih91 =>
                  intro k E hk2 hq2 hcp hE
                  refine ja_iload (i := 4) dX8_gives_91 rfl ?_
                  refine ja_bipush (v := nI 10) dX8_gives_93 (by decide +kernel) ?_
                  refine ja_icmpN_ge (tgt := 195) dX8_gives_95 (by decide) (by omega) (by omega) (fun c95 => ?_) (fun c95 => ?_)
                  ·
                    refine ja_iconst (v := nI 0) dX8_gives_195 (by decide +kernel) ?_
                    refine ja_istore (i := 4) dX8_gives_196 rfl (Nat.le_of_ble_eq_true rfl) ?_
                    have lp198 : ∀ (f198 : Nat) (q2 : Nat) (E : jD), (256 < q2 + f198) → (q2 ≤ 256) → (E = arU (gvV D ly none cp) ly (-1) q2) → ja_A l (mX8_gives 0 0) ja_sn (ja_Qf (mX8_gives 0 0) (ja_jd (some (.int (nI (fb_ct (gvM D ly (-1)) 256)))) Z (fun D2 => D2 = gvR D ly none cp)) ja_x0) 198 [some (.ref (100)), some (.int (nI (ly))), some (.int ((-1))), some (.int (nI (n))), some (.int (nI (q2))), none] [] Z E 0 0 := by
                      intro f198
                      induction f198 with
                      | zero => intro q2 E hk3 hq3 hE; exfalso; omega
                      | succ f198 ih198 =>
                        intro q2 E hk3 hq3 hE
                        refine ja_iload (i := 4) dX8_gives_198 rfl ?_
                        refine ja_sipush (v := nI 256) dX8_gives_200 (by decide +kernel) ?_
                        refine ja_icmpN_ge (tgt := 246) dX8_gives_203 (by decide) (by omega) (by omega) (fun c203 => ?_) (fun c203 => ?_)
                        ·
                          refine ja_iconst (v := nI 0) dX8_gives_246 (by decide +kernel) ?_
                          refine ja_istore (i := 4) dX8_gives_247 rfl (Nat.le_of_ble_eq_true rfl) ?_
                          have lp249 : ∀ (f249 : Nat) (k3 : Nat) (E : jD), (10 < k3 + f249) → (k3 ≤ 10) → (E = zrU (arU (gvV D ly none cp) ly (-1) 256) ly k3) → ja_A l (mX8_gives 0 0) ja_sn (ja_Qf (mX8_gives 0 0) (ja_jd (some (.int (nI (fb_ct (gvM D ly (-1)) 256)))) Z (fun D2 => D2 = gvR D ly none cp)) ja_x0) 249 [some (.ref (100)), some (.int (nI (ly))), some (.int ((-1))), some (.int (nI (n))), some (.int (nI (k3))), none] [] Z E 0 0 := by
                            intro f249
                            induction f249 with
                            | zero => intro k3 E hk4 hq4 hE; exfalso; omega
                            | succ f249 ih249 =>
                              intro k3 E hk4 hq4 hE
                              refine ja_iload (i := 4) dX8_gives_249 rfl ?_
                              refine ja_bipush (v := nI 10) dX8_gives_251 (by decide +kernel) ?_
                              refine ja_icmpN_ge (tgt := 300) dX8_gives_253 (by decide) (by omega) (by omega) (fun c253 => ?_) (fun c253 => ?_)
                              ·
                                refine ja_iload_n (i := 3) dX8_gives_300 rfl rfl ?_
                                refine ja_iret rfl rfl dX8_gives_301 (Nat.zero_le _) (Nat.zero_le _) ?_
                                exact ⟨by rw [hn, show q = 256 by omega], rfl, by rw [hE, show k3 = 10 by omega]; rfl⟩
                              ·
                                refine ja_aload_n (i := 0) dX8_gives_256 rfl rfl ?_
                                refine ja_getR fl_X8_21 (zM_s hz) rfl (zM_p5 hz) dX8_gives_257 ?_
                                refine ja_bipush (v := nI 10) dX8_gives_260 (by decide +kernel) ?_
                                refine ja_iload_n (i := 1) dX8_gives_262 rfl rfl ?_
                                refine ja_imulN dX8_gives_263 ?_
                                refine ja_iload (i := 4) dX8_gives_264 rfl ?_
                                refine ja_iaddN dX8_gives_266 ?_
                                refine ja_aload_n (i := 0) dX8_gives_267 rfl rfl ?_
                                refine ja_iload_n (i := 1) dX8_gives_268 rfl rfl ?_
                                refine ja_iload (i := 4) dX8_gives_269 rfl ?_
                                refine ja_cVr (st := [.int (nI ((10 * ly) + (k3))), .ref (106)]) (s_sizeOf (D := E) l hz (ly := ly) (by omega) (nI (k3))) rfl rfl (ce_X8_sizeOf 0 0) im_X8_sizeOf se_X8_sizeOf lk_X8_103 k_X8 (zM_s hz) ⟨(Nat.le_of_ble_eq_true rfl), (Nat.le_of_ble_eq_true rfl)⟩ dX8_gives_271 rfl rfl (Nat.le_of_ble_eq_true rfl) (Nat.zero_le _) (Nat.zero_le _) ?_
                                refine ja_top (y := nI (cSz ((arU (gvV D ly none cp) ly (-1) 256) 105) ly (nI k3) 256)) (by rw [hE, zrU_5]) ?_
                                have z3 := cSz_le ((arU (gvV D ly none cp) ly (-1) 256) 105) ly (nI k3) 256
                                refine ja_ifN_ne (tgt := 281) dX8_gives_274 (by decide) (by omega) (fun c274 => ?_) (fun c274 => ?_)
                                ·
                                  refine ja_aload_n (i := 0) dX8_gives_281 rfl rfl ?_
                                  refine ja_getR fl_X8_21 (zM_s hz) rfl (zM_p5 hz) dX8_gives_282 ?_
                                  refine ja_bipush (v := nI 10) dX8_gives_285 (by decide +kernel) ?_
                                  refine ja_iload_n (i := 1) dX8_gives_287 rfl rfl ?_
                                  refine ja_imulN dX8_gives_288 ?_
                                  refine ja_iload (i := 4) dX8_gives_289 rfl ?_
                                  refine ja_iaddN dX8_gives_291 ?_
                                  refine ja_iald (zM_a5 hz) rfl (by omega) (by decide) dX8_gives_292 ?_
                                  refine ja_iast (zM_a5 hz) rfl (by omega) (by decide) dX8_gives_293 ?_
                                  refine ja_iincN dX8_gives_294 rfl rfl (Nat.le_of_ble_eq_true rfl) ?_
                                  refine ja_goto (tgt := 249) dX8_gives_297 (by decide) ?_
                                  exact ih249 (k3 + 1) _ (by omega) (by omega) (by rw [hE]; exact zrU_s (by first | exact (if_pos c274).symm | exact (if_neg c274).symm))
                                ·
                                  refine ja_iconst (v := nI 0) dX8_gives_277 (by decide +kernel) ?_
                                  refine ja_goto (tgt := 293) dX8_gives_278 (by decide) ?_
                                  refine ja_iast (zM_a5 hz) rfl (by omega) (by decide) dX8_gives_293 ?_
                                  refine ja_iincN dX8_gives_294 rfl rfl (Nat.le_of_ble_eq_true rfl) ?_
                                  refine ja_goto (tgt := 249) dX8_gives_297 (by decide) ?_
                                  exact ih249 (k3 + 1) _ (by omega) (by omega) (by rw [hE]; exact zrU_s (by first | exact (if_pos c274).symm | exact (if_neg c274).symm))
                          exact lp249 11 0 E (by omega) (by omega) (by rw [hE, show q2 = 256 by omega]; exact zrU_0)
                        ·
                          refine ja_aload_n (i := 0) dX8_gives_206 rfl rfl ?_
                          refine ja_getR fl_X8_17 (zM_s hz) rfl (zM_p4 hz) dX8_gives_207 ?_
                          refine ja_sipush (v := nI 256) dX8_gives_210 (by decide +kernel) ?_
                          refine ja_iload_n (i := 1) dX8_gives_213 rfl rfl ?_
                          refine ja_imulN dX8_gives_214 ?_
                          refine ja_iload (i := 4) dX8_gives_215 rfl ?_
                          refine ja_iaddN dX8_gives_217 ?_
                          refine ja_aload_n (i := 0) dX8_gives_218 rfl rfl ?_
                          refine ja_getR fl_X8_73 (zM_s hz) rfl (zM_p24 hz) dX8_gives_219 ?_
                          refine ja_iload (i := 4) dX8_gives_222 rfl ?_
                          refine ja_zald (zM_a24 hz) rfl (by omega) (by decide) dX8_gives_224 ?_
                          refine ja_if_eq (tgt := 232) dX8_gives_225 (by decide) (fun c225 => ?_) (fun c225 => ?_)
                          ·
                            refine ja_aload_n (i := 0) dX8_gives_232 rfl rfl ?_
                            refine ja_iload_n (i := 1) dX8_gives_233 rfl rfl ?_
                            refine ja_iload (i := 4) dX8_gives_234 rfl ?_
                            refine ja_cVr (st := [.int (nI ((256 * ly) + (q2))), .ref (105)]) (s_at (D := E) l hz (ly := ly) (q := q2) (by omega) (by omega)) rfl rfl (ce_X8_at 0 0) im_X8_at se_X8_at lk_X8_92 k_X8 (zM_s hz) ⟨(Nat.le_of_ble_eq_true rfl), (Nat.le_of_ble_eq_true rfl)⟩ dX8_gives_236 rfl rfl (Nat.le_of_ble_eq_true rfl) (Nat.zero_le _) (Nat.zero_le _) ?_
                            refine ja_iast (zM_a4 hz) rfl (by omega) (by decide) dX8_gives_239 ?_
                            refine ja_iincN dX8_gives_240 rfl rfl (Nat.le_of_ble_eq_true rfl) ?_
                            refine ja_goto (tgt := 198) dX8_gives_243 (by decide) ?_
                            exact ih198 (q2 + 1) _ (by omega) (by omega) (by rw [hE]; first | exact arU_y (by rw [hE, arU_o (by decide)] at c225; exact c225) | exact arU_n (by rw [hE, arU_o (by decide)] at c225; exact c225) rfl)
                          ·
                            refine ja_iload_n (i := 2) dX8_gives_228 rfl rfl ?_
                            refine ja_goto (tgt := 239) dX8_gives_229 (by decide) ?_
                            refine ja_iast (zM_a4 hz) rfl (by omega) (by decide) dX8_gives_239 ?_
                            refine ja_iincN dX8_gives_240 rfl rfl (Nat.le_of_ble_eq_true rfl) ?_
                            refine ja_goto (tgt := 198) dX8_gives_243 (by decide) ?_
                            exact ih198 (q2 + 1) _ (by omega) (by omega) (by rw [hE]; first | exact arU_y (by rw [hE, arU_o (by decide)] at c225; exact c225) | exact arU_n (by rw [hE, arU_o (by decide)] at c225; exact c225) rfl)
                    exact lp198 257 0 E (by omega) (by omega) (by rw [hE]; refine Eq.trans ?_ arU_0; rw [gvV]; first | (rw [if_pos c104, hcp c104]; rfl) | (by_cases e : cp = true; (exfalso; have := hcp e; omega); rw [if_neg e, show k = 10 by omega]; rfl))
                  ·
                    refine ja_aload_n (i := 0) dX8_gives_98 rfl rfl ?_
                    refine ja_getR fl_X8_13 (zM_s hz) rfl (zM_p3 hz) dX8_gives_99 ?_
                    refine ja_iload_n (i := 1) dX8_gives_102 rfl rfl ?_
                    refine ja_zald (zM_a3 hz) rfl (by omega) (by decide) dX8_gives_103 ?_
                    refine ja_top (y := bI (cp)) (by rw [hE, vlU_o (by decide), lsU_o (by decide)]; exact hc) ?_
                    refine ja_ifB_ne (tgt := 195) dX8_gives_104 (by decide) (fun c104 => ?_) (fun c104 => ?_)
                    ·
                      refine ja_iconst (v := nI 0) dX8_gives_195 (by decide +kernel) ?_
                      refine ja_istore (i := 4) dX8_gives_196 rfl (Nat.le_of_ble_eq_true rfl) ?_
                      have lp198 : ∀ (f198 : Nat) (q2 : Nat) (E : jD), (256 < q2 + f198) → (q2 ≤ 256) → (E = arU (gvV D ly none cp) ly (-1) q2) → ja_A l (mX8_gives 0 0) ja_sn (ja_Qf (mX8_gives 0 0) (ja_jd (some (.int (nI (fb_ct (gvM D ly (-1)) 256)))) Z (fun D2 => D2 = gvR D ly none cp)) ja_x0) 198 [some (.ref (100)), some (.int (nI (ly))), some (.int ((-1))), some (.int (nI (n))), some (.int (nI (q2))), none] [] Z E 0 0 := by
                        intro f198
                        induction f198 with
                        | zero => intro q2 E hk3 hq3 hE; exfalso; omega
                        | succ f198 ih198 =>
                          intro q2 E hk3 hq3 hE
                          refine ja_iload (i := 4) dX8_gives_198 rfl ?_
                          refine ja_sipush (v := nI 256) dX8_gives_200 (by decide +kernel) ?_
                          refine ja_icmpN_ge (tgt := 246) dX8_gives_203 (by decide) (by omega) (by omega) (fun c203 => ?_) (fun c203 => ?_)
                          ·
                            refine ja_iconst (v := nI 0) dX8_gives_246 (by decide +kernel) ?_
                            refine ja_istore (i := 4) dX8_gives_247 rfl (Nat.le_of_ble_eq_true rfl) ?_
                            have lp249 : ∀ (f249 : Nat) (k3 : Nat) (E : jD), (10 < k3 + f249) → (k3 ≤ 10) → (E = zrU (arU (gvV D ly none cp) ly (-1) 256) ly k3) → ja_A l (mX8_gives 0 0) ja_sn (ja_Qf (mX8_gives 0 0) (ja_jd (some (.int (nI (fb_ct (gvM D ly (-1)) 256)))) Z (fun D2 => D2 = gvR D ly none cp)) ja_x0) 249 [some (.ref (100)), some (.int (nI (ly))), some (.int ((-1))), some (.int (nI (n))), some (.int (nI (k3))), none] [] Z E 0 0 := by
                              intro f249
                              induction f249 with
                              | zero => intro k3 E hk4 hq4 hE; exfalso; omega
                              | succ f249 ih249 =>
                                intro k3 E hk4 hq4 hE
                                refine ja_iload (i := 4) dX8_gives_249 rfl ?_
                                refine ja_bipush (v := nI 10) dX8_gives_251 (by decide +kernel) ?_
                                refine ja_icmpN_ge (tgt := 300) dX8_gives_253 (by decide) (by omega) (by omega) (fun c253 => ?_) (fun c253 => ?_)
                                ·
                                  refine ja_iload_n (i := 3) dX8_gives_300 rfl rfl ?_
                                  refine ja_iret rfl rfl dX8_gives_301 (Nat.zero_le _) (Nat.zero_le _) ?_
                                  exact ⟨by rw [hn, show q = 256 by omega], rfl, by rw [hE, show k3 = 10 by omega]; rfl⟩
                                ·
                                  refine ja_aload_n (i := 0) dX8_gives_256 rfl rfl ?_
                                  refine ja_getR fl_X8_21 (zM_s hz) rfl (zM_p5 hz) dX8_gives_257 ?_
                                  refine ja_bipush (v := nI 10) dX8_gives_260 (by decide +kernel) ?_
                                  refine ja_iload_n (i := 1) dX8_gives_262 rfl rfl ?_
                                  refine ja_imulN dX8_gives_263 ?_
                                  refine ja_iload (i := 4) dX8_gives_264 rfl ?_
                                  refine ja_iaddN dX8_gives_266 ?_
                                  refine ja_aload_n (i := 0) dX8_gives_267 rfl rfl ?_
                                  refine ja_iload_n (i := 1) dX8_gives_268 rfl rfl ?_
                                  refine ja_iload (i := 4) dX8_gives_269 rfl ?_
                                  refine ja_cVr (st := [.int (nI ((10 * ly) + (k3))), .ref (106)]) (s_sizeOf (D := E) l hz (ly := ly) (by omega) (nI (k3))) rfl rfl (ce_X8_sizeOf 0 0) im_X8_sizeOf se_X8_sizeOf lk_X8_103 k_X8 (zM_s hz) ⟨(Nat.le_of_ble_eq_true rfl), (Nat.le_of_ble_eq_true rfl)⟩ dX8_gives_271 rfl rfl (Nat.le_of_ble_eq_true rfl) (Nat.zero_le _) (Nat.zero_le _) ?_
                                  refine ja_top (y := nI (cSz ((arU (gvV D ly none cp) ly (-1) 256) 105) ly (nI k3) 256)) (by rw [hE, zrU_5]) ?_
                                  have z3 := cSz_le ((arU (gvV D ly none cp) ly (-1) 256) 105) ly (nI k3) 256
                                  refine ja_ifN_ne (tgt := 281) dX8_gives_274 (by decide) (by omega) (fun c274 => ?_) (fun c274 => ?_)
                                  ·
                                    refine ja_aload_n (i := 0) dX8_gives_281 rfl rfl ?_
                                    refine ja_getR fl_X8_21 (zM_s hz) rfl (zM_p5 hz) dX8_gives_282 ?_
                                    refine ja_bipush (v := nI 10) dX8_gives_285 (by decide +kernel) ?_
                                    refine ja_iload_n (i := 1) dX8_gives_287 rfl rfl ?_
                                    refine ja_imulN dX8_gives_288 ?_
                                    refine ja_iload (i := 4) dX8_gives_289 rfl ?_
                                    refine ja_iaddN dX8_gives_291 ?_
                                    refine ja_iald (zM_a5 hz) rfl (by omega) (by decide) dX8_gives_292 ?_
                                    refine ja_iast (zM_a5 hz) rfl (by omega) (by decide) dX8_gives_293 ?_
                                    refine ja_iincN dX8_gives_294 rfl rfl (Nat.le_of_ble_eq_true rfl) ?_
                                    refine ja_goto (tgt := 249) dX8_gives_297 (by decide) ?_
                                    exact ih249 (k3 + 1) _ (by omega) (by omega) (by rw [hE]; exact zrU_s (by first | exact (if_pos c274).symm | exact (if_neg c274).symm))
                                  ·
                                    refine ja_iconst (v := nI 0) dX8_gives_277 (by decide +kernel) ?_
                                    refine ja_goto (tgt := 293) dX8_gives_278 (by decide) ?_
                                    refine ja_iast (zM_a5 hz) rfl (by omega) (by decide) dX8_gives_293 ?_
                                    refine ja_iincN dX8_gives_294 rfl rfl (Nat.le_of_ble_eq_true rfl) ?_
                                    refine ja_goto (tgt := 249) dX8_gives_297 (by decide) ?_
                                    exact ih249 (k3 + 1) _ (by omega) (by omega) (by rw [hE]; exact zrU_s (by first | exact (if_pos c274).symm | exact (if_neg c274).symm))
                            exact lp249 11 0 E (by omega) (by omega) (by rw [hE, show q2 = 256 by omega]; exact zrU_0)
                          ·
                            refine ja_aload_n (i := 0) dX8_gives_206 rfl rfl ?_
                            refine ja_getR fl_X8_17 (zM_s hz) rfl (zM_p4 hz) dX8_gives_207 ?_
                            refine ja_sipush (v := nI 256) dX8_gives_210 (by decide +kernel) ?_
                            refine ja_iload_n (i := 1) dX8_gives_213 rfl rfl ?_
                            refine ja_imulN dX8_gives_214 ?_
                            refine ja_iload (i := 4) dX8_gives_215 rfl ?_
                            refine ja_iaddN dX8_gives_217 ?_
                            refine ja_aload_n (i := 0) dX8_gives_218 rfl rfl ?_
                            refine ja_getR fl_X8_73 (zM_s hz) rfl (zM_p24 hz) dX8_gives_219 ?_
                            refine ja_iload (i := 4) dX8_gives_222 rfl ?_
                            refine ja_zald (zM_a24 hz) rfl (by omega) (by decide) dX8_gives_224 ?_
                            refine ja_if_eq (tgt := 232) dX8_gives_225 (by decide) (fun c225 => ?_) (fun c225 => ?_)
                            ·
                              refine ja_aload_n (i := 0) dX8_gives_232 rfl rfl ?_
                              refine ja_iload_n (i := 1) dX8_gives_233 rfl rfl ?_
                              refine ja_iload (i := 4) dX8_gives_234 rfl ?_
                              refine ja_cVr (st := [.int (nI ((256 * ly) + (q2))), .ref (105)]) (s_at (D := E) l hz (ly := ly) (q := q2) (by omega) (by omega)) rfl rfl (ce_X8_at 0 0) im_X8_at se_X8_at lk_X8_92 k_X8 (zM_s hz) ⟨(Nat.le_of_ble_eq_true rfl), (Nat.le_of_ble_eq_true rfl)⟩ dX8_gives_236 rfl rfl (Nat.le_of_ble_eq_true rfl) (Nat.zero_le _) (Nat.zero_le _) ?_
                              refine ja_iast (zM_a4 hz) rfl (by omega) (by decide) dX8_gives_239 ?_
                              refine ja_iincN dX8_gives_240 rfl rfl (Nat.le_of_ble_eq_true rfl) ?_
                              refine ja_goto (tgt := 198) dX8_gives_243 (by decide) ?_
                              exact ih198 (q2 + 1) _ (by omega) (by omega) (by rw [hE]; first | exact arU_y (by rw [hE, arU_o (by decide)] at c225; exact c225) | exact arU_n (by rw [hE, arU_o (by decide)] at c225; exact c225) rfl)
                            ·
                              refine ja_iload_n (i := 2) dX8_gives_228 rfl rfl ?_
                              refine ja_goto (tgt := 239) dX8_gives_229 (by decide) ?_
                              refine ja_iast (zM_a4 hz) rfl (by omega) (by decide) dX8_gives_239 ?_
                              refine ja_iincN dX8_gives_240 rfl rfl (Nat.le_of_ble_eq_true rfl) ?_
                              refine ja_goto (tgt := 198) dX8_gives_243 (by decide) ?_
                              exact ih198 (q2 + 1) _ (by omega) (by omega) (by rw [hE]; first | exact arU_y (by rw [hE, arU_o (by decide)] at c225; exact c225) | exact arU_n (by rw [hE, arU_o (by decide)] at c225; exact c225) rfl)
                      exact lp198 257 0 E (by omega) (by omega) (by rw [hE]; refine Eq.trans ?_ arU_0; rw [gvV]; first | (rw [if_pos c104, hcp c104]; rfl) | (by_cases e : cp = true; (exfalso; have := hcp e; omega); rw [if_neg e, show k = 10 by omega]; rfl))
                    ·
                      have jn149 : ∀ (tt : Int32), (tt = tk (E 106 (10 * ly + k)) (gvL D ly (-1) k 256) (cSz (D 105) ly (nI k) 256)) → ja_A l (mX8_gives 0 0) ja_sn (ja_Qf (mX8_gives 0 0) (ja_jd (some (.int (nI (fb_ct (gvM D ly (-1)) 256)))) Z (fun D2 => D2 = gvR D ly none cp)) ja_x0) 149 [some (.ref (100)), some (.int (nI (ly))), some (.int ((-1))), some (.int (nI (n))), some (.int (nI (k))), none] [.int (tt)] Z E 0 0 := by
                        intro tt htt
                        refine ja_istore (i := 5) dX8_gives_149 rfl (Nat.le_of_ble_eq_true rfl) ?_
                        refine ja_aload_n (i := 0) dX8_gives_151 rfl rfl ?_
                        refine ja_getR fl_X8_21 (zM_s hz) rfl (zM_p5 hz) dX8_gives_152 ?_
                        refine ja_bipush (v := nI 10) dX8_gives_155 (by decide +kernel) ?_
                        refine ja_iload_n (i := 1) dX8_gives_157 rfl rfl ?_
                        refine ja_imulN dX8_gives_158 ?_
                        refine ja_iload (i := 4) dX8_gives_159 rfl ?_
                        refine ja_iaddN dX8_gives_161 ?_
                        refine ja_dup2 dX8_gives_162 rfl rfl ?_
                        refine ja_iald (zM_a5 hz) rfl (by omega) (by decide) dX8_gives_163 ?_
                        refine ja_iload (i := 5) dX8_gives_164 rfl ?_
                        refine ja_isub dX8_gives_166 ?_
                        refine ja_iast (zM_a5 hz) rfl (by omega) (by decide) dX8_gives_167 ?_
                        refine ja_iload_n (i := 2) dX8_gives_168 rfl rfl ?_
                        refine ja_iconst (v := (-1)) dX8_gives_169 (by decide +kernel) ?_
                        refine ja_icmp_eq (tgt := 189) dX8_gives_170 (by decide) (fun c170 => ?_) (fun c170 => absurd rfl c170)
                        refine ja_iincN dX8_gives_189 rfl rfl (Nat.le_of_ble_eq_true rfl) ?_
                        refine ja_goto (tgt := 91) dX8_gives_192 (by decide) ?_
                        refine ja_forget (i := 5) ?_
                        exact ih91 (k + 1) _ (by omega) (by omega) (fun e => absurd (e.symm.trans c104) (by decide)) (by rw [vlU, ← hE, ← htt]; rfl)
                      refine ja_aload_n (i := 0) dX8_gives_107 rfl rfl ?_
                      refine ja_getR fl_X8_70 (zM_s hz) rfl (zM_p23 hz) dX8_gives_108 ?_
                      refine ja_iload (i := 4) dX8_gives_111 rfl ?_
                      have z1 := gvL_le D ly (-1) k 256
                      have z2 := cSz_le (D 105) ly (nI k) 256
                      refine ja_iald (zM_a23 hz) rfl (by omega) (by decide) dX8_gives_113 ?_
                      refine ja_top (y := nI (gvL D ly (-1) k 256)) (by rw [hE, vlU_o (by decide), lsU_i (by omega)]) ?_
                      refine ja_ifN_ne (tgt := 121) dX8_gives_114 (by decide) (by omega) (fun c114 => ?_) (fun c114 => ?_)
                      ·
                        refine ja_aload_n (i := 0) dX8_gives_121 rfl rfl ?_
                        refine ja_getR fl_X8_21 (zM_s hz) rfl (zM_p5 hz) dX8_gives_122 ?_
                        refine ja_bipush (v := nI 10) dX8_gives_125 (by decide +kernel) ?_
                        refine ja_iload_n (i := 1) dX8_gives_127 rfl rfl ?_
                        refine ja_imulN dX8_gives_128 ?_
                        refine ja_iload (i := 4) dX8_gives_129 rfl ?_
                        refine ja_iaddN dX8_gives_131 ?_
                        refine ja_iald (zM_a5 hz) rfl (by omega) (by decide) dX8_gives_132 ?_
                        refine ja_aload_n (i := 0) dX8_gives_133 rfl rfl ?_
                        refine ja_getR fl_X8_70 (zM_s hz) rfl (zM_p23 hz) dX8_gives_134 ?_
                        refine ja_iload (i := 4) dX8_gives_137 rfl ?_
                        refine ja_iald (zM_a23 hz) rfl (by omega) (by decide) dX8_gives_139 ?_
                        refine ja_top (y := nI (gvL D ly (-1) k 256)) (by rw [hE, vlU_o (by decide), lsU_i (by omega)]) ?_
                        refine ja_imul dX8_gives_140 ?_
                        refine ja_aload_n (i := 0) dX8_gives_141 rfl rfl ?_
                        refine ja_iload_n (i := 1) dX8_gives_142 rfl rfl ?_
                        refine ja_iload (i := 4) dX8_gives_143 rfl ?_
                        refine ja_cVr (st := [.int ((E 106 ((10 * ly) + (k)) * nI (gvL D ly (-1) k 256)))]) (s_sizeOf (D := E) l hz (ly := ly) (by omega) (nI (k))) rfl rfl (ce_X8_sizeOf 0 0) im_X8_sizeOf se_X8_sizeOf lk_X8_103 k_X8 (zM_s hz) ⟨(Nat.le_of_ble_eq_true rfl), (Nat.le_of_ble_eq_true rfl)⟩ dX8_gives_145 rfl rfl (Nat.le_of_ble_eq_true rfl) (Nat.zero_le _) (Nat.zero_le _) ?_
                        refine ja_top (y := nI (cSz (D 105) ly (nI k) 256)) (by rw [hE, vlU_5, lsU_5]) ?_
                        refine ja_idiv dX8_gives_148 (by have e := gvL_le D ly (-1) k 256; intro e2; have := nI_j (by omega) (by omega) (e2.trans (show (0 : Int32) = nI 0 from rfl)); omega) ?_
                        exact jn149 (((E 106 ((10 * ly) + (k)) * nI (gvL D ly (-1) k 256)) / nI (cSz (D 105) ly (nI k) 256))) (by rw [tk]; first | exact (if_pos c114).symm | exact (if_neg c114).symm)
                      ·
                        refine ja_iconst (v := nI 0) dX8_gives_117 (by decide +kernel) ?_
                        refine ja_goto (tgt := 149) dX8_gives_118 (by decide) ?_
                        exact jn149 (nI (0)) (by rw [tk]; first | exact (if_pos c114).symm | exact (if_neg c114).symm)
              exact lp91 11 0 E (by omega) (by omega) (fun _ => rfl) (by rw [hE, show q = 256 by omega]; rfl)
            ·
              refine ja_aload_n (i := 0) dX8_gives_37 rfl rfl ?_
              refine ja_iload_n (i := 1) dX8_gives_38 rfl rfl ?_
              refine ja_iload (i := 4) dX8_gives_39 rfl ?_
              refine ja_cVr (st := []) (s_at (D := E) l hz (ly := ly) (q := q) (by omega) (by omega)) rfl rfl (ce_X8_at 0 0) im_X8_at se_X8_at lk_X8_92 k_X8 (zM_s hz) ⟨(Nat.le_of_ble_eq_true rfl), (Nat.le_of_ble_eq_true rfl)⟩ dX8_gives_41 rfl rfl (Nat.le_of_ble_eq_true rfl) (Nat.zero_le _) (Nat.zero_le _) ?_
              rcases (show E 105 (256 * ly + q) = -1 ∨ ∃ a, a < 10 ∧ E 105 (256 * ly + q) = nI a by rw [hE, lsU_5]; exact hw _ (by omega)) with hf | ⟨a, ha, hf⟩
              ·
                refine ja_top (y := (-1)) hf ?_
                have hf2 : D 105 (256 * ly + q) = (-1) := by rw [hE, lsU_5] at hf; exact hf
                refine ja_istore (i := 5) dX8_gives_44 rfl (Nat.le_of_ble_eq_true rfl) ?_
                refine ja_aload_n (i := 0) dX8_gives_46 rfl rfl ?_
                refine ja_getR fl_X8_73 (zM_s hz) rfl (zM_p24 hz) dX8_gives_47 ?_
                refine ja_iload (i := 4) dX8_gives_50 rfl ?_
                refine ja_zald (zM_a24 hz) rfl (by omega) (by decide) dX8_gives_52 ?_
                refine ja_if_eq (tgt := 82) dX8_gives_53 (by decide) (fun c53 => ?_) (fun c53 => ?_)
                ·
                  refine ja_iincN dX8_gives_82 rfl rfl (Nat.le_of_ble_eq_true rfl) ?_
                  refine ja_goto (tgt := 29) dX8_gives_85 (by decide) ?_
                  refine ja_forget (i := 5) ?_
                  exact ih29 (q + 1) _ _ (by omega) (by omega) (by rw [hn, fb_ct_succ, (show gvM D ly (-1) q = false by rw [gvM, hf2]; rw [hE, lsU_o (by decide)] at c53; simp_all)]; rfl) (by rw [hE]; exact lsU_k (Or.inl (show gvM D ly (-1) q = false by rw [gvM, hf2]; rw [hE, lsU_o (by decide)] at c53; simp_all)))
                ·
                  refine ja_iload (i := 5) dX8_gives_56 rfl ?_
                  refine ja_iload_n (i := 2) dX8_gives_58 rfl rfl ?_
                  refine ja_icmp_eq (tgt := 82) dX8_gives_59 (by decide) (fun c59 => ?_) (fun c59 => absurd rfl c59)
                  refine ja_iincN dX8_gives_82 rfl rfl (Nat.le_of_ble_eq_true rfl) ?_
                  refine ja_goto (tgt := 29) dX8_gives_85 (by decide) ?_
                  refine ja_forget (i := 5) ?_
                  exact ih29 (q + 1) _ _ (by omega) (by omega) (by rw [hn, fb_ct_succ, (show gvM D ly (-1) q = false by rw [gvM, hf2]; rw [hE, lsU_o (by decide)] at c53; simp_all)]; rfl) (by rw [hE]; exact lsU_k (Or.inl (show gvM D ly (-1) q = false by rw [gvM, hf2]; rw [hE, lsU_o (by decide)] at c53; simp_all)))
              ·
                refine ja_top (y := nI (a)) hf ?_
                have hf2 : D 105 (256 * ly + q) = nI (a) := by rw [hE, lsU_5] at hf; exact hf
                refine ja_istore (i := 5) dX8_gives_44 rfl (Nat.le_of_ble_eq_true rfl) ?_
                refine ja_aload_n (i := 0) dX8_gives_46 rfl rfl ?_
                refine ja_getR fl_X8_73 (zM_s hz) rfl (zM_p24 hz) dX8_gives_47 ?_
                refine ja_iload (i := 4) dX8_gives_50 rfl ?_
                refine ja_zald (zM_a24 hz) rfl (by omega) (by decide) dX8_gives_52 ?_
                refine ja_if_eq (tgt := 82) dX8_gives_53 (by decide) (fun c53 => ?_) (fun c53 => ?_)
                ·
                  refine ja_iincN dX8_gives_82 rfl rfl (Nat.le_of_ble_eq_true rfl) ?_
                  refine ja_goto (tgt := 29) dX8_gives_85 (by decide) ?_
                  refine ja_forget (i := 5) ?_
                  exact ih29 (q + 1) _ _ (by omega) (by omega) (by rw [hn, fb_ct_succ, (show gvM D ly (-1) q = false by rw [gvM, hf2]; rw [hE, lsU_o (by decide)] at c53; simp_all)]; rfl) (by rw [hE]; exact lsU_k (Or.inl (show gvM D ly (-1) q = false by rw [gvM, hf2]; rw [hE, lsU_o (by decide)] at c53; simp_all)))
                ·
                  refine ja_iload (i := 5) dX8_gives_56 rfl ?_
                  refine ja_iload_n (i := 2) dX8_gives_58 rfl rfl ?_
                  refine ja_icmp_eq (tgt := 82) dX8_gives_59 (by decide) (fun c59 => absurd c59 (nI_nm1 (by omega))) (fun c59 => ?_)
                  have hm : gvM D ly (-1) q = true := by (rw [hE, lsU_o (by decide)] at c53; rw [gvM, hf2]; first | (simp_all; done) | (simp [c53]; exact fun e => c59 (nI_j (by omega) (by omega) e)))
                  refine ja_iincN dX8_gives_62 rfl rfl (Nat.le_of_ble_eq_true rfl) ?_
                  refine ja_iload (i := 5) dX8_gives_65 rfl ?_
                  refine ja_iconst (v := (-1)) dX8_gives_67 (by decide +kernel) ?_
                  refine ja_icmp_eq (tgt := 82) dX8_gives_68 (by decide) (fun c68 => absurd c68 (nI_nm1 (by omega))) (fun c68 => ?_)
                  refine ja_aload_n (i := 0) dX8_gives_71 rfl rfl ?_
                  refine ja_getR fl_X8_70 (zM_s hz) rfl (zM_p23 hz) dX8_gives_72 ?_
                  refine ja_iload (i := 5) dX8_gives_75 rfl ?_
                  refine ja_dup2 dX8_gives_77 rfl rfl ?_
                  refine ja_iald (zM_a23 hz) rfl (by omega) (by decide) dX8_gives_78 ?_
                  refine ja_iconst (v := nI 1) dX8_gives_79 (by decide +kernel) ?_
                  refine ja_iadd dX8_gives_80 ?_
                  refine ja_iast (zM_a23 hz) rfl (by omega) (by decide) dX8_gives_81 ?_
                  refine ja_iincN dX8_gives_82 rfl rfl (Nat.le_of_ble_eq_true rfl) ?_
                  refine ja_goto (tgt := 29) dX8_gives_85 (by decide) ?_
                  refine ja_forget (i := 5) ?_
                  exact ih29 (q + 1) _ _ (by omega) (by omega) (by rw [hn, fb_ct_succ, hm]; rfl) (by rw [hE]; exact lsU_y hm hf2 ha)
        exact lp29 257 0 0 E (by omega) (by omega) rfl (by rw [hE, show k = 10 by omega]; exact lsU_0)
      ·
        refine ja_aload_n (i := 0) dX8_gives_12 rfl rfl ?_
        refine ja_getR fl_X8_70 (zM_s hz) rfl (zM_p23 hz) dX8_gives_13 ?_
        refine ja_iload (i := 4) dX8_gives_16 rfl ?_
        refine ja_iconst (v := nI 0) dX8_gives_18 (by decide +kernel) ?_
        refine ja_iast (zM_a23 hz) rfl (by omega) (by decide) dX8_gives_19 ?_
        refine ja_iincN dX8_gives_20 rfl rfl (Nat.le_of_ble_eq_true rfl) ?_
        refine ja_goto (tgt := 5) dX8_gives_23 (by decide) ?_
        exact ih5 (k + 1) _ (by omega) (by omega) (by rw [hE]; exact fiU_s)
  exact lp5 11 0 D (by omega) (by omega) fiU_0

set_option maxRecDepth 100000 in
set_option maxHeartbeats 4000000 in
theorem s_gives_some (l : Launch) {Z : jZ} {D : jD} (hz : zM Z) (hw : wfA (D 105)) {ly : Nat} (h1 : ly < 3) {b : Nat} (hb : b < 10) {cp : Bool} (hc : D 104 ly = bI cp) : ja_M l (mX8_gives 0 0) [.ref (100), .int (nI (ly)), .int (nI (b))] Z D (ja_jd (some (.int (nI (fb_ct (gvM D ly (nI b)) 256)))) Z (fun D2 => D2 = gvR D ly (some b) cp)) ja_x0 := by
  refine ja_Mof (lv := [some (.ref (100)), some (.int (nI (ly))), some (.int (nI (b))), none, none, none]) (by decide +kernel) rfl rfl (Nat.le_of_ble_eq_true rfl) rfl ?_
  refine ja_iconst (v := nI 0) dX8_gives_0 (by decide +kernel) ?_
  refine ja_istore_n (i := 3) dX8_gives_1 rfl rfl (Nat.le_of_ble_eq_true rfl) ?_
  refine ja_iconst (v := nI 0) dX8_gives_2 (by decide +kernel) ?_
  refine ja_istore (i := 4) dX8_gives_3 rfl (Nat.le_of_ble_eq_true rfl) ?_
  have lp5 : ∀ (f5 : Nat) (k : Nat) (E : jD), (10 < k + f5) → (k ≤ 10) → (E = fiU D 124 k 0) → ja_A l (mX8_gives 0 0) ja_sn (ja_Qf (mX8_gives 0 0) (ja_jd (some (.int (nI (fb_ct (gvM D ly (nI b)) 256)))) Z (fun D2 => D2 = gvR D ly (some b) cp)) ja_x0) 5 [some (.ref (100)), some (.int (nI (ly))), some (.int (nI (b))), some (.int (nI (0))), some (.int (nI (k))), none] [] Z E 0 0 := by
    intro f5
    induction f5 with
    | zero => intro k E hk hq hE; exfalso; omega
    | succ f5 ih5 =>
      intro k E hk hq hE
      refine ja_iload (i := 4) dX8_gives_5 rfl ?_
      refine ja_bipush (v := nI 10) dX8_gives_7 (by decide +kernel) ?_
      refine ja_icmpN_ge (tgt := 26) dX8_gives_9 (by decide) (by omega) (by omega) (fun c9 => ?_) (fun c9 => ?_)
      ·
        refine ja_iconst (v := nI 0) dX8_gives_26 (by decide +kernel) ?_
        refine ja_istore (i := 4) dX8_gives_27 rfl (Nat.le_of_ble_eq_true rfl) ?_
        have lp29 : ∀ (f29 : Nat) (q n : Nat) (E : jD), (256 < q + f29) → (q ≤ 256) → (n = fb_ct (gvM D ly (nI b)) q) → (E = lsU D ly (nI b) q) → ja_A l (mX8_gives 0 0) ja_sn (ja_Qf (mX8_gives 0 0) (ja_jd (some (.int (nI (fb_ct (gvM D ly (nI b)) 256)))) Z (fun D2 => D2 = gvR D ly (some b) cp)) ja_x0) 29 [some (.ref (100)), some (.int (nI (ly))), some (.int (nI (b))), some (.int (nI (n))), some (.int (nI (q))), none] [] Z E 0 0 := by
          intro f29
          induction f29 with
          | zero => intro q n E hk hq hn hE; exfalso; omega
          | succ f29 ih29 =>
            intro q n E hk hq hn hE
            refine ja_iload (i := 4) dX8_gives_29 rfl ?_
            refine ja_sipush (v := nI 256) dX8_gives_31 (by decide +kernel) ?_
            refine ja_icmpN_ge (tgt := 88) dX8_gives_34 (by decide) (by omega) (by omega) (fun c34 => ?_) (fun c34 => ?_)
            ·
              refine ja_iconst (v := nI 0) dX8_gives_88 (by decide +kernel) ?_
              refine ja_istore (i := 4) dX8_gives_89 rfl (Nat.le_of_ble_eq_true rfl) ?_
              have lp91 : ∀ (f91 : Nat) (k : Nat) (E : jD), (10 < k + f91) → (k ≤ 10) → (cp = true → k = 0) → (E = (vlU (lsU D ly (nI b) 256) ly (some b) (fun a => gvL D ly (nI b) a 256) (fun a => cSz (D 105) ly (nI a) 256) k)) → ja_A l (mX8_gives 0 0) ja_sn (ja_Qf (mX8_gives 0 0) (ja_jd (some (.int (nI (fb_ct (gvM D ly (nI b)) 256)))) Z (fun D2 => D2 = gvR D ly (some b) cp)) ja_x0) 91 [some (.ref (100)), some (.int (nI (ly))), some (.int (nI (b))), some (.int (nI (n))), some (.int (nI (k))), none] [] Z E 0 0 := by
                intro f91
                induction f91 with
                | zero => intro k E hk2 hq2 hcp hE; exfalso; omega
                | succ f91 ih91 =>
                  intro k E hk2 hq2 hcp hE
                  refine ja_iload (i := 4) dX8_gives_91 rfl ?_
                  refine ja_bipush (v := nI 10) dX8_gives_93 (by decide +kernel) ?_
                  refine ja_icmpN_ge (tgt := 195) dX8_gives_95 (by decide) (by omega) (by omega) (fun c95 => ?_) (fun c95 => ?_)
                  ·
                    refine ja_iconst (v := nI 0) dX8_gives_195 (by decide +kernel) ?_
                    refine ja_istore (i := 4) dX8_gives_196 rfl (Nat.le_of_ble_eq_true rfl) ?_
                    have lp198 : ∀ (f198 : Nat) (q2 : Nat) (E : jD), (256 < q2 + f198) → (q2 ≤ 256) → (E = arU (gvV D ly (some b) cp) ly (nI b) q2) → ja_A l (mX8_gives 0 0) ja_sn (ja_Qf (mX8_gives 0 0) (ja_jd (some (.int (nI (fb_ct (gvM D ly (nI b)) 256)))) Z (fun D2 => D2 = gvR D ly (some b) cp)) ja_x0) 198 [some (.ref (100)), some (.int (nI (ly))), some (.int (nI (b))), some (.int (nI (n))), some (.int (nI (q2))), none] [] Z E 0 0 := by
                      intro f198
                      induction f198 with
                      | zero => intro q2 E hk3 hq3 hE; exfalso; omega
                      | succ f198 ih198 =>
                        intro q2 E hk3 hq3 hE
                        refine ja_iload (i := 4) dX8_gives_198 rfl ?_
                        refine ja_sipush (v := nI 256) dX8_gives_200 (by decide +kernel) ?_
                        refine ja_icmpN_ge (tgt := 246) dX8_gives_203 (by decide) (by omega) (by omega) (fun c203 => ?_) (fun c203 => ?_)
                        ·
                          refine ja_iconst (v := nI 0) dX8_gives_246 (by decide +kernel) ?_
                          refine ja_istore (i := 4) dX8_gives_247 rfl (Nat.le_of_ble_eq_true rfl) ?_
                          have lp249 : ∀ (f249 : Nat) (k3 : Nat) (E : jD), (10 < k3 + f249) → (k3 ≤ 10) → (E = zrU (arU (gvV D ly (some b) cp) ly (nI b) 256) ly k3) → ja_A l (mX8_gives 0 0) ja_sn (ja_Qf (mX8_gives 0 0) (ja_jd (some (.int (nI (fb_ct (gvM D ly (nI b)) 256)))) Z (fun D2 => D2 = gvR D ly (some b) cp)) ja_x0) 249 [some (.ref (100)), some (.int (nI (ly))), some (.int (nI (b))), some (.int (nI (n))), some (.int (nI (k3))), none] [] Z E 0 0 := by
                            intro f249
                            induction f249 with
                            | zero => intro k3 E hk4 hq4 hE; exfalso; omega
                            | succ f249 ih249 =>
                              intro k3 E hk4 hq4 hE
                              refine ja_iload (i := 4) dX8_gives_249 rfl ?_
                              refine ja_bipush (v := nI 10) dX8_gives_251 (by decide +kernel) ?_
                              refine ja_icmpN_ge (tgt := 300) dX8_gives_253 (by decide) (by omega) (by omega) (fun c253 => ?_) (fun c253 => ?_)
                              ·
                                refine ja_iload_n (i := 3) dX8_gives_300 rfl rfl ?_
                                refine ja_iret rfl rfl dX8_gives_301 (Nat.zero_le _) (Nat.zero_le _) ?_
                                exact ⟨by rw [hn, show q = 256 by omega], rfl, by rw [hE, show k3 = 10 by omega]; rfl⟩
                              ·
                                refine ja_aload_n (i := 0) dX8_gives_256 rfl rfl ?_
                                refine ja_getR fl_X8_21 (zM_s hz) rfl (zM_p5 hz) dX8_gives_257 ?_
                                refine ja_bipush (v := nI 10) dX8_gives_260 (by decide +kernel) ?_
                                refine ja_iload_n (i := 1) dX8_gives_262 rfl rfl ?_
                                refine ja_imulN dX8_gives_263 ?_
                                refine ja_iload (i := 4) dX8_gives_264 rfl ?_
                                refine ja_iaddN dX8_gives_266 ?_
                                refine ja_aload_n (i := 0) dX8_gives_267 rfl rfl ?_
                                refine ja_iload_n (i := 1) dX8_gives_268 rfl rfl ?_
                                refine ja_iload (i := 4) dX8_gives_269 rfl ?_
                                refine ja_cVr (st := [.int (nI ((10 * ly) + (k3))), .ref (106)]) (s_sizeOf (D := E) l hz (ly := ly) (by omega) (nI (k3))) rfl rfl (ce_X8_sizeOf 0 0) im_X8_sizeOf se_X8_sizeOf lk_X8_103 k_X8 (zM_s hz) ⟨(Nat.le_of_ble_eq_true rfl), (Nat.le_of_ble_eq_true rfl)⟩ dX8_gives_271 rfl rfl (Nat.le_of_ble_eq_true rfl) (Nat.zero_le _) (Nat.zero_le _) ?_
                                refine ja_top (y := nI (cSz ((arU (gvV D ly (some b) cp) ly (nI b) 256) 105) ly (nI k3) 256)) (by rw [hE, zrU_5]) ?_
                                have z3 := cSz_le ((arU (gvV D ly (some b) cp) ly (nI b) 256) 105) ly (nI k3) 256
                                refine ja_ifN_ne (tgt := 281) dX8_gives_274 (by decide) (by omega) (fun c274 => ?_) (fun c274 => ?_)
                                ·
                                  refine ja_aload_n (i := 0) dX8_gives_281 rfl rfl ?_
                                  refine ja_getR fl_X8_21 (zM_s hz) rfl (zM_p5 hz) dX8_gives_282 ?_
                                  refine ja_bipush (v := nI 10) dX8_gives_285 (by decide +kernel) ?_
                                  refine ja_iload_n (i := 1) dX8_gives_287 rfl rfl ?_
                                  refine ja_imulN dX8_gives_288 ?_
                                  refine ja_iload (i := 4) dX8_gives_289 rfl ?_
                                  refine ja_iaddN dX8_gives_291 ?_
                                  refine ja_iald (zM_a5 hz) rfl (by omega) (by decide) dX8_gives_292 ?_
                                  refine ja_iast (zM_a5 hz) rfl (by omega) (by decide) dX8_gives_293 ?_
                                  refine ja_iincN dX8_gives_294 rfl rfl (Nat.le_of_ble_eq_true rfl) ?_
                                  refine ja_goto (tgt := 249) dX8_gives_297 (by decide) ?_
                                  exact ih249 (k3 + 1) _ (by omega) (by omega) (by rw [hE]; exact zrU_s (by first | exact (if_pos c274).symm | exact (if_neg c274).symm))
                                ·
                                  refine ja_iconst (v := nI 0) dX8_gives_277 (by decide +kernel) ?_
                                  refine ja_goto (tgt := 293) dX8_gives_278 (by decide) ?_
                                  refine ja_iast (zM_a5 hz) rfl (by omega) (by decide) dX8_gives_293 ?_
                                  refine ja_iincN dX8_gives_294 rfl rfl (Nat.le_of_ble_eq_true rfl) ?_
                                  refine ja_goto (tgt := 249) dX8_gives_297 (by decide) ?_
                                  exact ih249 (k3 + 1) _ (by omega) (by omega) (by rw [hE]; exact zrU_s (by first | exact (if_pos c274).symm | exact (if_neg c274).symm))
                          exact lp249 11 0 E (by omega) (by omega) (by rw [hE, show q2 = 256 by omega]; exact zrU_0)
                        ·
                          refine ja_aload_n (i := 0) dX8_gives_206 rfl rfl ?_
                          refine ja_getR fl_X8_17 (zM_s hz) rfl (zM_p4 hz) dX8_gives_207 ?_
                          refine ja_sipush (v := nI 256) dX8_gives_210 (by decide +kernel) ?_
                          refine ja_iload_n (i := 1) dX8_gives_213 rfl rfl ?_
                          refine ja_imulN dX8_gives_214 ?_
                          refine ja_iload (i := 4) dX8_gives_215 rfl ?_
                          refine ja_iaddN dX8_gives_217 ?_
                          refine ja_aload_n (i := 0) dX8_gives_218 rfl rfl ?_
                          refine ja_getR fl_X8_73 (zM_s hz) rfl (zM_p24 hz) dX8_gives_219 ?_
                          refine ja_iload (i := 4) dX8_gives_222 rfl ?_
                          refine ja_zald (zM_a24 hz) rfl (by omega) (by decide) dX8_gives_224 ?_
                          refine ja_if_eq (tgt := 232) dX8_gives_225 (by decide) (fun c225 => ?_) (fun c225 => ?_)
                          ·
                            refine ja_aload_n (i := 0) dX8_gives_232 rfl rfl ?_
                            refine ja_iload_n (i := 1) dX8_gives_233 rfl rfl ?_
                            refine ja_iload (i := 4) dX8_gives_234 rfl ?_
                            refine ja_cVr (st := [.int (nI ((256 * ly) + (q2))), .ref (105)]) (s_at (D := E) l hz (ly := ly) (q := q2) (by omega) (by omega)) rfl rfl (ce_X8_at 0 0) im_X8_at se_X8_at lk_X8_92 k_X8 (zM_s hz) ⟨(Nat.le_of_ble_eq_true rfl), (Nat.le_of_ble_eq_true rfl)⟩ dX8_gives_236 rfl rfl (Nat.le_of_ble_eq_true rfl) (Nat.zero_le _) (Nat.zero_le _) ?_
                            refine ja_iast (zM_a4 hz) rfl (by omega) (by decide) dX8_gives_239 ?_
                            refine ja_iincN dX8_gives_240 rfl rfl (Nat.le_of_ble_eq_true rfl) ?_
                            refine ja_goto (tgt := 198) dX8_gives_243 (by decide) ?_
                            exact ih198 (q2 + 1) _ (by omega) (by omega) (by rw [hE]; first | exact arU_y (by rw [hE, arU_o (by decide)] at c225; exact c225) | exact arU_n (by rw [hE, arU_o (by decide)] at c225; exact c225) rfl)
                          ·
                            refine ja_iload_n (i := 2) dX8_gives_228 rfl rfl ?_
                            refine ja_goto (tgt := 239) dX8_gives_229 (by decide) ?_
                            refine ja_iast (zM_a4 hz) rfl (by omega) (by decide) dX8_gives_239 ?_
                            refine ja_iincN dX8_gives_240 rfl rfl (Nat.le_of_ble_eq_true rfl) ?_
                            refine ja_goto (tgt := 198) dX8_gives_243 (by decide) ?_
                            exact ih198 (q2 + 1) _ (by omega) (by omega) (by rw [hE]; first | exact arU_y (by rw [hE, arU_o (by decide)] at c225; exact c225) | exact arU_n (by rw [hE, arU_o (by decide)] at c225; exact c225) rfl)
                    exact lp198 257 0 E (by omega) (by omega) (by rw [hE]; refine Eq.trans ?_ arU_0; rw [gvV]; first | (rw [if_pos c104, hcp c104]; rfl) | (by_cases e : cp = true; (exfalso; have := hcp e; omega); rw [if_neg e, show k = 10 by omega]; rfl))
                  ·
                    refine ja_aload_n (i := 0) dX8_gives_98 rfl rfl ?_
                    refine ja_getR fl_X8_13 (zM_s hz) rfl (zM_p3 hz) dX8_gives_99 ?_
                    refine ja_iload_n (i := 1) dX8_gives_102 rfl rfl ?_
                    refine ja_zald (zM_a3 hz) rfl (by omega) (by decide) dX8_gives_103 ?_
                    refine ja_top (y := bI (cp)) (by rw [hE, vlU_o (by decide), lsU_o (by decide)]; exact hc) ?_
                    refine ja_ifB_ne (tgt := 195) dX8_gives_104 (by decide) (fun c104 => ?_) (fun c104 => ?_)
                    ·
                      refine ja_iconst (v := nI 0) dX8_gives_195 (by decide +kernel) ?_
                      refine ja_istore (i := 4) dX8_gives_196 rfl (Nat.le_of_ble_eq_true rfl) ?_
                      have lp198 : ∀ (f198 : Nat) (q2 : Nat) (E : jD), (256 < q2 + f198) → (q2 ≤ 256) → (E = arU (gvV D ly (some b) cp) ly (nI b) q2) → ja_A l (mX8_gives 0 0) ja_sn (ja_Qf (mX8_gives 0 0) (ja_jd (some (.int (nI (fb_ct (gvM D ly (nI b)) 256)))) Z (fun D2 => D2 = gvR D ly (some b) cp)) ja_x0) 198 [some (.ref (100)), some (.int (nI (ly))), some (.int (nI (b))), some (.int (nI (n))), some (.int (nI (q2))), none] [] Z E 0 0 := by
                        intro f198
                        induction f198 with
                        | zero => intro q2 E hk3 hq3 hE; exfalso; omega
                        | succ f198 ih198 =>
                          intro q2 E hk3 hq3 hE
                          refine ja_iload (i := 4) dX8_gives_198 rfl ?_
                          refine ja_sipush (v := nI 256) dX8_gives_200 (by decide +kernel) ?_
                          refine ja_icmpN_ge (tgt := 246) dX8_gives_203 (by decide) (by omega) (by omega) (fun c203 => ?_) (fun c203 => ?_)
                          ·
                            refine ja_iconst (v := nI 0) dX8_gives_246 (by decide +kernel) ?_
                            refine ja_istore (i := 4) dX8_gives_247 rfl (Nat.le_of_ble_eq_true rfl) ?_
                            have lp249 : ∀ (f249 : Nat) (k3 : Nat) (E : jD), (10 < k3 + f249) → (k3 ≤ 10) → (E = zrU (arU (gvV D ly (some b) cp) ly (nI b) 256) ly k3) → ja_A l (mX8_gives 0 0) ja_sn (ja_Qf (mX8_gives 0 0) (ja_jd (some (.int (nI (fb_ct (gvM D ly (nI b)) 256)))) Z (fun D2 => D2 = gvR D ly (some b) cp)) ja_x0) 249 [some (.ref (100)), some (.int (nI (ly))), some (.int (nI (b))), some (.int (nI (n))), some (.int (nI (k3))), none] [] Z E 0 0 := by
                              intro f249
                              induction f249 with
                              | zero => intro k3 E hk4 hq4 hE; exfalso; omega
                              | succ f249 ih249 =>
                                intro k3 E hk4 hq4 hE
                                refine ja_iload (i := 4) dX8_gives_249 rfl ?_
                                refine ja_bipush (v := nI 10) dX8_gives_251 (by decide +kernel) ?_
                                refine ja_icmpN_ge (tgt := 300) dX8_gives_253 (by decide) (by omega) (by omega) (fun c253 => ?_) (fun c253 => ?_)
                                ·
                                  refine ja_iload_n (i := 3) dX8_gives_300 rfl rfl ?_
                                  refine ja_iret rfl rfl dX8_gives_301 (Nat.zero_le _) (Nat.zero_le _) ?_
                                  exact ⟨by rw [hn, show q = 256 by omega], rfl, by rw [hE, show k3 = 10 by omega]; rfl⟩
                                ·
                                  refine ja_aload_n (i := 0) dX8_gives_256 rfl rfl ?_
                                  refine ja_getR fl_X8_21 (zM_s hz) rfl (zM_p5 hz) dX8_gives_257 ?_
                                  refine ja_bipush (v := nI 10) dX8_gives_260 (by decide +kernel) ?_
                                  refine ja_iload_n (i := 1) dX8_gives_262 rfl rfl ?_
                                  refine ja_imulN dX8_gives_263 ?_
                                  refine ja_iload (i := 4) dX8_gives_264 rfl ?_
                                  refine ja_iaddN dX8_gives_266 ?_
                                  refine ja_aload_n (i := 0) dX8_gives_267 rfl rfl ?_
                                  refine ja_iload_n (i := 1) dX8_gives_268 rfl rfl ?_
                                  refine ja_iload (i := 4) dX8_gives_269 rfl ?_
                                  refine ja_cVr (st := [.int (nI ((10 * ly) + (k3))), .ref (106)]) (s_sizeOf (D := E) l hz (ly := ly) (by omega) (nI (k3))) rfl rfl (ce_X8_sizeOf 0 0) im_X8_sizeOf se_X8_sizeOf lk_X8_103 k_X8 (zM_s hz) ⟨(Nat.le_of_ble_eq_true rfl), (Nat.le_of_ble_eq_true rfl)⟩ dX8_gives_271 rfl rfl (Nat.le_of_ble_eq_true rfl) (Nat.zero_le _) (Nat.zero_le _) ?_
                                  refine ja_top (y := nI (cSz ((arU (gvV D ly (some b) cp) ly (nI b) 256) 105) ly (nI k3) 256)) (by rw [hE, zrU_5]) ?_
                                  have z3 := cSz_le ((arU (gvV D ly (some b) cp) ly (nI b) 256) 105) ly (nI k3) 256
                                  refine ja_ifN_ne (tgt := 281) dX8_gives_274 (by decide) (by omega) (fun c274 => ?_) (fun c274 => ?_)
                                  ·
                                    refine ja_aload_n (i := 0) dX8_gives_281 rfl rfl ?_
                                    refine ja_getR fl_X8_21 (zM_s hz) rfl (zM_p5 hz) dX8_gives_282 ?_
                                    refine ja_bipush (v := nI 10) dX8_gives_285 (by decide +kernel) ?_
                                    refine ja_iload_n (i := 1) dX8_gives_287 rfl rfl ?_
                                    refine ja_imulN dX8_gives_288 ?_
                                    refine ja_iload (i := 4) dX8_gives_289 rfl ?_
                                    refine ja_iaddN dX8_gives_291 ?_
                                    refine ja_iald (zM_a5 hz) rfl (by omega) (by decide) dX8_gives_292 ?_
                                    refine ja_iast (zM_a5 hz) rfl (by omega) (by decide) dX8_gives_293 ?_
                                    refine ja_iincN dX8_gives_294 rfl rfl (Nat.le_of_ble_eq_true rfl) ?_
                                    refine ja_goto (tgt := 249) dX8_gives_297 (by decide) ?_
                                    exact ih249 (k3 + 1) _ (by omega) (by omega) (by rw [hE]; exact zrU_s (by first | exact (if_pos c274).symm | exact (if_neg c274).symm))
                                  ·
                                    refine ja_iconst (v := nI 0) dX8_gives_277 (by decide +kernel) ?_
                                    refine ja_goto (tgt := 293) dX8_gives_278 (by decide) ?_
                                    refine ja_iast (zM_a5 hz) rfl (by omega) (by decide) dX8_gives_293 ?_
                                    refine ja_iincN dX8_gives_294 rfl rfl (Nat.le_of_ble_eq_true rfl) ?_
                                    refine ja_goto (tgt := 249) dX8_gives_297 (by decide) ?_
                                    exact ih249 (k3 + 1) _ (by omega) (by omega) (by rw [hE]; exact zrU_s (by first | exact (if_pos c274).symm | exact (if_neg c274).symm))
                            exact lp249 11 0 E (by omega) (by omega) (by rw [hE, show q2 = 256 by omega]; exact zrU_0)
                          ·
                            refine ja_aload_n (i := 0) dX8_gives_206 rfl rfl ?_
                            refine ja_getR fl_X8_17 (zM_s hz) rfl (zM_p4 hz) dX8_gives_207 ?_
                            refine ja_sipush (v := nI 256) dX8_gives_210 (by decide +kernel) ?_
                            refine ja_iload_n (i := 1) dX8_gives_213 rfl rfl ?_
                            refine ja_imulN dX8_gives_214 ?_
                            refine ja_iload (i := 4) dX8_gives_215 rfl ?_
                            refine ja_iaddN dX8_gives_217 ?_
                            refine ja_aload_n (i := 0) dX8_gives_218 rfl rfl ?_
                            refine ja_getR fl_X8_73 (zM_s hz) rfl (zM_p24 hz) dX8_gives_219 ?_
                            refine ja_iload (i := 4) dX8_gives_222 rfl ?_
                            refine ja_zald (zM_a24 hz) rfl (by omega) (by decide) dX8_gives_224 ?_
                            refine ja_if_eq (tgt := 232) dX8_gives_225 (by decide) (fun c225 => ?_) (fun c225 => ?_)
                            ·
                              refine ja_aload_n (i := 0) dX8_gives_232 rfl rfl ?_
                              refine ja_iload_n (i := 1) dX8_gives_233 rfl rfl ?_
                              refine ja_iload (i := 4) dX8_gives_234 rfl ?_
                              refine ja_cVr (st := [.int (nI ((256 * ly) + (q2))), .ref (105)]) (s_at (D := E) l hz (ly := ly) (q := q2) (by omega) (by omega)) rfl rfl (ce_X8_at 0 0) im_X8_at se_X8_at lk_X8_92 k_X8 (zM_s hz) ⟨(Nat.le_of_ble_eq_true rfl), (Nat.le_of_ble_eq_true rfl)⟩ dX8_gives_236 rfl rfl (Nat.le_of_ble_eq_true rfl) (Nat.zero_le _) (Nat.zero_le _) ?_
                              refine ja_iast (zM_a4 hz) rfl (by omega) (by decide) dX8_gives_239 ?_
                              refine ja_iincN dX8_gives_240 rfl rfl (Nat.le_of_ble_eq_true rfl) ?_
                              refine ja_goto (tgt := 198) dX8_gives_243 (by decide) ?_
                              exact ih198 (q2 + 1) _ (by omega) (by omega) (by rw [hE]; first | exact arU_y (by rw [hE, arU_o (by decide)] at c225; exact c225) | exact arU_n (by rw [hE, arU_o (by decide)] at c225; exact c225) rfl)
                            ·
                              refine ja_iload_n (i := 2) dX8_gives_228 rfl rfl ?_
                              refine ja_goto (tgt := 239) dX8_gives_229 (by decide) ?_
                              refine ja_iast (zM_a4 hz) rfl (by omega) (by decide) dX8_gives_239 ?_
                              refine ja_iincN dX8_gives_240 rfl rfl (Nat.le_of_ble_eq_true rfl) ?_
                              refine ja_goto (tgt := 198) dX8_gives_243 (by decide) ?_
                              exact ih198 (q2 + 1) _ (by omega) (by omega) (by rw [hE]; first | exact arU_y (by rw [hE, arU_o (by decide)] at c225; exact c225) | exact arU_n (by rw [hE, arU_o (by decide)] at c225; exact c225) rfl)
                      exact lp198 257 0 E (by omega) (by omega) (by rw [hE]; refine Eq.trans ?_ arU_0; rw [gvV]; first | (rw [if_pos c104, hcp c104]; rfl) | (by_cases e : cp = true; (exfalso; have := hcp e; omega); rw [if_neg e, show k = 10 by omega]; rfl))
                    ·
                      have jn149 : ∀ (tt : Int32), (tt = tk (E 106 (10 * ly + k)) (gvL D ly (nI b) k 256) (cSz (D 105) ly (nI k) 256)) → ja_A l (mX8_gives 0 0) ja_sn (ja_Qf (mX8_gives 0 0) (ja_jd (some (.int (nI (fb_ct (gvM D ly (nI b)) 256)))) Z (fun D2 => D2 = gvR D ly (some b) cp)) ja_x0) 149 [some (.ref (100)), some (.int (nI (ly))), some (.int (nI (b))), some (.int (nI (n))), some (.int (nI (k))), none] [.int (tt)] Z E 0 0 := by
                        intro tt htt
                        refine ja_istore (i := 5) dX8_gives_149 rfl (Nat.le_of_ble_eq_true rfl) ?_
                        refine ja_aload_n (i := 0) dX8_gives_151 rfl rfl ?_
                        refine ja_getR fl_X8_21 (zM_s hz) rfl (zM_p5 hz) dX8_gives_152 ?_
                        refine ja_bipush (v := nI 10) dX8_gives_155 (by decide +kernel) ?_
                        refine ja_iload_n (i := 1) dX8_gives_157 rfl rfl ?_
                        refine ja_imulN dX8_gives_158 ?_
                        refine ja_iload (i := 4) dX8_gives_159 rfl ?_
                        refine ja_iaddN dX8_gives_161 ?_
                        refine ja_dup2 dX8_gives_162 rfl rfl ?_
                        refine ja_iald (zM_a5 hz) rfl (by omega) (by decide) dX8_gives_163 ?_
                        refine ja_iload (i := 5) dX8_gives_164 rfl ?_
                        refine ja_isub dX8_gives_166 ?_
                        refine ja_iast (zM_a5 hz) rfl (by omega) (by decide) dX8_gives_167 ?_
                        refine ja_iload_n (i := 2) dX8_gives_168 rfl rfl ?_
                        refine ja_iconst (v := (-1)) dX8_gives_169 (by decide +kernel) ?_
                        refine ja_icmp_eq (tgt := 189) dX8_gives_170 (by decide) (fun c170 => absurd c170 (nI_nm1 (by omega))) (fun c170 => ?_)
                        refine ja_aload_n (i := 0) dX8_gives_173 rfl rfl ?_
                        refine ja_getR fl_X8_21 (zM_s hz) rfl (zM_p5 hz) dX8_gives_174 ?_
                        refine ja_bipush (v := nI 10) dX8_gives_177 (by decide +kernel) ?_
                        refine ja_iload_n (i := 1) dX8_gives_179 rfl rfl ?_
                        refine ja_imulN dX8_gives_180 ?_
                        refine ja_iload_n (i := 2) dX8_gives_181 rfl rfl ?_
                        refine ja_iaddN dX8_gives_182 ?_
                        refine ja_dup2 dX8_gives_183 rfl rfl ?_
                        refine ja_iald (zM_a5 hz) rfl (by omega) (by decide) dX8_gives_184 ?_
                        refine ja_iload (i := 5) dX8_gives_185 rfl ?_
                        refine ja_iadd dX8_gives_187 ?_
                        refine ja_iast (zM_a5 hz) rfl (by omega) (by decide) dX8_gives_188 ?_
                        refine ja_iincN dX8_gives_189 rfl rfl (Nat.le_of_ble_eq_true rfl) ?_
                        refine ja_goto (tgt := 91) dX8_gives_192 (by decide) ?_
                        refine ja_forget (i := 5) ?_
                        exact ih91 (k + 1) _ (by omega) (by omega) (fun e => absurd (e.symm.trans c104) (by decide)) (by rw [vlU, ← hE, ← htt]; rfl)
                      refine ja_aload_n (i := 0) dX8_gives_107 rfl rfl ?_
                      refine ja_getR fl_X8_70 (zM_s hz) rfl (zM_p23 hz) dX8_gives_108 ?_
                      refine ja_iload (i := 4) dX8_gives_111 rfl ?_
                      have z1 := gvL_le D ly (nI b) k 256
                      have z2 := cSz_le (D 105) ly (nI k) 256
                      refine ja_iald (zM_a23 hz) rfl (by omega) (by decide) dX8_gives_113 ?_
                      refine ja_top (y := nI (gvL D ly (nI b) k 256)) (by rw [hE, vlU_o (by decide), lsU_i (by omega)]) ?_
                      refine ja_ifN_ne (tgt := 121) dX8_gives_114 (by decide) (by omega) (fun c114 => ?_) (fun c114 => ?_)
                      ·
                        refine ja_aload_n (i := 0) dX8_gives_121 rfl rfl ?_
                        refine ja_getR fl_X8_21 (zM_s hz) rfl (zM_p5 hz) dX8_gives_122 ?_
                        refine ja_bipush (v := nI 10) dX8_gives_125 (by decide +kernel) ?_
                        refine ja_iload_n (i := 1) dX8_gives_127 rfl rfl ?_
                        refine ja_imulN dX8_gives_128 ?_
                        refine ja_iload (i := 4) dX8_gives_129 rfl ?_
                        refine ja_iaddN dX8_gives_131 ?_
                        refine ja_iald (zM_a5 hz) rfl (by omega) (by decide) dX8_gives_132 ?_
                        refine ja_aload_n (i := 0) dX8_gives_133 rfl rfl ?_
                        refine ja_getR fl_X8_70 (zM_s hz) rfl (zM_p23 hz) dX8_gives_134 ?_
                        refine ja_iload (i := 4) dX8_gives_137 rfl ?_
                        refine ja_iald (zM_a23 hz) rfl (by omega) (by decide) dX8_gives_139 ?_
                        refine ja_top (y := nI (gvL D ly (nI b) k 256)) (by rw [hE, vlU_o (by decide), lsU_i (by omega)]) ?_
                        refine ja_imul dX8_gives_140 ?_
                        refine ja_aload_n (i := 0) dX8_gives_141 rfl rfl ?_
                        refine ja_iload_n (i := 1) dX8_gives_142 rfl rfl ?_
                        refine ja_iload (i := 4) dX8_gives_143 rfl ?_
                        refine ja_cVr (st := [.int ((E 106 ((10 * ly) + (k)) * nI (gvL D ly (nI b) k 256)))]) (s_sizeOf (D := E) l hz (ly := ly) (by omega) (nI (k))) rfl rfl (ce_X8_sizeOf 0 0) im_X8_sizeOf se_X8_sizeOf lk_X8_103 k_X8 (zM_s hz) ⟨(Nat.le_of_ble_eq_true rfl), (Nat.le_of_ble_eq_true rfl)⟩ dX8_gives_145 rfl rfl (Nat.le_of_ble_eq_true rfl) (Nat.zero_le _) (Nat.zero_le _) ?_
                        refine ja_top (y := nI (cSz (D 105) ly (nI k) 256)) (by rw [hE, vlU_5, lsU_5]) ?_
                        refine ja_idiv dX8_gives_148 (by have e := gvL_le D ly (nI b) k 256; intro e2; have := nI_j (by omega) (by omega) (e2.trans (show (0 : Int32) = nI 0 from rfl)); omega) ?_
                        exact jn149 (((E 106 ((10 * ly) + (k)) * nI (gvL D ly (nI b) k 256)) / nI (cSz (D 105) ly (nI k) 256))) (by rw [tk]; first | exact (if_pos c114).symm | exact (if_neg c114).symm)
                      ·
                        refine ja_iconst (v := nI 0) dX8_gives_117 (by decide +kernel) ?_
                        refine ja_goto (tgt := 149) dX8_gives_118 (by decide) ?_
                        exact jn149 (nI (0)) (by rw [tk]; first | exact (if_pos c114).symm | exact (if_neg c114).symm)
              exact lp91 11 0 E (by omega) (by omega) (fun _ => rfl) (by rw [hE, show q = 256 by omega]; rfl)
            ·
              refine ja_aload_n (i := 0) dX8_gives_37 rfl rfl ?_
              refine ja_iload_n (i := 1) dX8_gives_38 rfl rfl ?_
              refine ja_iload (i := 4) dX8_gives_39 rfl ?_
              refine ja_cVr (st := []) (s_at (D := E) l hz (ly := ly) (q := q) (by omega) (by omega)) rfl rfl (ce_X8_at 0 0) im_X8_at se_X8_at lk_X8_92 k_X8 (zM_s hz) ⟨(Nat.le_of_ble_eq_true rfl), (Nat.le_of_ble_eq_true rfl)⟩ dX8_gives_41 rfl rfl (Nat.le_of_ble_eq_true rfl) (Nat.zero_le _) (Nat.zero_le _) ?_
              rcases (show E 105 (256 * ly + q) = -1 ∨ ∃ a, a < 10 ∧ E 105 (256 * ly + q) = nI a by rw [hE, lsU_5]; exact hw _ (by omega)) with hf | ⟨a, ha, hf⟩
              ·
                refine ja_top (y := (-1)) hf ?_
                have hf2 : D 105 (256 * ly + q) = (-1) := by rw [hE, lsU_5] at hf; exact hf
                refine ja_istore (i := 5) dX8_gives_44 rfl (Nat.le_of_ble_eq_true rfl) ?_
                refine ja_aload_n (i := 0) dX8_gives_46 rfl rfl ?_
                refine ja_getR fl_X8_73 (zM_s hz) rfl (zM_p24 hz) dX8_gives_47 ?_
                refine ja_iload (i := 4) dX8_gives_50 rfl ?_
                refine ja_zald (zM_a24 hz) rfl (by omega) (by decide) dX8_gives_52 ?_
                refine ja_if_eq (tgt := 82) dX8_gives_53 (by decide) (fun c53 => ?_) (fun c53 => ?_)
                ·
                  refine ja_iincN dX8_gives_82 rfl rfl (Nat.le_of_ble_eq_true rfl) ?_
                  refine ja_goto (tgt := 29) dX8_gives_85 (by decide) ?_
                  refine ja_forget (i := 5) ?_
                  exact ih29 (q + 1) _ _ (by omega) (by omega) (by rw [hn, fb_ct_succ, (show gvM D ly (nI b) q = false by rw [gvM, hf2]; rw [hE, lsU_o (by decide)] at c53; simp_all)]; rfl) (by rw [hE]; exact lsU_k (Or.inl (show gvM D ly (nI b) q = false by rw [gvM, hf2]; rw [hE, lsU_o (by decide)] at c53; simp_all)))
                ·
                  refine ja_iload (i := 5) dX8_gives_56 rfl ?_
                  refine ja_iload_n (i := 2) dX8_gives_58 rfl rfl ?_
                  refine ja_icmp_eq (tgt := 82) dX8_gives_59 (by decide) (fun c59 => absurd c59.symm (nI_nm1 (by omega))) (fun c59 => ?_)
                  have hm : gvM D ly (nI b) q = true := by (rw [hE, lsU_o (by decide)] at c53; rw [gvM, hf2]; first | (simp_all; done) | (simp [c53]; exact fun e => c59 (nI_j (by omega) (by omega) e)))
                  refine ja_iincN dX8_gives_62 rfl rfl (Nat.le_of_ble_eq_true rfl) ?_
                  refine ja_iload (i := 5) dX8_gives_65 rfl ?_
                  refine ja_iconst (v := (-1)) dX8_gives_67 (by decide +kernel) ?_
                  refine ja_icmp_eq (tgt := 82) dX8_gives_68 (by decide) (fun c68 => ?_) (fun c68 => absurd rfl c68)
                  refine ja_iincN dX8_gives_82 rfl rfl (Nat.le_of_ble_eq_true rfl) ?_
                  refine ja_goto (tgt := 29) dX8_gives_85 (by decide) ?_
                  refine ja_forget (i := 5) ?_
                  exact ih29 (q + 1) _ _ (by omega) (by omega) (by rw [hn, fb_ct_succ, hm]; rfl) (by rw [hE]; exact lsU_k (Or.inr hf2))
              ·
                refine ja_top (y := nI (a)) hf ?_
                have hf2 : D 105 (256 * ly + q) = nI (a) := by rw [hE, lsU_5] at hf; exact hf
                refine ja_istore (i := 5) dX8_gives_44 rfl (Nat.le_of_ble_eq_true rfl) ?_
                refine ja_aload_n (i := 0) dX8_gives_46 rfl rfl ?_
                refine ja_getR fl_X8_73 (zM_s hz) rfl (zM_p24 hz) dX8_gives_47 ?_
                refine ja_iload (i := 4) dX8_gives_50 rfl ?_
                refine ja_zald (zM_a24 hz) rfl (by omega) (by decide) dX8_gives_52 ?_
                refine ja_if_eq (tgt := 82) dX8_gives_53 (by decide) (fun c53 => ?_) (fun c53 => ?_)
                ·
                  refine ja_iincN dX8_gives_82 rfl rfl (Nat.le_of_ble_eq_true rfl) ?_
                  refine ja_goto (tgt := 29) dX8_gives_85 (by decide) ?_
                  refine ja_forget (i := 5) ?_
                  exact ih29 (q + 1) _ _ (by omega) (by omega) (by rw [hn, fb_ct_succ, (show gvM D ly (nI b) q = false by rw [gvM, hf2]; rw [hE, lsU_o (by decide)] at c53; simp_all)]; rfl) (by rw [hE]; exact lsU_k (Or.inl (show gvM D ly (nI b) q = false by rw [gvM, hf2]; rw [hE, lsU_o (by decide)] at c53; simp_all)))
                ·
                  refine ja_iload (i := 5) dX8_gives_56 rfl ?_
                  refine ja_iload_n (i := 2) dX8_gives_58 rfl rfl ?_
                  refine ja_icmpN_eq (tgt := 82) dX8_gives_59 (by decide) (by omega) (by omega) (fun c59 => ?_) (fun c59 => ?_)
                  ·
                    refine ja_iincN dX8_gives_82 rfl rfl (Nat.le_of_ble_eq_true rfl) ?_
                    refine ja_goto (tgt := 29) dX8_gives_85 (by decide) ?_
                    refine ja_forget (i := 5) ?_
                    exact ih29 (q + 1) _ _ (by omega) (by omega) (by rw [hn, fb_ct_succ, (show gvM D ly (nI b) q = false by rw [gvM, hf2]; rw [hE, lsU_o (by decide)] at c53; simp_all)]; rfl) (by rw [hE]; exact lsU_k (Or.inl (show gvM D ly (nI b) q = false by rw [gvM, hf2]; rw [hE, lsU_o (by decide)] at c53; simp_all)))
                  ·
                    have hm : gvM D ly (nI b) q = true := by (rw [hE, lsU_o (by decide)] at c53; rw [gvM, hf2]; first | (simp_all; done) | (simp [c53]; exact fun e => c59 (nI_j (by omega) (by omega) e)))
                    refine ja_iincN dX8_gives_62 rfl rfl (Nat.le_of_ble_eq_true rfl) ?_
                    refine ja_iload (i := 5) dX8_gives_65 rfl ?_
                    refine ja_iconst (v := (-1)) dX8_gives_67 (by decide +kernel) ?_
                    refine ja_icmp_eq (tgt := 82) dX8_gives_68 (by decide) (fun c68 => absurd c68 (nI_nm1 (by omega))) (fun c68 => ?_)
                    refine ja_aload_n (i := 0) dX8_gives_71 rfl rfl ?_
                    refine ja_getR fl_X8_70 (zM_s hz) rfl (zM_p23 hz) dX8_gives_72 ?_
                    refine ja_iload (i := 5) dX8_gives_75 rfl ?_
                    refine ja_dup2 dX8_gives_77 rfl rfl ?_
                    refine ja_iald (zM_a23 hz) rfl (by omega) (by decide) dX8_gives_78 ?_
                    refine ja_iconst (v := nI 1) dX8_gives_79 (by decide +kernel) ?_
                    refine ja_iadd dX8_gives_80 ?_
                    refine ja_iast (zM_a23 hz) rfl (by omega) (by decide) dX8_gives_81 ?_
                    refine ja_iincN dX8_gives_82 rfl rfl (Nat.le_of_ble_eq_true rfl) ?_
                    refine ja_goto (tgt := 29) dX8_gives_85 (by decide) ?_
                    refine ja_forget (i := 5) ?_
                    exact ih29 (q + 1) _ _ (by omega) (by omega) (by rw [hn, fb_ct_succ, hm]; rfl) (by rw [hE]; exact lsU_y hm hf2 ha)
        exact lp29 257 0 0 E (by omega) (by omega) rfl (by rw [hE, show k = 10 by omega]; exact lsU_0)
      ·
        refine ja_aload_n (i := 0) dX8_gives_12 rfl rfl ?_
        refine ja_getR fl_X8_70 (zM_s hz) rfl (zM_p23 hz) dX8_gives_13 ?_
        refine ja_iload (i := 4) dX8_gives_16 rfl ?_
        refine ja_iconst (v := nI 0) dX8_gives_18 (by decide +kernel) ?_
        refine ja_iast (zM_a23 hz) rfl (by omega) (by decide) dX8_gives_19 ?_
        refine ja_iincN dX8_gives_20 rfl rfl (Nat.le_of_ble_eq_true rfl) ?_
        refine ja_goto (tgt := 5) dX8_gives_23 (by decide) ?_
        exact ih5 (k + 1) _ (by omega) (by omega) (by rw [hE]; exact fiU_s)
  exact lp5 11 0 D (by omega) (by omega) fiU_0
