/-! An edit: the class and the reference do the same -/
theorem giU_i {D : jD} {g : Nat → Bool} {b : Nat} (h : b < 256) : giU D g 256 125 b = bI (g b) := by rw [giU, if_pos ⟨rfl, h⟩]
theorem bI_n0 {b : Bool} : (¬ bI b = 0) ↔ b = true := by cases b <;> decide
theorem oI_a {x : Option Nat} (hx : ∀ a, x = some a → a < 10) {a : Nat} (ha : a < 10) : oI x = nI a ↔ x = some a := ⟨fun h => oI_inj hx (fun b e => by cases e; exact ha) h, fun h => by rw [h]; rfl⟩
theorem oI_e {x y : Option Nat} (hx : ∀ a, x = some a → a < 10) (hy : ∀ a, y = some a → a < 10) : oI x = oI y ↔ x = y := ⟨oI_inj hx hy, fun h => by rw [h]⟩
/-- the layer ly of the class and of the model -/
def MLd (E M : jD) (ly : Nat) (c : Nat → Option Nat) (w : Nat → Nat) : Prop :=
  (∀ q, q < 256 → E (31 + 10 * ly) q = oI (c q)) ∧ (∀ q, q < 256 → M 105 (256 * ly + q) = oI (c q)) ∧ (∀ q a, c q = some a → a < 10) ∧ (∀ a, a < 10 → E (32 + 10 * ly) a = nI (eN c a)) ∧ (∀ a, a < 10 → E (33 + 10 * ly) a = nI (w a)) ∧ (∀ a, a < 10 → M 106 (10 * ly + a) = nI (w a)) ∧ fb_sm w 10 ≤ 8388607
def edE (E : jD) (ly : Nat) (c : Nat → Option Nat) (t : Option Nat) (g : Nat → Bool) (w : Nat → Nat) (dv : Bool) : jD := wtU (edU E ly c t g) ly (wcl dv w (eL c t g) (eN (eC c t g)) t 10)
theorem edE_o {E : jD} {ly a b : Nat} {c : Nat → Option Nat} {t : Option Nat} {g : Nat → Bool} {w : Nat → Nat} {dv : Bool} (h1 : ¬ a = 31 + 10 * ly) (h2 : ¬ a = 32 + 10 * ly) (h3 : ¬ a = 33 + 10 * ly) (h4 : ¬ a = 37 + 10 * ly) (h5 : ¬ (a = 30 + 10 * ly ∧ b = 8)) : edE E ly c t g w dv a b = E a b := by
  rw [edE, wtU_o h3, edU_o h1 h2 h4 h5]
theorem gvM_e {M : jD} {ly q : Nat} {c : Nat → Option Nat} {t : Option Nat} {g : Nat → Bool} (hM : ∀ q, q < 256 → M 105 (256 * ly + q) = oI (c q)) (hw : ∀ q a, c q = some a → a < 10) (ht : ∀ a, t = some a → a < 10) (hq : q < 256) : gvM (giU M g 256) ly (oI t) q = (g q && decide (¬ c q = t)) := by
  unfold gvM
  have e : decide (¬ bI (g q) = 0) = g q := by cases g q <;> decide
  rw [giU_i hq, giU_5, hM q hq, decide_eq_decide.mpr (show (¬ oI (c q) = oI t) ↔ ¬ c q = t from not_congr (oI_e (hw q) ht)), e]
theorem gvL_e {M : jD} {ly a : Nat} {c : Nat → Option Nat} {t : Option Nat} {g : Nat → Bool} (hM : ∀ q, q < 256 → M 105 (256 * ly + q) = oI (c q)) (hw : ∀ q a, c q = some a → a < 10) (ht : ∀ a, t = some a → a < 10) (ha : a < 10) : gvL (giU M g 256) ly (oI t) a 256 = eL c t g a := fb_ct_cong fun q hq => by
  rw [gvM_e hM hw ht hq, giU_5, hM q hq, decide_eq_decide.mpr (oI_a (hw q) ha)]
theorem cSz_e {f : Nat → Int32} {ly a : Nat} {c : Nat → Option Nat} (hM : ∀ q, q < 256 → f (256 * ly + q) = oI (c q)) (hw : ∀ q a, c q = some a → a < 10) (ha : a < 10) : cSz f ly (nI a) 256 = eN c a := fb_ct_cong fun q hq => by
  rw [hM q hq, decide_eq_decide.mpr (oI_a (hw q) ha)]
theorem eL_t {c : Nat → Option Nat} {g : Nat → Bool} {a : Nat} : eL c (some a) g a = 0 := fb_ct_zero.mpr fun q _ => by
  by_cases h : c q = some a
  · rw [decide_eq_false (fun x => x h), Bool.and_false]; rfl
  · rw [decide_eq_false h, Bool.and_false]
/-- what a loses and keeps -/
theorem eL_N {c : Nat → Option Nat} {t : Option Nat} {g : Nat → Bool} {a : Nat} (h : ¬ t = some a) : eN (eC c t g) a + eL c t g a = eN c a := by
  have e := fb_ct_or (p := fun q => decide (eC c t g q = some a)) (q := fun q => g q && decide (¬ c q = t) && decide (c q = some a)) (n := 256) (fun k _ hk => by
    have h1 := of_decide_eq_true hk.1
    simp only [Bool.and_eq_true, decide_eq_true_eq] at hk
    unfold eC at h1
    rw [if_pos hk.2.1.1] at h1
    exact h h1)
  unfold eN eL
  rw [← e]
  refine fb_ct_cong fun q _ => ?_
  unfold eC
  cases hg : g q with
  | true =>
    rw [if_pos rfl, decide_eq_false h]
    simp only [Bool.false_or, Bool.true_and]
    by_cases e : c q = some a
    · rw [decide_eq_true e, decide_eq_true (show ¬ c q = t from fun x => h (x.symm.trans e))]; rfl
    · rw [decide_eq_false e, Bool.and_false]
  | false => rw [if_neg (by decide)]; simp
/-- who gets squares has some -/
theorem eL_0 {c : Nat → Option Nat} {g : Nat → Bool} {b k : Nat} (h : eN (eC c (some b) g) b = 0) : eL c (some b) g k = 0 := fb_ct_zero.mpr fun q hq => by
  have := fb_ct_zero.mp h q hq
  have := of_decide_eq_false this
  unfold eC at this
  cases hg : g q with
  | true => rw [hg, if_pos rfl] at this; exact absurd rfl this
  | false => rfl
theorem nup_sm {w : Nat → Nat} {k x : Nat} (hk : k < 10) : fb_sm (nup w k x) 10 + w k = fb_sm w 10 + x := fb_sm_upd w x hk
def mvs (w : Nat → Nat) (k p : Nat) : Option Nat → Nat → Nat
  | none => nup w k (w k - p)
  | some b => nup (nup w k (w k - p)) b (nup w k (w k - p) b + p)
theorem hov_m {w : Nat → Nat} {k l s : Nat} {t : Option Nat} : hov w k l s t = mvs w k (w k * l / s) t := by cases t <;> rfl
theorem mvs_sm {w : Nat → Nat} {k p : Nat} {t : Option Nat} (hk : k < 10) (ht : ∀ a, t = some a → a < 10) (hp : p ≤ w k) : fb_sm (mvs w k p t) 10 ≤ fb_sm w 10 := by
  cases t with
  | none =>
    have := nup_sm (w := w) (k := k) (x := w k - p) hk
    show fb_sm (nup w k (w k - p)) 10 ≤ _
    omega
  | some b =>
    have h1 := nup_sm (w := w) (k := k) (x := w k - p) hk
    have h2 := nup_sm (w := nup w k (w k - p)) (k := b) (x := nup w k (w k - p) b + p) (ht b rfl)
    show fb_sm (nup (nup w k (w k - p)) b (nup w k (w k - p) b + p)) 10 ≤ _
    omega
theorem hov_sm {w : Nat → Nat} {k l s : Nat} {t : Option Nat} (hk : k < 10) (ht : ∀ a, t = some a → a < 10) (hp : w k * l / s ≤ w k) : fb_sm (hov w k l s t) 10 ≤ fb_sm w 10 := by
  rw [hov_m]
  exact mvs_sm hk ht hp
/-- the reference's values ahead of the zeros -/
def wrR (dv : Bool) (w : Nat → Nat) (ls sz : Nat → Nat) (t : Option Nat) : Nat → Nat → Nat
  | 0 => w
  | k + 1 => if dv = true then hov (wrR dv w ls sz t k) k (ls k) (sz k) t else wrR dv w ls sz t k
theorem wrR_le {w : Nat → Nat} {k l s : Nat} (h : l ≤ s) : w k * l / s ≤ w k := by
  by_cases hs : s = 0
  · rw [hs, Nat.div_zero]; exact Nat.zero_le _
  · exact Nat.div_le_of_le_mul (by rw [Nat.mul_comm]; exact Nat.mul_le_mul_right _ h)
theorem wrR_sm {dv : Bool} {w ls sz : Nat → Nat} {t : Option Nat} (ht : ∀ a, t = some a → a < 10) (hl : ∀ a, a < 10 → ls a ≤ sz a) : ∀ {k}, k ≤ 10 → fb_sm (wrR dv w ls sz t k) 10 ≤ fb_sm w 10
  | 0, _ => Nat.le_refl _
  | k + 1, hk => by
    have ih := wrR_sm (dv := dv) (w := w) ht hl (k := k) (by omega)
    rw [wrR]
    split
    · exact Nat.le_trans (hov_sm (by omega) ht (wrR_le (hl k (by omega)))) ih
    · exact ih
theorem wrR_a {dv : Bool} {w ls sz : Nat → Nat} {t : Option Nat} (ht : ∀ a, t = some a → a < 10) (hl : ∀ a, a < 10 → ls a ≤ sz a) {k a : Nat} (hk : k ≤ 10) (ha : a < 10) : wrR dv w ls sz t k a ≤ fb_sm w 10 := by
  have := wrR_sm (dv := dv) (w := w) ht hl hk
  have := fb_sm_part (wrR dv w ls sz t k) ha
  have := fb_sm_mono (wrR dv w ls sz t k) (a + 1) (10 - (a + 1))
  rw [show a + 1 + (10 - (a + 1)) = 10 by omega] at this
  omega
/-- the class's values and the reference's -/
theorem wcl_R {dv : Bool} {w ls sz sa : Nat → Nat} {t : Option Nat} (h1 : ∀ k, k < 10 → ls k = 0 ∨ (sz k = sa k + ls k ∧ ¬ t = some k)) (h2 : ∀ b, t = some b → sa b = 0 → ∀ k, ls k = 0) : ∀ k, k ≤ 10 → ∀ a, wcl dv w ls sa t k a = if a < k ∧ sa a = 0 then 0 else wrR dv w ls sz t k a
  | 0, _, a => by rw [if_neg (by omega)]; rfl
  | k + 1, hk, a => by
    have ih := wcl_R (dv := dv) (w := w) (sz := sz) h1 h2 k (by omega)
    rw [wcl, wrR]
    have ek : wcl dv w ls sa t k k = wrR dv w ls sz t k k := by rw [ih k, if_neg (by omega)]
    have key : ∀ a, (if dv = true then hov (wcl dv w ls sa t k) k (ls k) (sa k + ls k) t else wcl dv w ls sa t k) a = if a < k ∧ sa a = 0 then 0 else (if dv = true then hov (wrR dv w ls sz t k) k (ls k) (sz k) t else wrR dv w ls sz t k) a := fun a => by
      cases dv with
      | false => exact ih a
      | true =>
        rw [if_pos rfl, if_pos rfl]
        rcases h1 k (by omega) with hl | ⟨hs, ht⟩
        · rw [hl, hov_0, hov_0]; exact ih a
        · by_cases hl : ls k = 0
          · rw [hl, hov_0, hov_0]; exact ih a
          · rw [hs]
            cases t with
            | none =>
              show nup _ k _ a = if _ then 0 else nup _ k _ a
              unfold nup
              rw [ek]
              by_cases e : a = k
              · rw [if_pos e, if_neg (show ¬ (a < k ∧ sa a = 0) by omega), if_pos e]
              · rw [if_neg e, if_neg e]; exact ih a
            | some b =>
              have hb : ¬ sa b = 0 := fun x => hl (h2 b rfl x k)
              have hbk : ¬ k = b := fun x => ht (by rw [x])
              have eb : wcl true w ls sa (some b) k b = wrR true w ls sz (some b) k b := by rw [ih b, if_neg (fun x => hb x.2)]
              show nup (nup _ k _) b _ a = if _ then 0 else nup (nup _ k _) b _ a
              unfold nup
              rw [ek, eb]
              by_cases e : a = b
              · rw [if_pos e, if_neg (show ¬ (a < k ∧ sa a = 0) from fun x => hb (e ▸ x.2)), if_pos e]
              · rw [if_neg e, if_neg e]
                by_cases e2 : a = k
                · rw [if_pos e2, if_neg (show ¬ (a < k ∧ sa a = 0) by omega), if_pos e2]
                · rw [if_neg e2, if_neg e2]; exact ih a
    unfold zer
    by_cases hz : sa k = 0
    · rw [if_pos hz]
      unfold nup
      by_cases e : a = k
      · rw [if_pos e, if_pos (show a < k + 1 ∧ sa a = 0 from ⟨by omega, e ▸ hz⟩)]
      · rw [if_neg e, key a]
        by_cases c : a < k ∧ sa a = 0
        · rw [if_pos c, if_pos (show a < k + 1 ∧ sa a = 0 from ⟨by omega, c.2⟩)]
        · rw [if_neg c, if_neg (show ¬ (a < k + 1 ∧ sa a = 0) from fun x => c ⟨by omega, x.2⟩)]
    · rw [if_neg hz, key a]
      by_cases c : a < k ∧ sa a = 0
      · rw [if_pos c, if_pos (show a < k + 1 ∧ sa a = 0 from ⟨by omega, c.2⟩)]
      · rw [if_neg c, if_neg (show ¬ (a < k + 1 ∧ sa a = 0) from fun x => c ⟨by
          by_cases e : a = k
          · rw [e] at x; exact absurd x.2 hz
          · omega, x.2⟩)]
theorem vst_i {X : jD} {ly k p : Nat} {w : Nat → Nat} {to : Option Nat} (hk : k < 10) (ht : ∀ a, to = some a → a < 10) (hw : ∀ a, a < 10 → X 106 (10 * ly + a) = nI (w a)) (hp : p ≤ w k) {a : Nat} (ha : a < 10) :
    vst X ly k (nI p) to 106 (10 * ly + a) = nI (mvs w k p to a) := by
  have e1 : ∀ a, a < 10 → ja_up X 106 (10 * ly + k) (X 106 (10 * ly + k) - nI p) 106 (10 * ly + a) = nI (nup w k (w k - p) a) := fun a ha => by
    unfold nup
    by_cases e : a = k
    · rw [if_pos e, e, up_s, hw k hk, pk_sub hp]
    · rw [if_neg e, up_n (by omega), hw a ha]
  cases to with
  | none => exact e1 a ha
  | some b =>
    have hb := ht b rfl
    show ja_up (ja_up X 106 (10 * ly + k) (X 106 (10 * ly + k) - nI p)) 106 (10 * ly + b) (ja_up X 106 (10 * ly + k) (X 106 (10 * ly + k) - nI p) 106 (10 * ly + b) + nI p) 106 (10 * ly + a) = nI (nup (nup w k (w k - p)) b (nup w k (w k - p) b + p) a)
    by_cases e : a = b
    · rw [e, up_s, e1 b hb, nI_add, nup_e]
    · rw [up_n (by omega), nup_n e]; exact e1 a ha
theorem tk_N {x l s : Nat} (h1 : x * l < 2 ^ 31) (h2 : l ≤ s) (h3 : s < 2 ^ 31) : tk (nI x) l s = nI (x * l / s) := by
  unfold tk
  by_cases e : l = 0
  · rw [if_pos e, e, Nat.mul_zero, Nat.zero_div]; rfl
  · rw [if_neg e, pk_mul, pk_div h1 (by omega) h3]
theorem vlU_i {G : jD} {ly : Nat} {to : Option Nat} {ls sz w : Nat → Nat} (ht : ∀ a, to = some a → a < 10) (hw : ∀ a, a < 10 → G 106 (10 * ly + a) = nI (w a)) (hl : ∀ a, a < 10 → ls a ≤ sz a) (hs : ∀ a, a < 10 → sz a ≤ 256) (hT : fb_sm w 10 ≤ 8388607) : ∀ k, k ≤ 10 → ∀ a, a < 10 → vlU G ly to ls sz k 106 (10 * ly + a) = nI (wrR true w ls sz to k a)
  | 0, _, a, ha => hw a ha
  | k + 1, hk, a, ha => by
    have ih := vlU_i (ls := ls) (sz := sz) ht hw hl hs hT k (by omega)
    have hx := wrR_a (dv := true) (w := w) ht hl (k := k) (a := k) (by omega) (by omega)
    have l1 := hl k (by omega)
    have l2 := hs k (by omega)
    have hm : wrR true w ls sz to k k * ls k ≤ 8388607 * 256 := Nat.mul_le_mul (by omega) (by omega)
    rw [vlU, ih k (by omega), tk_N (by omega) l1 (by omega)]
    have := vst_i (X := vlU G ly to ls sz k) (ly := ly) (k := k) (p := wrR true w ls sz to k k * ls k / sz k) (w := wrR true w ls sz to k) (to := to) (by omega) ht ih (wrR_le l1) ha
    rw [this, wrR, if_pos rfl, hov_m]
theorem vlU_b {G : jD} {ly x b : Nat} {to : Option Nat} {ls sz : Nat → Nat} (ht : ∀ a, to = some a → a < 10) (h : ¬ (10 * ly ≤ b ∧ b < 10 * ly + 10)) : ∀ k, k ≤ 10 → vlU G ly to ls sz k x b = G x b
  | 0, _ => rfl
  | k + 1, hk => by
    have ih := vlU_b (G := G) (x := x) (ls := ls) (sz := sz) ht h k (by omega)
    rw [vlU]
    cases to with
    | none =>
      show ja_up _ _ _ _ _ _ = _
      rw [up_n (by omega)]; exact ih
    | some c =>
      have := ht c rfl
      show ja_up (ja_up _ _ _ _) _ _ _ _ _ = _
      rw [up_n (by omega), up_n (by omega)]; exact ih
theorem gvR_6 {X : jD} {ly b : Nat} {to : Option Nat} {cp : Bool} (ht : ∀ a, to = some a → a < 10) (h : ¬ (10 * ly ≤ b ∧ b < 10 * ly + 10)) : gvR X ly to cp 106 b = X 106 b := by
  rw [gvR, zrU, if_neg (fun x => h ⟨x.2.1, x.2.2.1⟩), arU_o (by decide), gvV]
  cases cp with
  | true => rw [if_pos rfl, lsU_o (by decide)]
  | false => rw [if_neg (by decide), vlU_b ht h 10 (Nat.le_refl _), lsU_o (by decide)]
/-- the edit -/
theorem ED_m {E M : jD} {ly : Nat} {c : Nat → Option Nat} {w : Nat → Nat} {t : Option Nat} {g : Nat → Bool} {dv : Bool} (ht : ∀ a, t = some a → a < 10) (h : MLd E M ly c w) :
    MLd (edE E ly c t g w dv) (gvR (giU M g 256) ly t (!dv)) ly (eC c t g) (wcl dv w (eL c t g) (eN (eC c t g)) t 10) ∧ eT c t g = fb_ct (gvM (giU M g 256) ly (oI t)) 256 ∧ fb_sm (wcl dv w (eL c t g) (eN (eC c t g)) t 10) 10 ≤ fb_sm w 10 ∧ ∀ a, a < 10 → eN (eC c t g) a = 0 → wcl dv w (eL c t g) (eN (eC c t g)) t 10 a = 0 := by
  obtain ⟨m1, m2, m3, m4, m5, m6, m7⟩ := h
  have hw2 : ∀ q a, eC c t g q = some a → a < 10 := fun q a e => by
    unfold eC at e
    split at e
    · exact ht a e
    · exact m3 q a e
  have hl0 : ∀ k, k < 10 → eL c t g k = 0 ∨ (eN c k = eN (eC c t g) k + eL c t g k ∧ ¬ t = some k) := fun k _ => by
    by_cases e : t = some k
    · left; rw [e]; exact eL_t
    · exact Or.inr ⟨(eL_N e).symm, e⟩
  have hz0 : ∀ b, t = some b → eN (eC c t g) b = 0 → ∀ k, eL c t g k = 0 := fun b e hb k => by
    subst e
    exact eL_0 hb
  have hls : ∀ a, a < 10 → eL c t g a ≤ eN c a := fun a ha => by
    rcases hl0 a ha with e | e
    · omega
    · omega
  have hR := wcl_R (dv := dv) (w := w) (sz := eN c) hl0 hz0 10 (Nat.le_refl _)
  have hsm : fb_sm (wcl dv w (eL c t g) (eN (eC c t g)) t 10) 10 ≤ fb_sm w 10 := Nat.le_trans (fb_sm_le fun a _ => by
    rw [hR a]
    split
    · exact Nat.zero_le _
    · exact Nat.le_refl _) (wrR_sm (dv := dv) (w := w) ht hls (Nat.le_refl 10))
  have h5 : ∀ q, q < 256 → gvR (giU M g 256) ly t (!dv) 105 (256 * ly + q) = oI (eC c t g q) := fun q hq => by
    rw [gvR_5, show 256 * ly + q - 256 * ly = q by omega, giU_i hq, giU_5, m2 q hq]
    unfold eC
    cases hg : g q with
    | true => rw [if_pos ⟨by omega, by omega, by decide⟩, if_pos rfl]
    | false => rw [if_neg (fun x => x.2.2 rfl), if_neg (by decide)]
  refine ⟨⟨fun q hq => ?_, h5, hw2, fun a ha => ?_, fun a ha => wtU_i ha, fun a ha => ?_, by omega⟩, fb_ct_cong fun q hq => (gvM_e m2 m3 ht hq).symm, hsm, fun a ha hz => by rw [hR a, if_pos ⟨ha, hz⟩]⟩
  · rw [edE, wtU_o (by omega), edU_q hq]
  · rw [edE, wtU_o (by omega), edU_n ha]
  · rw [hR a]
    have eA : cSz (arU (gvV (giU M g 256) ly t (!dv)) ly (oI t) 256 105) ly (nI a) 256 = eN (eC c t g) a := by
      have := cSz_e (f := gvR (giU M g 256) ly t (!dv) 105) (ly := ly) h5 hw2 ha
      rw [gvR, zrU_5] at this
      exact this
    rw [gvR, zrU, show 10 * ly + a - 10 * ly = a by omega, eA]
    by_cases hz : eN (eC c t g) a = 0
    · rw [if_pos ⟨rfl, by omega, by omega, hz⟩, if_pos ⟨ha, hz⟩]; rfl
    · rw [if_neg (fun x => hz x.2.2.2), if_neg (fun x => hz x.2), arU_o (by decide), gvV]
      cases dv with
      | false =>
        rw [if_pos (show (!false) = true from rfl), lsU_o (by decide), giU_o (by decide), m6 a ha]
        have : ∀ k, wrR false w (eL c t g) (eN c) t k = w := fun k => by
          induction k with
          | zero => rfl
          | succ k ih => rw [wrR, if_neg (by decide), ih]
        rw [this]
      | true =>
        rw [if_neg (by decide)]
        have e := vlU_i (G := lsU (giU M g 256) ly (oI t) 256) (ly := ly) (to := t) (ls := fun a => gvL (giU M g 256) ly (oI t) a 256) (sz := fun a => cSz (giU M g 256 105) ly (nI a) 256) (w := w) ht (fun a ha => by rw [lsU_o (by decide), giU_o (by decide), m6 a ha]) (fun a ha => gvL_le _ _ _ _ _) (fun a ha => cSz_le _ _ _ _) m7 10 (Nat.le_refl _) a ha
        rw [e]
        have cg : ∀ k, k ≤ 10 → wrR true w (fun a => gvL (giU M g 256) ly (oI t) a 256) (fun a => cSz (giU M g 256 105) ly (nI a) 256) t k = wrR true w (eL c t g) (eN c) t k := fun k => by
          induction k with
          | zero => intro _; simp only [wrR]
          | succ k ih =>
            intro hk
            rw [wrR, wrR, ih (by omega)]
            simp only [if_pos rfl]
            rw [gvL_e m2 m3 ht (by omega), giU_5, cSz_e m2 m3 (by omega)]
        rw [cg 10 (Nat.le_refl _)]
theorem edU_cg {D : jD} {ly : Nat} {c : Nat → Option Nat} {t : Option Nat} {g g2 : Nat → Bool} (h : ∀ q, q < 256 → g q = g2 q) : edU D ly c t g = edU D ly c t g2 := by
  have e1 : ∀ q, q < 256 → eC c t g q = eC c t g2 q := fun q hq => by unfold eC; rw [h q hq]
  have e2 : eN (eC c t g) = eN (eC c t g2) := funext fun a => fb_ct_cong fun q hq => by rw [e1 q hq]
  have e3 : eL c t g = eL c t g2 := funext fun a => fb_ct_cong fun q hq => by rw [h q hq]
  have e4 : eT c t g = eT c t g2 := fb_ct_cong fun q hq => by rw [h q hq]
  funext a b
  unfold edU
  rw [e2, e3, e4]
  by_cases e : a = 31 + 10 * ly ∧ b < 256
  · rw [if_pos e, if_pos e, e1 b e.2]
  · rw [if_neg e, if_neg e]
theorem edE_cg {D : jD} {ly : Nat} {c : Nat → Option Nat} {t : Option Nat} {g g2 : Nat → Bool} {w : Nat → Nat} {dv : Bool} (h : ∀ q, q < 256 → g q = g2 q) : edE D ly c t g w dv = edE D ly c t g2 w dv := by
  have e1 : ∀ q, q < 256 → eC c t g q = eC c t g2 q := fun q hq => by unfold eC; rw [h q hq]
  have e2 : eN (eC c t g) = eN (eC c t g2) := funext fun a => fb_ct_cong fun q hq => by rw [e1 q hq]
  have e3 : eL c t g = eL c t g2 := funext fun a => fb_ct_cong fun q hq => by rw [h q hq]
  unfold edE
  rw [edU_cg h, e2, e3]
theorem eT_cg {c : Nat → Option Nat} {t : Option Nat} {g g2 : Nat → Bool} (h : ∀ q, q < 256 → g q = g2 q) : eT c t g = eT c t g2 := fb_ct_cong fun q hq => by rw [h q hq]
/-- the values' bounds in a closing edit -/
theorem wcl_b {dv : Bool} {c : Nat → Option Nat} {t : Option Nat} {g : Nat → Bool} {w : Nat → Nat} (ht : ∀ a, t = some a → a < 10) (hT : fb_sm w 10 ≤ 8388607) : ∀ k, k < 10 → wcl dv w (eL c t g) (eN (eC c t g)) t k k * eL c t g k < 2 ^ 31 ∧ wcl dv w (eL c t g) (eN (eC c t g)) t k k < 2 ^ 31 := fun k hk => by
  have hl0 : ∀ k, k < 10 → eL c t g k = 0 ∨ (eN c k = eN (eC c t g) k + eL c t g k ∧ ¬ t = some k) := fun k _ => by
    by_cases e : t = some k
    · left; rw [e]; exact eL_t
    · exact Or.inr ⟨(eL_N e).symm, e⟩
  have hls : ∀ a, a < 10 → eL c t g a ≤ eN c a := fun a ha => by
    rcases hl0 a ha with e | e
    · omega
    · omega
  have hR := wcl_R (dv := dv) (w := w) (sz := eN c) hl0 (fun b e hb k => by subst e; exact eL_0 hb) k (by omega) k
  rw [if_neg (by omega)] at hR
  rw [hR]
  have h1 := wrR_a (dv := dv) (w := w) ht hls (k := k) (a := k) (by omega) hk
  have h2 := eL_le c t g k
  have hm : wrR dv w (eL c t g) (eN c) t k k * eL c t g k ≤ 8388607 * 256 := Nat.mul_le_mul (by omega) h2
  exact ⟨by omega, by omega⟩
/-- the class's closing edit -/
theorem c_closeE (l : Launch) {Z : jZ} {D : jD} (hx : zX Z) {ly : Nat} (h1 : ly < 3) {c : Nat → Option Nat} {t : Option Nat} {g : Nat → Bool} {w : Nat → Nat} {dv : Bool} (ht : ∀ a, t = some a → a < 10) (h4 : D (30 + 10 * ly) 4 = bI dv) (hw : ∀ a, a < 10 → D (33 + 10 * ly) a = nI (w a)) (hT : fb_sm w 10 ≤ 8388607) :
    ja_M l (mX1_closeEdit 0 0) [.ref (30 + 10 * ly), .int (oI t)] Z (edU D ly c t g) (ja_jd (some (.int (nI (eT c t g)))) Z (fun D2 => D2 = edE D ly c t g w dv)) ja_x0 := by
  have e0 : wtU (edU D ly c t g) ly w = edU D ly c t g := by
    funext a b
    unfold wtU fnU
    split
    · next e => rw [e.1, edU_o (by omega) (by omega) (by omega) (by omega)]; exact (hw b e.2).symm
    · rfl
  have h4' : edU D ly c t g (30 + 10 * ly) 4 = bI dv := by rw [edU_o (by omega) (by omega) (by omega) (by omega)]; exact h4
  have hB := wcl_b (dv := dv) (c := c) (g := g) ht hT
  have key : ja_M l (mX1_closeEdit 0 0) [.ref (30 + 10 * ly), .int (oI t)] Z (wtU (edU D ly c t g) ly w) (ja_jd (some (.int (nI (eT c t g)))) Z (fun D2 => D2 = wtU (edU D ly c t g) ly (wcl dv w (eL c t g) (eN (eC c t g)) t 10))) ja_x0 := by
    cases t with
    | none => cases dv with
      | true => exact c_closeEditNt l hx h1 (b := 0) (ls := eL c none g) (sa := eN (eC c none g)) h4' edU_t (fun k hk => edU_l hk) (fun k hk => edU_n hk) (fun k _ => eL_le _ _ _ _) (fun k _ => eN_le _ _) hB
      | false => exact c_closeEditNf l hx h1 (b := 0) (ls := eL c none g) (sa := eN (eC c none g)) h4' edU_t (fun k hk => edU_l hk) (fun k hk => edU_n hk) (fun k _ => eL_le _ _ _ _) (fun k _ => eN_le _ _) hB
    | some b => cases dv with
      | true => exact c_closeEditSt l hx h1 (ls := eL c (some b) g) (sa := eN (eC c (some b) g)) (ht b rfl) h4' edU_t (fun k hk => edU_l hk) (fun k hk => edU_n hk) (fun k _ => eL_le _ _ _ _) (fun k _ => eN_le _ _) hB
      | false => exact c_closeEditSf l hx h1 (ls := eL c (some b) g) (sa := eN (eC c (some b) g)) (ht b rfl) h4' edU_t (fun k hk => edU_l hk) (fun k hk => edU_n hk) (fun k _ => eL_le _ _ _ _) (fun k _ => eN_le _ _) hB
  rw [e0] at key
  exact key
/-- and its beginning -/
theorem c_openE (l : Launch) {Z : jZ} {D : jD} (hx : zX Z) {ly : Nat} (h1 : ly < 3) {c : Nat → Option Nat} (t : Option Nat) (hc : ∀ q, q < 256 → D (31 + 10 * ly) q = oI (c q)) (hn : ∀ a, a < 10 → D (32 + 10 * ly) a = nI (eN c a)) :
    ja_M l (mX1_openEdit 0 0) [.ref (30 + 10 * ly)] Z D (ja_jd none Z (fun D2 => D2 = edU D ly c t (fun _ => false))) ja_x0 := by
  rw [← edU_0 (t := t) hc hn]
  exact c_openEdit l hx h1
