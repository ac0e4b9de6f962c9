/-! THE REFERENCE: coarse areas -/
theorem ct_pos {p : Nat → Bool} : ∀ {n}, 0 < fb_ct p n → ∃ q, q < n ∧ p q = true
  | 0, h => absurd h (Nat.lt_irrefl 0)
  | n + 1, h => by
    rw [fb_ct_succ] at h
    by_cases e : p n = true
    · exact ⟨n, by omega, e⟩
    · rw [if_neg e] at h
      obtain ⟨q, h1, h2⟩ := ct_pos (n := n) h
      exact ⟨q, by omega, h2⟩
theorem ct_has {p : Nat → Bool} {q : Nat} (h : p q = true) : ∀ {n}, q < n → 0 < fb_ct p n
  | 0, h1 => absurd h1 (Nat.not_lt_zero _)
  | n + 1, h1 => by
    rw [fb_ct_succ]
    by_cases e : q = n
    · subst e
      rw [if_pos h]
      omega
    · have := ct_has h (n := n) (by omega)
      omega
theorem sm_pos {g : Nat → Nat} : ∀ {n}, 0 < fb_sm g n → ∃ q, q < n ∧ 0 < g q
  | 0, h => absurd h (Nat.lt_irrefl 0)
  | n + 1, h => by
    rw [fb_sm_succ] at h
    by_cases e : 0 < g n
    · exact ⟨n, by omega, e⟩
    · obtain ⟨q, h1, h2⟩ := sm_pos (g := g) (n := n) (by omega)
      exact ⟨q, by omega, h2⟩
theorem bd_pos {c : Nat → Int32} {a o : Int32} (h : 0 < bd c a o 256) : (∃ q, q < 256 ∧ c q = a) ∧ ∃ j, j < 256 ∧ c j = o := by
  obtain ⟨q, h1, h2⟩ := sm_pos h
  rw [bdQ] at h2
  by_cases e : c q = a
  · rw [if_pos e] at h2
    obtain ⟨s, h3, h4⟩ := sm_pos h2
    rw [nbC] at h4
    refine ⟨⟨q, h1, e⟩, ?_⟩
    cases hn : nbM s q with
    | none => rw [hn] at h4; exact absurd h4 (Nat.lt_irrefl 0)
    | some j =>
      rw [hn] at h4
      by_cases e2 : c j = o
      · exact ⟨j, nbM_lt h1 hn, e2⟩
      · simp only [if_neg e2] at h4
        exact absurd h4 (by decide)
  · rw [if_neg e] at h2
    exact absurd h2 (by decide)
/-- a coarse area's size; the coarse area with the longest border to it; the smallest one that joins another -/
def cz (f J : Nat → Int32) (ly a : Nat) : Nat := cCt (cA f J ly) (nI a) 256
def cb (f J : Nat → Int32) (ly a : Nat) : Option Nat := bM (fun o => if o = a then 0 else bd (cA f J ly) (nI a) (nI o) 256) 10
def cbM (c : Nat → Bool) (g : Nat → Nat) : Nat → Option Nat
  | 0 => none
  | a + 1 => match cbM c g a with
    | none => if c a = true then some a else none
    | some b => if c a = true ∧ g a < g b then some a else some b
theorem cbM_lt {c : Nat → Bool} {g : Nat → Nat} : ∀ {n b : Nat}, cbM c g n = some b → b < n ∧ c b = true
  | 0, b, h => by cases h
  | n + 1, b, h => by
    rw [cbM] at h
    split at h
    · split at h
      · next hx =>
        cases h
        exact ⟨by omega, hx⟩
      · cases h
    · next hx =>
      have ih := cbM_lt hx
      split at h
      · next hy =>
        cases h
        exact ⟨by omega, hy.1⟩
      · cases h
        exact ⟨by omega, ih.2⟩
def cc (f J : Nat → Int32) (ly le a : Nat) : Bool := decide (0 < cz f J ly a) && decide (cz f J ly a < le) && (cb f J ly a).isSome
def cbs (f J : Nat → Int32) (ly le n : Nat) : Option Nat := cbM (cc f J ly le) (cz f J ly) n
def cjn (J : Nat → Int32) (b : Nat) (i : Int32) : Nat → Int32 := fun a => if J a = nI b then i else J a
def crI (f : Nat → Int32) (ly le : Nat) : Nat → Nat → Int32
  | 0 => fun a => nI a
  | k + 1 => match cbs f (crI f ly le k) ly le 10 with
    | none => crI f ly le k
    | some b => cjn (crI f ly le k) b (oI (cb f (crI f ly le k) ly b))
/-- how many coarse areas have squares -/
def cnz (f J : Nat → Int32) (ly : Nat) : Nat := fb_ct (fun a => decide (0 < cz f J ly a)) 10
theorem cz_pos {f J : Nat → Int32} {ly a : Nat} : 0 < cz f J ly a ↔ ∃ q, q < 256 ∧ cA f J ly q = nI a := by
  constructor
  · intro h
    obtain ⟨q, h1, h2⟩ := ct_pos h
    exact ⟨q, h1, of_decide_eq_true h2⟩
  · rintro ⟨q, h1, h2⟩
    exact ct_has (p := fun q => decide (cA f J ly q = nI a)) (decide_eq_true h2) h1
theorem cA_jn {f J : Nat → Int32} {ly b q : Nat} {i : Int32} (hb : b < 10) : cA f (cjn J b i) ly q = if cA f J ly q = nI b then i else cA f J ly q := by
  rw [cA, cA]
  by_cases e : f (256 * ly + q) = -1
  · rw [if_pos e, if_pos e, if_neg (fun h => nI_nm1 (by omega) h.symm)]
  · rw [if_neg e, if_neg e]
    rfl
theorem cb_pos {f J : Nat → Int32} {ly b i : Nat} (h : cb f J ly b = some i) : i < 10 ∧ ¬ i = b ∧ 0 < cz f J ly i := by
  have h1 := bM_lt h
  have h2 : ¬ i = b := fun e => by
    have := h1.2
    simp only [e, if_true] at this
    exact absurd this (by decide)
  refine ⟨h1.1, h2, ?_⟩
  have h3 := h1.2
  simp only [if_neg h2] at h3
  exact cz_pos.mpr (bd_pos h3).2
theorem cnz_lt {f J : Nat → Int32} {ly le b : Nat} (h : cbs f J ly le 10 = some b) : cnz f (cjn J b (oI (cb f J ly b))) ly < cnz f J ly := by
  obtain ⟨h1, h2⟩ := cbM_lt h
  rw [cc, Bool.and_eq_true, Bool.and_eq_true] at h2
  obtain ⟨⟨h3, -⟩, h4⟩ := h2
  obtain ⟨i, hi⟩ := Option.isSome_iff_exists.mp h4
  obtain ⟨i1, i2, i3⟩ := cb_pos hi
  rw [hi]
  refine ct_lt (j := b) (fun k hk => ?_) ?_ ?_ h1
  · obtain ⟨q, q1, q2⟩ := cz_pos.mp (of_decide_eq_true hk)
    rw [cA_jn h1] at q2
    refine decide_eq_true (cz_pos.mpr ?_)
    by_cases e : cA f J ly q = nI b
    · rw [if_pos e] at q2
      obtain ⟨q3, q4, q5⟩ := cz_pos.mp i3
      exact ⟨q3, q4, q5.trans q2⟩
    · rw [if_neg e] at q2
      exact ⟨q, q1, q2⟩
  · refine decide_eq_false (fun hc => ?_)
    obtain ⟨q, q1, q2⟩ := cz_pos.mp hc
    rw [cA_jn h1] at q2
    by_cases e : cA f J ly q = nI b
    · rw [if_pos e] at q2
      exact i2 (nI_j (by omega) (by omega) q2)
    · rw [if_neg e] at q2
      exact e q2
  · exact h3
theorem crI_stay {f : Nat → Int32} {ly le k : Nat} (h : cbs f (crI f ly le k) ly le 10 = none) : ∀ j, crI f ly le (k + j) = crI f ly le k
  | 0 => rfl
  | j + 1 => by
    have ih := crI_stay h j
    show (match cbs f (crI f ly le (k + j)) ly le 10 with | none => crI f ly le (k + j) | some b => cjn (crI f ly le (k + j)) b (oI (cb f (crI f ly le (k + j)) ly b))) = _
    rw [ih, h]
theorem crI_step {f : Nat → Int32} {ly le k b i : Nat} (h : cbs f (crI f ly le k) ly le 10 = some b) (hi : cb f (crI f ly le k) ly b = some i) : crI f ly le (k + 1) = cjn (crI f ly le k) b (nI i) := by
  show (match cbs f (crI f ly le k) ly le 10 with | none => crI f ly le k | some b => cjn (crI f ly le k) b (oI (cb f (crI f ly le k) ly b))) = _
  rw [h]
  show cjn (crI f ly le k) b (oI (cb f (crI f ly le k) ly b)) = _
  rw [hi, oI_s]
theorem cA_cg {f J J2 : Nat → Int32} {ly q : Nat} (hw : wfA f) (hly : ly < 3) (hq : q < 256) (h : ∀ b, b < 10 → J b = J2 b) : cA f J ly q = cA f J2 ly q := by
  rw [cA, cA]
  rcases hw (256 * ly + q) (by omega) with e | ⟨a, ha, e⟩
  · rw [if_pos e, if_pos e]
  · rw [e, nI_clamp (by omega)]
    split
    · rfl
    · exact h a ha
theorem ct_cg {p p2 : Nat → Bool} : ∀ {n}, (∀ q, q < n → p q = p2 q) → fb_ct p n = fb_ct p2 n
  | 0, _ => rfl
  | n + 1, h => by
    rw [fb_ct_succ, fb_ct_succ, ct_cg (n := n) (fun q hq => h q (by omega)), h n (by omega)]
theorem sm_cg {p p2 : Nat → Nat} : ∀ {n}, (∀ q, q < n → p q = p2 q) → fb_sm p n = fb_sm p2 n
  | 0, _ => rfl
  | n + 1, h => by
    rw [fb_sm_succ, fb_sm_succ, sm_cg (n := n) (fun q hq => h q (by omega)), h n (by omega)]
theorem bM_cg {g g2 : Nat → Nat} : ∀ {n}, (∀ q, q < n → g q = g2 q) → bM g n = bM g2 n
  | 0, _ => rfl
  | n + 1, h => by
    rw [bM, bM, bM_cg (n := n) (fun q hq => h q (by omega)), h n (by omega)]
    cases hb : bM g2 n with
    | none => rfl
    | some b =>
      have := (bM_lt hb).1
      simp only [h b (by omega)]
theorem cCt_cg {c c2 : Nat → Int32} {a : Int32} (h : ∀ q, q < 256 → c q = c2 q) : cCt c a 256 = cCt c2 a 256 := ct_cg (fun q hq => by rw [h q hq])
theorem bd_cg {c c2 : Nat → Int32} {a o : Int32} (h : ∀ q, q < 256 → c q = c2 q) : bd c a o 256 = bd c2 a o 256 := sm_cg (fun q hq => by
  rw [bdQ, bdQ, h q hq]
  rw [sm_cg (p := nbC c o q) (p2 := nbC c2 o q) (fun s hs => by
    rw [nbC, nbC]
    cases hn : nbM s q with
    | none => rfl
    | some j => simp only [h j (nbM_lt hq hn)])])
theorem cz_cg {D : jD} {J : Nat → Int32} {ly a : Nat} (hw : wfA (D 105)) (hly : ly < 3) : cCt (cA (fnU D 126 J 10 105) (fnU D 126 J 10 126) ly) (nI a) 256 = cz (D 105) J ly a :=
  cCt_cg (fun q hq => by
    rw [show fnU D 126 J 10 105 = D 105 from funext fun _ => fnU_o (by decide)]
    exact cA_cg hw hly hq (fun b hb => by rw [fnU, if_pos ⟨rfl, hb⟩]))
theorem cb_cg {D : jD} {J : Nat → Int32} {ly a : Nat} (hw : wfA (D 105)) (hly : ly < 3) : bM (fun o => if o = a then 0 else bd (cA (fnU D 126 J 10 105) (fnU D 126 J 10 126) ly) (nI a) (nI o) 256) 10 = cb (D 105) J ly a :=
  bM_cg (fun o ho => by
    split
    · rfl
    · exact bd_cg (fun q hq => by
        rw [show fnU D 126 J 10 105 = D 105 from funext fun _ => fnU_o (by decide)]
        exact cA_cg hw hly hq (fun b hb => by rw [fnU, if_pos ⟨rfl, hb⟩])))
theorem fnU_2 {D : jD} {id n : Nat} {g g2 : Nat → Int32} : fnU (fnU D id g n) id g2 n = fnU D id g2 n := by
  funext a b
  simp only [fnU]
  split
  · rfl
  · rfl
theorem cz_le (f J : Nat → Int32) (ly a : Nat) : cz f J ly a ≤ 256 := cCt_le _ _ _
theorem cbs_y {f J : Nat → Int32} {ly le a : Nat} (h1 : ¬ cz f J ly a = 0) (h2 : cz f J ly a < le) (h3 : ¬ oI (cb f J ly a) = -1) : cc f J ly le a = true := by
  rw [cc, decide_eq_true (by omega), decide_eq_true h2]
  cases h : cb f J ly a with
  | none => rw [h] at h3; exact absurd rfl h3
  | some _ => rfl
theorem cbs_n {f J : Nat → Int32} {ly le a : Nat} (h : cz f J ly a = 0 ∨ le ≤ cz f J ly a ∨ oI (cb f J ly a) = -1) : cc f J ly le a = false := by
  rw [cc]
  rcases h with h | h | h
  · rw [h]
    rfl
  · rw [decide_eq_false (show ¬ cz f J ly a < le by omega)]
    simp
  · cases hx : cb f J ly a with
    | none => simp
    | some i => 
      rw [hx] at h
      exact absurd h (nI_nm1 (by have := (cb_pos hx).1; omega))
