/-! THE CLASS: names placed -/
theorem cbM_is {c : Nat → Bool} {g : Nat → Nat} : ∀ {n b : Nat}, b < n → c b = true → (∀ a, a < n → c a = true → g b ≤ g a) → (∀ a, a < b → c a = true → g b < g a) → cbM c g n = some b
  | 0, b, h, _, _, _ => absurd h (Nat.not_lt_zero b)
  | n + 1, b, h, h1, h2, h3 => by
    by_cases e : b = n
    · subst e
      cases hp : cbM c g b with
      | none => exact cbM_t0 hp h1
      | some x =>
        have hx := cbM_lt hp
        exact cbM_t1 hp h1 (h3 x hx.1 hx.2)
    · have ih := cbM_is (c := c) (g := g) (n := n) (b := b) (by omega) h1 (fun a ha hc => h2 a (by omega) hc) h3
      by_cases hc : c n = true
      · exact cbM_t2 ih (Nat.not_lt.mpr (h2 n (by omega) hc))
      · rw [cbM_n (by simpa using hc)]
        exact ih
theorem cbM_nn {c : Nat → Bool} {g : Nat → Nat} : ∀ {n : Nat}, cbM c g n = none → ∀ a, a < n → ¬ c a = true
  | 0, _, a, h => absurd h (Nat.not_lt_zero a)
  | n + 1, h, a, ha => fun hc => by
    cases hp : cbM c g n with
    | none =>
      by_cases e : a = n
      · subst e
        rw [cbM_t0 hp hc] at h
        cases h
      · exact cbM_nn hp a (by omega) hc
    | some x =>
      by_cases hn : c n = true
      · by_cases hg : g n < g x
        · rw [cbM_t1 hp hn hg] at h; cases h
        · rw [cbM_t2 hp hg] at h; cases h
      · rw [cbM_n (by simpa using hn)] at h
        rw [h] at hp
        cases hp
theorem cbM_min {c : Nat → Bool} {g : Nat → Nat} : ∀ {n b : Nat}, cbM c g n = some b → (∀ a, a < n → c a = true → g b ≤ g a) ∧ ∀ a, a < b → c a = true → g b < g a
  | 0, b, h => by cases h
  | n + 1, b, h => by
    by_cases hc : c n = true
    · cases hp : cbM c g n with
      | none =>
        rw [cbM_t0 hp hc] at h
        cases h
        have hno : ∀ a, a < n → ¬ c a = true := fun a ha hca => cbM_nn hp a ha hca
        exact ⟨fun a ha hca => by
          by_cases e : a = n
          · rw [e]; exact Nat.le_refl _
          · exact absurd hca (hno a (by omega)), fun a ha hca => absurd hca (hno a ha)⟩
      | some x =>
        have ih := cbM_min hp
        have hx := cbM_lt hp
        by_cases hg : g n < g x
        · rw [cbM_t1 hp hc hg] at h
          cases h
          exact ⟨fun a ha hca => by
            by_cases e : a = n
            · rw [e]; exact Nat.le_refl _
            · have := ih.1 a (by omega) hca; omega, fun a ha hca => by have := ih.1 a ha hca; omega⟩
        · rw [cbM_t2 hp hg] at h
          cases h
          exact ⟨fun a ha hca => by
            by_cases e : a = n
            · rw [e]; omega
            · exact ih.1 a (by omega) hca, ih.2⟩
    · rw [cbM_n (by simpa using hc)] at h
      have ih := cbM_min h
      exact ⟨fun a ha hca => by
        by_cases e : a = n
        · rw [e] at hca; exact absurd hca hc
        · exact ih.1 a (by omega) hca, ih.2⟩
theorem o2_ne {x : Option Nat} (hx : ∀ b, x = some b → b < 1000) : ¬ oI x = -2 := by
  cases x with
  | none => decide
  | some b =>
    intro e
    have := congrArg Int32.toInt e
    rw [show oI (some b) = nI b from rfl, nI_toInt (by have := hx b rfl; omega)] at this
    simp at this
theorem plF_lt {f T : Nat → Int32} {ly a m b : Nat} (h : plF f T ly a m = some b) : b < 256 ∧ cst f T ly (nI a) b m := by
  unfold plF at h
  split at h
  · cases h
  · have := cbM_lt h
    exact ⟨this.1, bP_of this.2⟩
theorem plN_5 {X : jD} {ly n : Nat} {lm : Nat → Nat} : plN X ly lm n 105 = X 105 := funext fun k => plN_o (by decide) (by decide)
theorem plN_s {X : jD} {ly k o : Nat} {lm : Nat → Nat} : plN X ly lm (k + 1) 127 o = plN X ly lm k 127 o ∨ (plN X ly lm k 127 o = -2 ∧ plK (plN X ly lm k) ly 10 = some o ∧ plN X ly lm (k + 1) 127 o = oI (plF (X 105) (plN X ly lm k 128) ly o (lm o))) := by
  cases h : plK (plN X ly lm k) ly 10 with
  | none => left; rw [plN_n h]
  | some b =>
    rw [plN_y h, plR_p]
    by_cases e : o = b
    · subst e
      right
      refine ⟨of_decide_eq_true (cbM_lt h).2, rfl, ?_⟩
      rw [if_pos rfl]
      show oI (plF (plN X ly lm k 105) (plN X ly lm k 128) ly o (lm o)) = _
      rw [plN_5]
    · left
      rw [if_neg e]
theorem plF_o2 {f T : Nat → Int32} {ly a m : Nat} : ¬ oI (plF f T ly a m) = -2 := o2_ne fun b h => by have := (plF_lt h).1; omega
theorem plN_fix {X : jD} {ly k o : Nat} {lm : Nat → Nat} (h : ¬ plN X ly lm k 127 o = -2) : ∀ j, plN X ly lm (k + j) 127 o = plN X ly lm k 127 o
  | 0 => rfl
  | j + 1 => by
    have ih := plN_fix h j
    rcases plN_s (X := X) (ly := ly) (k := k + j) (o := o) (lm := lm) with e | e
    · exact e.trans ih
    · exact absurd (ih.symm.trans e.1) h
theorem plN_c {X : jD} {ly : Nat} {lm : Nat → Nat} : ∀ k, k ≤ 10 → plC (plN X ly lm k) ≤ 10 - k
  | 0, _ => fb_ct_le _ _
  | k + 1, hk => by
    have ih := plN_c (X := X) (ly := ly) (lm := lm) k (by omega)
    cases h : plK (plN X ly lm k) ly 10 with
    | none =>
      rw [plN_n h]
      have z : plC (plN X ly lm k) = 0 := fb_ct_zero.mpr fun o ho => by
        have := cbM_nn h o ho
        simpa using this
      omega
    | some b =>
      rw [plN_y h]
      have := plC_lt (E := plN X ly lm k) (m := lm b) h
      omega
theorem plN_e {X : jD} {ly o : Nat} {lm : Nat → Nat} (ho : o < 10) : ¬ plN X ly lm 10 127 o = -2 := fun e => by
  have h := plN_c (X := X) (ly := ly) (lm := lm) 10 (by omega)
  have : 0 < plC (plN X ly lm 10) := fb_ct_pos.mpr ⟨o, ho, decide_eq_true e⟩
  omega
theorem plN_0 {X : jD} {ly o : Nat} {lm : Nat → Nat} (ho : o < 10) : plN X ly lm 0 127 o = if lm o = 0 then -1 else -2 := by
  show plS X lm 127 o = _
  rw [plS, fnU, if_pos ⟨rfl, ho⟩]
theorem plN_nm {X : jD} {ly o : Nat} {lm : Nat → Nat} (ho : o < 10) (h : lm o = 0) (k : Nat) : plN X ly lm k 127 o = -1 := by
  have e := plN_0 (X := X) (ly := ly) (lm := lm) ho
  rw [if_pos h] at e
  have := plN_fix (k := 0) (o := o) (X := X) (ly := ly) (lm := lm) (by rw [e]; decide) k
  rw [Nat.zero_add] at this
  rw [this, e]
/-- behind k names -/
def NPI (D E X : jD) (ly : Nat) (lm z : Nat → Nat) (a k : Nat) (last : Option Nat) : Prop :=
  (∀ i j, ¬ i = 18 → E i j = D i j) ∧ (∀ q, q < 256 → (E 18 q = -1 ↔ plN X ly lm k 128 q = 0)) ∧ (∀ o, o < 10 → (plN X ly lm k 127 o = -2 ↔ 0 < lm o ∧ aft z last o)) ∧ (lm a = 0 ∨ plN X ly lm k 127 a = -2) ∧ ∀ b, last = some b → b < 10
theorem NPI_0 {D X : jD} {ly a : Nat} {lm z : Nat → Nat} (ha : a < 10) : NPI D (fiU D 18 256 (-1)) X ly lm z a 0 none := by
  refine ⟨fun i j h => by rw [fiU, if_neg (fun x => h x.1)], fun q hq => ?_, fun o ho => ?_, ?_, fun b h => by cases h⟩
  · rw [fiU, if_pos ⟨rfl, hq⟩]
    have e : plN X ly lm 0 128 q = 0 := by
      show plS X lm 128 q = 0
      rw [plS, fnU, if_neg (by omega), fiU, if_pos ⟨rfl, hq⟩]
    exact ⟨fun _ => e, fun _ => rfl⟩
  · rw [plN_0 ho]
    by_cases e : lm o = 0
    · rw [if_pos e]; exact ⟨fun x => absurd x (by decide), fun x => by omega⟩
    · rw [if_neg e]; exact ⟨fun _ => ⟨by omega, trivial⟩, fun _ => rfl⟩
  · by_cases e : lm a = 0
    · exact Or.inl e
    · right; rw [plN_0 ha, if_neg e]
theorem NPI_k {D E X : jD} {ly a k b : Nat} {lm z : Nat → Nat} {last : Option Nat} (h : NPI D E X ly lm z a k last) (hz : ∀ o, o < 10 → z o = cSz (X 105) ly (nI o) 256) (hz2 : ∀ o, o < 10 → z o ≤ 256) (hb : cbM (nxC lm z last) (fun o => 256 - z o) 10 = some b) : plK (plN X ly lm k) ly 10 = some b := by
  have h1 := cbM_lt hb
  have h2 := bP_of h1.2
  have h3 := cbM_min hb
  have zb := hz2 b h1.1
  have e : plK (plN X ly lm k) ly 10 = cbM (fun o => decide (plN X ly lm k 127 o = -2)) (fun o => 256 - z o) 10 := cbM_cg fun o ho => ⟨rfl, by rw [plN_5, hz o ho]⟩
  rw [e]
  refine cbM_is h1.1 (decide_eq_true ((h.2.2.1 b h1.1).mpr ⟨h2.1, h2.2.2⟩)) (fun o ho hc => ?_) (fun o ho hc => ?_)
  · have hc := (h.2.2.1 o ho).mp (of_decide_eq_true hc)
    by_cases e : z o = 0
    · show 256 - z b ≤ 256 - z o; omega
    · exact h3.1 o ho (bP_t ⟨hc.1, by omega, hc.2⟩)
  · have hc := (h.2.2.1 o (by omega)).mp (of_decide_eq_true hc)
    by_cases e : z o = 0
    · show 256 - z b < 256 - z o; omega
    · exact h3.2 o ho (bP_t ⟨hc.1, by omega, hc.2⟩)
theorem NPI_s {D E E2 X : jD} {ly a k b : Nat} {lm z : Nat → Nat} {last : Option Nat} (h : NPI D E X ly lm z a k last) (hz : ∀ o, o < 10 → z o = cSz (X 105) ly (nI o) 256) (hz2 : ∀ o, o < 10 → z o ≤ 256) (hb : cbM (nxC lm z last) (fun o => 256 - z o) 10 = some b) (hab : ¬ b = a) (hm : ∀ o, o < 10 → lm o ≤ 6)
    (h2 : (plF (X 105) (plN X ly lm k 128) ly b (lm b) = none ∧ E2 = E) ∨ ∃ p, plF (X 105) (plN X ly lm k 128) ly b (lm b) = some p ∧ E2 = wrU E p (lm b) (nI b)) : NPI D E2 X ly lm z a (k + 1) (some b) := by
  have hk := NPI_k h hz hz2 hb
  have hb1 := cbM_lt hb
  have hb2 := bP_of hb1.2
  have hb3 := cbM_min hb
  have hB : plB (plN X ly lm k) ly b (lm b) = plF (X 105) (plN X ly lm k 128) ly b (lm b) := by
    show plF (plN X ly lm k 105) (plN X ly lm k 128) ly b (lm b) = _
    rw [plN_5]
  obtain ⟨a1, a2, a3, a4, a5⟩ := h
  have e7 : ∀ o, plN X ly lm (k + 1) 127 o = if o = b then oI (plF (X 105) (plN X ly lm k 128) ly b (lm b)) else plN X ly lm k 127 o := fun o => by rw [plN_y hk, plR_p, hB]
  refine ⟨fun i j hi => ?_, fun q hq => ?_, fun o ho => ?_, ?_, fun x hx => by cases hx; exact hb1.1⟩
  · rcases h2 with ⟨-, rfl⟩ | ⟨p, -, rfl⟩
    · exact a1 i j hi
    · rw [wrU, if_neg (fun x => hi x.1)]; exact a1 i j hi
  · rcases h2 with ⟨hp, rfl⟩ | ⟨p, hp, rfl⟩
    · rw [plN_y hk, plR_n (hB.trans hp), up_n (by omega)]
      exact a2 q hq
    · rw [plN_y hk, plR_y (hB.trans hp), wrU, tkU]
      by_cases e : p ≤ q ∧ q < p + lm b
      · rw [if_pos ⟨rfl, e⟩, if_pos ⟨rfl, e⟩]
        exact ⟨fun x => absurd x (nI_nm1 (by omega)), fun x => absurd x (by decide)⟩
      · rw [if_neg (fun x => e x.2), if_neg (fun x => e x.2), up_n (by omega)]
        exact a2 q hq
  · rw [e7]
    by_cases e : o = b
    · rw [if_pos e, e]
      exact ⟨fun x => absurd x plF_o2, fun x => by have := x.2; unfold aft bfo at this; omega⟩
    · rw [if_neg e, a3 o ho]
      refine ⟨fun x => ⟨x.1, ?_⟩, fun x => ⟨x.1, ?_⟩⟩
      · show bfo z b o
        unfold bfo
        by_cases zo : z o = 0
        · left; omega
        · have q1 : 256 - z b ≤ 256 - z o := hb3.1 o ho (bP_t ⟨x.1, by omega, x.2⟩)
          have q2 : o < b → 256 - z b < 256 - z o := fun hlt => hb3.2 o hlt (bP_t ⟨x.1, by omega, x.2⟩)
          have := hz2 o ho
          have := hz2 b hb1.1
          by_cases q3 : o < b
          · have := q2 q3; omega
          · omega
      · have x2 : bfo z b o := x.2
        have x3 := hb2.2.2
        unfold aft at x3 ⊢
        cases last with
        | none => trivial
        | some y =>
          simp only at x3 ⊢
          unfold bfo at x2 x3 ⊢
          omega
  · rcases a4 with a4 | a4
    · exact Or.inl a4
    · right; rw [e7, if_neg (fun x => hab x.symm)]; exact a4
/-- none is left that has squares -/
theorem NPI_n {D E X : jD} {ly a k : Nat} {lm z : Nat → Nat} {last : Option Nat} (ha : a < 10) (hk : k ≤ 10) (h : NPI D E X ly lm z a k last) (hz : ∀ o, o < 10 → z o = cSz (X 105) ly (nI o) 256) (hb : cbM (nxC lm z last) (fun o => 256 - z o) 10 = none) : plN X ly lm 10 127 a = -1 := by
  obtain ⟨a1, a2, a3, a4, a5⟩ := h
  rcases a4 with a4 | a4
  · exact plN_nm ha a4 10
  · have key : ∀ j, (∀ o, o < 10 → plN X ly lm (k + j) 127 o = -2 → z o = 0) ∧ (plN X ly lm (k + j) 127 a = -2 ∨ plN X ly lm (k + j) 127 a = -1) := fun j => by
      induction j with
      | zero =>
        refine ⟨fun o ho hc => ?_, Or.inl a4⟩
        have hc := (a3 o ho).mp hc
        have := cbM_nn hb o ho
        apply Classical.byContradiction
        intro zo
        exact this (bP_t ⟨hc.1, by omega, hc.2⟩)
      | succ j ih =>
        refine ⟨fun o ho hc => ?_, ?_⟩
        · rcases plN_s (X := X) (ly := ly) (k := k + j) (o := o) (lm := lm) with e | e
          · exact ih.1 o ho (e.symm.trans hc)
          · exact ih.1 o ho e.1
        · rcases plN_s (X := X) (ly := ly) (k := k + j) (o := a) (lm := lm) with e | ⟨e1, e2, e3⟩
          · rw [show k + (j + 1) = k + j + 1 from rfl, e]; exact ih.2
          · right
            rw [show k + (j + 1) = k + j + 1 from rfl, e3, plF, if_pos (by rw [← hz a ha]; exact ih.1 a ha e1)]
            rfl
    have := (key (10 - k)).2
    rw [show k + (10 - k) = 10 by omega] at this
    rcases this with e | e
    · exact absurd e (plN_e ha)
    · exact e
theorem NPI_a {D E X : jD} {ly a k : Nat} {lm z : Nat → Nat} {last : Option Nat} (hk : k < 10) (h : NPI D E X ly lm z a k last) (hz : ∀ o, o < 10 → z o = cSz (X 105) ly (nI o) 256) (hz2 : ∀ o, o < 10 → z o ≤ 256) (hb : cbM (nxC lm z last) (fun o => 256 - z o) 10 = some a) : plN X ly lm 10 127 a = oI (plF (X 105) (plN X ly lm k 128) ly a (lm a)) := by
  have hK := NPI_k h hz hz2 hb
  have e : plN X ly lm (k + 1) 127 a = oI (plF (X 105) (plN X ly lm k 128) ly a (lm a)) := by
    rcases plN_s (X := X) (ly := ly) (k := k) (o := a) (lm := lm) with e | e
    · have h1 := cbM_lt hb
      have h2 := bP_of h1.2
      have h3 := (h.2.2.1 a h1.1).mpr ⟨h2.1, h2.2.2⟩
      rw [plN_y hK, plR_p, if_pos rfl]
      show oI (plF (plN X ly lm k 105) (plN X ly lm k 128) ly a (lm a)) = _
      rw [plN_5]
    · exact e.2.2
  have f := plN_fix (k := k + 1) (o := a) (X := X) (ly := ly) (lm := lm) (by rw [e]; exact plF_o2) (10 - (k + 1))
  rw [show k + 1 + (10 - (k + 1)) = 10 by omega] at f
  rw [f, e]
theorem NPI_e {D E X : jD} {ly a : Nat} {lm z : Nat → Nat} {last : Option Nat} (ha : a < 10) (h : NPI D E X ly lm z a 10 last) : plN X ly lm 10 127 a = -1 := by
  rcases h.2.2.2.1 with e | e
  · exact plN_nm ha e 10
  · exact absurd e (plN_e ha)

theorem c_nextArea (l : Launch) {Z : jZ} {D : jD} (hx : zX Z) {ly : Nat} (h1 : ly < 3) {z : Nat → Nat} (hz : ∀ a, a < 10 → D (32 + 10 * ly) a = nI (z a)) (hz2 : ∀ a, a < 10 → z a ≤ 256) {lm : Nat → Nat} (hlm : ∀ a, a < 10 → D (34 + 10 * ly) a = nI (lm a) ∧ lm a ≤ 6) {r : Option Nat} (hr : ∀ b, r = some b → b < 10) : ja_M l (mX2_nextArea 0 0) [.ref 17, .ref (30 + 10 * ly), .int (oI r)] Z D (ja_jr (some (.int (oI (cbM (nxC lm z r) (fun o => 256 - z o) 10)))) Z D) ja_x0 := by
  cases r with
  | none => exact c_nextAreaN l hx h1 hz hz2 hlm (b := 0)
  | some b => exact c_nextAreaS l hx h1 hz hz2 hlm (hr b rfl)

set_option maxRecDepth 100000 in
set_option maxHeartbeats 4000000 in
theorem c_firstSquare (l : Launch) {Z : jZ} {D : jD} (hx : zX Z) {ly : Nat} (h1 : ly < 3) {X : jD} (hf : ∀ q, q < 256 → D (31 + 10 * ly) q = X 105 (256 * ly + q)) {z : Nat → Nat} (hz : ∀ a, a < 10 → D (32 + 10 * ly) a = nI (z a)) (hz2 : ∀ a, a < 10 → z a ≤ 256) {lm : Nat → Nat} (hlm : ∀ a, a < 10 → D (34 + 10 * ly) a = nI (lm a) ∧ lm a ≤ 6) (hzX : ∀ o, o < 10 → z o = cSz (X 105) ly (nI o) 256) {a : Nat} (ha : a < 10) : ja_M l (mX2_firstSquare 0 0) [.ref (17), .ref (30 + 10 * ly), .int (nI (a))] Z D (ja_jd (some (.int (plN X ly lm 10 127 a))) Z (fun D2 => ∀ i j, ¬ i = 18 → D2 i j = D i j)) ja_x0 := by
  refine ja_Mof (lv := [some (.ref (17)), some (.ref (30 + 10 * ly)), some (.int (nI (a))), none, none, none]) (by decide +kernel) rfl rfl (Nat.le_of_ble_eq_true rfl) rfl ?_
  refine ja_aload_n (i := 0) dX2_firstSquare_0 rfl rfl ?_
  refine ja_getR fl_X2_9 (zX_o17 hx) rfl (zX_p17_0 hx) dX2_firstSquare_1 ?_
  refine ja_iconst (v := (-1)) dX2_firstSquare_4 (by decide +kernel) ?_
  refine ja_cSd0 (st := []) (c_fill256 (D := D) l (zX_o18 hx) ((-1))) rfl rfl (ce_J7_fill_53178 0 0) st_J7_fill_53178 lk_X2_15 ⟨(Nat.le_of_ble_eq_true rfl), (Nat.le_of_ble_eq_true rfl)⟩ dX2_firstSquare_5 rfl rfl (Nat.le_of_ble_eq_true rfl) (Nat.zero_le _) (Nat.zero_le _) ?_
  intro D5 hD5
  subst hD5
  refine ja_iconst (v := (-1)) dX2_firstSquare_8 (by decide +kernel) ?_
  refine ja_istore_n (i := 3) dX2_firstSquare_9 rfl rfl (Nat.le_of_ble_eq_true rfl) ?_
  refine ja_iconst (v := nI 0) dX2_firstSquare_10 (by decide +kernel) ?_
  refine ja_istore (i := 4) dX2_firstSquare_11 rfl (Nat.le_of_ble_eq_true rfl) ?_
  have lp13 : ∀ (f13 : Nat) (k : Nat) (E : jD) (last : Option Nat), (10 < k + f13) → (k ≤ 10) → (NPI D E X ly lm z a k last) → ja_A l (mX2_firstSquare 0 0) ja_sn (ja_Qf (mX2_firstSquare 0 0) (ja_jd (some (.int (plN X ly lm 10 127 a))) Z (fun D2 => ∀ i j, ¬ i = 18 → D2 i j = D i j)) ja_x0) 13 [some (.ref (17)), some (.ref (30 + 10 * ly)), some (.int (nI (a))), some (.int (oI last)), some (.int (nI (k))), none] [] Z E 0 0 := by
    intro f13
    induction f13 with
    | zero => intro k E last hf2 hk hN; exfalso; omega
    | succ f13 ih13 =>
      intro k E last hf2 hk hN
      have hz9 : ∀ a, a < 10 → E (32 + 10 * ly) a = nI (z a) := fun a ha => (hN.1 _ _ (by omega)).trans (hz a ha)
      have hlm9 : ∀ a, a < 10 → E (34 + 10 * ly) a = nI (lm a) ∧ lm a ≤ 6 := fun a ha => ⟨(hN.1 _ _ (by omega)).trans (hlm a ha).1, (hlm a ha).2⟩
      have hf9 : ∀ q, q < 256 → E (31 + 10 * ly) q = X 105 (256 * ly + q) := fun q hq => (hN.1 _ _ (by omega)).trans (hf q hq)
      refine ja_iload (i := 4) dX2_firstSquare_13 rfl ?_
      refine ja_bipush (v := nI 10) dX2_firstSquare_15 (by decide +kernel) ?_
      refine ja_icmpN_ge (tgt := 77) dX2_firstSquare_17 (by decide) (by omega) (by omega) (fun c17 => ?_) (fun c17 => ?_)
      ·
        refine ja_iconst (v := (-1)) dX2_firstSquare_77 (by decide +kernel) ?_
        refine ja_iret rfl rfl dX2_firstSquare_78 (Nat.zero_le _) (Nat.zero_le _) ?_
        exact ⟨by rw [NPI_e ha ((show k = 10 by omega) ▸ hN)], rfl, hN.1⟩
      ·
        refine ja_aload_n (i := 0) dX2_firstSquare_20 rfl rfl ?_
        refine ja_aload_n (i := 1) dX2_firstSquare_21 rfl rfl ?_
        refine ja_iload_n (i := 3) dX2_firstSquare_22 rfl rfl ?_
        refine ja_cVr (st := []) (c_nextArea (D := E) l hx h1 hz9 hz2 hlm9 (r := last) hN.2.2.2.2) rfl rfl (ce_X2_nextArea 0 0) im_X2_nextArea se_X2_nextArea lk_X2_21 k_X2 (zX_o17 hx) ⟨(Nat.le_of_ble_eq_true rfl), (Nat.le_of_ble_eq_true rfl)⟩ dX2_firstSquare_23 rfl rfl (Nat.le_of_ble_eq_true rfl) (Nat.zero_le _) (Nat.zero_le _) ?_
        refine ja_istore_n (i := 3) dX2_firstSquare_26 rfl rfl (Nat.le_of_ble_eq_true rfl) ?_
        rcases hnx : cbM (nxC lm z last) (fun o => 256 - z o) 10 with _ | b
        ·
          refine ja_iload_n (i := 3) dX2_firstSquare_27 rfl rfl ?_
          refine ja_cNr (st := []) (c_isAreaN l) rfl rfl (ce_X7_isArea 0 0) st_X7_isArea nk_X2_25 ⟨(Nat.le_of_ble_eq_true rfl), (Nat.le_of_ble_eq_true rfl)⟩ dX2_firstSquare_28 rfl rfl (Nat.le_of_ble_eq_true rfl) (Nat.zero_le _) (Nat.zero_le _) ?_
          refine ja_ifB_ne (tgt := 36) dX2_firstSquare_31 (by decide) (fun c31 => absurd c31 (by decide)) (fun c31 => ?_)
          refine ja_iconst (v := (-1)) dX2_firstSquare_34 (by decide +kernel) ?_
          refine ja_iret rfl rfl dX2_firstSquare_35 (Nat.zero_le _) (Nat.zero_le _) ?_
          exact ⟨by rw [NPI_n ha (by omega) hN hzX hnx], rfl, hN.1⟩
        ·
          have hb10 := (cbM_lt hnx).1
          refine ja_iload_n (i := 3) dX2_firstSquare_27 rfl rfl ?_
          refine ja_cNr (st := []) (c_isAreaT l (by omega)) rfl rfl (ce_X7_isArea 0 0) st_X7_isArea nk_X2_25 ⟨(Nat.le_of_ble_eq_true rfl), (Nat.le_of_ble_eq_true rfl)⟩ dX2_firstSquare_28 rfl rfl (Nat.le_of_ble_eq_true rfl) (Nat.zero_le _) (Nat.zero_le _) ?_
          refine ja_ifB_ne (tgt := 36) dX2_firstSquare_31 (by decide) (fun c31 => ?_) (fun c31 => absurd c31 (by decide))
          refine ja_aload_n (i := 0) dX2_firstSquare_36 rfl rfl ?_
          refine ja_aload_n (i := 1) dX2_firstSquare_37 rfl rfl ?_
          refine ja_iload_n (i := 3) dX2_firstSquare_38 rfl rfl ?_
          refine ja_cVr (st := []) (c_bestPlace (D := E) l hx h1 (f := X 105) hf9 (T := plN X ly lm k 128) hN.2.1 hz9 hz2 (a := b) (m := lm b) hb10 (hzX b hb10) (hlm9 b hb10).1 (hlm9 b hb10).2) rfl rfl (ce_X2_bestPlace 0 0) im_X2_bestPlace se_X2_bestPlace lk_X2_29 k_X2 (zX_o17 hx) ⟨(Nat.le_of_ble_eq_true rfl), (Nat.le_of_ble_eq_true rfl)⟩ dX2_firstSquare_39 rfl rfl (Nat.le_of_ble_eq_true rfl) (Nat.zero_le _) (Nat.zero_le _) ?_
          refine ja_istore (i := 5) dX2_firstSquare_42 rfl (Nat.le_of_ble_eq_true rfl) ?_
          refine ja_iload_n (i := 3) dX2_firstSquare_44 rfl rfl ?_
          refine ja_iload_n (i := 2) dX2_firstSquare_45 rfl rfl ?_
          refine ja_icmpN_ne (tgt := 52) dX2_firstSquare_46 (by decide) (by omega) (by omega) (fun c46 => ?_) (fun c46 => ?_)
          ·
            rcases hpl : plF (X 105) (plN X ly lm k 128) ly b (lm b) with _ | p
            ·
              refine ja_iload (i := 5) dX2_firstSquare_52 rfl ?_
              refine ja_iconst (v := (-1)) dX2_firstSquare_54 (by decide +kernel) ?_
              refine ja_icmp_eq (tgt := 71) dX2_firstSquare_55 (by decide) (fun c55 => ?_) (fun c55 => absurd rfl c55)
              refine ja_iincN dX2_firstSquare_71 rfl rfl (Nat.le_of_ble_eq_true rfl) ?_
              refine ja_goto (tgt := 13) dX2_firstSquare_74 (by decide) ?_
              refine ja_forget (i := 5) ?_
              exact ih13 (k + 1) E (some b) (by omega) (by omega) (NPI_s hN hzX hz2 hnx c46 (fun o ho => (hlm o ho).2) (Or.inl ⟨hpl, rfl⟩))
            ·
              have hp1 := plF_lt hpl
              have hpm : p + lm b ≤ 256 := by have := hp1.2.1; omega
              refine ja_iload (i := 5) dX2_firstSquare_52 rfl ?_
              refine ja_iconst (v := (-1)) dX2_firstSquare_54 (by decide +kernel) ?_
              refine ja_icmp_eq (tgt := 71) dX2_firstSquare_55 (by decide) (fun c55 => absurd c55 (nI_nm1 (by omega))) (fun c55 => ?_)
              refine ja_aload_n (i := 0) dX2_firstSquare_58 rfl rfl ?_
              refine ja_iload_n (i := 3) dX2_firstSquare_59 rfl rfl ?_
              refine ja_iload (i := 5) dX2_firstSquare_60 rfl ?_
              refine ja_aload_n (i := 1) dX2_firstSquare_62 rfl rfl ?_
              refine ja_getR fl_X2_32 (zL_o hx (l := ly) (by omega)) rfl (zL_p3 hx (l := ly) (by omega)) dX2_firstSquare_63 ?_
              refine ja_iload_n (i := 3) dX2_firstSquare_66 rfl rfl ?_
              refine ja_iald (zL_a3 hx (l := ly) (by omega)) rfl (by omega) (by decide) dX2_firstSquare_67 ?_
              refine ja_top (y := nI (lm b)) (hlm9 b hb10).1 ?_
              refine ja_cVd0 (st := []) (c_write (D := E) l hx (a := b) (q := p) (m := lm b) hpm) rfl rfl (ce_X2_write 0 0) im_X2_write se_X2_write lk_X2_37 k_X2 (zX_o17 hx) ⟨(Nat.le_of_ble_eq_true rfl), (Nat.le_of_ble_eq_true rfl)⟩ dX2_firstSquare_68 rfl rfl (Nat.le_of_ble_eq_true rfl) (Nat.zero_le _) (Nat.zero_le _) ?_
              intro D68 hD68
              subst hD68
              refine ja_iincN dX2_firstSquare_71 rfl rfl (Nat.le_of_ble_eq_true rfl) ?_
              refine ja_goto (tgt := 13) dX2_firstSquare_74 (by decide) ?_
              refine ja_forget (i := 5) ?_
              exact ih13 (k + 1) _ (some b) (by omega) (by omega) (NPI_s hN hzX hz2 hnx c46 (fun o ho => (hlm o ho).2) (Or.inr ⟨p, hpl, rfl⟩))
          ·
            refine ja_iload (i := 5) dX2_firstSquare_49 rfl ?_
            refine ja_iret rfl rfl dX2_firstSquare_51 (Nat.zero_le _) (Nat.zero_le _) ?_
            subst c46
            exact ⟨by rw [NPI_a (by omega) hN hzX hz2 hnx], rfl, hN.1⟩
  exact lp13 11 0 _ none (by omega) (by omega) (NPI_0 ha)
