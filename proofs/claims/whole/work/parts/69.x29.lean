/-! Pieces, counted -/
theorem Rch_cg {r r2 : Nat → Int32} (h : ∀ k, k < 256 → r k = r2 k) {q k : Nat} (hq : q < 256) : Rch r q k ↔ Rch r2 q k := by
  have key : ∀ {r r2 : Nat → Int32}, (∀ k, k < 256 → r k = r2 k) → ∀ {k}, Rch r q k → Rch r2 q k := fun {r r2} h {k} hk =>
    (Rch_sub (S := fun k => k < 256 ∧ Rch r2 q k) ⟨hq, Rch_refl r2 q⟩ (fun s j k h1 h2 h3 h4 h5 => by
      have hk := nbM_lt h2 h4
      exact ⟨hk, Rch_step h3.2 h1 h2 h4 (by rw [← h k hk, ← h q hq]; exact h5)⟩) hk).2
  exact ⟨key h, key fun k hk => (h k hk).symm⟩
theorem pcs_cg {r r2 : Nat → Int32} (h : ∀ k, k < 256 → r k = r2 k) : ∀ {q}, q ≤ 256 → pcs r q = pcs r2 q
  | 0, _ => rfl
  | q + 1, hq => by
    have ih := pcs_cg h (q := q) (by omega)
    rw [pcs, pcs, ← ih, ← h q (by omega)]
    by_cases hc : r q = -1 ∨ ¬ (pcs r q).1 q = -1
    · rw [if_pos hc, if_pos hc]
    · rw [if_neg hc, if_neg hc]
      refine Prod.ext (funext fun k => ?_) rfl
      by_cases hR : Rch r q k
      · exact (@if_pos _ (Classical.propDecidable _) hR _ _ _).trans (@if_pos _ (Classical.propDecidable _) ((Rch_cg h (by omega)).mp hR) _ _ _).symm
      · exact (@if_neg _ (Classical.propDecidable _) hR _ _ _).trans (@if_neg _ (Classical.propDecidable _) (fun x => hR ((Rch_cg h (by omega)).mpr x)) _ _ _).symm
theorem pcs_same {r : Nat → Int32} {x k : Nat} : ∀ {q i}, q ≤ 256 → (pcs r q).1 x = nI i → (pcs r q).1 k = nI i → i < 1000 → r x = r k
  | 0, i, _, h, _, hi => absurd h.symm (nI_nm1 (by omega))
  | q + 1, i, hq, h1, h2, hi => by
    by_cases hc : r q = -1 ∨ ¬ (pcs r q).1 q = -1
    · rw [pcs_n hc] at h1 h2
      exact pcs_same (by omega) h1 h2 hi
    · have c1 : ¬ r q = -1 := fun x => hc (Or.inl x)
      have c2 : (pcs r q).1 q = -1 := Classical.byContradiction fun x => hc (Or.inr x)
      have hl := pcs_le r q
      have hne : ∀ j, ¬ (pcs r q).1 j = nI (pcs r q).2 := fun j => pcs_ne (by omega) j
      rw [pcs_y c1 c2] at h1 h2
      have e : ∀ j, (@ite _ (Rch r q j) (Classical.propDecidable _) (nI (pcs r q).2) ((pcs r q).1 j)) = nI i → (Rch r q j ∧ i = (pcs r q).2) ∨ ((pcs r q).1 j = nI i ∧ ¬ Rch r q j) := fun j hj => by
        by_cases hR : Rch r q j
        · rw [@if_pos _ (Classical.propDecidable _) hR] at hj
          exact Or.inl ⟨hR, (nI_j (by omega) (by omega) hj).symm⟩
        · rw [@if_neg _ (Classical.propDecidable _) hR] at hj
          exact Or.inr ⟨hj, hR⟩
      rcases e x h1 with ⟨a1, a2⟩ | ⟨a1, a2⟩
      · rcases e k h2 with ⟨b1, b2⟩ | ⟨b1, b2⟩
        · rw [Rch_r a1, Rch_r b1]
        · rw [a2] at b1; exact absurd b1 (hne k)
      · rcases e k h2 with ⟨b1, b2⟩ | ⟨b1, b2⟩
        · rw [b2] at a1; exact absurd a1 (hne x)
        · exact pcs_same (by omega) a1 b1 hi
/-- squares counted by their pieces -/
theorem pz_sum {r : Nat → Int32} {P Q : Nat → Bool} (h1 : ∀ k i, k < 256 → i < (pcs r 256).2 → (pcs r 256).1 k = nI i → P i = Q k) (h2 : ∀ k, k < 256 → (pcs r 256).1 k = -1 → Q k = false) :
    fb_sm (fun i => if P i = true then pzs r 256 i else 0) (pcs r 256).2 = fb_ct Q 256 := by
  have hn := pcs_le r 256
  have key : ∀ m, m ≤ (pcs r 256).2 → fb_sm (fun i => if P i = true then pzs r 256 i else 0) m = fb_ct (fun k => Q k && bP (∃ i, i < m ∧ (pcs r 256).1 k = nI i)) 256 := fun m => by
    induction m with
    | zero =>
      intro _
      refine (fb_ct_zero.mpr fun k _ => ?_).symm
      rw [bP_f (by rintro ⟨i, hi, -⟩; omega), Bool.and_false]
    | succ m ih =>
      intro hm
      rw [fb_sm_succ, ih (by omega)]
      have e : fb_ct (fun k => Q k && bP (∃ i, i < m + 1 ∧ (pcs r 256).1 k = nI i)) 256 = fb_ct (fun k => (Q k && bP (∃ i, i < m ∧ (pcs r 256).1 k = nI i)) || (Q k && decide ((pcs r 256).1 k = nI m))) 256 := fb_ct_cong fun k hk => by
        cases Q k with
        | false => rfl
        | true =>
          simp only [Bool.true_and]
          by_cases c : (pcs r 256).1 k = nI m
          · rw [bP_t ⟨m, by omega, c⟩, decide_eq_true c, Bool.or_true]
          · rw [decide_eq_false c, Bool.or_false]
            refine bP_cg ⟨?_, ?_⟩
            · rintro ⟨i, hi, hi2⟩
              refine ⟨i, ?_, hi2⟩
              by_cases e : i = m
              · rw [e] at hi2; exact absurd hi2 c
              · omega
            · rintro ⟨i, hi, hi2⟩
              exact ⟨i, by omega, hi2⟩
      rw [e, fb_ct_or (fun k hk hb => by
        simp only [Bool.and_eq_true, decide_eq_true_eq] at hb
        obtain ⟨⟨-, a2⟩, -, b2⟩ := hb
        obtain ⟨i, hi, hi2⟩ := bP_of a2
        have := nI_j (by omega) (by omega) (hi2.symm.trans b2)
        omega)]
      refine congrArg (fun z : Nat => fb_ct (fun k => Q k && bP (∃ i, i < m ∧ (pcs r 256).1 k = nI i)) 256 + z) ?_
      by_cases c : P m = true
      · rw [if_pos c]
        refine fb_ct_cong fun k hk => ?_
        by_cases d : (pcs r 256).1 k = nI m
        · rw [decide_eq_true d, ← h1 k m hk (by omega) d, c]; rfl
        · rw [decide_eq_false d, Bool.and_false]
      · rw [if_neg c]
        refine (fb_ct_zero.mpr fun k hk => ?_).symm
        by_cases d : (pcs r 256).1 k = nI m
        · rw [← h1 k m hk (by omega) d]
          cases hP : P m with
          | true => exact absurd hP c
          | false => rfl
        · rw [decide_eq_false d, Bool.and_false]
  rw [key _ (Nat.le_refl _)]
  refine fb_ct_cong fun k hk => ?_
  rcases pcs_val r k 256 with d | ⟨i, hi, d⟩
  · rw [h2 k hk d]; rfl
  · rw [bP_t ⟨i, hi, d⟩, Bool.and_true]
theorem pz_all (r : Nat → Int32) : fb_sm (pzs r 256) (pcs r 256).2 = fb_ct (fun k => decide (¬ (pcs r 256).1 k = -1)) 256 := by
  have := pz_sum (r := r) (P := fun _ => true) (Q := fun k => decide (¬ (pcs r 256).1 k = -1)) (fun k i _ hi e => by
    have := pcs_le r 256
    rw [e]; exact (decide_eq_true (nI_nm1 (by omega))).symm) (fun k _ e => by rw [e]; rfl)
  rw [← this]
  exact fb_sm_cong fun i _ => (if_pos rfl).symm
/-- the pieces with an area add up to its size -/
theorem LAY_sum {D E : jD} {i1 i2 : Nat} {r : Nat → Int32} {a : Int32} (hL : LAY D E i1 i2 r 256) (ha : ¬ a = -1) (hrr : ∀ q k, q < 256 → k < 256 → ((D i1 k = D i1 q ∧ D i2 k = D i2 q) ↔ r k = r q)) (hr0 : ∀ q, q < 256 → ((D i1 q = -1 ∧ D i2 q = -1) ↔ r q = -1)) :
    fb_sm (fun i => if E 7 i = a then pzs r 256 i else 0) (pcs r 256).2 = fb_ct (fun k => decide (D i1 k = a)) 256 ∧ fb_sm (fun i => if E 8 i = a then pzs r 256 i else 0) (pcs r 256).2 = fb_ct (fun k => decide (D i2 k = a)) 256 := by
  have hn := pcs_le r 256
  have same : ∀ k i, k < 256 → i < (pcs r 256).2 → (pcs r 256).1 k = nI i → E 7 i = D i1 k ∧ E 8 i = D i2 k := fun k i hk hi e => by
    obtain ⟨-, x, hx, e2, -, e7, e8⟩ := hL.2.2.2 i hi
    have e3 := (hrr x k hx hk).mpr (pcs_same (by omega) e e2 (by omega))
    exact ⟨by rw [e7, e3.1], by rw [e8, e3.2]⟩
  have none : ∀ k, k < 256 → (pcs r 256).1 k = -1 → D i1 k = -1 ∧ D i2 k = -1 := fun k hk e => by
    rcases pcs_done r 256 k (by omega) hk with d | d
    · exact (hr0 k hk).mpr d
    · exact absurd e d
  have two : ∀ (F G : Nat → Int32), (∀ k i, k < 256 → i < (pcs r 256).2 → (pcs r 256).1 k = nI i → F i = G k) → (∀ k, k < 256 → (pcs r 256).1 k = -1 → G k = -1) → fb_sm (fun i => if F i = a then pzs r 256 i else 0) (pcs r 256).2 = fb_ct (fun k => decide (G k = a)) 256 := fun F G h1 h2 => by
    have := pz_sum (r := r) (P := fun i => decide (F i = a)) (Q := fun k => decide (G k = a)) (fun k i hk hi e => by rw [h1 k i hk hi e]) (fun k hk e => by rw [h2 k hk e]; exact decide_eq_false fun x => ha x.symm)
    rw [← this]
    exact fb_sm_cong fun i _ => by simp only [decide_eq_true_eq]
  exact ⟨two _ _ (fun k i hk hi e => (same k i hk hi e).1) (fun k hk e => (none k hk e).1), two _ _ (fun k i hk hi e => (same k i hk hi e).2) (fun k hk e => (none k hk e).2)⟩
/-- areas' sizes and the squares of none -/
theorem sz_sum {c : Nat → Option Nat} (hw : ∀ q a, c q = some a → a < 10) : ∀ n, fb_sm (fun a => fb_ct (fun q => decide (c q = some a)) n) 10 + fb_ct (fun q => decide (c q = none)) n = n
  | 0 => by
    have := fb_sm_bound (f := fun a => fb_ct (fun q => decide (c q = some a)) 0) (c := 0) (n := 10) (fun _ _ => Nat.le_refl _)
    show _ + 0 = 0
    omega
  | n + 1 => by
    have ih := sz_sum hw n
    have e : fb_sm (fun a => fb_ct (fun q => decide (c q = some a)) (n + 1)) 10 = fb_sm (fun a => fb_ct (fun q => decide (c q = some a)) n) 10 + fb_sm (fun a => if c n = some a then 1 else 0) 10 := by
      rw [← fb_sm_add]
      exact fb_sm_cong fun a _ => by rw [fb_ct_succ]; simp only [decide_eq_true_eq]
    rw [e, fb_ct_succ]
    cases h : c n with
    | none =>
      have z := fb_sm_bound (f := fun a => if (none : Option Nat) = some a then 1 else 0) (c := 0) (n := 10) (fun a _ => by show (if (none : Option Nat) = some a then 1 else 0) ≤ 0; rw [if_neg (by simp)]; exact Nat.le_refl _)
      rw [if_pos (decide_eq_true rfl)]
      omega
    | some x =>
      have hx := hw n x h
      have z : fb_sm (fun a => if some x = some a then 1 else 0) 10 = 1 := by
        have := fb_sm_upd (fun _ => 0) 1 (i := x) (n := 10) hx
        have z0 : fb_sm (fun _ => 0) 10 = 0 := by decide
        rw [z0] at this
        rw [show fb_sm (fun a => if some x = some a then 1 else 0) 10 = fb_sm (fun k => if k = x then 1 else (fun _ => 0) k) 10 from fb_sm_cong fun k _ => by
          by_cases e : k = x
          · rw [if_pos e, if_pos (by rw [e])]
          · rw [if_neg e, if_neg (fun h => e (Option.some.inj h).symm)]]
        omega
      rw [z, if_neg (by rw [decide_eq_false (by simp)]; decide)]
      omega
