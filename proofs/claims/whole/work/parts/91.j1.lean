/-! JOINT THEOREMS, 1: calls that only read (by wip/whole/x49.py) -/
theorem zM_u {Z : jZ} {i j : Nat} {x : UInt64} (h : zM Z) : zM (ja_ux Z i j x) := h
theorem eqv_ii {x y : Int32} (h : x = y) : eqv_i (.int y) (g_i (.int x)) := ⟨y, rfl, by rw [h]; rfl⟩
theorem eqv_ll {x y : Int64} (h : x = y) : eqv_l (.long y) (g_l (.long x)) := ⟨y, rfl, by rw [h]; rfl⟩
theorem oI_nI {x : Option Nat} {a : Nat} (hx : ∀ b, x = some b → b < 10) (ha : a < 10) : oI x = nI a ↔ x = some a := by
  cases x with
  | none => exact ⟨fun h => absurd h (fun e => nI_nm1 (by omega) e.symm), fun h => by cases h⟩
  | some b =>
    have := hx b rfl
    exact ⟨fun h => by rw [nI_j (by omega) (by omega) h], fun h => by cases h; rfl⟩
theorem JA_sz {D : jD} {cc : Nat → Nat → Option Nat} (H : JA D cc) {ly a : Nat} (h1 : ly < 3) (ha : a < 10) : cSz (D 105) ly (nI a) 256 = eN (cc ly) a := by
  obtain ⟨w, q, -⟩ := H ly h1
  refine fb_ct_cong (fun k hk => ?_)
  rw [(q k hk).2, decide_eq_decide]
  exact oI_nI (w k) ha
theorem JA_sz2 {D : jD} {cc : Nat → Nat → Option Nat} (H : JA D cc) {ly a : Nat} (h1 : ly < 3) (ha : a < 10) : D (32 + 10 * ly) a = nI (cSz (D 105) ly (nI a) 256) := by
  rw [JA_sz H h1 ha]
  exact (H ly h1).2.2 a ha
theorem JA_q {D : jD} {cc : Nat → Nat → Option Nat} (H : JA D cc) {ly q : Nat} (h1 : ly < 3) (hq : q < 256) : D (31 + 10 * ly) q = D 105 (256 * ly + q) := by
  obtain ⟨-, h, -⟩ := H ly h1
  rw [(h q hq).1, (h q hq).2]
theorem JA_wA {D : jD} {cc : Nat → Nat → Option Nat} (H : JA D cc) : wfA (D 105) := fun k hk => by
  obtain ⟨w, h, -⟩ := H (k / 256) (by omega)
  have e := (h (k % 256) (by omega)).2
  rw [show 256 * (k / 256) + k % 256 = k by omega] at e
  rw [e]
  cases hc : cc (k / 256) (k % 256) with
  | none => exact Or.inl rfl
  | some a => exact Or.inr ⟨a, w _ _ hc, rfl⟩
theorem JA_wX {D : jD} {cc : Nat → Nat → Option Nat} (H : JA D cc) : wfX D := fun ly h1 => ⟨cc ly, fun q hq => ((H ly h1).2.1 q hq).1, (H ly h1).1⟩
/-- the four sides in either order -/
theorem fb_sides (F : Option Nat → Nat) (q : Nat) : fb_sm (fun s => F (nbX s q)) 4 = fb_sm (fun s => F (nbM s q)) 4 := by
  simp only [fb_sm]
  show 0 + F (nbM 0 q) + F (nbM 2 q) + F (nbM 1 q) + F (nbM 3 q) = 0 + F (nbM 0 q) + F (nbM 1 q) + F (nbM 2 q) + F (nbM 3 q)
  omega
theorem rim_e {c d : Nat → Int32} {a : Int32} (h : ∀ q, q < 256 → c q = d q) : fb_sm (xrm c a) 256 = rmT d a 256 := by
  refine fb_sm_cong (fun q hq => ?_)
  unfold xrm rmS
  rw [h q hq]
  by_cases e : d q = a
  · rw [if_pos e, if_pos e]
    have := fb_sides (fun z => match z with
      | none => 1
      | some j => if c j = c q then 0 else 1) q
    refine Eq.trans this (fb_sm_cong (fun s hs => ?_))
    unfold rmQ
    cases hj : nbM s q with
    | none => rfl
    | some j =>
      show (if c j = c q then 0 else 1) = if d j = a then 0 else 1
      rw [h j (nbM_lt hq hj), h q hq, e]
  · rw [if_neg e, if_neg e]
theorem bdX_e {c d : Nat → Int32} {a b : Int32} (h : ∀ q, q < 256 → c q = d q) : fb_sm (fun q => fb_sm (xbd c a b q) 4) 256 = bd d a b 256 := by
  refine fb_sm_cong (fun q hq => ?_)
  unfold bdQ
  have := fb_sides (fun z => match z with
    | none => 0
    | some j => if c q = a ∧ c j = b then 1 else 0) q
  refine Eq.trans this ?_
  by_cases e : d q = a
  · rw [if_pos e]
    refine fb_sm_cong (fun s hs => ?_)
    unfold nbC
    cases hj : nbM s q with
    | none => rfl
    | some j =>
      show (if c q = a ∧ c j = b then 1 else 0) = if d j = b then 1 else 0
      rw [h j (nbM_lt hq hj), h q hq]
      simp [e]
  · rw [if_neg e]
    refine Eq.trans (fb_sm_cong (g := fun _ => 0) (fun s hs => ?_)) rfl
    cases hj : nbM s q with
    | none => rfl
    | some j =>
      show (if c q = a ∧ c j = b then 1 else 0) = 0
      rw [h q hq, if_neg (fun z => e z.1)]
theorem vsm_e {f g : Nat → Int32} {ly : Nat} : ∀ {n}, n ≤ 10 → (∀ a, a < 10 → f (10 * ly + a) = g (10 * ly + a)) → vsm f ly n = vsm g ly n
  | 0, _, _ => rfl
  | n + 1, hn, h => by rw [vsm, vsm, vsm_e (by omega) h, h n (by omega)]
theorem lcg_e {f g : Nat → Int32} : ∀ {k}, (∀ t, t ≤ k → f t = g t) → lcg f k = lcg g k
  | 0, _ => rfl
  | k + 1, h => by rw [lcg, lcg, h (k + 1) (Nat.le_refl _), h k (by omega), lcg_e (fun t ht => h t (by omega))]
theorem j_areaAt (l : Launch) : ∀ (p0 p1 : Int32), ja_JC l JI mL_areaAt mX8_areaAt [.int p0, .int p1] 200 ty_i eqv_i := by
  intro p0 p1 n Z D hn hI
  show ja_JP l mL_areaAt mX8_areaAt [.int p0, .int p1] 200 ty_i eqv_i n Z D
  obtain ⟨a1, a2, a3, a4, ⟨cc, b1, ⟨wv, b2⟩, tn, hs, b3, b4⟩, a5, a6, a7, a8⟩ := id hI
  by_cases gp0 : nI 0 ≤ p0 ∧ p0 ≤ nI 2
  rotate_left
  · refine j_F hI (c := 1) (s := 6) (k := 1) (by decide) (by decide) (w_areaAt l (c_areaAt_f1 (D := D) l a2 p1 gp0) a1.1 (fun _ _ _ h => h.elim) (fun E Z1 D1 h => by rw [h.1]; decide)) (fun E Z1 D1 h => ⟨h.1, h.2.1, by rw [h.2.2]; exact frs_r _⟩) (by decide) (by decide) (fun D1 hf hI1 => ?_)
    exact ⟨_, _, r_areaAt_f1 l a3 p1 gp0, ⟨_, rfl⟩, fun D2 h => by subst h; exact ⟨up_s, frs_0 _ _⟩⟩
  obtain ⟨ly, hly, rfl⟩ := nI_rng (by decide) gp0
  have h1 : ly < 3 := by omega
  by_cases gp1 : nI 0 ≤ p1 ∧ p1 ≤ nI 255
  rotate_left
  · refine j_F hI (c := 1) (s := 6) (k := 1) (by decide) (by decide) (w_areaAt l (c_areaAt_f1b (D := D) l a2 h1 gp1) a1.1 (fun _ _ _ h => h.elim) (fun E Z1 D1 h => by rw [h.1]; decide)) (fun E Z1 D1 h => ⟨h.1, h.2.1, by rw [h.2.2]; exact frs_r _⟩) (by decide) (by decide) (fun D1 hf hI1 => ?_)
    exact ⟨_, _, r_areaAt_f1b l a3 h1 gp1, ⟨_, rfl⟩, fun D2 h => by subst h; exact ⟨up_s, frs_0 _ _⟩⟩
  obtain ⟨q, h2, rfl⟩ := nI_rng (by decide) gp1
  have h3 : q < 256 := by omega
  refine j_O hI (c := 0) (s := 0) (by decide) (by decide) (w_areaAt l (c_areaAt_ok (D := D) l a2 h1 h3) a1.1 (fun v Z1 D1 h => ⟨by rw [h.2.1]; exact a1.2.2.1, _, h.1⟩) (fun _ _ _ h => h.elim)) (fun b Z1 D1 h => ?_)
  obtain ⟨hb, rfl, rfl⟩ := h
  cases hb
  exact ⟨rfl, frs_r _, _, _, r_areaAt_ok l (zM_u a3) h1 h3, ⟨_, rfl⟩, eqv_ii (JA_q b1 h1 h3), fun D2 h => by subst h; exact ⟨up_s, frs_0 _ _⟩⟩
theorem j_size (l : Launch) : ∀ (p0 p1 : Int32), ja_JC l JI mL_size mX8_size [.int p0, .int p1] 200 ty_i eqv_i := by
  intro p0 p1 n Z D hn hI
  show ja_JP l mL_size mX8_size [.int p0, .int p1] 200 ty_i eqv_i n Z D
  obtain ⟨a1, a2, a3, a4, ⟨cc, b1, ⟨wv, b2⟩, tn, hs, b3, b4⟩, a5, a6, a7, a8⟩ := id hI
  by_cases gp0 : nI 0 ≤ p0 ∧ p0 ≤ nI 2
  rotate_left
  · refine j_F hI (c := 1) (s := 6) (k := 1) (by decide) (by decide) (w_size l (c_size_f1 (D := D) l a2 gp0) a1.1 (fun _ _ _ h => h.elim) (fun E Z1 D1 h => by rw [h.1]; decide)) (fun E Z1 D1 h => ⟨h.1, h.2.1, by rw [h.2.2]; exact frs_r _⟩) (by decide) (by decide) (fun D1 hf hI1 => ?_)
    exact ⟨_, _, r_size_f1 l a3 gp0, ⟨_, rfl⟩, fun D2 h => by subst h; exact ⟨up_s, frs_0 _ _⟩⟩
  obtain ⟨ly, hly, rfl⟩ := nI_rng (by decide) gp0
  have h1 : ly < 3 := by omega
  by_cases gp1 : nI 0 ≤ p1 ∧ p1 ≤ nI 9
  rotate_left
  · refine j_F hI (c := 1) (s := 6) (k := 2) (by decide) (by decide) (w_size l (c_size_f2 (D := D) l a2 h1 gp1) a1.1 (fun _ _ _ h => h.elim) (fun E Z1 D1 h => by rw [h.1]; decide)) (fun E Z1 D1 h => ⟨h.1, h.2.1, by rw [h.2.2]; exact frs_r _⟩) (by decide) (by decide) (fun D1 hf hI1 => ?_)
    exact ⟨_, _, r_size_f2 l a3 h1 gp1, ⟨_, rfl⟩, fun D2 h => by subst h; exact ⟨up_s, frs_0 _ _⟩⟩
  obtain ⟨a, h2, rfl⟩ := nI_rng (by decide) gp1
  have h3 : a < 10 := by omega
  refine j_O hI (c := 0) (s := 0) (by decide) (by decide) (w_size l (c_size_ok (D := D) l a2 h1 h3) a1.1 (fun v Z1 D1 h => ⟨by rw [h.2.1]; exact a1.2.2.1, _, h.1⟩) (fun _ _ _ h => h.elim)) (fun b Z1 D1 h => ?_)
  obtain ⟨hb, rfl, rfl⟩ := h
  cases hb
  exact ⟨rfl, frs_r _, _, _, r_size_ok l (zM_u a3) h1 h3, ⟨_, rfl⟩, eqv_ii (JA_sz2 b1 h1 h3), fun D2 h => by subst h; exact ⟨up_s, frs_0 _ _⟩⟩
theorem j_value (l : Launch) : ∀ (p0 p1 : Int32), ja_JC l JI mL_value mX8_value [.int p0, .int p1] 200 ty_i eqv_i := by
  intro p0 p1 n Z D hn hI
  show ja_JP l mL_value mX8_value [.int p0, .int p1] 200 ty_i eqv_i n Z D
  obtain ⟨a1, a2, a3, a4, ⟨cc, b1, ⟨wv, b2⟩, tn, hs, b3, b4⟩, a5, a6, a7, a8⟩ := id hI
  by_cases gp0 : nI 0 ≤ p0 ∧ p0 ≤ nI 2
  rotate_left
  · refine j_F hI (c := 1) (s := 6) (k := 1) (by decide) (by decide) (w_value l (c_value_f1 (D := D) l a2 gp0) a1.1 (fun _ _ _ h => h.elim) (fun E Z1 D1 h => by rw [h.1]; decide)) (fun E Z1 D1 h => ⟨h.1, h.2.1, by rw [h.2.2]; exact frs_r _⟩) (by decide) (by decide) (fun D1 hf hI1 => ?_)
    exact ⟨_, _, r_value_f1 l a3 gp0, ⟨_, rfl⟩, fun D2 h => by subst h; exact ⟨up_s, frs_0 _ _⟩⟩
  obtain ⟨ly, hly, rfl⟩ := nI_rng (by decide) gp0
  have h1 : ly < 3 := by omega
  by_cases gp1 : nI 0 ≤ p1 ∧ p1 ≤ nI 9
  rotate_left
  · refine j_F hI (c := 1) (s := 6) (k := 2) (by decide) (by decide) (w_value l (c_value_f2 (D := D) l a2 h1 gp1) a1.1 (fun _ _ _ h => h.elim) (fun E Z1 D1 h => by rw [h.1]; decide)) (fun E Z1 D1 h => ⟨h.1, h.2.1, by rw [h.2.2]; exact frs_r _⟩) (by decide) (by decide) (fun D1 hf hI1 => ?_)
    exact ⟨_, _, r_value_f2 l a3 h1 gp1, ⟨_, rfl⟩, fun D2 h => by subst h; exact ⟨up_s, frs_0 _ _⟩⟩
  obtain ⟨a, h2, rfl⟩ := nI_rng (by decide) gp1
  have h3 : a < 10 := by omega
  refine j_O hI (c := 0) (s := 0) (by decide) (by decide) (w_value l (c_value_ok (D := D) l a2 h1 h3) a1.1 (fun v Z1 D1 h => ⟨by rw [h.2.1]; exact a1.2.2.1, _, h.1⟩) (fun _ _ _ h => h.elim)) (fun b Z1 D1 h => ?_)
  obtain ⟨hb, rfl, rfl⟩ := h
  cases hb
  exact ⟨rfl, frs_r _, _, _, r_value_ok l (zM_u a3) h1 h3, ⟨_, rfl⟩, eqv_ii (((b2 ly h1).1 a h3).1.trans ((b2 ly h1).1 a h3).2.1.symm), fun D2 h => by subst h; exact ⟨up_s, frs_0 _ _⟩⟩
theorem j_rim (l : Launch) : ∀ (p0 p1 : Int32), ja_JC l JI mL_rim mX8_rim [.int p0, .int p1] 200 ty_i eqv_i := by
  intro p0 p1 n Z D hn hI
  show ja_JP l mL_rim mX8_rim [.int p0, .int p1] 200 ty_i eqv_i n Z D
  obtain ⟨a1, a2, a3, a4, ⟨cc, b1, ⟨wv, b2⟩, tn, hs, b3, b4⟩, a5, a6, a7, a8⟩ := id hI
  by_cases gp0 : nI 0 ≤ p0 ∧ p0 ≤ nI 2
  rotate_left
  · refine j_F hI (c := 1) (s := 6) (k := 1) (by decide) (by decide) (w_rim l (c_rim_f1 (D := D) l a2 gp0) a1.1 (fun _ _ _ h => h.elim) (fun E Z1 D1 h => by rw [h.1]; decide)) (fun E Z1 D1 h => ⟨h.1, h.2.1, by rw [h.2.2]; exact frs_r _⟩) (by decide) (by decide) (fun D1 hf hI1 => ?_)
    exact ⟨_, _, r_rim_f1 l a3 gp0, ⟨_, rfl⟩, fun D2 h => by subst h; exact ⟨up_s, frs_0 _ _⟩⟩
  obtain ⟨ly, hly, rfl⟩ := nI_rng (by decide) gp0
  have h1 : ly < 3 := by omega
  by_cases gp1 : nI 0 ≤ p1 ∧ p1 ≤ nI 9
  rotate_left
  · refine j_F hI (c := 1) (s := 6) (k := 2) (by decide) (by decide) (w_rim l (c_rim_f2 (D := D) l a2 h1 gp1) a1.1 (fun _ _ _ h => h.elim) (fun E Z1 D1 h => by rw [h.1]; decide)) (fun E Z1 D1 h => ⟨h.1, h.2.1, by rw [h.2.2]; exact frs_r _⟩) (by decide) (by decide) (fun D1 hf hI1 => ?_)
    exact ⟨_, _, r_rim_f2 l a3 h1 gp1, ⟨_, rfl⟩, fun D2 h => by subst h; exact ⟨up_s, frs_0 _ _⟩⟩
  obtain ⟨a, h2, rfl⟩ := nI_rng (by decide) gp1
  have h3 : a < 10 := by omega
  refine j_O hI (c := 0) (s := 0) (by decide) (by decide) (w_rim l (c_rim_ok (D := D) l a2 h1 h3) a1.1 (fun v Z1 D1 h => ⟨by rw [h.2.1]; exact a1.2.2.1, _, h.1⟩) (fun _ _ _ h => h.elim)) (fun b Z1 D1 h => ?_)
  obtain ⟨hb, rfl, rfl⟩ := h
  cases hb
  exact ⟨rfl, frs_r _, _, _, r_rim_ok l (zM_u a3) h1 h3, ⟨_, rfl⟩, eqv_ii (congrArg nI (rim_e (fun q hq => JA_q b1 h1 hq))), fun D2 h => by subst h; exact ⟨up_s, frs_0 _ _⟩⟩
theorem j_border (l : Launch) : ∀ (p0 p1 p2 : Int32), ja_JC l JI mL_border mX8_border [.int p0, .int p1, .int p2] 200 ty_i eqv_i := by
  intro p0 p1 p2 n Z D hn hI
  show ja_JP l mL_border mX8_border [.int p0, .int p1, .int p2] 200 ty_i eqv_i n Z D
  obtain ⟨a1, a2, a3, a4, ⟨cc, b1, ⟨wv, b2⟩, tn, hs, b3, b4⟩, a5, a6, a7, a8⟩ := id hI
  by_cases gp0 : nI 0 ≤ p0 ∧ p0 ≤ nI 2
  rotate_left
  · refine j_F hI (c := 1) (s := 6) (k := 1) (by decide) (by decide) (w_border l (c_border_f1 (D := D) l a2 p2 gp0) a1.1 (fun _ _ _ h => h.elim) (fun E Z1 D1 h => by rw [h.1]; decide)) (fun E Z1 D1 h => ⟨h.1, h.2.1, by rw [h.2.2]; exact frs_r _⟩) (by decide) (by decide) (fun D1 hf hI1 => ?_)
    exact ⟨_, _, r_border_f1 l a3 p2 gp0, ⟨_, rfl⟩, fun D2 h => by subst h; exact ⟨up_s, frs_0 _ _⟩⟩
  obtain ⟨ly, hly, rfl⟩ := nI_rng (by decide) gp0
  have h1 : ly < 3 := by omega
  by_cases gp1 : nI 0 ≤ p1 ∧ p1 ≤ nI 9
  rotate_left
  · refine j_F hI (c := 1) (s := 6) (k := 2) (by decide) (by decide) (w_border l (c_border_f2 (D := D) l a2 h1 p2 gp1) a1.1 (fun _ _ _ h => h.elim) (fun E Z1 D1 h => by rw [h.1]; decide)) (fun E Z1 D1 h => ⟨h.1, h.2.1, by rw [h.2.2]; exact frs_r _⟩) (by decide) (by decide) (fun D1 hf hI1 => ?_)
    exact ⟨_, _, r_border_f2 l a3 p2 h1 gp1, ⟨_, rfl⟩, fun D2 h => by subst h; exact ⟨up_s, frs_0 _ _⟩⟩
  obtain ⟨a, h2, rfl⟩ := nI_rng (by decide) gp1
  have h3 : a < 10 := by omega
  by_cases gp2 : nI 0 ≤ p2 ∧ p2 ≤ nI 9
  rotate_left
  · refine j_F hI (c := 1) (s := 6) (k := 2) (by decide) (by decide) (w_border l (c_border_f2b (D := D) l a2 h1 h3 gp2) a1.1 (fun _ _ _ h => h.elim) (fun E Z1 D1 h => by rw [h.1]; decide)) (fun E Z1 D1 h => ⟨h.1, h.2.1, by rw [h.2.2]; exact frs_r _⟩) (by decide) (by decide) (fun D1 hf hI1 => ?_)
    exact ⟨_, _, r_border_f2b l a3 h1 h3 gp2, ⟨_, rfl⟩, fun D2 h => by subst h; exact ⟨up_s, frs_0 _ _⟩⟩
  obtain ⟨o, h4, rfl⟩ := nI_rng (by decide) gp2
  have h5 : o < 10 := by omega
  by_cases e : a = o
  · subst e
    refine j_F hI (c := 1) (s := 6) (k := 2) (by decide) (by decide) (w_border l (c_border_f2c (D := D) l a2 h1 h3) a1.1 (fun _ _ _ h => h.elim) (fun E Z1 D1 h => by rw [h.1]; decide)) (fun E Z1 D1 h => ⟨h.1, h.2.1, by rw [h.2.2]; exact frs_r _⟩) (by decide) (by decide) (fun D1 hf hI1 => ?_)
    exact ⟨_, _, r_border_f2c l a3 h1 h3, ⟨_, rfl⟩, fun D2 h => by subst h; exact ⟨up_s, frs_0 _ _⟩⟩
  refine j_O hI (c := 0) (s := 0) (by decide) (by decide) (w_border l (c_border_ok (D := D) l a2 h1 h3 h5 e) a1.1 (fun v Z1 D1 h => ⟨by rw [h.2.1]; exact a1.2.2.1, _, h.1⟩) (fun _ _ _ h => h.elim)) (fun b Z1 D1 h => ?_)
  obtain ⟨hb, rfl, rfl⟩ := h
  cases hb
  exact ⟨rfl, frs_r _, _, _, r_border_ok l (zM_u a3) h1 h3 h5 e, ⟨_, rfl⟩, eqv_ii (congrArg nI (bdX_e (fun q hq => JA_q b1 h1 hq))), fun D2 h => by subst h; exact ⟨up_s, frs_0 _ _⟩⟩
theorem j_areaThen (l : Launch) : ∀ (p0 p1 p2 : Int32), ja_JC l JI mL_areaThen mX8_areaThen [.int p0, .int p1, .int p2] 200 ty_i eqv_i := by
  intro p0 p1 p2 n Z D hn hI
  show ja_JP l mL_areaThen mX8_areaThen [.int p0, .int p1, .int p2] 200 ty_i eqv_i n Z D
  obtain ⟨a1, a2, a3, a4, ⟨cc, b1, ⟨wv, b2⟩, tn, hs, b3, b4⟩, a5, a6, a7, a8⟩ := id hI
  obtain ⟨t1, t2, t3, t4, t5⟩ := id b3
  by_cases gp0 : nI 0 ≤ p0 ∧ p0 ≤ nI 2
  rotate_left
  · refine j_F hI (c := 1) (s := 6) (k := 1) (by decide) (by decide) (w_areaThen l (c_areaThen_f1 (D := D) l a2 p1 p2 gp0) a1.1 (fun _ _ _ h => h.elim) (fun E Z1 D1 h => by rw [h.1]; decide)) (fun E Z1 D1 h => ⟨h.1, h.2.1, by rw [h.2.2]; exact frs_r _⟩) (by decide) (by decide) (fun D1 hf hI1 => ?_)
    exact ⟨_, _, r_areaThen_f1 l a3 p1 p2 gp0, ⟨_, rfl⟩, fun D2 h => by subst h; exact ⟨up_s, frs_0 _ _⟩⟩
  obtain ⟨ly, hly, rfl⟩ := nI_rng (by decide) gp0
  have h1 : ly < 3 := by omega
  by_cases gp1 : nI 0 ≤ p1 ∧ p1 ≤ nI 255
  rotate_left
  · refine j_F hI (c := 1) (s := 6) (k := 1) (by decide) (by decide) (w_areaThen l (c_areaThen_f1b (D := D) l a2 h1 p2 gp1) a1.1 (fun _ _ _ h => h.elim) (fun E Z1 D1 h => by rw [h.1]; decide)) (fun E Z1 D1 h => ⟨h.1, h.2.1, by rw [h.2.2]; exact frs_r _⟩) (by decide) (by decide) (fun D1 hf hI1 => ?_)
    exact ⟨_, _, r_areaThen_f1b l a3 p2 h1 gp1, ⟨_, rfl⟩, fun D2 h => by subst h; exact ⟨up_s, frs_0 _ _⟩⟩
  obtain ⟨q, h2, rfl⟩ := nI_rng (by decide) gp1
  have h3 : q < 256 := by omega
  by_cases gp2 : nI 0 ≤ p2 ∧ p2 ≤ nI tn
  rotate_left
  · refine j_F hI (c := 1) (s := 6) (k := 2) (by decide) (by decide) (w_areaThen l (c_areaThen_f2 (D := D) l a2 t2 t1 h1 h3 gp2) a1.1 (fun _ _ _ h => h.elim) (fun E Z1 D1 h => by rw [h.1]; decide)) (fun E Z1 D1 h => ⟨h.1, h.2.1, by rw [h.2.2]; exact frs_r _⟩) (by decide) (by decide) (fun D1 hf hI1 => ?_)
    exact ⟨_, _, r_areaThen_f2 l a3 ((hf.1 100 1 (by unfold scr; omega)).trans t3) t1 h1 h3 gp2, ⟨_, rfl⟩, fun D2 h => by subst h; exact ⟨up_s, frs_0 _ _⟩⟩
  obtain ⟨t, h4, rfl⟩ := nI_rng (by omega) gp2
  refine j_O hI (c := 0) (s := 0) (by decide) (by decide) (w_areaThen l (c_areaThen_ok (D := D) l a2 t2 t1 h1 h3 h4) a1.1 (fun v Z1 D1 h => ⟨by rw [h.2.1]; exact a1.2.2.1, _, h.1⟩) (fun _ _ _ h => h.elim)) (fun b Z1 D1 h => ?_)
  obtain ⟨hb, rfl, rfl⟩ := h
  cases hb
  exact ⟨rfl, frs_r _, _, _, r_areaThen_ok l (zM_u a3) t3 t1 h1 h3 h4, ⟨_, rfl⟩, eqv_ii (((t4 t h4 ly h1).2 q h3).1.trans ((t4 t h4 ly h1).2 q h3).2.symm), fun D2 h => by subst h; exact ⟨up_s, frs_0 _ _⟩⟩
theorem j_authorOf (l : Launch) : ∀ (p0 p1 p2 : Int32), ja_JC l JI mL_authorOf mX8_authorOf [.int p0, .int p1, .int p2] 200 ty_i eqv_i := by
  intro p0 p1 p2 n Z D hn hI
  show ja_JP l mL_authorOf mX8_authorOf [.int p0, .int p1, .int p2] 200 ty_i eqv_i n Z D
  obtain ⟨a1, a2, a3, a4, ⟨cc, b1, ⟨wv, b2⟩, tn, hs, b3, b4⟩, a5, a6, a7, a8⟩ := id hI
  obtain ⟨t1, t2, t3, t4, t5⟩ := id b3
  by_cases gp0 : nI 0 ≤ p0 ∧ p0 ≤ nI 2
  rotate_left
  · refine j_F hI (c := 1) (s := 6) (k := 1) (by decide) (by decide) (w_authorOf l (c_authorOf_f1 (D := D) l a2 p1 p2 gp0) a1.1 (fun _ _ _ h => h.elim) (fun E Z1 D1 h => by rw [h.1]; decide)) (fun E Z1 D1 h => ⟨h.1, h.2.1, by rw [h.2.2]; exact frs_r _⟩) (by decide) (by decide) (fun D1 hf hI1 => ?_)
    exact ⟨_, _, r_authorOf_f1 l a3 p1 p2 gp0, ⟨_, rfl⟩, fun D2 h => by subst h; exact ⟨up_s, frs_0 _ _⟩⟩
  obtain ⟨ly, hly, rfl⟩ := nI_rng (by decide) gp0
  have h1 : ly < 3 := by omega
  by_cases gp1 : nI 0 ≤ p1 ∧ p1 ≤ nI 255
  rotate_left
  · refine j_F hI (c := 1) (s := 6) (k := 1) (by decide) (by decide) (w_authorOf l (c_authorOf_f1b (D := D) l a2 h1 p2 gp1) a1.1 (fun _ _ _ h => h.elim) (fun E Z1 D1 h => by rw [h.1]; decide)) (fun E Z1 D1 h => ⟨h.1, h.2.1, by rw [h.2.2]; exact frs_r _⟩) (by decide) (by decide) (fun D1 hf hI1 => ?_)
    exact ⟨_, _, r_authorOf_f1b l a3 p2 h1 gp1, ⟨_, rfl⟩, fun D2 h => by subst h; exact ⟨up_s, frs_0 _ _⟩⟩
  obtain ⟨q, h2, rfl⟩ := nI_rng (by decide) gp1
  have h3 : q < 256 := by omega
  by_cases gp2 : nI 0 ≤ p2 ∧ p2 ≤ nI tn
  rotate_left
  · refine j_F hI (c := 1) (s := 6) (k := 2) (by decide) (by decide) (w_authorOf l (c_authorOf_f2 (D := D) l a2 t2 t1 h1 h3 gp2) a1.1 (fun _ _ _ h => h.elim) (fun E Z1 D1 h => by rw [h.1]; decide)) (fun E Z1 D1 h => ⟨h.1, h.2.1, by rw [h.2.2]; exact frs_r _⟩) (by decide) (by decide) (fun D1 hf hI1 => ?_)
    exact ⟨_, _, r_authorOf_f2 l a3 ((hf.1 100 1 (by unfold scr; omega)).trans t3) t1 h1 h3 gp2, ⟨_, rfl⟩, fun D2 h => by subst h; exact ⟨up_s, frs_0 _ _⟩⟩
  obtain ⟨t, h4, rfl⟩ := nI_rng (by omega) gp2
  have el : lcg (fun t => D (36 + 10 * ly) (t * 256 + q)) t = lcg (fun t => D 111 (768 * t + 256 * ly + q)) t := lcg_e (fun u hu => ((t4 u (by omega) ly h1).2 q h3).1.trans ((t4 u (by omega) ly h1).2 q h3).2.symm)
  by_cases h0 : lcg (fun t => D (36 + 10 * ly) (t * 256 + q)) t = 0
  · refine j_F hI (c := 1) (s := 6) (k := 3) (by decide) (by decide) (w_authorOf l (c_authorOf_f3 (D := D) l a2 t2 t1 h1 h3 h4 h0) a1.1 (fun _ _ _ h => h.elim) (fun E Z1 D1 h => by rw [h.1]; decide)) (fun E Z1 D1 h => ⟨h.1, h.2.1, by rw [h.2.2]; exact frs_r _⟩) (by decide) (by decide) (fun D1 hf hI1 => ?_)
    have h0' : lcg (fun t => D1 111 (768 * t + 256 * ly + q)) t = 0 := (lcg_e (fun u hu => hf.1 111 _ (by unfold scr; omega))).trans (el.symm.trans h0)
    exact ⟨_, _, r_authorOf_ok l a3 ((hf.1 100 1 (by unfold scr; omega)).trans t3) t1 h1 h3 h4, ⟨_, rfl⟩, fun D2 h => by subst h; refine ⟨?_, frs_0 _ _⟩; rw [up_s, h0']; rfl⟩
  refine j_O hI (c := 0) (s := 0) (by decide) (by decide) (w_authorOf l (c_authorOf_ok (D := D) l a2 t2 t1 h1 h3 h4 h0) a1.1 (fun v Z1 D1 h => ⟨by rw [h.2.1]; exact a1.2.2.1, _, h.1⟩) (fun _ _ _ h => h.elim)) (fun b Z1 D1 h => ?_)
  obtain ⟨hb, rfl, rfl⟩ := h
  cases hb
  exact ⟨rfl, frs_r _, _, _, r_authorOf_ok l (zM_u a3) t3 t1 h1 h3 h4, ⟨_, rfl⟩, eqv_ii (by rw [auV, ← el, if_neg h0]; exact t5 _ (by omega) (Nat.le_trans (lcg_le _ _) h4)), fun D2 h => by subst h; refine ⟨?_, frs_0 _ _⟩; rw [up_s, ← el, auC, if_neg h0]⟩
theorem j_values (l : Launch) : ∀ (p0 : Int32), ja_JC l JI mL_values mX8_values [.int p0] 200 ty_l eqv_l := by
  intro p0 n Z D hn hI
  show ja_JP l mL_values mX8_values [.int p0] 200 ty_l eqv_l n Z D
  obtain ⟨a1, a2, a3, a4, ⟨cc, b1, ⟨wv, b2⟩, tn, hs, b3, b4⟩, a5, a6, a7, a8⟩ := id hI
  by_cases gp0 : nI 0 ≤ p0 ∧ p0 ≤ nI 2
  rotate_left
  · refine j_F hI (c := 1) (s := 6) (k := 1) (by decide) (by decide) (w_values l (c_values_f1 (D := D) l a2 gp0) a1.1 (fun _ _ _ h => h.elim) (fun E Z1 D1 h => by rw [h.1]; decide)) (fun E Z1 D1 h => ⟨h.1, h.2.1, by rw [h.2.2]; exact frs_r _⟩) (by decide) (by decide) (fun D1 hf hI1 => ?_)
    exact ⟨_, _, r_values_f1 l a3 gp0, ⟨_, rfl⟩, fun D2 h => by subst h; exact ⟨up_s, frs_0 _ _⟩⟩
  obtain ⟨ly, hly, rfl⟩ := nI_rng (by decide) gp0
  have h1 : ly < 3 := by omega
  refine j_O hI (c := 0) (s := 0) (by decide) (by decide) (w_values l (c_values_ok (D := D) l a2 h1 (f := D 106) (fun a ha => ((b2 ly h1).1 a ha).1.trans ((b2 ly h1).1 a ha).2.1.symm)) a1.1 (fun v Z1 D1 h => ⟨by rw [h.2.1]; exact a1.2.2.1, _, h.1⟩) (fun _ _ _ h => h.elim)) (fun b Z1 D1 h => ?_)
  obtain ⟨hb, rfl, rfl⟩ := h
  cases hb
  exact ⟨rfl, frs_r _, _, _, r_values_ok l (zM_u a3) h1, ⟨_, rfl⟩, eqv_ll rfl, fun D2 h => by subst h; exact ⟨up_s, frs_0 _ _⟩⟩
