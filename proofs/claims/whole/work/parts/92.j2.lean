/-! JOINT THEOREMS, 2 (by wip/whole/x50.py) -/
theorem frs_5 {D E : jD} (h : frs D E) : E 105 = D 105 := frs_i h (fun j => by unfold scr; omega)
theorem frs_st {D : jD} {t : Nat → Nat} (h : sT t) : frs D (stU D t) := ⟨fun i j hs => fnU_o (by rintro rfl; exact hs (by unfold scr; omega)), fun _ => ⟨t, h, fun k hk => stU_i hk⟩⟩
theorem stU_5 {D : jD} {t : Nat → Nat} : (stU D t) 105 = D 105 := funext fun b => fnU_o (by decide)
theorem stp_z {q j : Nat} (hq : q < 256) (hj : j < 256) (h : stp q j = 0) : q = j := by
  rw [stp_e] at h
  split at h <;> split at h <;> omega
theorem blt_e {c d : Nat → Int32} {a : Int32} {t : Nat → Nat} {w : Nat} (h : ∀ q, q < 256 → c q = d q) (hw : w ≤ 30) (hs : stpOK c a t) : fb_ct (fun q => decide (0 < t q) && decide (t q ≤ w)) 256 = blt d a w 256 := by
  obtain ⟨h1, h2, h3⟩ := hs
  refine fb_ct_cong (fun q hq => ?_)
  rw [Bool.eq_iff_iff]
  simp only [Bool.and_eq_true, decide_eq_true_eq, Bool.not_eq_true', decide_eq_false_iff_not, anyB_iff, blQ]
  constructor
  · rintro ⟨g1, g2⟩
    rcases h2 q hq with e | ⟨j, j1, j2, j3⟩
    · omega
    · refine ⟨⟨j, j1, (h j j1) ▸ j2, by omega⟩, fun e => ?_⟩
      have := h3 q hq q hq ((h q hq).trans e)
      rw [stp_0] at this
      omega
  · rintro ⟨⟨j, j1, j2, j3⟩, g⟩
    have := h3 q hq j j1 ((h j j1).trans j2)
    refine ⟨?_, by omega⟩
    rcases Nat.eq_zero_or_pos (t q) with e | e
    · exfalso
      rcases h2 q hq with e2 | ⟨i, i1, i2, i3⟩
      · omega
      · have e3 := stp_z hq i1 (by omega)
        subst e3
        exact g ((h q hq) ▸ i2)
    · exact e
theorem cXm_e {D : jD} {cc : Nat → Nat → Option Nat} (H : JA D cc) {l1 l2 : Nat} (h1 : l1 < 3) (h2 : l2 < 3) (a o : Int32) : cXm D l1 a l2 o 256 = cCm (D 105) l1 a l2 o 256 :=
  fb_ct_cong (fun q hq => by rw [JA_q H h1 hq, JA_q H h2 hq])
theorem areL_n {x y : Int32} (h : areL x y) : ∃ l1 l2, l1 < 3 ∧ l2 < 3 ∧ l1 ≠ l2 ∧ x = nI l1 ∧ y = nI l2 := by
  obtain ⟨h1, h2, h3⟩ := h
  obtain ⟨a, ha, rfl⟩ := nI_rng (by decide) h1
  obtain ⟨b, hb, rfl⟩ := nI_rng (by decide) h2
  exact ⟨a, b, by omega, by omega, fun e => h3 (by rw [e]), rfl, rfl⟩
theorem al_e {D : jD} {cc : Nat → Nat → Option Nat} (H : JA D cc) {l1 l2 q s s2 : Nat} (h1 : l1 < 3) (h2 : l2 < 3) (hq : q < 256) (hs : nbX s q = nbM s2 q) : xbS D l1 l2 q s = alo (D 105) l1 l2 s2 q := by
  unfold xbS alo
  rw [hs]
  cases hj : nbM s2 q with
  | none => rfl
  | some j =>
    have hj2 := nbM_lt hq hj
    show (if ¬ D (31 + 10 * l1) q = D (31 + 10 * l1) j ∧ D (31 + 10 * l2) q = D (31 + 10 * l2) j then 1 else 0) = if ¬ D 105 (256 * l1 + j) = D 105 (256 * l1 + q) ∧ D 105 (256 * l2 + j) = D 105 (256 * l2 + q) then 1 else 0
    rw [JA_q H h1 hq, JA_q H h1 hj2, JA_q H h2 hq, JA_q H h2 hj2]
    have e : (¬ D 105 (256 * l1 + q) = D 105 (256 * l1 + j) ∧ D 105 (256 * l2 + q) = D 105 (256 * l2 + j)) ↔ (¬ D 105 (256 * l1 + j) = D 105 (256 * l1 + q) ∧ D 105 (256 * l2 + j) = D 105 (256 * l2 + q)) := ⟨fun h => ⟨fun e => h.1 e.symm, h.2.symm⟩, fun h => ⟨fun e => h.1 e.symm, h.2.symm⟩⟩
    simp only [e]
theorem bk_e {D : jD} {cc : Nat → Nat → Option Nat} (H : JA D cc) {l1 l2 : Nat} (h1 : l1 < 3) (h2 : l2 < 3) {kd : Int32} (hk : kd = nI 105 ∨ kd = nI 110 ∨ kd = nI 97) : xbk D kd l1 l2 256 = brk (D 105) kd l1 l2 256 := by
  refine fb_sm_cong (fun q hq => ?_)
  unfold xbQ bkQ xbA
  rw [JA_q H h1 hq, JA_q H h2 hq]
  rcases hk with rfl | rfl | rfl
  · rw [if_neg (by decide), if_neg (show ¬ nI 105 = nI 97 by decide)]
    simp [show ¬ nI 105 = nI 110 by decide]
  · rw [if_neg (by decide), if_neg (show ¬ nI 110 = nI 97 by decide)]
    simp [show ¬ nI 110 = nI 105 by decide]
  · rw [if_pos rfl, if_pos rfl, al_e H h1 h2 hq (s := 0) (s2 := 0) rfl, al_e H h1 h2 hq (s := 1) (s2 := 2) rfl]
    simp [show ¬ nI 97 = nI 105 by decide, show ¬ nI 97 = nI 110 by decide]
theorem lbk_cg {g g2 : Nat → Nat} : ∀ {n}, (∀ q, q < n → g q = g2 q) → lbk g n = lbk g2 n
  | 0, _ => rfl
  | n + 1, h => by
    have e := lbk_cg (g := g) (g2 := g2) (n := n) (fun q hq => h q (by omega))
    rw [lbk, lbk, e]
    cases hb : lbk g2 n with
    | none => show (if 0 < g n then some n else none) = _; rw [h n (by omega)]
    | some b => show (if 0 < g n ∧ g n < g b then some n else some b) = _; rw [h n (by omega), h b (by have := lbk_lt hb; omega)]
/-- a rule breaks as much on both sides -/
theorem br_e {D E : jD} {cc : Nat → Nat → Option Nat} (H : JA D cc) (hE : E 105 = D 105) {l1 l2 r : Nat} (h1 : l1 < 3) (h2 : l2 < 3) (e0 : D (60 + r) 0 = E 114 r) (hk : E 114 r = nI 105 ∨ E 114 r = nI 110 ∨ E 114 r = nI 97) (e1 : E 115 r = nI l1) (e2 : E 116 r = nI l2) : xbk D (D (60 + r) 0) l1 l2 256 = brkR E r := by
  rw [brkR, hE, e1, e2, nN_nI (by omega), nN_nI (by omega), e0]
  exact bk_e H h1 h2 hk
theorem JR_wf {Z : jZ} {D : jD} {rn : Nat} {fl sl : Nat → Nat} {sg : Nat → Bool} (hz : zXr Z rn fl sl) (H : ∀ r, r < rn → D (60 + r) 0 = D 114 r ∧ (D 114 r = nI 105 ∨ D 114 r = nI 110 ∨ D 114 r = nI 97) ∧ ¬ fl r = sl r ∧ D 115 r = nI (fl r) ∧ D 116 r = nI (sl r) ∧ D (60 + r) 3 = bI (sg r)) : wfR D rn := fun r hr => by
  obtain ⟨h1, h2, h3, h4, h5, h6⟩ := H r hr
  obtain ⟨-, -, -, -, g1, g2⟩ := hz.1 r hr
  exact ⟨fl r, sl r, g1, g2, h3, h4, h5, h2⟩
theorem wfR_f {D E : jD} {n : Nat} (h : frs D E) (H : wfR D n) : wfR E n := fun r hr => by
  rw [frs_i h (i := 114) (fun j => by unfold scr; omega), frs_i h (i := 115) (fun j => by unfold scr; omega), frs_i h (i := 116) (fun j => by unfold scr; omega)]
  exact H r hr
theorem brkR_f {D E : jD} (h : frs D E) : brkR E = brkR D := funext fun r => by
  unfold brkR
  rw [frs_5 h, frs_i h (i := 114) (fun j => by unfold scr; omega), frs_i h (i := 115) (fun j => by unfold scr; omega), frs_i h (i := 116) (fun j => by unfold scr; omega)]
theorem k_rng {k : Int32} {n : Nat} (hn : n ≤ 256) (h : 0 ≤ k.toInt ∧ k.toInt < n) : ∃ r, r < n ∧ k = nI r := by
  refine ⟨k.toInt.toNat, by omega, ?_⟩
  apply Int32.toInt_inj.mp
  rw [nI_toInt (by omega)]
  omega
theorem frs_cm {D : jD} {s z : Nat → Nat} {b : Nat → Nat → Nat} : frs D (cmU D s z b) := frs_n (fun i j h => by
  have : ¬ (i = 14 ∧ j < 10) ∧ ¬ (i = 15 ∧ j < 10) ∧ ¬ ((20 ≤ i ∧ i < 30) ∧ j < 10) := by
    unfold scr at h
    omega
  rw [cmU, if_neg this.1, if_neg this.2.1, if_neg this.2.2])
theorem frs_fn {D : jD} {id n : Nat} {g : Nat → Int32} (h : 122 ≤ id ∧ id ≤ 128) : frs D (fnU D id g n) := frs_n (fun i j hs => fnU_o (by rintro rfl; exact hs ⟨by unfold scr; omega, by omega⟩))
theorem j_distance (l : Launch) : ∀ (p0 p1 p2 : Int32), ja_JC l JI mL_distance mX8_distance [.int p0, .int p1, .int p2] 200 ty_i eqv_i := by
  intro p0 p1 p2 n Z D hn hI
  show ja_JP l mL_distance mX8_distance [.int p0, .int p1, .int p2] 200 ty_i eqv_i n Z D
  obtain ⟨a1, a2, a3, a4, ⟨cc, b1, ⟨wv, b2⟩, tn, hs, b3, b4⟩, a5, a6, a7, a8⟩ := id hI
  by_cases gp0 : nI 0 ≤ p0 ∧ p0 ≤ nI 2
  rotate_left
  · refine j_F hI (c := 1) (s := 6) (k := 1) (by decide) (by decide) (w_distance l (c_distance_f1 (D := D) l a2 p2 gp0) a1.1 (fun _ _ _ h => h.elim) (fun E Z1 D1 h => by rw [h.1]; decide)) (fun E Z1 D1 h => ⟨h.1, h.2.1, by rw [h.2.2]; exact frs_r _⟩) (by decide) (by decide) (fun D1 hf hI1 => ?_)
    exact ⟨_, _, r_distance_f1 l a3 p2 gp0, ⟨_, rfl⟩, fun D2 h => by subst h; exact ⟨up_s, frs_0 _ _⟩⟩
  obtain ⟨ly, hly, rfl⟩ := nI_rng (by decide) gp0
  have h1 : ly < 3 := by omega
  by_cases gp1 : nI 0 ≤ p1 ∧ p1 ≤ nI 9
  rotate_left
  · refine j_F hI (c := 1) (s := 6) (k := 2) (by decide) (by decide) (w_distance l (c_distance_f2 (D := D) l a2 h1 p2 gp1) a1.1 (fun _ _ _ h => h.elim) (fun E Z1 D1 h => by rw [h.1]; decide)) (fun E Z1 D1 h => ⟨h.1, h.2.1, by rw [h.2.2]; exact frs_r _⟩) (by decide) (by decide) (fun D1 hf hI1 => ?_)
    exact ⟨_, _, r_distance_f2 l a3 p2 h1 gp1, ⟨_, rfl⟩, fun D2 h => by subst h; exact ⟨up_s, frs_0 _ _⟩⟩
  obtain ⟨a, h2, rfl⟩ := nI_rng (by decide) gp1
  have h3 : a < 10 := by omega
  by_cases gp2 : nI 0 ≤ p2 ∧ p2 ≤ nI 9
  rotate_left
  · refine j_F hI (c := 1) (s := 6) (k := 2) (by decide) (by decide) (w_distance l (c_distance_f2b (D := D) l a2 h1 h3 gp2) a1.1 (fun _ _ _ h => h.elim) (fun E Z1 D1 h => by rw [h.1]; decide)) (fun E Z1 D1 h => ⟨h.1, h.2.1, by rw [h.2.2]; exact frs_r _⟩) (by decide) (by decide) (fun D1 hf hI1 => ?_)
    exact ⟨_, _, r_distance_f2b l a3 h1 h3 gp2, ⟨_, rfl⟩, fun D2 h => by subst h; exact ⟨up_s, frs_0 _ _⟩⟩
  obtain ⟨o, h4, rfl⟩ := nI_rng (by decide) gp2
  have h5 : o < 10 := by omega
  by_cases e : a = o
  · subst e
    refine j_F hI (c := 1) (s := 6) (k := 2) (by decide) (by decide) (w_distance l (c_distance_f2c (D := D) l a2 h1 h3) a1.1 (fun _ _ _ h => h.elim) (fun E Z1 D1 h => by rw [h.1]; decide)) (fun E Z1 D1 h => ⟨h.1, h.2.1, by rw [h.2.2]; exact frs_r _⟩) (by decide) (by decide) (fun D1 hf hI1 => ?_)
    exact ⟨_, _, r_distance_f2c l a3 h1 h3, ⟨_, rfl⟩, fun D2 h => by subst h; exact ⟨up_s, frs_0 _ _⟩⟩
  obtain ⟨t0, s1, s2⟩ := id a4
  cases hd : lst (btw (D 105) ly (nI a) (nI o)) with
  | none =>
    refine j_F hI (c := 1) (s := 6) (k := 3) (by decide) (by decide) (w_distance l (c_distance_f3 (D := D) l a2 h1 s1 s2 (f := D 105) (fun q hq => JA_q b1 h1 hq) (fun a ha => JA_sz2 b1 h1 ha) h3 h5 e hd) a1.1 (fun _ _ _ h => h.elim) (fun E Z1 D1 h => by rw [h.1]; decide)) (fun E Z1 D1 h => ⟨h.1, h.2.1, by rw [h.2.2]; exact frs_r _⟩) (by decide) (by decide) (fun D1 hf hI1 => ?_)
    exact ⟨_, _, r_distance_f3 l a3 h1 h3 h5 e (by rw [frs_5 hf]; exact hd), ⟨_, rfl⟩, fun D2 h => by subst h; exact ⟨up_s, frs_0 _ _⟩⟩
  | some m =>
    refine j_O hI (c := 0) (s := 0) (by decide) (by decide) (w_distance l (c_distance_ok (D := D) l a2 h1 s1 s2 (f := D 105) (fun q hq => JA_q b1 h1 hq) (fun a ha => JA_sz2 b1 h1 ha) h3 h5 e hd) a1.1 (fun v Z1 D1 h => ⟨by rw [h.2.1]; exact a1.2.2.1, _, h.1⟩) (fun _ _ _ h => h.elim)) (fun b Z1 D1 h => ?_)
    obtain ⟨hb, rfl, hd3⟩ := h
    cases hb
    obtain ⟨t, q1, rfl⟩ := hd3
    exact ⟨rfl, frs_st q1, _, _, r_distance_ok l (zM_u a3) h1 h3 h5 e (by rw [stU_5]; exact hd) (btw_le hd), ⟨_, rfl⟩, eqv_ii rfl, fun D2 h => by subst h; exact ⟨up_s, frs_0 _ _⟩⟩
theorem j_nearest (l : Launch) : ∀ (p0 p1 : Int32), ja_JC l JI mL_nearest mX8_nearest [.int p0, .int p1] 200 ty_i eqv_i := by
  intro p0 p1 n Z D hn hI
  show ja_JP l mL_nearest mX8_nearest [.int p0, .int p1] 200 ty_i eqv_i n Z D
  obtain ⟨a1, a2, a3, a4, ⟨cc, b1, ⟨wv, b2⟩, tn, hs, b3, b4⟩, a5, a6, a7, a8⟩ := id hI
  by_cases gp0 : nI 0 ≤ p0 ∧ p0 ≤ nI 2
  rotate_left
  · refine j_F hI (c := 1) (s := 6) (k := 1) (by decide) (by decide) (w_nearest l (c_nearest_f1 (D := D) l a2 gp0) a1.1 (fun _ _ _ h => h.elim) (fun E Z1 D1 h => by rw [h.1]; decide)) (fun E Z1 D1 h => ⟨h.1, h.2.1, by rw [h.2.2]; exact frs_r _⟩) (by decide) (by decide) (fun D1 hf hI1 => ?_)
    exact ⟨_, _, r_nearest_f1 l a3 gp0, ⟨_, rfl⟩, fun D2 h => by subst h; exact ⟨up_s, frs_0 _ _⟩⟩
  obtain ⟨ly, hly, rfl⟩ := nI_rng (by decide) gp0
  have h1 : ly < 3 := by omega
  by_cases gp1 : nI 0 ≤ p1 ∧ p1 ≤ nI 9
  rotate_left
  · refine j_F hI (c := 1) (s := 6) (k := 2) (by decide) (by decide) (w_nearest l (c_nearest_f2 (D := D) l a2 h1 gp1) a1.1 (fun _ _ _ h => h.elim) (fun E Z1 D1 h => by rw [h.1]; decide)) (fun E Z1 D1 h => ⟨h.1, h.2.1, by rw [h.2.2]; exact frs_r _⟩) (by decide) (by decide) (fun D1 hf hI1 => ?_)
    exact ⟨_, _, r_nearest_f2 l a3 h1 gp1, ⟨_, rfl⟩, fun D2 h => by subst h; exact ⟨up_s, frs_0 _ _⟩⟩
  obtain ⟨a, h2, rfl⟩ := nI_rng (by decide) gp1
  have h3 : a < 10 := by omega
  obtain ⟨t0, s1, s2⟩ := id a4
  cases hd : nrs (fun o => lst (btw (D 105) ly (nI a) (nI o))) a 10 with
  | none =>
    refine j_F hI (c := 1) (s := 6) (k := 3) (by decide) (by decide) (w_nearest l (c_nearest_f3 (D := D) l a2 h1 s1 s2 (f := D 105) (fun q hq => JA_q b1 h1 hq) h3 hd) a1.1 (fun _ _ _ h => h.elim) (fun E Z1 D1 h => by rw [h.1]; decide)) (fun E Z1 D1 h => ⟨h.1, h.2.1, by obtain ⟨t, q1, q2⟩ := h.2.2; rw [q2]; exact frs_st q1⟩) (by decide) (by decide) (fun D1 hf hI1 => ?_)
    exact ⟨_, _, r_nearest_ok l a3 h1 h3, ⟨_, rfl⟩, fun D2 h => by subst h; refine ⟨?_, frs_0 _ _⟩; rw [up_s, frs_5 hf, hd]; rfl⟩
  | some bm =>
    obtain ⟨b, m⟩ := bm
    refine j_O hI (c := 0) (s := 0) (by decide) (by decide) (w_nearest l (c_nearest_ok (D := D) l a2 h1 s1 s2 (f := D 105) (fun q hq => JA_q b1 h1 hq) h3 hd (nrs_lt hd)) a1.1 (fun v Z1 D1 h => ⟨by rw [h.2.1]; exact a1.2.2.1, _, h.1⟩) (fun _ _ _ h => h.elim)) (fun b8 Z1 D1 h => ?_)
    obtain ⟨hb, rfl, hd3⟩ := h
    cases hb
    obtain ⟨t, q1, rfl⟩ := hd3
    exact ⟨rfl, frs_st q1, _, _, r_nearest_ok l (zM_u a3) h1 h3, ⟨_, rfl⟩, eqv_ii (by rw [stU_5, hd]; rfl), fun D2 h => by subst h; refine ⟨?_, frs_0 _ _⟩; rw [up_s, stU_5, hd]; rfl⟩
theorem j_belt (l : Launch) : ∀ (p0 p1 p2 : Int32), ja_JC l JI mL_belt mX8_belt [.int p0, .int p1, .int p2] 200 ty_i eqv_i := by
  intro p0 p1 p2 n Z D hn hI
  show ja_JP l mL_belt mX8_belt [.int p0, .int p1, .int p2] 200 ty_i eqv_i n Z D
  obtain ⟨a1, a2, a3, a4, ⟨cc, b1, ⟨wv, b2⟩, tn, hs, b3, b4⟩, a5, a6, a7, a8⟩ := id hI
  by_cases gp0 : nI 0 ≤ p0 ∧ p0 ≤ nI 2
  rotate_left
  · refine j_F hI (c := 1) (s := 6) (k := 1) (by decide) (by decide) (w_belt l (c_belt_f1 (D := D) l a2 p2 gp0) a1.1 (fun _ _ _ h => h.elim) (fun E Z1 D1 h => by rw [h.1]; decide)) (fun E Z1 D1 h => ⟨h.1, h.2.1, by rw [h.2.2]; exact frs_r _⟩) (by decide) (by decide) (fun D1 hf hI1 => ?_)
    exact ⟨_, _, r_belt_f1 l a3 p2 gp0, ⟨_, rfl⟩, fun D2 h => by subst h; exact ⟨up_s, frs_0 _ _⟩⟩
  obtain ⟨ly, hly, rfl⟩ := nI_rng (by decide) gp0
  have h1 : ly < 3 := by omega
  by_cases gp1 : nI 0 ≤ p1 ∧ p1 ≤ nI 9
  rotate_left
  · refine j_F hI (c := 1) (s := 6) (k := 2) (by decide) (by decide) (w_belt l (c_belt_f2 (D := D) l a2 h1 p2 gp1) a1.1 (fun _ _ _ h => h.elim) (fun E Z1 D1 h => by rw [h.1]; decide)) (fun E Z1 D1 h => ⟨h.1, h.2.1, by rw [h.2.2]; exact frs_r _⟩) (by decide) (by decide) (fun D1 hf hI1 => ?_)
    exact ⟨_, _, r_belt_f2 l a3 p2 h1 gp1, ⟨_, rfl⟩, fun D2 h => by subst h; exact ⟨up_s, frs_0 _ _⟩⟩
  obtain ⟨a, h2, rfl⟩ := nI_rng (by decide) gp1
  have h3 : a < 10 := by omega
  by_cases gp2 : nI 1 ≤ p2 ∧ p2 ≤ nI 30
  rotate_left
  · refine j_F hI (c := 1) (s := 6) (k := 2) (by decide) (by decide) (w_belt l (c_belt_f2b (D := D) l a2 h1 h3 gp2) a1.1 (fun _ _ _ h => h.elim) (fun E Z1 D1 h => by rw [h.1]; decide)) (fun E Z1 D1 h => ⟨h.1, h.2.1, by rw [h.2.2]; exact frs_r _⟩) (by decide) (by decide) (fun D1 hf hI1 => ?_)
    exact ⟨_, _, r_belt_f2b l a3 h1 h3 gp2, ⟨_, rfl⟩, fun D2 h => by subst h; exact ⟨up_s, frs_0 _ _⟩⟩
  obtain ⟨w, h6, h7, rfl⟩ : ∃ w, 1 ≤ w ∧ w ≤ 30 ∧ p2 = nI w := by
    obtain ⟨w, hw, rfl⟩ := nI_rng (b := 30) (by decide) ⟨Int32.le_trans (by decide) gp2.1, gp2.2⟩
    refine ⟨w, ?_, hw, rfl⟩
    have := gp2.1
    rw [Int32.le_iff_toInt_le, nI_toInt (by omega), nI_toInt (by omega)] at this
    omega
  obtain ⟨t0, s1, s2⟩ := id a4
  refine j_O hI (c := 0) (s := 0) (by decide) (by decide) (w_belt l (c_belt_ok (D := D) l a2 h1 s1 s2 h3 h6 h7) a1.1 (fun v Z1 D1 h => ?_) (fun _ _ _ h => h.elim)) (fun b Z1 D1 h => ?_)
  · obtain ⟨t, q1, q2, q3, q4⟩ := h
    exact ⟨by rw [q3]; exact a1.2.2.1, _, q2⟩
  obtain ⟨t, q1, hb, rfl, rfl⟩ := h
  cases hb
  exact ⟨rfl, frs_st q1.1, _, _, r_belt_ok l (zM_u a3) h1 h3 h6 h7, ⟨_, rfl⟩, eqv_ii (congrArg nI (by rw [stU_5]; exact blt_e (fun q hq => JA_q b1 h1 hq) h7 q1)), fun D2 h => by subst h; exact ⟨up_s, frs_0 _ _⟩⟩
theorem j_match (l : Launch) : ∀ (p0 p1 p2 : Int32), ja_JC l JI mL_match mX8_match [.int p0, .int p1, .int p2] 200 ty_i eqv_i := by
  intro p0 p1 p2 n Z D hn hI
  show ja_JP l mL_match mX8_match [.int p0, .int p1, .int p2] 200 ty_i eqv_i n Z D
  obtain ⟨a1, a2, a3, a4, ⟨cc, b1, ⟨wv, b2⟩, tn, hs, b3, b4⟩, a5, a6, a7, a8⟩ := id hI
  by_cases gal : areL p0 p2
  rotate_left
  · refine j_F hI (c := 1) (s := 6) (k := 1) (by decide) (by decide) (w_match l (c_match_f1 (D := D) l a2 gal p1) a1.1 (fun _ _ _ h => h.elim) (fun E Z1 D1 h => by rw [h.1]; decide)) (fun E Z1 D1 h => ⟨h.1, h.2.1, by rw [h.2.2]; exact frs_r _⟩) (by decide) (by decide) (fun D1 hf hI1 => ?_)
    exact ⟨_, _, r_match_f1 l a3 gal p1, ⟨_, rfl⟩, fun D2 h => by subst h; exact ⟨up_s, frs_0 _ _⟩⟩
  obtain ⟨l1, l2, h1, h2, h3, rfl, rfl⟩ := areL_n gal
  by_cases gp1 : nI 0 ≤ p1 ∧ p1 ≤ nI 9
  rotate_left
  · refine j_F hI (c := 1) (s := 6) (k := 2) (by decide) (by decide) (w_match l (c_match_f2 (D := D) l a2 h1 h2 h3 gp1) a1.1 (fun _ _ _ h => h.elim) (fun E Z1 D1 h => by rw [h.1]; decide)) (fun E Z1 D1 h => ⟨h.1, h.2.1, by rw [h.2.2]; exact frs_r _⟩) (by decide) (by decide) (fun D1 hf hI1 => ?_)
    exact ⟨_, _, r_match_f2 l a3 h1 h2 h3 gp1, ⟨_, rfl⟩, fun D2 h => by subst h; exact ⟨up_s, frs_0 _ _⟩⟩
  obtain ⟨a, h4, rfl⟩ := nI_rng (by decide) gp1
  have h5 : a < 10 := by omega
  have eb : bM (fun o => cXm D l1 (nI a) l2 (nI o) 256) 10 = bM (fun o => cCm (D 105) l1 (nI a) l2 (nI o) 256) 10 := bM_cg (fun o ho => cXm_e b1 h1 h2 (nI a) (nI o))
  cases hd : bM (fun o => cXm D l1 (nI a) l2 (nI o) 256) 10 with
  | none =>
    refine j_F hI (c := 1) (s := 6) (k := 3) (by decide) (by decide) (w_match l (c_match_f3 (D := D) l a2 h1 h2 h3 h5 hd) a1.1 (fun _ _ _ h => h.elim) (fun E Z1 D1 h => by rw [h.1]; decide)) (fun E Z1 D1 h => ⟨h.1, h.2.1, by rw [h.2.2]; exact frs_r _⟩) (by decide) (by decide) (fun D1 hf hI1 => ?_)
    exact ⟨_, _, r_match_ok l a3 h1 h2 h3 h5, ⟨_, rfl⟩, fun D2 h => by subst h; refine ⟨?_, frs_0 _ _⟩; rw [up_s, frs_5 hf, ← eb, hd]; rfl⟩
  | some b =>
    refine j_O hI (c := 0) (s := 0) (by decide) (by decide) (w_match l (c_match_ok (D := D) l a2 h1 h2 h3 h5 (bM_lt hd).1 hd) a1.1 (fun v Z1 D1 h => ⟨by rw [h.2.1]; exact a1.2.2.1, _, h.1⟩) (fun _ _ _ h => h.elim)) (fun b8 Z1 D1 h => ?_)
    obtain ⟨hb, rfl, rfl⟩ := h
    cases hb
    exact ⟨rfl, frs_r _, _, _, r_match_ok l (zM_u a3) h1 h2 h3 h5, ⟨_, rfl⟩, eqv_ii (by rw [← eb, hd]; rfl), fun D2 h => by subst h; refine ⟨?_, frs_0 _ _⟩; rw [up_s, ← eb, hd]; rfl⟩
theorem j_matchKind (l : Launch) : ∀ (p0 p1 p2 : Int32), ja_JC l JI mL_matchKind mX8_matchKind [.int p0, .int p1, .int p2] 200 ty_i eqv_i := by
  intro p0 p1 p2 n Z D hn hI
  show ja_JP l mL_matchKind mX8_matchKind [.int p0, .int p1, .int p2] 200 ty_i eqv_i n Z D
  obtain ⟨a1, a2, a3, a4, ⟨cc, b1, ⟨wv, b2⟩, tn, hs, b3, b4⟩, a5, a6, a7, a8⟩ := id hI
  by_cases gal : areL p0 p2
  rotate_left
  · refine j_F hI (c := 1) (s := 6) (k := 1) (by decide) (by decide) (w_matchKind l (c_matchKind_f1 (D := D) l a2 gal p1) a1.1 (fun _ _ _ h => h.elim) (fun E Z1 D1 h => by rw [h.1]; decide)) (fun E Z1 D1 h => ⟨h.1, h.2.1, by rw [h.2.2]; exact frs_r _⟩) (by decide) (by decide) (fun D1 hf hI1 => ?_)
    exact ⟨_, _, r_matchKind_f1 l a3 gal p1, ⟨_, rfl⟩, fun D2 h => by subst h; exact ⟨up_s, frs_0 _ _⟩⟩
  obtain ⟨l1, l2, h1, h2, h3, rfl, rfl⟩ := areL_n gal
  by_cases gp1 : nI 0 ≤ p1 ∧ p1 ≤ nI 9
  rotate_left
  · refine j_F hI (c := 1) (s := 6) (k := 2) (by decide) (by decide) (w_matchKind l (c_matchKind_f2 (D := D) l a2 h1 h2 h3 gp1) a1.1 (fun _ _ _ h => h.elim) (fun E Z1 D1 h => by rw [h.1]; decide)) (fun E Z1 D1 h => ⟨h.1, h.2.1, by rw [h.2.2]; exact frs_r _⟩) (by decide) (by decide) (fun D1 hf hI1 => ?_)
    exact ⟨_, _, r_matchKind_f2 l a3 h1 h2 h3 gp1, ⟨_, rfl⟩, fun D2 h => by subst h; exact ⟨up_s, frs_0 _ _⟩⟩
  obtain ⟨a, h4, rfl⟩ := nI_rng (by decide) gp1
  have h5 : a < 10 := by omega
  have eb : bM (fun o => cXm D l1 (nI a) l2 (nI o) 256) 10 = bM (fun o => cCm (D 105) l1 (nI a) l2 (nI o) 256) 10 := bM_cg (fun o ho => cXm_e b1 h1 h2 (nI a) (nI o))
  cases hd : bM (fun o => cXm D l1 (nI a) l2 (nI o) 256) 10 with
  | none =>
    refine j_O hI (c := 0) (s := 0) (by decide) (by decide) (w_matchKind l (c_matchKind_n (D := D) l a2 h1 h2 h3 h5 hd) a1.1 (fun v Z1 D1 h => ⟨by rw [h.2.1]; exact a1.2.2.1, _, h.1⟩) (fun _ _ _ h => h.elim)) (fun b8 Z1 D1 h => ?_)
    obtain ⟨hb, rfl, rfl⟩ := h
    cases hb
    exact ⟨rfl, frs_r _, _, _, r_matchKind_ok l (zM_u a3) h1 h2 h3 h5, ⟨_, rfl⟩, eqv_ii (by rw [← eb, hd]; rfl), fun D2 h => by subst h; exact ⟨up_s, frs_0 _ _⟩⟩
  | some b =>
    refine j_O hI (c := 0) (s := 0) (by decide) (by decide) (w_matchKind l (c_matchKind_ok (D := D) l a2 h1 h2 h3 h5 (bM_lt hd).1 hd (JA_sz2 b1 h1 h5) (JA_sz2 b1 h2 (bM_lt hd).1) (cSz_le _ _ _ _) (cSz_le _ _ _ _)) a1.1 (fun v Z1 D1 h => ⟨by rw [h.2.1]; exact a1.2.2.1, _, h.1⟩) (fun _ _ _ h => h.elim)) (fun b8 Z1 D1 h => ?_)
    obtain ⟨hb, rfl, rfl⟩ := h
    cases hb
    exact ⟨rfl, frs_r _, _, _, r_matchKind_ok l (zM_u a3) h1 h2 h3 h5, ⟨_, rfl⟩, eqv_ii (by
        rw [← eb, hd, mkV, cXm_e b1 h1 h2]
        split <;> rfl), fun D2 h => by subst h; exact ⟨up_s, frs_0 _ _⟩⟩
theorem j_broken (l : Launch) : ∀ (p0 : Int32), ja_JC l JI mL_broken mX8_broken [.int p0] 200 ty_i eqv_i := by
  intro p0 n Z D hn hI
  show ja_JP l mL_broken mX8_broken [.int p0] 200 ty_i eqv_i n Z D
  obtain ⟨a1, a2, a3, a4, ⟨cc, b1, ⟨wv, b2⟩, tn, hs, b3, b4⟩, a5, a6, a7, a8⟩ := id hI
  obtain ⟨rn, fl, sl, sg, u1, u2, u3, u4, u5, u6, u7⟩ := id a7
  by_cases gk : 0 ≤ p0.toInt ∧ p0.toInt < rn
  rotate_left
  · refine j_F hI (c := 1) (s := 6) (k := 1) (by decide) (by decide) (w_broken l (c_broken_f1 (D := D) l a2 u2 gk) a1.1 (fun _ _ _ h => h.elim) (fun E Z1 D1 h => by rw [h.1]; decide)) (fun E Z1 D1 h => ⟨h.1, h.2.1, by rw [h.2.2]; exact frs_r _⟩) (by decide) (by decide) (fun D1 hf hI1 => ?_)
    exact ⟨_, _, r_broken_f1 l a3 ((hf.1 100 12 (by unfold scr; omega)).trans u4) u1 gk, ⟨_, rfl⟩, fun D2 h => by subst h; exact ⟨up_s, frs_0 _ _⟩⟩
  obtain ⟨r, h1, rfl⟩ := k_rng (by omega) gk
  obtain ⟨v1, v2, v3, v4, v5, v6⟩ := u5 r h1
  obtain ⟨-, -, -, -, g1, g2⟩ := u2.1 r h1
  refine j_O hI (c := 0) (s := 0) (by decide) (by decide) (w_broken l (c_broken_ok (D := D) l a2 u2 u1 h1) a1.1 (fun v Z1 D1 h => ⟨by rw [h.2.1]; exact a1.2.2.1, _, h.1⟩) (fun _ _ _ h => h.elim)) (fun b Z1 D1 h => ?_)
  obtain ⟨hb, rfl, rfl⟩ := h
  cases hb
  exact ⟨rfl, frs_r _, _, _, r_broken_ok l (zM_u a3) u4 u1 (JR_wf u2 u5) h1, ⟨_, rfl⟩, eqv_ii (congrArg nI (br_e b1 rfl g1 g2 v1 v2 v4 v5)), fun D2 h => by subst h; exact ⟨up_s, frs_0 _ _⟩⟩
theorem j_leastBroken (l : Launch) : ja_JC l JI mL_leastBroken mX8_leastBroken [] 200 ty_i eqv_i := by
  intro  n Z D hn hI
  show ja_JP l mL_leastBroken mX8_leastBroken [] 200 ty_i eqv_i n Z D
  obtain ⟨a1, a2, a3, a4, ⟨cc, b1, ⟨wv, b2⟩, tn, hs, b3, b4⟩, a5, a6, a7, a8⟩ := id hI
  obtain ⟨rn, fl, sl, sg, u1, u2, u3, u4, u5, u6, u7⟩ := id a7
  have el : lbk (brX D fl sl) rn = lbk (brkR D) rn := lbk_cg (fun r hr => by
    obtain ⟨v1, v2, v3, v4, v5, v6⟩ := u5 r hr
    obtain ⟨-, -, -, -, g1, g2⟩ := u2.1 r hr
    exact br_e b1 rfl g1 g2 v1 v2 v4 v5)
  cases hd : lbk (brX D fl sl) rn with
  | none =>
    refine j_F hI (c := 1) (s := 6) (k := 1) (by decide) (by decide) (w_leastBroken l (c_leastBroken_f1 (D := D) l a2 u2 u1 u3 hd) a1.1 (fun _ _ _ h => h.elim) (fun E Z1 D1 h => by rw [h.1]; decide)) (fun E Z1 D1 h => ⟨h.1, h.2.1, by rw [h.2.2]; exact frs_r _⟩) (by decide) (by decide) (fun D1 hf hI1 => ?_)
    exact ⟨_, _, r_leastBroken l a3 ((hf.1 100 12 (by unfold scr; omega)).trans u4) u1 (wfR_f hf (JR_wf u2 u5)), ⟨_, rfl⟩, fun D2 h => by subst h; refine ⟨?_, frs_0 _ _⟩; rw [up_s, brkR_f hf, ← el, hd]; rfl⟩
  | some b =>
    refine j_O hI (c := 0) (s := 0) (by decide) (by decide) (w_leastBroken l (c_leastBroken_ok (D := D) l a2 u2 u1 u3 hd (lbk_lt hd)) a1.1 (fun v Z1 D1 h => ⟨by rw [h.2.1]; exact a1.2.2.1, _, h.1⟩) (fun _ _ _ h => h.elim)) (fun b8 Z1 D1 h => ?_)
    obtain ⟨hb, rfl, rfl⟩ := h
    cases hb
    exact ⟨rfl, frs_r _, _, _, r_leastBroken l (zM_u a3) u4 u1 (JR_wf u2 u5), ⟨_, rfl⟩, eqv_ii (by rw [← el, hd]; rfl), fun D2 h => by subst h; refine ⟨?_, frs_0 _ _⟩; rw [up_s, ← el, hd]; rfl⟩
theorem j_coarse (l : Launch) : ∀ (p0 p1 p2 : Int32), ja_JC l JI mL_coarse mX8_coarse [.int p0, .int p1, .int p2] 200 ty_i eqv_i := by
  intro p0 p1 p2 n Z D hn hI
  show ja_JP l mL_coarse mX8_coarse [.int p0, .int p1, .int p2] 200 ty_i eqv_i n Z D
  obtain ⟨a1, a2, a3, a4, ⟨cc, b1, ⟨wv, b2⟩, tn, hs, b3, b4⟩, a5, a6, a7, a8⟩ := id hI
  by_cases gp0 : nI 0 ≤ p0 ∧ p0 ≤ nI 2
  rotate_left
  · refine j_F hI (c := 1) (s := 6) (k := 1) (by decide) (by decide) (w_coarse l (c_coarse_f1 (D := D) l a2 p1 p2 gp0) a1.1 (fun _ _ _ h => h.elim) (fun E Z1 D1 h => by rw [h.1]; decide)) (fun E Z1 D1 h => ⟨h.1, h.2.1, by rw [h.2.2]; exact frs_r _⟩) (by decide) (by decide) (fun D1 hf hI1 => ?_)
    exact ⟨_, _, r_coarse_f1 l a3 p1 p2 gp0, ⟨_, rfl⟩, fun D2 h => by subst h; exact ⟨up_s, frs_0 _ _⟩⟩
  obtain ⟨ly, hly, rfl⟩ := nI_rng (by decide) gp0
  have h1 : ly < 3 := by omega
  by_cases gp1 : nI 1 ≤ p1 ∧ p1 ≤ nI 256
  rotate_left
  · refine j_F hI (c := 1) (s := 6) (k := 2) (by decide) (by decide) (w_coarse l (c_coarse_f2 (D := D) l a2 h1 gp1 p2) a1.1 (fun _ _ _ h => h.elim) (fun E Z1 D1 h => by rw [h.1]; decide)) (fun E Z1 D1 h => ⟨h.1, h.2.1, by rw [h.2.2]; exact frs_r _⟩) (by decide) (by decide) (fun D1 hf hI1 => ?_)
    exact ⟨_, _, r_coarse_f2 l a3 h1 gp1 p2, ⟨_, rfl⟩, fun D2 h => by subst h; exact ⟨up_s, frs_0 _ _⟩⟩
  obtain ⟨w1, w2, w3⟩ := b1 ly h1
  obtain ⟨le, g6, g7, rfl⟩ : ∃ w, 1 ≤ w ∧ w ≤ 256 ∧ p1 = nI w := by
    obtain ⟨w, hw, rfl⟩ := nI_rng (b := 256) (by decide) ⟨Int32.le_trans (by decide) gp1.1, gp1.2⟩
    refine ⟨w, ?_, hw, rfl⟩
    have := gp1.1
    rw [Int32.le_iff_toInt_le, nI_toInt (by omega), nI_toInt (by omega)] at this
    omega
  by_cases gp2 : nI 0 ≤ p2 ∧ p2 ≤ nI 9
  rotate_left
  · refine j_F hI (c := 1) (s := 6) (k := 2) (by decide) (by decide) (w_coarse l (c_coarse_f2b (D := D) l a2 h1 g6 g7 gp2) a1.1 (fun _ _ _ h => h.elim) (fun E Z1 D1 h => by rw [h.1]; decide)) (fun E Z1 D1 h => ⟨h.1, h.2.1, by rw [h.2.2]; exact frs_r _⟩) (by decide) (by decide) (fun D1 hf hI1 => ?_)
    exact ⟨_, _, r_coarse_f2b l a3 h1 g6 g7 gp2, ⟨_, rfl⟩, fun D2 h => by subst h; exact ⟨up_s, frs_0 _ _⟩⟩
  obtain ⟨a, h4, rfl⟩ := nI_rng (by decide) gp2
  have h5 : a < 10 := by omega
  by_cases g0 : eN (cc ly) a = 0
  · refine j_F hI (c := 1) (s := 6) (k := 3) (by decide) (by decide) (w_coarse l (c_coarse_f3 (D := D) l a2 h1 g6 g7 (c := cc ly) (z := eN (cc ly)) (f := D 105) w1 (fun q hq => (w2 q hq).1) w3 (fun _ _ => rfl) (fun q hq => (w2 q hq).2) h5 g0) a1.1 (fun _ _ _ h => h.elim) (fun E Z1 D1 h => by rw [h.1]; decide)) (fun E Z1 D1 h => ⟨h.1, h.2.1, by rw [h.2.2]; exact frs_r _⟩) (by decide) (by decide) (fun D1 hf hI1 => ?_)
    exact ⟨_, _, r_coarse_f3 l a3 h1 h5 g6 g7 (by rw [frs_5 hf, JA_sz b1 h1 h5]; exact g0), ⟨_, rfl⟩, fun D2 h => by subst h; exact ⟨up_s, frs_0 _ _⟩⟩
  refine j_O hI (c := 0) (s := 0) (by decide) (by decide) (w_coarse l (c_coarse_ok (D := D) l a2 h1 g6 g7 (c := cc ly) (z := eN (cc ly)) (f := D 105) w1 (fun q hq => (w2 q hq).1) w3 (fun _ _ => rfl) (fun q hq => (w2 q hq).2) h5 g0) a1.1 (fun v Z1 D1 h => ⟨by rw [h.2.1]; exact a1.2.2.1, _, h.1⟩) (fun _ _ _ h => h.elim)) (fun b Z1 D1 h => ?_)
  obtain ⟨hb, rfl, hd⟩ := h
  cases hb
  obtain ⟨s9, z9, b9, rfl⟩ := hd
  have e5 : (cmU D s9 z9 b9) 105 = D 105 := frs_5 frs_cm
  exact ⟨rfl, frs_cm, _, _, r_coarse_ok l (zM_u a3) (by rw [e5]; exact JA_wA b1) h1 h5 g6 g7 (by rw [e5, JA_sz b1 h1 h5]; exact g0), ⟨_, rfl⟩, eqv_ii (by rw [e5]), fun D2 h => by subst h; refine ⟨?_, frs_t (frs_0 _ _) (frs_fn (by decide))⟩; rw [fnU_o (by decide), up_s]⟩
theorem j_coarseAreas (l : Launch) : ∀ (p0 p1 : Int32), ja_JC l JI mL_coarseAreas mX8_coarseAreas [.int p0, .int p1] 200 ty_i eqv_i := by
  intro p0 p1 n Z D hn hI
  show ja_JP l mL_coarseAreas mX8_coarseAreas [.int p0, .int p1] 200 ty_i eqv_i n Z D
  obtain ⟨a1, a2, a3, a4, ⟨cc, b1, ⟨wv, b2⟩, tn, hs, b3, b4⟩, a5, a6, a7, a8⟩ := id hI
  by_cases gp0 : nI 0 ≤ p0 ∧ p0 ≤ nI 2
  rotate_left
  · refine j_F hI (c := 1) (s := 6) (k := 1) (by decide) (by decide) (w_coarseAreas l (c_coarseAreas_f1 (D := D) l a2 p1 gp0) a1.1 (fun _ _ _ h => h.elim) (fun E Z1 D1 h => by rw [h.1]; decide)) (fun E Z1 D1 h => ⟨h.1, h.2.1, by rw [h.2.2]; exact frs_r _⟩) (by decide) (by decide) (fun D1 hf hI1 => ?_)
    exact ⟨_, _, r_coarseAreas_f1 l a3 p1 gp0, ⟨_, rfl⟩, fun D2 h => by subst h; exact ⟨up_s, frs_0 _ _⟩⟩
  obtain ⟨ly, hly, rfl⟩ := nI_rng (by decide) gp0
  have h1 : ly < 3 := by omega
  by_cases gp1 : nI 1 ≤ p1 ∧ p1 ≤ nI 256
  rotate_left
  · refine j_F hI (c := 1) (s := 6) (k := 2) (by decide) (by decide) (w_coarseAreas l (c_coarseAreas_f2 (D := D) l a2 h1 gp1) a1.1 (fun _ _ _ h => h.elim) (fun E Z1 D1 h => by rw [h.1]; decide)) (fun E Z1 D1 h => ⟨h.1, h.2.1, by rw [h.2.2]; exact frs_r _⟩) (by decide) (by decide) (fun D1 hf hI1 => ?_)
    exact ⟨_, _, r_coarseAreas_f2 l a3 h1 gp1, ⟨_, rfl⟩, fun D2 h => by subst h; exact ⟨up_s, frs_0 _ _⟩⟩
  obtain ⟨w1, w2, w3⟩ := b1 ly h1
  obtain ⟨le, g6, g7, rfl⟩ : ∃ w, 1 ≤ w ∧ w ≤ 256 ∧ p1 = nI w := by
    obtain ⟨w, hw, rfl⟩ := nI_rng (b := 256) (by decide) ⟨Int32.le_trans (by decide) gp1.1, gp1.2⟩
    refine ⟨w, ?_, hw, rfl⟩
    have := gp1.1
    rw [Int32.le_iff_toInt_le, nI_toInt (by omega), nI_toInt (by omega)] at this
    omega
  refine j_O hI (c := 0) (s := 0) (by decide) (by decide) (w_coarseAreas l (c_coarseAreas_ok (D := D) l a2 h1 g6 g7 (c := cc ly) (z := eN (cc ly)) (f := D 105) w1 (fun q hq => (w2 q hq).1) w3 (fun _ _ => rfl) (fun q hq => (w2 q hq).2)) a1.1 (fun v Z1 D1 h => ⟨by rw [h.2.1]; exact a1.2.2.1, _, h.1⟩) (fun _ _ _ h => h.elim)) (fun b Z1 D1 h => ?_)
  obtain ⟨hb, rfl, hd⟩ := h
  cases hb
  obtain ⟨s9, z9, b9, rfl⟩ := hd
  have e5 : (cmU D s9 z9 b9) 105 = D 105 := frs_5 frs_cm
  exact ⟨rfl, frs_cm, _, _, r_coarseAreas_ok l (zM_u a3) (by rw [e5]; exact JA_wA b1) h1 g6 g7, ⟨_, rfl⟩, eqv_ii (by rw [e5]), fun D2 h => by subst h; refine ⟨?_, frs_t (frs_0 _ _) (frs_fn (by decide))⟩; rw [fnU_o (by decide), up_s]⟩
