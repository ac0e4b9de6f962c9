/-! JOINT THEOREMS, 6: paint, split, merge (by wip/whole/x56.py) -/
theorem giU_cg {M : jD} {g g2 : Nat → Bool} (h : ∀ q, q < 256 → g q = g2 q) : giU M g 256 = giU M g2 256 := by
  funext a b
  unfold giU
  by_cases e : a = 125 ∧ b < 256
  · rw [if_pos e, if_pos e, h b e.2]
  · rw [if_neg e, if_neg e]
theorem gvR_24 {X : jD} {ly b : Nat} {to : Option Nat} {cp : Bool} {a : Nat} (h1 : ¬ a = 105) (h2 : ¬ a = 106) (h3 : ¬ a = 124) (h4 : ¬ a = 125) {g : Nat → Bool} : gvR (giU X g 256) ly to cp a b = X a b := by
  rw [gvR_o h1 h2 h3, giU_o h4]
theorem JI_ed {n : Nat} {Z : jZ} {D : jD} {cc : Nat → Nat → Option Nat} {wv : Nat → Nat → Nat} {tn : Nat} {hs : Nat → Nat → Nat → Option Nat} (hI : JI n Z D) (b1 : JA D cc) (b2 : JB n D cc wv) (b3 : JH D tn hs) (b4 : JS n D cc tn hs) (hn : n < 512) (hin : D 0 7 = bI true) {ly : Nat} (h1 : ly < 3) {t : Option Nat} (ht : ∀ a, t = some a → a < 10) (g : Nat → Bool) {dv : Bool} :
    eT (cc ly) t g = fb_ct (gvM (giU (ja_up (edE D ly (cc ly) t g (wv ly) dv) 100 0 (nI 0)) g 256) ly (oI t)) 256 ∧ JI (n + 1) Z (gvR (giU (ja_up (edE D ly (cc ly) t g (wv ly) dv) 100 0 (nI 0)) g 256) ly t (!dv)) := by
  obtain ⟨a1, a2, a3, a4, -, a5, a6, a7, a8⟩ := hI
  obtain ⟨w1, w2, w3⟩ := b1 ly h1
  obtain ⟨x1, x2⟩ := b2 ly h1
  generalize hM : ja_up (edE D ly (cc ly) t g (wv ly) dv) 100 0 (nI 0) = M
  have m1 : ∀ i j, ¬ (i = 100 ∧ j = 0) → ¬ i = 31 + 10 * ly → ¬ i = 32 + 10 * ly → ¬ i = 33 + 10 * ly → ¬ i = 37 + 10 * ly → ¬ (i = 30 + 10 * ly ∧ j = 8) → M i j = D i j := fun i j g1 g2 g3 g4 g5 g6 => by
    rw [← hM, up_n g1, edE_o g2 g3 g4 g5 g6]
  have hML : MLd D M ly (cc ly) (wv ly) := ⟨fun q hq => (w2 q hq).1, fun q hq => by rw [m1 105 _ (by omega) (by omega) (by omega) (by omega) (by omega) (by omega)]; exact (w2 q hq).2, w1, w3, fun a ha => (x1 a ha).1, fun a ha => by rw [m1 106 _ (by omega) (by omega) (by omega) (by omega) (by omega) (by omega)]; exact (x1 a ha).2.1, by omega⟩
  obtain ⟨⟨k1, k2, k3, k4, k5, k6, k7⟩, k8, k9, k10⟩ := ED_m (g := g) (dv := dv) ht hML
  refine ⟨k8, ?_⟩
  generalize hD2 : gvR (giU M g 256) ly t (!dv) = D2 at k2 k6
  have q1 : ∀ i j, ¬ i = 105 → ¬ i = 106 → ¬ i = 124 → ¬ i = 125 → D2 i j = M i j := fun i j g1 g2 g3 g4 => by rw [← hD2, gvR_24 g1 g2 g3 g4]
  have qE : ∀ i j, (i = 31 + 10 * ly ∨ i = 32 + 10 * ly ∨ i = 33 + 10 * ly) → D2 i j = edE D ly (cc ly) t g (wv ly) dv i j := fun i j hi => by
    rw [q1 i j (by omega) (by omega) (by omega) (by omega), ← hM, up_n (by omega)]
  have e : ∀ i j, ¬ i = 105 → ¬ i = 106 → ¬ i = 124 → ¬ i = 125 → ¬ (i = 100 ∧ j = 0) → ¬ i = 31 + 10 * ly → ¬ i = 32 + 10 * ly → ¬ i = 33 + 10 * ly → ¬ i = 37 + 10 * ly → ¬ (i = 30 + 10 * ly ∧ j = 8) → D2 i j = D i j := fun i j g1 g2 g3 g4 g5 g6 g7 g8 g9 g10 => by
    rw [q1 i j g1 g2 g3 g4, m1 i j g5 g6 g7 g8 g9 g10]
  have e5 : ∀ k, ¬ (256 * ly ≤ k ∧ k < 256 * ly + 256) → D2 105 k = D 105 k := fun k hk => by
    rw [← hD2, gvR_5, if_neg (fun z => hk ⟨z.1, z.2.1⟩), giU_5, m1 105 _ (by omega) (by omega) (by omega) (by omega) (by omega) (by omega)]
  have e6 : ∀ k, ¬ (10 * ly ≤ k ∧ k < 10 * ly + 10) → D2 106 k = D 106 k := fun k hk => by
    rw [← hD2, gvR_6 ht hk, giU_o (by omega), m1 106 _ (by omega) (by omega) (by omega) (by omega) (by omega) (by omega)]
  clear hD2 hM
  have eS : JS (n + 1) D2 cc tn hs := JS_d (fun i j hd => e i j (by unfold dJS at hd; omega) (by unfold dJS at hd; omega) (by unfold dJS at hd; omega) (by unfold dJS at hd; omega) (by unfold dJS at hd; omega) (by unfold dJS at hd; omega) (by unfold dJS at hd; omega) (by unfold dJS at hd; omega) (by unfold dJS at hd; omega) (by unfold dJS at hd; omega)) b4
  have eS2 : ∀ c2, JS (n + 1) D2 c2 tn hs := fun c2 => by
    rcases eS with ⟨z, -⟩ | z
    · exfalso
      have z2 := z.symm.trans ((e 0 7 (by omega) (by omega) (by omega) (by omega) (by omega) (by omega) (by omega) (by omega) (by omega) (by omega)).trans hin)
      exact absurd z2 (by decide)
    · exact Or.inr z
  refine ⟨a1, a2, a3, JT_d (fun j => e 12 j (by omega) (by omega) (by omega) (by omega) (by omega) (by omega) (by omega) (by omega) (by omega) (by omega)) a4, ⟨fun k => if k = ly then eC (cc ly) t g else cc k, fun k hk => ?_, ⟨fun k => if k = ly then wcl dv (wv ly) (eL (cc ly) t g) (eN (eC (cc ly) t g)) t 10 else wv k, fun k hk => ?_⟩, tn, hs, JH_d (fun i j hd => e i j (by unfold dJH at hd; omega) (by unfold dJH at hd; omega) (by unfold dJH at hd; omega) (by unfold dJH at hd; omega) (by unfold dJH at hd; omega) (by unfold dJH at hd; omega) (by unfold dJH at hd; omega) (by unfold dJH at hd; omega) (by unfold dJH at hd; omega) (by unfold dJH at hd; omega)) b3, eS2 _⟩, JL_d (fun i j hd => e i j (by unfold dJL at hd; omega) (by unfold dJL at hd; omega) (by unfold dJL at hd; omega) (by unfold dJL at hd; omega) (by unfold dJL at hd; omega) (by unfold dJL at hd; omega) (by unfold dJL at hd; omega) (by unfold dJL at hd; omega) (by unfold dJL at hd; omega) (by unfold dJL at hd; omega)) a5, JV_d (fun i j hd => e i j (by unfold dJV at hd; omega) (by unfold dJV at hd; omega) (by unfold dJV at hd; omega) (by unfold dJV at hd; omega) (by unfold dJV at hd; omega) (by unfold dJV at hd; omega) (by unfold dJV at hd; omega) (by unfold dJV at hd; omega) (by unfold dJV at hd; omega) (by unfold dJV at hd; omega)) a6, JR_d (fun i j hd => e i j (by unfold dJR at hd; omega) (by unfold dJR at hd; omega) (by unfold dJR at hd; omega) (by unfold dJR at hd; omega) (by unfold dJR at hd; omega) (by unfold dJR at hd; omega) (by unfold dJR at hd; omega) (by unfold dJR at hd; omega) (by unfold dJR at hd; omega) (by unfold dJR at hd; omega)) rfl (fun _ _ _ h => h) a7, JW_d (fun i j hd => e i j (by unfold dJW at hd; omega) (by unfold dJW at hd; omega) (by unfold dJW at hd; omega) (by unfold dJW at hd; omega) (by unfold dJW at hd; omega) (by unfold dJW at hd; omega) (by unfold dJW at hd; omega) (by unfold dJW at hd; omega) (by unfold dJW at hd; omega) (by unfold dJW at hd; omega)) rfl (fun _ _ h => h) a8⟩
  · by_cases z : k = ly
    · subst z
      simp only [if_true]
      exact ⟨k3, fun q hq => ⟨by rw [qE _ _ (by omega)]; exact k1 q hq, k2 q hq⟩, fun a ha => by rw [qE _ _ (by omega)]; exact k4 a ha⟩
    · simp only [if_neg z]
      obtain ⟨y1, y2, y3⟩ := b1 k hk
      refine ⟨y1, fun q hq => ⟨?_, ?_⟩, fun a ha => ?_⟩
      · rw [e _ _ (by omega) (by omega) (by omega) (by omega) (by omega) (by omega) (by omega) (by omega) (by omega) (by omega)]; exact (y2 q hq).1
      · rw [e5 _ (by omega)]; exact (y2 q hq).2
      · rw [e _ _ (by omega) (by omega) (by omega) (by omega) (by omega) (by omega) (by omega) (by omega) (by omega) (by omega)]; exact y3 a ha
  · by_cases z : k = ly
    · subst z
      simp only [if_true]
      refine ⟨fun a ha => ⟨by rw [qE _ _ (by omega)]; exact k5 a ha, k6 a ha, k10 a ha⟩, by omega⟩
    · simp only [if_neg z]
      obtain ⟨y1, y2⟩ := b2 k hk
      refine ⟨fun a ha => ⟨?_, ?_, (y1 a ha).2.2⟩, by omega⟩
      · rw [e _ _ (by omega) (by omega) (by omega) (by omega) (by omega) (by omega) (by omega) (by omega) (by omega) (by omega)]; exact (y1 a ha).1
      · rw [e6 _ (by omega)]; exact (y1 a ha).2.1
theorem box_n {x y w h : Int32} (hb : bxOK x y w h) : ∃ x1 y1 w1 h1 : Nat, x1 < 16 ∧ y1 < 16 ∧ 1 ≤ w1 ∧ x1 + w1 ≤ 16 ∧ 1 ≤ h1 ∧ y1 + h1 ≤ 16 ∧ x = nI x1 ∧ y = nI y1 ∧ w = nI w1 ∧ h = nI h1 := by
  obtain ⟨g1, g2, g3, g4⟩ := hb
  obtain ⟨x1, hx, rfl⟩ := nI_rng (by decide) g1
  obtain ⟨y1, hy, rfl⟩ := nI_rng (by decide) g2
  have sub : ∀ k : Nat, k ≤ 15 → (nI 16 - nI k).toInt = 16 - (k : Int) := fun k hk => by
    rw [Int32.toInt_sub, nI_toInt (by omega), nI_toInt (by omega), Int.bmod_eq_of_le (by omega) (by omega)]
    rfl
  obtain ⟨a1, a2⟩ := g3
  obtain ⟨c1, c2⟩ := g4
  rw [Int32.le_iff_toInt_le, nI_toInt (by omega)] at a1 c1
  rw [Int32.le_iff_toInt_le, sub _ hx] at a2
  rw [Int32.le_iff_toInt_le, sub _ hy] at c2
  refine ⟨x1, y1, w.toInt.toNat, h.toInt.toNat, by omega, by omega, by omega, by omega, by omega, by omega, rfl, rfl, ?_, ?_⟩
  · apply Int32.toInt_inj.mp
    rw [nI_toInt (by omega)]
    omega
  · apply Int32.toInt_inj.mp
    rw [nI_toInt (by omega)]
    omega
theorem wfA_m {D M : jD} (h : M 105 = D 105) (hw : wfA (D 105)) : wfA (M 105) := by rw [h]; exact hw
theorem edE_5 {D : jD} {ly : Nat} (h1 : ly < 3) {c : Nat → Option Nat} {t : Option Nat} {g : Nat → Bool} {w : Nat → Nat} {dv : Bool} : edE D ly c t g w dv 105 = D 105 := funext fun b => edE_o (by omega) (by omega) (by omega) (by omega) (by omega)
theorem edE_x {D : jD} {ly i j : Nat} (h1 : ly < 3) (hi : i = 104 ∨ i = 100 ∨ i = 105) {c : Nat → Option Nat} {t : Option Nat} {g : Nat → Bool} {w : Nat → Nat} {dv : Bool} : edE D ly c t g w dv i j = D i j := edE_o (by omega) (by omega) (by omega) (by omega) (by omega)
theorem j_paint (l : Launch) : ∀ (p0 p1 p2 p3 p4 p5 : Int32), ja_JC l JI mL_paint mX8_paint [.int p0, .int p1, .int p2, .int p3, .int p4, .int p5] 200 ty_i eqv_i := by
  intro p0 p1 p2 p3 p4 p5 n Z D hn hI
  show ja_JP l mL_paint mX8_paint [.int p0, .int p1, .int p2, .int p3, .int p4, .int p5] 200 ty_i eqv_i n Z D
  obtain ⟨a1, a2, a3, a4, ⟨cc, b1, ⟨wv, b2⟩, tn, hs, b3, b4⟩, a5, a6, a7, a8⟩ := id hI
  by_cases gp0 : nI 0 ≤ p0 ∧ p0 ≤ nI 2
  rotate_left
  · refine j_F hI (c := 1) (s := 6) (k := 1) (by decide) (by decide) (w_paint l (c_paint_f1 (D := D) l a2 p1 p2 p3 p4 p5 gp0) a1.1 (fun _ _ _ h => h.elim) (fun E Z1 D1 h => by rw [h.1]; decide)) (fun E Z1 D1 h => ⟨h.1, h.2.1, by rw [h.2.2]; exact frs_r _⟩) (by decide) (by decide) (fun D1 hf hI1 => ?_)
    exact ⟨_, _, r_paint_f1 l a3 p1 p2 p3 p4 p5 gp0, ⟨_, rfl⟩, fun D2 h => by subst h; exact ⟨up_s, frs_0 _ _⟩⟩
  obtain ⟨ly, hly, rfl⟩ := nI_rng (by decide) gp0
  have h1 : ly < 3 := by omega
  by_cases gm : p1 = -1
  · subst gm
    have ht : ∀ b, none = some b → b < 10 := by
      intro b e
      cases e
    by_cases gb : bxOK p2 p3 p4 p5
    rotate_left
    · refine j_F hI (c := 1) (s := 6) (k := 2) (by decide) (by decide) (w_paint l (c_paint_f2b (D := D) l a2 h1 (t := none) ht gb) a1.1 (fun _ _ _ h => h.elim) (fun E Z1 D1 h => by rw [h.1]; decide)) (fun E Z1 D1 h => ⟨h.1, h.2.1, by rw [h.2.2]; exact frs_r _⟩) (by decide) (by decide) (fun D1 hf hI1 => ?_)
      exact ⟨_, _, r_paint_f2b l a3 h1 gb, ⟨_, rfl⟩, fun D2 h => by subst h; exact ⟨up_s, frs_0 _ _⟩⟩
    obtain ⟨x, y, w, h, y1, y2, y3, y4, y5, y6, rfl, rfl, rfl, rfl⟩ := box_n gb
    rcases id b4 with ⟨i1, i2, i3⟩ | ⟨i1, i2, ⟨w0, i3, i4, i5⟩, i6⟩
    · refine j_F hI (c := 1) (s := 6) (k := 3) (by decide) (by decide) (w_paint l (c_paint_f3 (D := D) l a2 h1 i1 (t := none) ht y1 y2 y3 y4 y5 y6) a1.1 (fun _ _ _ h => h.elim) (fun E Z1 D1 h => by rw [h.1]; decide)) (fun E Z1 D1 h => ⟨h.1, h.2.1, by rw [h.2.2]; exact frs_r _⟩) (by decide) (by decide) (fun D1 hf hI1 => ?_)
      exact ⟨_, _, r_paint_f3 l a3 h1 y1 y2 y3 y4 y5 y6 ((hf.1 100 2 (by unfold scr; omega)).trans i2), ⟨_, rfl⟩, fun D2 h => by subst h; exact ⟨up_s, frs_0 _ _⟩⟩
    obtain ⟨dv, hdv⟩ := id a6
    obtain ⟨q1, q2⟩ := JI_ed hI b1 b2 b3 b4 hn i1 h1 (t := none) ht (inB x y w h) (dv := dv ly)
    refine j_G (c := 0) (s := 0) (by decide) (by decide) (w_paint l (c_paint_ok (D := D) l a2 h1 i1 (t := none) ht y1 y2 y3 y4 y5 y6 (c := cc ly) (wv := wv ly) (dv := dv ly) (fun q a => (b1 ly h1).1 q a) (fun q hq => ((b1 ly h1).2.1 q hq).1) (b1 ly h1).2.2 (hdv ly h1).1 (fun a ha => ((b2 ly h1).1 a ha).1) (by have := (b2 ly h1).2; omega)) a1.1 (fun v Z1 D1 h => ⟨by rw [h.2.1]; exact a1.2.2.1, _, h.1⟩) (fun _ _ _ h => h.elim)) (fun b8 Z1 D1 h => ?_)
    obtain ⟨hb, rfl, hd⟩ := h
    cases hb
    subst hd
    refine ⟨a1, _, _, r_paint_okN l (zM_u a3) h1 y1 y2 y3 y4 y5 y6 (wfA_m (edE_5 h1) (JA_wA b1)) ((edE_x h1 (by omega)).trans (hdv ly h1).2) ((edE_x h1 (by omega)).trans i5) i3, ⟨_, rfl⟩, eqv_ii (congrArg nI q1), fun D2 h => ?_⟩
    subst h
    exact ⟨by rw [gvR_24 (by decide) (by decide) (by decide) (by decide), up_s], q2⟩
  by_cases gp1 : nI 0 ≤ p1 ∧ p1 ≤ nI 9
  rotate_left
  · refine j_F hI (c := 1) (s := 6) (k := 2) (by decide) (by decide) (w_paint l (c_paint_f2 (D := D) l a2 h1 p2 p3 p4 p5 gm gp1) a1.1 (fun _ _ _ h => h.elim) (fun E Z1 D1 h => by rw [h.1]; decide)) (fun E Z1 D1 h => ⟨h.1, h.2.1, by rw [h.2.2]; exact frs_r _⟩) (by decide) (by decide) (fun D1 hf hI1 => ?_)
    exact ⟨_, _, r_paint_f2 l a3 h1 p2 p3 p4 p5 gm gp1, ⟨_, rfl⟩, fun D2 h => by subst h; exact ⟨up_s, frs_0 _ _⟩⟩
  obtain ⟨a, h2, rfl⟩ := nI_rng (by decide) gp1
  have h3 : a < 10 := by omega
  have ht : ∀ b, (some a) = some b → b < 10 := by
    intro b e
    cases e
    omega
  by_cases gb : bxOK p2 p3 p4 p5
  rotate_left
  · refine j_F hI (c := 1) (s := 6) (k := 2) (by decide) (by decide) (w_paint l (c_paint_f2b (D := D) l a2 h1 (t := (some a)) ht gb) a1.1 (fun _ _ _ h => h.elim) (fun E Z1 D1 h => by rw [h.1]; decide)) (fun E Z1 D1 h => ⟨h.1, h.2.1, by rw [h.2.2]; exact frs_r _⟩) (by decide) (by decide) (fun D1 hf hI1 => ?_)
    exact ⟨_, _, r_paint_f2c l a3 h1 h3 gb, ⟨_, rfl⟩, fun D2 h => by subst h; exact ⟨up_s, frs_0 _ _⟩⟩
  obtain ⟨x, y, w, h, y1, y2, y3, y4, y5, y6, rfl, rfl, rfl, rfl⟩ := box_n gb
  rcases id b4 with ⟨i1, i2, i3⟩ | ⟨i1, i2, ⟨w0, i3, i4, i5⟩, i6⟩
  · refine j_F hI (c := 1) (s := 6) (k := 3) (by decide) (by decide) (w_paint l (c_paint_f3 (D := D) l a2 h1 i1 (t := (some a)) ht y1 y2 y3 y4 y5 y6) a1.1 (fun _ _ _ h => h.elim) (fun E Z1 D1 h => by rw [h.1]; decide)) (fun E Z1 D1 h => ⟨h.1, h.2.1, by rw [h.2.2]; exact frs_r _⟩) (by decide) (by decide) (fun D1 hf hI1 => ?_)
    exact ⟨_, _, r_paint_f3b l a3 h1 y1 y2 y3 y4 y5 y6 h3 ((hf.1 100 2 (by unfold scr; omega)).trans i2), ⟨_, rfl⟩, fun D2 h => by subst h; exact ⟨up_s, frs_0 _ _⟩⟩
  obtain ⟨dv, hdv⟩ := id a6
  obtain ⟨q1, q2⟩ := JI_ed hI b1 b2 b3 b4 hn i1 h1 (t := (some a)) ht (inB x y w h) (dv := dv ly)
  refine j_G (c := 0) (s := 0) (by decide) (by decide) (w_paint l (c_paint_ok (D := D) l a2 h1 i1 (t := (some a)) ht y1 y2 y3 y4 y5 y6 (c := cc ly) (wv := wv ly) (dv := dv ly) (fun q a => (b1 ly h1).1 q a) (fun q hq => ((b1 ly h1).2.1 q hq).1) (b1 ly h1).2.2 (hdv ly h1).1 (fun a ha => ((b2 ly h1).1 a ha).1) (by have := (b2 ly h1).2; omega)) a1.1 (fun v Z1 D1 h => ⟨by rw [h.2.1]; exact a1.2.2.1, _, h.1⟩) (fun _ _ _ h => h.elim)) (fun b8 Z1 D1 h => ?_)
  obtain ⟨hb, rfl, hd⟩ := h
  cases hb
  subst hd
  refine ⟨a1, _, _, r_paint_ok l (zM_u a3) h1 y1 y2 y3 y4 y5 y6 h3 (wfA_m (edE_5 h1) (JA_wA b1)) ((edE_x h1 (by omega)).trans (hdv ly h1).2) ((edE_x h1 (by omega)).trans i5) i3, ⟨_, rfl⟩, eqv_ii (congrArg nI q1), fun D2 h => ?_⟩
  subst h
  exact ⟨by rw [gvR_24 (by decide) (by decide) (by decide) (by decide), up_s], q2⟩
theorem j_merge (l : Launch) : ∀ (p0 p1 p2 : Int32), ja_JC l JI mL_merge mX8_merge [.int p0, .int p1, .int p2] 200 ty_i eqv_i := by
  intro p0 p1 p2 n Z D hn hI
  show ja_JP l mL_merge mX8_merge [.int p0, .int p1, .int p2] 200 ty_i eqv_i n Z D
  obtain ⟨a1, a2, a3, a4, ⟨cc, b1, ⟨wv, b2⟩, tn, hs, b3, b4⟩, a5, a6, a7, a8⟩ := id hI
  by_cases gp0 : nI 0 ≤ p0 ∧ p0 ≤ nI 2
  rotate_left
  · refine j_F hI (c := 1) (s := 6) (k := 1) (by decide) (by decide) (w_merge l (c_merge_f1 (D := D) l a2 p1 p2 gp0) a1.1 (fun _ _ _ h => h.elim) (fun E Z1 D1 h => by rw [h.1]; decide)) (fun E Z1 D1 h => ⟨h.1, h.2.1, by rw [h.2.2]; exact frs_r _⟩) (by decide) (by decide) (fun D1 hf hI1 => ?_)
    exact ⟨_, _, r_merge_f1 l a3 p1 p2 gp0, ⟨_, rfl⟩, fun D2 h => by subst h; exact ⟨up_s, frs_0 _ _⟩⟩
  obtain ⟨ly, hly, rfl⟩ := nI_rng (by decide) gp0
  have h1 : ly < 3 := by omega
  by_cases gp1 : nI 0 ≤ p1 ∧ p1 ≤ nI 9
  rotate_left
  · refine j_F hI (c := 1) (s := 6) (k := 2) (by decide) (by decide) (w_merge l (c_merge_f2 (D := D) l a2 h1 p2 gp1) a1.1 (fun _ _ _ h => h.elim) (fun E Z1 D1 h => by rw [h.1]; decide)) (fun E Z1 D1 h => ⟨h.1, h.2.1, by rw [h.2.2]; exact frs_r _⟩) (by decide) (by decide) (fun D1 hf hI1 => ?_)
    exact ⟨_, _, r_merge_f2 l a3 h1 p2 gp1, ⟨_, rfl⟩, fun D2 h => by subst h; exact ⟨up_s, frs_0 _ _⟩⟩
  obtain ⟨a, h2, rfl⟩ := nI_rng (by decide) gp1
  have h3 : a < 10 := by omega
  by_cases gp2 : nI 0 ≤ p2 ∧ p2 ≤ nI 9
  rotate_left
  · refine j_F hI (c := 1) (s := 6) (k := 2) (by decide) (by decide) (w_merge l (c_merge_f2b (D := D) l a2 h1 h3 gp2) a1.1 (fun _ _ _ h => h.elim) (fun E Z1 D1 h => by rw [h.1]; decide)) (fun E Z1 D1 h => ⟨h.1, h.2.1, by rw [h.2.2]; exact frs_r _⟩) (by decide) (by decide) (fun D1 hf hI1 => ?_)
    exact ⟨_, _, r_merge_f2b l a3 h1 h3 gp2, ⟨_, rfl⟩, fun D2 h => by subst h; exact ⟨up_s, frs_0 _ _⟩⟩
  obtain ⟨o, h4, rfl⟩ := nI_rng (by decide) gp2
  have h5 : o < 10 := by omega
  by_cases e : a = o
  · subst e
    refine j_F hI (c := 1) (s := 6) (k := 2) (by decide) (by decide) (w_merge l (c_merge_f2c (D := D) l a2 h1 h3) a1.1 (fun _ _ _ h => h.elim) (fun E Z1 D1 h => by rw [h.1]; decide)) (fun E Z1 D1 h => ⟨h.1, h.2.1, by rw [h.2.2]; exact frs_r _⟩) (by decide) (by decide) (fun D1 hf hI1 => ?_)
    exact ⟨_, _, r_merge_f2c l a3 h1 h3, ⟨_, rfl⟩, fun D2 h => by subst h; exact ⟨up_s, frs_0 _ _⟩⟩
  have ht : ∀ b, some o = some b → b < 10 := by
    intro b e2
    cases e2
    omega
  rcases id b4 with ⟨i1, i2, i3⟩ | ⟨i1, i2, ⟨w0, i3, i4, i5⟩, i6⟩
  · refine j_F hI (c := 1) (s := 6) (k := 3) (by decide) (by decide) (w_merge l (c_merge_f3 (D := D) l a2 h1 i1 h3 h5 e) a1.1 (fun _ _ _ h => h.elim) (fun E Z1 D1 h => by rw [h.1]; decide)) (fun E Z1 D1 h => ⟨h.1, h.2.1, by rw [h.2.2]; exact frs_r _⟩) (by decide) (by decide) (fun D1 hf hI1 => ?_)
    exact ⟨_, _, r_merge_f3 l a3 h1 h3 h5 e ((hf.1 100 2 (by unfold scr; omega)).trans i2), ⟨_, rfl⟩, fun D2 h => by subst h; exact ⟨up_s, frs_0 _ _⟩⟩
  obtain ⟨dv, hdv⟩ := id a6
  obtain ⟨q1, q2⟩ := JI_ed hI b1 b2 b3 b4 hn i1 h1 (t := some o) ht (fun q => decide (cc ly q = some a)) (dv := dv ly)
  have eg := fun (M : jD) => giU_cg (M := M) (g := fun q => decide (edE D ly (cc ly) (some o) (fun q => decide (cc ly q = some a)) (wv ly) (dv ly) 105 (256 * ly + q) = nI a)) (g2 := fun q => decide (cc ly q = some a)) (fun q hq => by
    rw [edE_x h1 (by omega), ((b1 ly h1).2.1 q hq).2, decide_eq_decide.mpr (oI_nI ((b1 ly h1).1 q) h3)])
  rw [← eg] at q1 q2
  refine j_G (c := 0) (s := 0) (by decide) (by decide) (w_merge l (c_merge_ok (D := D) l a2 h1 i1 h3 h5 e (c := cc ly) (wv := wv ly) (dv := dv ly) (fun q a => (b1 ly h1).1 q a) (fun q hq => ((b1 ly h1).2.1 q hq).1) (b1 ly h1).2.2 (hdv ly h1).1 (fun a ha => ((b2 ly h1).1 a ha).1) (by have := (b2 ly h1).2; omega)) a1.1 (fun v Z1 D1 h => ⟨by rw [h.2.1]; exact a1.2.2.1, _, h.1⟩) (fun _ _ _ h => h.elim)) (fun b8 Z1 D1 h => ?_)
  obtain ⟨hb, rfl, hd⟩ := h
  cases hb
  subst hd
  refine ⟨a1, _, _, r_merge_ok l (zM_u a3) h1 h3 h5 e (wfA_m (edE_5 h1) (JA_wA b1)) ((edE_x h1 (by omega)).trans (hdv ly h1).2) ((edE_x h1 (by omega)).trans i5) i3, ⟨_, rfl⟩, eqv_ii (congrArg nI q1), fun D2 h => ?_⟩
  subst h
  exact ⟨by rw [gvR_24 (by decide) (by decide) (by decide) (by decide), up_s], q2⟩
theorem j_split (l : Launch) : ∀ (p0 p1 p2 p3 p4 : Int32), ja_JC l JI mL_split mX8_split [.int p0, .int p1, .int p2, .int p3, .int p4] 200 ty_i eqv_i := by
  intro p0 p1 p2 p3 p4 n Z D hn hI
  show ja_JP l mL_split mX8_split [.int p0, .int p1, .int p2, .int p3, .int p4] 200 ty_i eqv_i n Z D
  obtain ⟨a1, a2, a3, a4, ⟨cc, b1, ⟨wv, b2⟩, tn, hs, b3, b4⟩, a5, a6, a7, a8⟩ := id hI
  by_cases gp0 : nI 0 ≤ p0 ∧ p0 ≤ nI 2
  rotate_left
  · refine j_F hI (c := 1) (s := 6) (k := 1) (by decide) (by decide) (w_split l (c_split_f1 (D := D) l a2 p1 p2 p3 p4 gp0) a1.1 (fun _ _ _ h => h.elim) (fun E Z1 D1 h => by rw [h.1]; decide)) (fun E Z1 D1 h => ⟨h.1, h.2.1, by rw [h.2.2]; exact frs_r _⟩) (by decide) (by decide) (fun D1 hf hI1 => ?_)
    exact ⟨_, _, r_split_f1 l a3 p1 p2 p3 p4 gp0, ⟨_, rfl⟩, fun D2 h => by subst h; exact ⟨up_s, frs_0 _ _⟩⟩
  obtain ⟨ly, hly, rfl⟩ := nI_rng (by decide) gp0
  have h1 : ly < 3 := by omega
  by_cases gp1 : nI 0 ≤ p1 ∧ p1 ≤ nI 9
  rotate_left
  · refine j_F hI (c := 1) (s := 6) (k := 2) (by decide) (by decide) (w_split l (c_split_f2 (D := D) l a2 h1 p2 p3 p4 gp1) a1.1 (fun _ _ _ h => h.elim) (fun E Z1 D1 h => by rw [h.1]; decide)) (fun E Z1 D1 h => ⟨h.1, h.2.1, by rw [h.2.2]; exact frs_r _⟩) (by decide) (by decide) (fun D1 hf hI1 => ?_)
    exact ⟨_, _, r_split_f2 l a3 h1 p2 p3 p4 gp1, ⟨_, rfl⟩, fun D2 h => by subst h; exact ⟨up_s, frs_0 _ _⟩⟩
  obtain ⟨a, h2, rfl⟩ := nI_rng (by decide) gp1
  have h3 : a < 10 := by omega
  by_cases gp2 : nI 0 ≤ p2 ∧ p2 ≤ nI 9
  rotate_left
  · refine j_F hI (c := 1) (s := 6) (k := 2) (by decide) (by decide) (w_split l (c_split_f2b (D := D) l a2 h1 h3 p3 p4 gp2) a1.1 (fun _ _ _ h => h.elim) (fun E Z1 D1 h => by rw [h.1]; decide)) (fun E Z1 D1 h => ⟨h.1, h.2.1, by rw [h.2.2]; exact frs_r _⟩) (by decide) (by decide) (fun D1 hf hI1 => ?_)
    exact ⟨_, _, r_split_f2b l a3 h1 h3 p3 p4 gp2, ⟨_, rfl⟩, fun D2 h => by subst h; exact ⟨up_s, frs_0 _ _⟩⟩
  obtain ⟨o, h4, rfl⟩ := nI_rng (by decide) gp2
  have h5 : o < 10 := by omega
  by_cases e : a = o
  · subst e
    refine j_F hI (c := 1) (s := 6) (k := 2) (by decide) (by decide) (w_split l (c_split_f2c (D := D) l a2 h1 h3 p3 p4) a1.1 (fun _ _ _ h => h.elim) (fun E Z1 D1 h => by rw [h.1]; decide)) (fun E Z1 D1 h => ⟨h.1, h.2.1, by rw [h.2.2]; exact frs_r _⟩) (by decide) (by decide) (fun D1 hf hI1 => ?_)
    exact ⟨_, _, r_split_f2c l a3 h1 h3 p3 p4, ⟨_, rfl⟩, fun D2 h => by subst h; exact ⟨up_s, frs_0 _ _⟩⟩
  have ht : ∀ b, some o = some b → b < 10 := by
    intro b e2
    cases e2
    omega
  by_cases gx : p3 = nI 120 ∨ p3 = nI 121
  rotate_left
  · refine j_F hI (c := 1) (s := 6) (k := 2) (by decide) (by decide) (w_split l (c_split_f2d (D := D) l a2 h1 h3 h5 e p4 gx) a1.1 (fun _ _ _ h => h.elim) (fun E Z1 D1 h => by rw [h.1]; decide)) (fun E Z1 D1 h => ⟨h.1, h.2.1, by rw [h.2.2]; exact frs_r _⟩) (by decide) (by decide) (fun D1 hf hI1 => ?_)
    exact ⟨_, _, r_split_f2d l a3 h1 h3 h5 e p4 gx, ⟨_, rfl⟩, fun D2 h => by subst h; exact ⟨up_s, frs_0 _ _⟩⟩
  by_cases gp4 : nI 0 ≤ p4 ∧ p4 ≤ nI 15
  rotate_left
  · refine j_F hI (c := 1) (s := 6) (k := 2) (by decide) (by decide) (w_split l (c_split_f2e (D := D) l a2 h1 h3 h5 e gx gp4) a1.1 (fun _ _ _ h => h.elim) (fun E Z1 D1 h => by rw [h.1]; decide)) (fun E Z1 D1 h => ⟨h.1, h.2.1, by rw [h.2.2]; exact frs_r _⟩) (by decide) (by decide) (fun D1 hf hI1 => ?_)
    exact ⟨_, _, r_split_f2e l a3 h1 h3 h5 e gx gp4, ⟨_, rfl⟩, fun D2 h => by subst h; exact ⟨up_s, frs_0 _ _⟩⟩
  obtain ⟨li, g9, rfl⟩ := nI_rng (by decide) gp4
  rcases id b4 with ⟨i1, i2, i3⟩ | ⟨i1, i2, ⟨w0, i3, i4, i5⟩, i6⟩
  · refine j_F hI (c := 1) (s := 6) (k := 3) (by decide) (by decide) (w_split l (c_split_f3 (D := D) l a2 h1 i1 h3 h5 e gx g9) a1.1 (fun _ _ _ h => h.elim) (fun E Z1 D1 h => by rw [h.1]; decide)) (fun E Z1 D1 h => ⟨h.1, h.2.1, by rw [h.2.2]; exact frs_r _⟩) (by decide) (by decide) (fun D1 hf hI1 => ?_)
    exact ⟨_, _, r_split_f3 l a3 h1 h3 h5 e gx g9 ((hf.1 100 2 (by unfold scr; omega)).trans i2), ⟨_, rfl⟩, fun D2 h => by subst h; exact ⟨up_s, frs_0 _ _⟩⟩
  by_cases gs : eN (cc ly) o = 0
  rotate_left
  · refine j_F hI (c := 1) (s := 6) (k := 4) (by decide) (by decide) (w_split l (c_split_f4 (D := D) l a2 h1 i1 h3 h5 e gx g9 ((b1 ly h1).2.2 o h5) (fb_ct_le _ _) gs) a1.1 (fun _ _ _ h => h.elim) (fun E Z1 D1 h => by rw [h.1]; decide)) (fun E Z1 D1 h => ⟨h.1, h.2.1, by rw [h.2.2]; exact frs_r _⟩) (by decide) (by decide) (fun D1 hf hI1 => ?_)
    exact ⟨_, _, r_split_f4 l a3 h1 h3 h5 e gx g9 ((hf.1 100 2 (by unfold scr; omega)).trans i5) i3 (by rw [frs_5 hf, JA_sz b1 h1 h5]; exact gs), ⟨_, rfl⟩, fun D2 h => by subst h; exact ⟨up_s, frs_0 _ _⟩⟩
  obtain ⟨dv, hdv⟩ := id a6
  obtain ⟨q1, q2⟩ := JI_ed hI b1 b2 b3 b4 hn i1 h1 (t := some o) ht (fun q => decide (cc ly q = some a) && decide (li ≤ if p3 = nI 120 then q % 16 else q / 16)) (dv := dv ly)
  have eg := fun (M : jD) => giU_cg (M := M) (g := fun q => decide (edE D ly (cc ly) (some o) (fun q => decide (cc ly q = some a) && decide (li ≤ if p3 = nI 120 then q % 16 else q / 16)) (wv ly) (dv ly) 105 (256 * ly + q) = nI a) && decide (li ≤ if p3 = nI 120 then q % 16 else q / 16)) (g2 := fun q => decide (cc ly q = some a) && decide (li ≤ if p3 = nI 120 then q % 16 else q / 16)) (fun q hq => by
    rw [edE_x h1 (by omega), ((b1 ly h1).2.1 q hq).2, decide_eq_decide.mpr (oI_nI ((b1 ly h1).1 q) h3)])
  rw [← eg] at q1 q2
  refine j_G (c := 0) (s := 0) (by decide) (by decide) (w_split l (c_split_ok (D := D) l a2 h1 i1 h3 h5 e gx g9 (c := cc ly) (wv := wv ly) (dv := dv ly) (fun q a => (b1 ly h1).1 q a) (fun q hq => ((b1 ly h1).2.1 q hq).1) (b1 ly h1).2.2 (hdv ly h1).1 (fun a ha => ((b2 ly h1).1 a ha).1) (by have := (b2 ly h1).2; omega) gs) a1.1 (fun v Z1 D1 h => ⟨by rw [h.2.1]; exact a1.2.2.1, _, h.1⟩) (fun _ _ _ h => h.elim)) (fun b8 Z1 D1 h => ?_)
  obtain ⟨hb, rfl, hd⟩ := h
  cases hb
  subst hd
  refine ⟨a1, _, _, r_split_ok l (zM_u a3) h1 h3 h5 e gx g9 (wfA_m (edE_5 h1) (JA_wA b1)) ((edE_x h1 (by omega)).trans (hdv ly h1).2) ((edE_x h1 (by omega)).trans i5) i3 (by rw [edE_5 h1, JA_sz b1 h1 h5]; exact gs), ⟨_, rfl⟩, eqv_ii (congrArg nI q1), fun D2 h => ?_⟩
  subst h
  exact ⟨by rw [gvR_24 (by decide) (by decide) (by decide) (by decide), up_s], q2⟩
