/-! JOINT THEOREMS, 5: begin, keep, drop (by wip/whole/x55.py) -/
theorem wcU_i {X : jD} {ly a : Nat} (h1 : ly < 3) (ha : a < 10) : wcU X 3 (35 + 10 * ly) a = X (33 + 10 * ly) a := by
  obtain rfl | rfl | rfl : ly = 0 ∨ ly = 1 ∨ ly = 2 := by omega
  all_goals simp [wcU, ja_cp, va_cpy, ha]
theorem rsU_i {X : jD} {r : Nat} : ∀ {n}, r < n → rsU X n (60 + r) 3 = 0
  | 0, h => absurd h (Nat.not_lt_zero r)
  | n + 1, h => by
    rw [rsU]
    by_cases e : r = n
    · subst e; exact up_s
    · rw [up_n (by omega)]; exact rsU_i (by omega)
theorem kpU_i {X : jD} {t ly q : Nat} (h1 : ly < 3) (hq : q < 256) : kpU X t 3 (36 + 10 * ly) (t * 256 + q) = X (31 + 10 * ly) q := by
  obtain rfl | rfl | rfl : ly = 0 ∨ ly = 1 ∨ ly = 2 := by omega
  all_goals simp [kpU, ja_cp, va_cpy, hq]
theorem kpU_j {X : jD} {t ly j : Nat} (h1 : ly < 3) (hj : ¬ (t * 256 ≤ j ∧ j < t * 256 + 256)) : kpU X t 3 (36 + 10 * ly) j = X (36 + 10 * ly) j := by
  obtain rfl | rfl | rfl : ly = 0 ∨ ly = 1 ∨ ly = 2 := by omega
  all_goals simp [kpU, ja_cp, va_cpy, hj]
theorem mxO_i {c h : Nat → Option Nat} {q : Nat} (hq : q < 256) : mxO c h 256 q = h q := by simp [mxO, hq]
theorem mxO_eN {c h : Nat → Option Nat} {a : Nat} : eN (mxO c h 256) a = eN h a := fb_ct_cong (fun q hq => by rw [mxO_i hq])
theorem drU_1 {D : jD} {c h : Nat → Nat → Option Nat} {ly : Nat} (h1 : ly < 3) : (∀ q, q < 256 → drU D c h 3 (31 + 10 * ly) q = oI (h ly q)) ∧ (∀ a, a < 10 → drU D c h 3 (32 + 10 * ly) a = nI (eN (h ly) a)) ∧ ∀ a, a < 10 → drU D c h 3 (33 + 10 * ly) a = D (35 + 10 * ly) a := by
  have key : ∀ m, m < 3 → (∀ q, q < 256 → drU D c h (m + 1) (31 + 10 * m) q = oI (h m q)) ∧ (∀ a, a < 10 → drU D c h (m + 1) (32 + 10 * m) a = nI (eN (h m) a)) ∧ ∀ a, a < 10 → drU D c h (m + 1) (33 + 10 * m) a = D (35 + 10 * m) a := fun m hm => by
    refine ⟨fun q hq => ?_, fun a ha => ?_, fun a ha => ?_⟩
    · rw [drU, ja_cp, if_neg (by omega), bkU_q hq, mxO_i hq]
    · rw [drU, ja_cp, if_neg (by omega), bkU_n ha, mxO_eN]
    · rw [drU, ja_cp, if_pos rfl, va_cpy, if_pos (by omega), bkU_o (by omega) (by omega), drU_o (fun m' hm' => by omega)]
      congr 1
      omega
  have up : ∀ m k, m < 3 → m + 1 ≤ k → k ≤ 3 → ∀ i j, (i = 31 + 10 * m ∨ i = 32 + 10 * m ∨ i = 33 + 10 * m) → drU D c h k i j = drU D c h (m + 1) i j := fun m k hm hk => by
    induction k with
    | zero => omega
    | succ k ih =>
      intro h3 i j hi
      by_cases e : k = m
      · subst e; rfl
      · rw [drU, ja_cp, if_neg (by omega), bkU_o (by omega) (by omega)]
        exact ih (by omega) (by omega) i j hi
  obtain ⟨k1, k2, k3⟩ := key ly h1
  exact ⟨fun q hq => (up ly 3 h1 (by omega) (Nat.le_refl _) _ _ (Or.inl rfl)).trans (k1 q hq), fun a ha => (up ly 3 h1 (by omega) (Nat.le_refl _) _ _ (Or.inr (Or.inl rfl))).trans (k2 a ha), fun a ha => (up ly 3 h1 (by omega) (Nat.le_refl _) _ _ (Or.inr (Or.inr rfl))).trans (k3 a ha)⟩
theorem eN_cg {c d : Nat → Option Nat} {a : Nat} (h : ∀ q, q < 256 → c q = d q) : eN c a = eN d a := fb_ct_cong (fun q hq => by rw [h q hq])
theorem JI_begin {n : Nat} {Z : jZ} {D : jD} (hI : JI n Z D) (hin : D 0 7 = bI false) {rn tn0 w : Nat} (hrn : D 0 4 = nI rn) (hr6 : rn ≤ 6) (hw : w ≤ 5) (ht : D 0 6 = nI tn0) (ht4 : tn0 < 40) : JI (n + 1) Z (fiU (cpU (cpU (ja_up (ja_up (wcU (rsU (ja_up (ja_up D 0 7 (nI 1)) 0 8 (nI w)) rn) 3) 100 0 (nI 0)) 100 2 (nI w)) 108 105 768) 109 106 30) 110 6 0) := by
  obtain ⟨a1, a2, a3, a4, ⟨cc, b1, ⟨wv, b2⟩, tn, hs, b3, b4⟩, a5, a6, a7, a8⟩ := hI
  obtain ⟨t1, t2, t3, t4, t5⟩ := id b3
  have htn : tn = tn0 := nI_j (by omega) (by omega) (t2.symm.trans ht)
  obtain ⟨i1, i2, i3⟩ : D 0 7 = bI false ∧ D 100 2 = -1 ∧ ∀ ly, ly < 3 → ∀ q, q < 256 → cc ly q = hs tn ly q := by
    rcases b4 with h | ⟨h, -⟩
    · exact h
    · exact absurd (h.symm.trans hin) (by decide)
  generalize hD1 : wcU (rsU (ja_up (ja_up D 0 7 (nI 1)) 0 8 (nI w)) rn) 3 = D1
  have f1 : ∀ i j, ¬ ((i = 0 ∧ (j = 7 ∨ j = 8)) ∨ (60 ≤ i ∧ i < 70 ∧ j = 3) ∨ i = 35 ∨ i = 45 ∨ i = 55) → D1 i j = D i j := fun i j h => by
    rw [← hD1, wcU_o (by omega) (by omega), rsU_o (by omega) hr6, up_n (by omega), up_n (by omega)]
  have f7 : D1 0 7 = bI true := by rw [← hD1, wcU_o (by omega) (by omega), rsU_o (by omega) hr6, up_n (by omega), up_s]; rfl
  have f8 : D1 0 8 = nI w := by rw [← hD1, wcU_o (by omega) (by omega), rsU_o (by omega) hr6, up_s]
  have f35 : ∀ ly, ly < 3 → ∀ a, a < 10 → D1 (35 + 10 * ly) a = D (33 + 10 * ly) a := fun ly hl a ha => by
    rw [← hD1, wcU_i hl ha, rsU_o (by omega) hr6, up_n (by omega), up_n (by omega)]
  have f60 : ∀ r, r < rn → D1 (60 + r) 3 = 0 := fun r hr => by rw [← hD1, wcU_o (by omega) (by omega), rsU_i hr]
  clear hD1
  generalize hD2 : fiU (cpU (cpU (ja_up (ja_up D1 100 0 (nI 0)) 100 2 (nI w)) 108 105 768) 109 106 30) 110 6 0 = D2
  have g1 : ∀ i j, ¬ ((i = 100 ∧ (j = 0 ∨ j = 2)) ∨ i = 108 ∨ i = 109 ∨ i = 110) → D2 i j = D1 i j := fun i j h => by
    rw [← hD2, fiU, if_neg (by omega), cpU, if_neg (by omega), cpU, if_neg (by omega), up_n (by omega), up_n (by omega)]
  have g2 : D2 100 2 = nI w := by rw [← hD2, fiU, if_neg (by omega), cpU, if_neg (by omega), cpU, if_neg (by omega), up_s]
  have g8 : ∀ k, k < 768 → D2 108 k = D1 105 k := fun k hk => by rw [← hD2, fiU, if_neg (by omega), cpU, if_neg (by omega), cpU, if_pos ⟨rfl, hk⟩, up_n (by omega), up_n (by omega)]
  have g9 : ∀ k, k < 30 → D2 109 k = D1 106 k := fun k hk => by rw [← hD2, fiU, if_neg (by omega), cpU, if_pos ⟨rfl, hk⟩, cpU, if_neg (by omega), up_n (by omega), up_n (by omega)]
  have g0 : ∀ k, k < 6 → D2 110 k = 0 := fun k hk => by rw [← hD2, fiU, if_pos ⟨rfl, hk⟩]
  clear hD2
  have e : ∀ i j, ¬ ((i = 0 ∧ (j = 7 ∨ j = 8)) ∨ (60 ≤ i ∧ i < 70 ∧ j = 3) ∨ i = 35 ∨ i = 45 ∨ i = 55 ∨ (i = 100 ∧ (j = 0 ∨ j = 2)) ∨ i = 108 ∨ i = 109 ∨ i = 110) → D2 i j = D i j := fun i j h => by
    rw [g1 i j (by omega), f1 i j (by omega)]
  refine ⟨a1, a2, a3, JT_d (fun j => e 12 j (by omega)) a4, ⟨cc, JA_d (fun i j hd => e i j (by unfold dJA at hd; omega)) b1, ⟨wv, JB_d (fun i j hd => e i j (by unfold dJB at hd; omega)) b2⟩, tn, hs, JH_d (fun i j hd => e i j (by unfold dJH at hd; omega)) b3, Or.inr ⟨?_, by omega, ⟨w, hw, ?_, g2⟩, fun ly hl q hq => ?_, wv, fun ly hl => ⟨fun a ha => ⟨?_, ?_, fun h => ?_⟩, ?_⟩⟩⟩, JL_d (fun i j hd => e i j (by unfold dJL at hd; omega)) a5, JV_d (fun i j hd => e i j (by unfold dJV at hd; omega)) a6, ?_, JW_d (fun i j hd => e i j (by unfold dJW at hd; omega)) rfl (fun _ _ h => h) a8⟩
  · rw [g1 0 7 (by omega)]; exact f7
  · rw [g1 0 8 (by omega)]; exact f8
  · rw [g8 _ (by omega), f1 105 _ (by omega), ((b1 ly hl).2.1 q hq).2, i3 ly hl q hq]
  · rw [g1 _ _ (by omega), f35 ly hl a ha]; exact ((b2 ly hl).1 a ha).1
  · rw [g9 _ (by omega), f1 106 _ (by omega)]; exact ((b2 ly hl).1 a ha).2.1
  · refine ((b2 ly hl).1 a ha).2.2 ?_
    rw [← h]
    exact eN_cg (fun q hq => i3 ly hl q hq)
  · have := (b2 ly hl).2; omega
  · obtain ⟨rn2, fl, sl, sg, u1, u2, u3, u4, u5, u6, u7⟩ := a7
    have er : rn2 = rn := nI_j (by omega) (by omega) (u3.symm.trans hrn)
    subst er
    refine ⟨rn2, fl, sl, fun _ => false, u1, u2, by rw [e 0 4 (by omega)]; exact u3, by rw [e 100 12 (by omega)]; exact u4, fun r hr => ?_, fun r hr => g0 r hr, fun r h1 h2 => ⟨rfl, (u7 r h1 h2).2⟩⟩
    obtain ⟨v1, v2, v3, v4, v5, v6⟩ := u5 r hr
    rw [e (60 + r) 0 (by omega), e 114 _ (by omega), e 115 _ (by omega), e 116 _ (by omega), g1 _ _ (by omega), f60 r hr]
    exact ⟨v1, v2, v3, v4, v5, rfl⟩
theorem JI_keep {n : Nat} {Z : jZ} {D : jD} (hI : JI n Z D) (hin : D 0 7 = bI true) {tn0 w0 : Nat} (ht : D 0 6 = nI tn0) (ht4 : tn0 < 40) (hw0 : D 0 8 = nI w0) : JI (n + 1) Z (ja_up (cpO (ja_up (ja_up (ja_up (ja_up (kpU (ja_up (ja_up D 0 6 (nI (tn0 + 1))) 4 (tn0 + 1) (nI w0)) (tn0 + 1) 3) 0 7 0) 100 0 (nI 0)) 100 1 (nI (tn0 + 1))) 112 (tn0 + 1) (nI w0)) 111 (768 * (tn0 + 1)) 105 768) 100 2 (-1)) := by
  obtain ⟨a1, a2, a3, a4, ⟨cc, b1, ⟨wv, b2⟩, tn, hs, b3, b4⟩, a5, a6, a7, a8⟩ := hI
  obtain ⟨t1, t2, t3, t4, t5⟩ := id b3
  have htn : tn = tn0 := nI_j (by omega) (by omega) (t2.symm.trans ht)
  subst htn
  generalize hD1 : ja_up (kpU (ja_up (ja_up D 0 6 (nI (tn + 1))) 4 (tn + 1) (nI w0)) (tn + 1) 3) 0 7 0 = D1
  have f1 : ∀ i j, ¬ ((i = 0 ∧ (j = 6 ∨ j = 7)) ∨ (i = 4 ∧ j = tn + 1) ∨ i = 36 ∨ i = 46 ∨ i = 56) → D1 i j = D i j := fun i j h => by
    rw [← hD1, up_n (by omega), kpU_o (by omega) (by omega), up_n (by omega), up_n (by omega)]
  have f7 : D1 0 7 = bI false := by rw [← hD1, up_s]; rfl
  have f6 : D1 0 6 = nI (tn + 1) := by rw [← hD1, up_n (by omega), kpU_o (by omega) (by omega), up_n (by omega), up_s]
  have f4 : D1 4 (tn + 1) = nI w0 := by rw [← hD1, up_n (by omega), kpU_o (by omega) (by omega), up_s]
  have f36 : ∀ ly, ly < 3 → ∀ q, q < 256 → D1 (36 + 10 * ly) ((tn + 1) * 256 + q) = D (31 + 10 * ly) q := fun ly hl q hq => by
    rw [← hD1, up_n (by omega), kpU_i hl hq, up_n (by omega), up_n (by omega)]
  have f36o : ∀ ly, ly < 3 → ∀ t, t ≤ tn → ∀ q, q < 256 → D1 (36 + 10 * ly) (t * 256 + q) = D (36 + 10 * ly) (t * 256 + q) := fun ly hl t ht q hq => by
    rw [← hD1, up_n (by omega), kpU_j hl (by omega), up_n (by omega), up_n (by omega)]
  clear hD1
  generalize hD2 : ja_up (cpO (ja_up (ja_up (ja_up D1 100 0 (nI 0)) 100 1 (nI (tn + 1))) 112 (tn + 1) (nI w0)) 111 (768 * (tn + 1)) 105 768) 100 2 (-1) = D2
  have g1 : ∀ i j, ¬ ((i = 100 ∧ (j = 0 ∨ j = 1 ∨ j = 2)) ∨ (i = 112 ∧ j = tn + 1) ∨ i = 111) → D2 i j = D1 i j := fun i j h => by
    rw [← hD2, up_n (by omega), cpO, if_neg (by omega), up_n (by omega), up_n (by omega), up_n (by omega)]
  have g2 : D2 100 2 = -1 := by rw [← hD2, up_s]
  have g01 : D2 100 1 = nI (tn + 1) := by rw [← hD2, up_n (by omega), cpO, if_neg (by omega), up_n (by omega), up_s]
  have g12 : D2 112 (tn + 1) = nI w0 := by rw [← hD2, up_n (by omega), cpO, if_neg (by omega), up_s]
  have g11 : ∀ k, k < 768 → D2 111 (768 * (tn + 1) + k) = D1 105 k := fun k hk => by
    rw [← hD2, up_n (by omega), cpO, if_pos ⟨rfl, by omega, by omega⟩, up_n (by omega), up_n (by omega), up_n (by omega)]
    rw [show 768 * (tn + 1) + k - 768 * (tn + 1) = k by omega]
  have g11o : ∀ k, k < 768 * (tn + 1) → D2 111 k = D1 111 k := fun k hk => by
    rw [← hD2, up_n (by omega), cpO, if_neg (by omega), up_n (by omega), up_n (by omega), up_n (by omega)]
  clear hD2
  have e : ∀ i j, ¬ ((i = 0 ∧ (j = 6 ∨ j = 7)) ∨ (i = 4 ∧ j = tn + 1) ∨ i = 36 ∨ i = 46 ∨ i = 56 ∨ (i = 100 ∧ (j = 0 ∨ j = 1 ∨ j = 2)) ∨ (i = 112 ∧ j = tn + 1) ∨ i = 111) → D2 i j = D i j := fun i j h => by
    rw [g1 i j (by omega), f1 i j (by omega)]
  have b1' := JA_d (E := D2) (fun i j hd => e i j (by unfold dJA at hd; omega)) b1
  refine ⟨a1, a2, a3, JT_d (fun j => e 12 j (by omega)) a4, ⟨cc, b1', ⟨wv, JB_d (fun i j hd => e i j (by unfold dJB at hd; omega)) b2⟩, tn + 1, fun t => if t = tn + 1 then cc else hs t, ⟨by omega, by rw [g1 0 6 (by omega)]; exact f6, g01, fun t ht ly hl => ?_, fun t h0 ht => ?_⟩, Or.inl ⟨by rw [g1 0 7 (by omega)]; exact f7, g2, fun ly hl q hq => by simp⟩⟩, JL_d (fun i j hd => e i j (by unfold dJL at hd; omega)) a5, JV_d (fun i j hd => e i j (by unfold dJV at hd; omega)) a6, JR_d (fun i j hd => e i j (by unfold dJR at hd; omega)) rfl (fun _ _ _ h => h) a7, JW_d (fun i j hd => e i j (by unfold dJW at hd; omega)) rfl (fun _ _ h => h) a8⟩
  · by_cases h : t = tn + 1
    · subst h
      simp only [if_true]
      refine ⟨(b1 ly hl).1, fun q hq => ⟨?_, ?_⟩⟩
      · rw [g1 _ _ (by omega), f36 ly hl q hq]; exact ((b1 ly hl).2.1 q hq).1
      · rw [show 768 * (tn + 1) + 256 * ly + q = 768 * (tn + 1) + (256 * ly + q) by omega, g11 _ (by omega), f1 105 _ (by omega)]; exact ((b1 ly hl).2.1 q hq).2
    · simp only [if_neg h]
      refine ⟨(t4 t (by omega) ly hl).1, fun q hq => ⟨?_, ?_⟩⟩
      · rw [g1 _ _ (by omega), f36o ly hl t (by omega) q hq]; exact ((t4 t (by omega) ly hl).2 q hq).1
      · rw [g11o _ (by omega), f1 111 _ (by omega)]; exact ((t4 t (by omega) ly hl).2 q hq).2
  · by_cases h : t = tn + 1
    · subst h
      rw [g1 4 _ (by omega), f4, g12]
    · rw [e 4 t (by omega), e 112 t (by omega)]
      exact t5 t h0 (by omega)
theorem JI_drop {n : Nat} {Z : jZ} {D : jD} {cc : Nat → Nat → Option Nat} {hs : Nat → Nat → Nat → Option Nat} {tn : Nat} (hI : JI n Z D) (b1 : JA D cc) (b3 : JH D tn hs) (b4 : JS n D cc tn hs) (hin : D 0 7 = bI true) : JI (n + 1) Z (ja_up (cpU (cpU (ja_up (ja_up (drU D cc (hs tn) 3) 0 7 0) 100 0 (nI 0)) 105 108 768) 106 109 30) 100 2 (-1)) := by
  obtain ⟨a1, a2, a3, a4, -, a5, a6, a7, a8⟩ := hI
  obtain ⟨t1, t2, t3, t4, t5⟩ := id b3
  obtain ⟨i6, ow, i7⟩ : (∀ ly, ly < 3 → ∀ q, q < 256 → D 108 (256 * ly + q) = oI (hs tn ly q)) ∧ ∃ ow : Nat → Nat → Nat, ∀ ly, ly < 3 → (∀ a, a < 10 → D (35 + 10 * ly) a = nI (ow ly a) ∧ D 109 (10 * ly + a) = nI (ow ly a) ∧ (eN (hs tn ly) a = 0 → ow ly a = 0)) ∧ fb_sm (ow ly) 10 ≤ 9999 * n := by
    rcases b4 with ⟨h, -⟩ | ⟨-, -, -, h⟩
    · exact absurd (h.symm.trans hin) (by decide)
    · exact h
  generalize hD1 : ja_up (drU D cc (hs tn) 3) 0 7 0 = D1
  have f1 : ∀ i j, ¬ ((i = 0 ∧ j = 7) ∨ (31 ≤ i ∧ i ≤ 33) ∨ (41 ≤ i ∧ i ≤ 43) ∨ (51 ≤ i ∧ i ≤ 53)) → D1 i j = D i j := fun i j h => by
    rw [← hD1, up_n (by omega), drU_o (fun m hm => by omega)]
  have f7 : D1 0 7 = bI false := by rw [← hD1, up_s]; rfl
  have f31 : ∀ ly, ly < 3 → (∀ q, q < 256 → D1 (31 + 10 * ly) q = oI (hs tn ly q)) ∧ (∀ a, a < 10 → D1 (32 + 10 * ly) a = nI (eN (hs tn ly) a)) ∧ ∀ a, a < 10 → D1 (33 + 10 * ly) a = D (35 + 10 * ly) a := fun ly hl => by
    obtain ⟨k1, k2, k3⟩ := drU_1 (D := D) (c := cc) (h := hs tn) hl
    refine ⟨fun q hq => ?_, fun a ha => ?_, fun a ha => ?_⟩
    · rw [← hD1, up_n (by omega)]; exact k1 q hq
    · rw [← hD1, up_n (by omega)]; exact k2 a ha
    · rw [← hD1, up_n (by omega)]; exact k3 a ha
  clear hD1
  generalize hD2 : ja_up (cpU (cpU (ja_up D1 100 0 (nI 0)) 105 108 768) 106 109 30) 100 2 (-1) = D2
  have g1 : ∀ i j, ¬ ((i = 100 ∧ (j = 0 ∨ j = 2)) ∨ i = 105 ∨ i = 106) → D2 i j = D1 i j := fun i j h => by
    rw [← hD2, up_n (by omega), cpU, if_neg (by omega), cpU, if_neg (by omega), up_n (by omega)]
  have g2 : D2 100 2 = -1 := by rw [← hD2, up_s]
  have g5 : ∀ k, k < 768 → D2 105 k = D1 108 k := fun k hk => by rw [← hD2, up_n (by omega), cpU, if_neg (by omega), cpU, if_pos ⟨rfl, hk⟩, up_n (by omega)]
  have g6 : ∀ k, k < 30 → D2 106 k = D1 109 k := fun k hk => by rw [← hD2, up_n (by omega), cpU, if_pos ⟨rfl, hk⟩, cpU, if_neg (by omega), up_n (by omega)]
  clear hD2
  have e : ∀ i j, ¬ ((i = 0 ∧ j = 7) ∨ (31 ≤ i ∧ i ≤ 33) ∨ (41 ≤ i ∧ i ≤ 43) ∨ (51 ≤ i ∧ i ≤ 53) ∨ (i = 100 ∧ (j = 0 ∨ j = 2)) ∨ i = 105 ∨ i = 106) → D2 i j = D i j := fun i j h => by
    rw [g1 i j (by omega), f1 i j (by omega)]
  refine ⟨a1, a2, a3, JT_d (fun j => e 12 j (by omega)) a4, ⟨hs tn, fun ly hl => ⟨(t4 tn (Nat.le_refl _) ly hl).1, fun q hq => ⟨?_, ?_⟩, fun a ha => ?_⟩, ⟨ow, fun ly hl => ⟨fun a ha => ⟨?_, ?_, ((i7 ly hl).1 a ha).2.2⟩, ?_⟩⟩, tn, hs, JH_d (fun i j hd => e i j (by unfold dJH at hd; omega)) b3, Or.inl ⟨by rw [g1 0 7 (by omega)]; exact f7, g2, fun _ _ _ _ => rfl⟩⟩, JL_d (fun i j hd => e i j (by unfold dJL at hd; omega)) a5, JV_d (fun i j hd => e i j (by unfold dJV at hd; omega)) a6, JR_d (fun i j hd => e i j (by unfold dJR at hd; omega)) rfl (fun _ _ _ h => h) a7, JW_d (fun i j hd => e i j (by unfold dJW at hd; omega)) rfl (fun _ _ h => h) a8⟩
  · rw [g1 _ _ (by omega)]; exact (f31 ly hl).1 q hq
  · rw [g5 _ (by omega), f1 108 _ (by omega)]; exact i6 ly hl q hq
  · rw [g1 _ _ (by omega)]; exact (f31 ly hl).2.1 a ha
  · rw [g1 _ _ (by omega), (f31 ly hl).2.2 a ha]; exact ((i7 ly hl).1 a ha).1
  · rw [g6 _ (by omega), f1 109 _ (by omega)]; exact ((i7 ly hl).1 a ha).2.1
  · have := (i7 ly hl).2; omega
/-- squares counted layer by layer -/
theorem ct_add (p : Nat → Bool) (m : Nat) : ∀ n, fb_ct p (m + n) = fb_ct p m + fb_ct (fun q => p (m + q)) n
  | 0 => rfl
  | n + 1 => by
    have := ct_add p m n
    rw [show m + (n + 1) = (m + n) + 1 by omega, fb_ct_succ, fb_ct_succ, this]
    omega
theorem ct_768 (p : Nat → Bool) : fb_ct p 768 = fb_sm (fun ly => fb_ct (fun q => p (256 * ly + q)) 256) 3 := by
  have e1 := ct_add p 512 256
  have e2 := ct_add p 256 256
  rw [show fb_ct p 768 = fb_ct p (512 + 256) from rfl, e1, show fb_ct p 512 = fb_ct p (256 + 256) from rfl, e2]
  simp [fb_sm]
theorem j_begin (l : Launch) : ∀ (p0 : Int32), ja_JC l JI mL_begin mX8_begin [.int p0] 200 ty_i eqv_i := by
  intro p0 n Z D hn hI
  show ja_JP l mL_begin mX8_begin [.int p0] 200 ty_i eqv_i n Z D
  obtain ⟨a1, a2, a3, a4, ⟨cc, b1, ⟨wv, b2⟩, tn, hs, b3, b4⟩, a5, a6, a7, a8⟩ := id hI
  obtain ⟨rn, fl, sl, sg, u1, u2, u3, u4, u5, u6, u7⟩ := id a7
  obtain ⟨t1, t2, t3, t4, t5⟩ := id b3
  by_cases g0 : nI 0 ≤ p0 ∧ p0 ≤ nI 5
  rotate_left
  · refine j_F hI (c := 1) (s := 6) (k := 1) (by decide) (by decide) (w_begin l (c_begin_f1 (D := D) l a2 g0) a1.1 (fun _ _ _ h => h.elim) (fun E Z1 D1 h => by rw [h.1]; decide)) (fun E Z1 D1 h => ⟨h.1, h.2.1, by rw [h.2.2]; exact frs_r _⟩) (by decide) (by decide) (fun D1 hf hI1 => ?_)
    exact ⟨_, _, r_begin_f1 l a3 g0, ⟨_, rfl⟩, fun D2 h => by subst h; exact ⟨up_s, frs_0 _ _⟩⟩
  obtain ⟨w, hw, rfl⟩ := nI_rng (by decide) g0
  rcases id b4 with ⟨i1, i2, i3⟩ | ⟨i1, i2, ⟨w0, i3, i4, i5⟩, i6⟩
  rotate_left
  · refine j_F hI (c := 1) (s := 6) (k := 2) (by decide) (by decide) (w_begin l (c_begin_f2 (D := D) l a2 i1 hw) a1.1 (fun _ _ _ h => h.elim) (fun E Z1 D1 h => by rw [h.1]; decide)) (fun E Z1 D1 h => ⟨h.1, h.2.1, by rw [h.2.2]; exact frs_r _⟩) (by decide) (by decide) (fun D1 hf hI1 => ?_)
    exact ⟨_, _, r_begin_f2 l a3 ((hf.1 100 2 (by unfold scr; omega)).trans i5) i3 hw, ⟨_, rfl⟩, fun D2 h => by subst h; exact ⟨up_s, frs_0 _ _⟩⟩
  by_cases g4 : tn = 40
  · subst g4
    refine j_F hI (c := 1) (s := 6) (k := 2) (by decide) (by decide) (w_begin l (c_begin_f2b (D := D) l a2 i1 t2 hw) a1.1 (fun _ _ _ h => h.elim) (fun E Z1 D1 h => by rw [h.1]; decide)) (fun E Z1 D1 h => ⟨h.1, h.2.1, by rw [h.2.2]; exact frs_r _⟩) (by decide) (by decide) (fun D1 hf hI1 => ?_)
    exact ⟨_, _, r_begin_f2b l a3 ((hf.1 100 2 (by unfold scr; omega)).trans i2) ((hf.1 100 1 (by unfold scr; omega)).trans t3) hw, ⟨_, rfl⟩, fun D2 h => by subst h; exact ⟨up_s, frs_0 _ _⟩⟩
  have g5 : tn < 40 := by omega
  have fo : ∀ i j, ¬ ((i = 0 ∧ (j = 7 ∨ j = 8)) ∨ (60 ≤ i ∧ i < 70 ∧ j = 3) ∨ i = 35 ∨ i = 45 ∨ i = 55) → wcU (rsU (ja_up (ja_up D 0 7 (nI 1)) 0 8 (nI w)) rn) 3 i j = D i j := fun i j h => by
    rw [wcU_o (by omega) (by omega), rsU_o (by omega) u1, up_n (by omega), up_n (by omega)]
  refine j_G (c := 0) (s := 0) (by decide) (by decide) (w_begin l (c_begin_ok (D := D) l a2 u2 u1 u3 i1 t2 g5 hw) a1.1 (fun v Z1 D1 h => ⟨by rw [h.2.1]; exact a1.2.2.1, _, h.1⟩) (fun _ _ _ h => h.elim)) (fun b8 Z1 D1 h => ?_)
  obtain ⟨hb, rfl, hd⟩ := h
  cases hb
  subst hd
  refine ⟨a1, _, _, r_begin_ok l (zM_u a3) ((fo 100 2 (by omega)).trans i2) ((fo 100 1 (by omega)).trans t3) g5 hw, ⟨_, rfl⟩, eqv_ii rfl, fun D2 h => ?_⟩
  subst h
  exact ⟨by rw [fiU, if_neg (by omega), cpU, if_neg (by omega), cpU, if_neg (by omega), up_n (by omega), up_s], JI_begin hI i1 u3 u1 hw t2 g5⟩
theorem j_keep (l : Launch) : ja_JC l JI mL_keep mX8_keep [] 200 ty_i eqv_i := by
  intro  n Z D hn hI
  show ja_JP l mL_keep mX8_keep [] 200 ty_i eqv_i n Z D
  obtain ⟨a1, a2, a3, a4, ⟨cc, b1, ⟨wv, b2⟩, tn, hs, b3, b4⟩, a5, a6, a7, a8⟩ := id hI
  obtain ⟨rn, fl, sl, sg, u1, u2, u3, u4, u5, u6, u7⟩ := id a7
  obtain ⟨t1, t2, t3, t4, t5⟩ := id b3
  rcases id b4 with ⟨i1, i2, i3⟩ | ⟨i1, i2, ⟨w0, i3, i4, i5⟩, i6⟩
  · refine j_F hI (c := 1) (s := 6) (k := 1) (by decide) (by decide) (w_keep l (c_keep_f1 (D := D) l a2 i1) a1.1 (fun _ _ _ h => h.elim) (fun E Z1 D1 h => by rw [h.1]; decide)) (fun E Z1 D1 h => ⟨h.1, h.2.1, by rw [h.2.2]; exact frs_r _⟩) (by decide) (by decide) (fun D1 hf hI1 => ?_)
    exact ⟨_, _, r_keep_f1 l a3 ((hf.1 100 2 (by unfold scr; omega)).trans i2), ⟨_, rfl⟩, fun D2 h => by subst h; exact ⟨up_s, frs_0 _ _⟩⟩
  have hsg : ∀ k, k < rn → D (60 + k) 3 = bI (sg k) := fun k hk => (u5 k hk).2.2.2.2.2
  have eb : ∀ r, r < rn → brX D fl sl r = brkR D r := fun r hr => by
    obtain ⟨v1, v2, v3, v4, v5, v6⟩ := u5 r hr
    obtain ⟨-, -, -, -, g1, g2⟩ := u2.1 r hr
    exact br_e b1 rfl g1 g2 v1 v2 v4 v5
  by_cases gb : ∃ j, j < rn ∧ sg j = false ∧ 0 < brX D fl sl j
  · obtain ⟨j, j1, j2, j3⟩ := gb
    refine j_F hI (c := 1) (s := 6) (k := 2) (by decide) (by decide) (w_keep l (c_keep_f2 (D := D) l a2 u2 u1 u3 hsg i1 ⟨j, j1, j2, j3⟩) a1.1 (fun _ _ _ h => h.elim) (fun E Z1 D1 h => by rw [h.1]; decide)) (fun E Z1 D1 h => ⟨h.1, h.2.1, by rw [h.2.2]; exact frs_r _⟩) (by decide) (by decide) (fun D1 hf hI1 => ?_)
    exact ⟨_, _, r_keep_f2 l a3 ((hf.1 100 12 (by unfold scr; omega)).trans u4) u1 (wfR_f hf (JR_wf u2 u5)) ((hf.1 100 2 (by unfold scr; omega)).trans i5) i3 (sg := sg) (fun k hk => (hf.1 110 _ (by unfold scr; omega)).trans (u6 k hk)) ⟨j, j1, j2, by rw [brkR_f hf, ← eb j j1]; exact j3⟩, ⟨_, rfl⟩, fun D2 h => by subst h; exact ⟨up_s, frs_0 _ _⟩⟩
  have gg : ∀ j, j < rn → sg j = true ∨ brX D fl sl j = 0 := fun j hj => by
    cases hq : sg j with
    | true => exact Or.inl rfl
    | false => exact Or.inr (Nat.eq_zero_of_not_pos (fun hp => gb ⟨j, hj, hq, hp⟩))
  have fo : ∀ i j, ¬ ((i = 0 ∧ (j = 6 ∨ j = 7)) ∨ (i = 4 ∧ j = tn + 1) ∨ i = 36 ∨ i = 46 ∨ i = 56) → ja_up (kpU (ja_up (ja_up D 0 6 (nI (tn + 1))) 4 (tn + 1) (nI w0)) (tn + 1) 3) 0 7 0 i j = D i j := fun i j h => by
    rw [up_n (by omega), kpU_o (by omega) (by omega), up_n (by omega), up_n (by omega)]
  have fi : ∀ i, ¬ (i = 0 ∨ i = 4 ∨ i = 36 ∨ i = 46 ∨ i = 56) → (ja_up (kpU (ja_up (ja_up D 0 6 (nI (tn + 1))) 4 (tn + 1) (nI w0)) (tn + 1) 3) 0 7 0) i = D i := fun i h => funext fun j => fo i j (by omega)
  refine j_G (c := 0) (s := 0) (by decide) (by decide) (w_keep l (c_keep_ok (D := D) l a2 u2 u1 u3 hsg i1 t2 i2 i4 gg) a1.1 (fun v Z1 D1 h => ⟨by rw [h.2.1]; exact a1.2.2.1, _, h.1⟩) (fun _ _ _ h => h.elim)) (fun b8 Z1 D1 h => ?_)
  obtain ⟨hb, rfl, hd⟩ := h
  cases hb
  subst hd
  refine ⟨a1, _, _, r_keep_ok l (zM_u a3) ((fo 100 12 (by omega)).trans u4) u1 (fun r hr => by rw [fi 114 (by omega), fi 115 (by omega), fi 116 (by omega)]; exact JR_wf u2 u5 r hr) ((fo 100 2 (by omega)).trans i5) i3 ((fo 100 1 (by omega)).trans t3) i2 (sg := sg) (fun k hk => (fo 110 _ (by omega)).trans (u6 k hk)) (fun j hj => by unfold brkR; rw [fi 105 (by omega), fi 114 (by omega), fi 115 (by omega), fi 116 (by omega)]; have h9 := gg j hj; rw [eb j hj] at h9; exact h9), ⟨_, rfl⟩, eqv_ii rfl, fun D2 h => ?_⟩
  subst h
  exact ⟨by rw [up_n (by omega), cpO, if_neg (by omega), up_n (by omega), up_n (by omega), up_s], JI_keep hI i1 t2 i2 i4⟩
theorem j_drop (l : Launch) : ja_JC l JI mL_drop mX8_drop [] 200 ty_i eqv_i := by
  intro  n Z D hn hI
  show ja_JP l mL_drop mX8_drop [] 200 ty_i eqv_i n Z D
  obtain ⟨a1, a2, a3, a4, ⟨cc, b1, ⟨wv, b2⟩, tn, hs, b3, b4⟩, a5, a6, a7, a8⟩ := id hI
  obtain ⟨t1, t2, t3, t4, t5⟩ := id b3
  rcases id b4 with ⟨i1, i2, i3⟩ | ⟨i1, i2, ⟨w0, i3, i4, i5⟩, i6, -⟩
  · refine j_F hI (c := 1) (s := 6) (k := 1) (by decide) (by decide) (w_drop l (c_drop_f1 (D := D) l a2 i1) a1.1 (fun _ _ _ h => h.elim) (fun E Z1 D1 h => by rw [h.1]; decide)) (fun E Z1 D1 h => ⟨h.1, h.2.1, by rw [h.2.2]; exact frs_r _⟩) (by decide) (by decide) (fun D1 hf hI1 => ?_)
    exact ⟨_, _, r_drop_f1 l a3 ((hf.1 100 2 (by unfold scr; omega)).trans i2), ⟨_, rfl⟩, fun D2 h => by subst h; exact ⟨up_s, frs_0 _ _⟩⟩
  have fo : ∀ i j, ¬ ((i = 0 ∧ j = 7) ∨ (31 ≤ i ∧ i ≤ 33) ∨ (41 ≤ i ∧ i ≤ 43) ∨ (51 ≤ i ∧ i ≤ 53)) → ja_up (drU D cc (hs tn) 3) 0 7 0 i j = D i j := fun i j h => by
    rw [up_n (by omega), drU_o (fun m hm => by omega)]
  have ec : fb_sm (fun ly => fb_ct (fun q => decide (¬ cc ly q = hs tn ly q)) 256) 3 = fb_ct (fun k => decide (¬ ja_up (drU D cc (hs tn) 3) 0 7 0 105 k = ja_up (drU D cc (hs tn) 3) 0 7 0 108 k)) 768 := by
    rw [ct_768]
    refine fb_sm_cong (fun ly hl => fb_ct_cong (fun q hq => ?_))
    rw [fo 105 _ (by omega), fo 108 _ (by omega), ((b1 ly hl).2.1 q hq).2, i6 ly hl q hq, decide_eq_decide]
    exact (not_congr (oI_e ((b1 ly hl).1 q) ((t4 tn (Nat.le_refl _) ly hl).1 q))).symm
  refine j_G (c := 0) (s := 0) (by decide) (by decide) (w_drop l (c_drop_ok (D := D) l a2 i1 t2 t1 (c := cc) (h := hs tn) (fun ly hl => (b1 ly hl).1) (fun ly hl => (t4 tn (Nat.le_refl _) ly hl).1) (fun ly hl q hq => ((b1 ly hl).2.1 q hq).1) (fun ly hl => (b1 ly hl).2.2) (fun ly hl q hq => ((t4 tn (Nat.le_refl _) ly hl).2 q hq).1)) a1.1 (fun v Z1 D1 h => ⟨by rw [h.2.1]; exact a1.2.2.1, _, h.1⟩) (fun _ _ _ h => h.elim)) (fun b8 Z1 D1 h => ?_)
  obtain ⟨hb, rfl, hd⟩ := h
  cases hb
  subst hd
  refine ⟨a1, _, _, r_drop_ok l (zM_u a3) ((fo 100 2 (by omega)).trans i5) i3, ⟨_, rfl⟩, eqv_ii (congrArg nI ec), fun D2 h => ?_⟩
  subst h
  exact ⟨by rw [up_n (by omega), cpU, if_neg (by omega), cpU, if_neg (by omega), up_s], JI_drop hI b1 b3 b4 i1⟩
