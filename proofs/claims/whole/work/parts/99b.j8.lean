/-! JOINT THEOREMS, 8: addRule, checkOut (by wip/whole/x58.py) -/
theorem zM_cg {Z Y : jZ} (h1 : ∀ a, 100 ≤ a → Y.2.1 a = Z.2.1 a) (h2 : ∀ b, Y.2.2.1 100 b = Z.2.2.1 100 b) (h : zM Z) : zM Y := by
  unfold zM at h ⊢
  simp only [h2]
  simp only [h1 100 (by decide), h1 104 (by decide), h1 105 (by decide), h1 106 (by decide), h1 107 (by decide), h1 108 (by decide), h1 109 (by decide), h1 110 (by decide), h1 111 (by decide), h1 112 (by decide), h1 114 (by decide), h1 115 (by decide), h1 116 (by decide), h1 118 (by decide), h1 119 (by decide), h1 120 (by decide), h1 121 (by decide), h1 122 (by decide), h1 123 (by decide), h1 124 (by decide), h1 125 (by decide), h1 126 (by decide), h1 127 (by decide), h1 128 (by decide)]
  exact h
theorem SH_cg {Z Y : jZ} (h1 : ∀ a, a < 60 ∨ 100 ≤ a → Y.2.1 a = Z.2.1 a) (h : ja_SH Z) : ja_SH Y := by
  unfold ja_SH at h ⊢
  rw [h1 0 (by omega), h1 100 (by omega), h1 200 (by omega), h1 201 (by omega)]
  exact h
/-- a rule more -/
theorem JI_rule {n : Nat} {Z : jZ} {D : jD} (hI : JI n Z D) {rn : Nat} {fl sl : Nat → Nat} {sg : Nat → Bool} (hr6 : rn < 6) (u2 : zXr Z rn fl sl) (u5 : ∀ r, r < rn → D (60 + r) 0 = D 114 r ∧ (D 114 r = nI 105 ∨ D 114 r = nI 110 ∨ D 114 r = nI 97) ∧ ¬ fl r = sl r ∧ D 115 r = nI (fl r) ∧ D 116 r = nI (sl r) ∧ D (60 + r) 3 = bI (sg r)) (u6 : ∀ r, r < 6 → D 110 r = bI (sg r)) (u7 : ∀ r, rn ≤ r → r < 6 → sg r = false ∧ 60 + r ∉ Z.1)
    {kd : Int32} (hkd : kd = nI 105 ∨ kd = nI 110 ∨ kd = nI 97) {l1 l2 : Nat} (h1 : l1 < 3) (h2 : l2 < 3) (h3 : l1 ≠ l2) :
    let Y := ja_uq (zO4 (ja_zn Z (60 + rn) 4 4) rn (30 + 10 * l1) (30 + 10 * l2)) 2 rn (some (60 + rn))
    ja_SH Y ∧ zM Y ∧ JI (n + 1) Y (ja_up (ja_up (ja_up (ja_up (ja_up (ja_up (dO4 (ja_dn D (60 + rn)) rn kd) 0 4 (nI (rn + 1))) 100 0 (nI 0)) 114 rn kd) 115 rn (nI l1)) 116 rn (nI l2)) 100 12 (nI (rn + 1))) := by
  intro Y
  obtain ⟨a1, a2, a3, a4, ⟨cc, b1, ⟨wv, b2⟩, tn, hs, b3, b4⟩, a5, a6, -, a8⟩ := hI
  have hY1 : Y.1 = Z.1 ++ [60 + rn] := rfl
  have hY2 : ∀ a, Y.2.1 a = if a = 60 + rn then (4, 4) else Z.2.1 a := fun a => rfl
  have hY3 : ∀ a b, Y.2.2.1 a b = if a = 2 ∧ b = rn then some (60 + rn) else if a = 60 + rn ∧ b = 2 then some (30 + 10 * l2) else if a = 60 + rn ∧ b = 1 then some (30 + 10 * l1) else if a = 60 + rn then none else Z.2.2.1 a b := fun a b => rfl
  clear_value Y
  have s1 : ∀ a, ¬ a = 60 + rn → Y.2.1 a = Z.2.1 a := fun a ha => by rw [hY2, if_neg ha]
  have s2 : ∀ a b, ¬ (a = 2 ∧ b = rn) → ¬ a = 60 + rn → Y.2.2.1 a b = Z.2.2.1 a b := fun a b g1 g2 => by rw [hY3, if_neg g1, if_neg (by omega), if_neg (by omega), if_neg g2]
  have hSH : ja_SH Y := SH_cg (fun a ha => s1 a (by omega)) a1
  have hzM : zM Y := zM_cg (fun a ha => s1 a (by omega)) (fun b => s2 100 b (by omega) (by omega)) a3
  have hzX : zX Y := zX_cg (fun a ha => s1 a (by omega)) (fun a b ha g1 g2 => s2 a b (by omega) (by omega)) a2
  refine ⟨hSH, hzM, ?_⟩
  generalize hD2 : ja_up (ja_up (ja_up (ja_up (ja_up (ja_up (dO4 (ja_dn D (60 + rn)) rn kd) 0 4 (nI (rn + 1))) 100 0 (nI 0)) 114 rn kd) 115 rn (nI l1)) 116 rn (nI l2)) 100 12 (nI (rn + 1)) = D2
  have e : ∀ i j, ¬ i = 60 + rn → ¬ (i = 0 ∧ j = 4) → ¬ (i = 100 ∧ (j = 0 ∨ j = 12)) → ¬ ((i = 114 ∨ i = 115 ∨ i = 116) ∧ j = rn) → D2 i j = D i j := fun i j g1 g2 g3 g4 => by
    rw [← hD2, up_n (by omega), up_n (by omega), up_n (by omega), up_n (by omega), up_n (by omega), up_n (by omega), dO4, up_n (by omega), ja_dn, if_neg g1]
  have e4 : D2 0 4 = nI (rn + 1) := by rw [← hD2, up_n (by omega), up_n (by omega), up_n (by omega), up_n (by omega), up_n (by omega), up_s]
  have e12 : D2 100 12 = nI (rn + 1) := by rw [← hD2, up_s]
  have e114 : D2 114 rn = kd := by rw [← hD2, up_n (by omega), up_n (by omega), up_n (by omega), up_s]
  have e115 : D2 115 rn = nI l1 := by rw [← hD2, up_n (by omega), up_n (by omega), up_s]
  have e116 : D2 116 rn = nI l2 := by rw [← hD2, up_n (by omega), up_s]
  have e60 : D2 (60 + rn) 0 = kd := by rw [← hD2, up_n (by omega), up_n (by omega), up_n (by omega), up_n (by omega), up_n (by omega), up_n (by omega), dO4, up_s]
  have e63 : D2 (60 + rn) 3 = 0 := by rw [← hD2, up_n (by omega), up_n (by omega), up_n (by omega), up_n (by omega), up_n (by omega), up_n (by omega), dO4, up_n (by omega), ja_dn, if_pos rfl]
  clear hD2
  refine ⟨hSH, hzX, hzM, JT_d (fun j => e 12 j (by omega) (by omega) (by omega) (by omega)) a4, ⟨cc, JA_d (fun i j hd => by unfold dJA at hd; exact e i j (by omega) (by omega) (by omega) (by omega)) b1, ⟨wv, JB_d (fun i j hd => by unfold dJB at hd; exact e i j (by omega) (by omega) (by omega) (by omega)) b2⟩, tn, hs, JH_d (fun i j hd => by unfold dJH at hd; exact e i j (by omega) (by omega) (by omega) (by omega)) b3, JS_d (fun i j hd => by unfold dJS at hd; exact e i j (by omega) (by omega) (by omega) (by omega)) b4⟩, JL_d (fun i j hd => by unfold dJL at hd; exact e i j (by omega) (by omega) (by omega) (by omega)) a5, JV_d (fun i j hd => by unfold dJV at hd; exact e i j (by omega) (by omega) (by omega) (by omega)) a6, ?_, ?_⟩
  · refine ⟨rn + 1, fun r => if r = rn then l1 else fl r, fun r => if r = rn then l2 else sl r, sg, by omega, ⟨fun r hr => ?_, fun r g1 g2 => ?_⟩, e4, e12, fun r hr => ?_, fun r hr => ?_, fun r g1 g2 => ?_⟩
    · by_cases z : r = rn
      · subst z
        simp only [if_true]
        rw [hY3, hY2, hY3, hY3]
        simp [h1, h2]
        exact ⟨fun hz => by omega, fun hz => by omega⟩
      · simp only [if_neg z]
        obtain ⟨t1, t2, t3, t4, t5, t6⟩ := u2.1 r (by omega)
        rw [s2 2 r (by omega) (by omega), s1 _ (by omega), s2 _ _ (by omega) (by omega), s2 _ _ (by omega) (by omega)]
        exact ⟨t1, t2, t3, t4, t5, t6⟩
    · rw [s2 2 r (by omega) (by omega)]; exact u2.2 r (by omega) g2
    · by_cases z : r = rn
      · subst z
        simp only [if_true]
        rw [e60, e114, e115, e116, e63, (u7 r (Nat.le_refl _) hr6).1]
        exact ⟨rfl, hkd, h3, rfl, rfl, rfl⟩
      · simp only [if_neg z]
        rw [e _ 0 (by omega) (by omega) (by omega) (by omega), e 114 _ (by omega) (by omega) (by omega) (by omega), e 115 _ (by omega) (by omega) (by omega) (by omega), e 116 _ (by omega) (by omega) (by omega) (by omega), e _ 3 (by omega) (by omega) (by omega) (by omega)]
        exact u5 r (by omega)
    · rw [e 110 r (by omega) (by omega) (by omega) (by omega)]; exact u6 r hr
    · obtain ⟨k1, k2⟩ := u7 r (by omega) g2
      refine ⟨k1, fun hm => ?_⟩
      rw [hY1] at hm
      rcases List.mem_append.mp hm with hm | hm
      · exact k2 hm
      · have := List.mem_singleton.mp hm
        omega
  · obtain ⟨vn, vl, vx, vy, vw, vh, cv, y1, ⟨y2, y2b⟩, y3, y4, y5, y6, y7⟩ := a8
    refine ⟨vn, vl, vx, vy, vw, vh, cv, y1, ⟨fun v hv => ?_, fun v g1 g2 => ?_⟩, by rw [e 0 5 (by omega) (by omega) (by omega) (by omega)]; exact y3, by rw [e 100 16 (by omega) (by omega) (by omega) (by omega)]; exact y4, fun v hv => ?_, fun v g1 g2 i hi hm => ?_, fun k hk => ?_⟩
    · rw [s2 3 v (by omega) (by omega), s1 (70 + 4 * v) (by omega), s2 (70 + 4 * v) 0 (by omega) (by omega), s2 (70 + 4 * v) 1 (by omega) (by omega), s1 (71 + 4 * v) (by omega), s2 (70 + 4 * v) 2 (by omega) (by omega), s1 (72 + 4 * v) (by omega), s2 (70 + 4 * v) 3 (by omega) (by omega), s1 (73 + 4 * v) (by omega)]
      exact y2 v hv
    · rw [s2 3 v (by omega) (by omega)]; exact y2b v g1 g2
    · obtain ⟨z1, ⟨x1, x2, x3, x4, x5⟩, z3, z4⟩ := y5 v hv
      refine ⟨?_, ⟨?_, ?_, ?_, ?_, x5⟩, z3, fun q hq => ?_⟩
      · rw [e 118 _ (by omega) (by omega) (by omega) (by omega)]; exact z1
      · rw [e _ _ (by omega) (by omega) (by omega) (by omega)]; exact x1
      · rw [e _ _ (by omega) (by omega) (by omega) (by omega)]; exact x2
      · rw [e _ _ (by omega) (by omega) (by omega) (by omega)]; exact x3
      · rw [e _ _ (by omega) (by omega) (by omega) (by omega)]; exact x4
      · rw [e 119 _ (by omega) (by omega) (by omega) (by omega), e 120 _ (by omega) (by omega) (by omega) (by omega), e 121 _ (by omega) (by omega) (by omega) (by omega), e (73 + 4 * v) _ (by omega) (by omega) (by omega) (by omega), e (71 + 4 * v) _ (by omega) (by omega) (by omega) (by omega)]
        exact z4 q hq
    · rw [hY1] at hm
      rcases List.mem_append.mp hm with hm | hm
      · exact y6 v g1 g2 i hi hm
      · have := List.mem_singleton.mp hm
        omega
    · rw [e 121 _ (by omega) (by omega) (by omega) (by omega)]; exact y7 k hk
/-- a version more -/
theorem JI_co {n : Nat} {Z Y : jZ} {D D1 : jD} {cc : Nat → Nat → Option Nat} {wv : Nat → Nat → Nat} {tn : Nat} {hs : Nat → Nat → Nat → Option Nat} (hI : JI n Z D) (b1 : JA D cc) (b2 : JB n D cc wv) (b3 : JH D tn hs) (b4 : JS n D cc tn hs) {v : Nat} {vl vx vy vw vh : Nat → Nat} {cv : Nat → Nat → Option Nat} (hv3 : v < 3) (y2 : zXv Z v vl)
    (y5 : ∀ k, k < v → D 118 k = nI (vl k) ∧ vbx D k (vx k) (vy k) (vw k) (vh k) ∧ (∀ q a, cv k q = some a → a < 10) ∧ ∀ q, q < 256 → D 119 (256 * k + q) = bI (inB (vx k) (vy k) (vw k) (vh k) q) ∧ D 120 (256 * k + q) = D (73 + 4 * k) q ∧ D 121 (256 * k + q) = D (71 + 4 * k) q ∧ D (71 + 4 * k) q = oI (cv k q)) (y6 : ∀ k, v ≤ k → k < 3 → ∀ i, i < 4 → 70 + 4 * k + i ∉ Z.1) (y7 : wfV D)
    {ly x y w h : Nat} (h1 : ly < 3) (hw1 : 1 ≤ w) (hw2 : x + w ≤ 16) (hh1 : 1 ≤ h) (hh2 : y + h ≤ 16)
    (hL : ∀ i, i ∈ Y.1 → i ∈ Z.1 ∨ (70 + 4 * v ≤ i ∧ i < 74 + 4 * v)) (s1 : ∀ a, ¬ (70 + 4 * v ≤ a ∧ a < 74 + 4 * v) → Y.2.1 a = Z.2.1 a) (s2 : ∀ a b, ¬ (a = 3 ∧ b = v) → ¬ (70 + 4 * v ≤ a ∧ a < 74 + 4 * v) → Y.2.2.1 a b = Z.2.2.1 a b)
    (hN : Y.2.2.1 3 v = some (70 + 4 * v) ∧ Y.2.1 (70 + 4 * v) = (6, 8) ∧ Y.2.2.1 (70 + 4 * v) 0 = some (30 + 10 * ly) ∧ Y.2.2.1 (70 + 4 * v) 1 = some (71 + 4 * v) ∧ Y.2.1 (71 + 4 * v) = (10, 256) ∧ Y.2.2.1 (70 + 4 * v) 2 = some (72 + 4 * v) ∧ Y.2.1 (72 + 4 * v) = (10, 256) ∧ Y.2.2.1 (70 + 4 * v) 3 = some (73 + 4 * v) ∧ Y.2.1 (73 + 4 * v) = (10, 256))
    (d1 : ∀ i j, ¬ (70 + 4 * v ≤ i ∧ i < 74 + 4 * v) → ¬ (i = 0 ∧ j = 5) → D1 i j = D i j) (d5 : D1 0 5 = nI (v + 1)) (dB : D1 (70 + 4 * v) 4 = nI x ∧ D1 (70 + 4 * v) 5 = nI y ∧ D1 (70 + 4 * v) 6 = nI (x + w) ∧ D1 (70 + 4 * v) 7 = nI (y + h)) (dQ : ∀ q, q < 256 → D1 (71 + 4 * v) q = D (31 + 10 * ly) q ∧ D1 (73 + 4 * v) q = D (31 + 10 * ly) q) :
    ja_SH Y ∧ zM Y ∧ JI (n + 1) Y (ja_up (coU (ja_up (ja_up D1 100 0 (nI 0)) 118 v (nI ly)) v ly x y w h 256) 100 16 (nI (v + 1))) := by
  obtain ⟨a1, a2, a3, a4, -, a5, a6, a7, -⟩ := hI
  have hSH : ja_SH Y := SH_cg (fun a ha => s1 a (by omega)) a1
  have hzM : zM Y := zM_cg (fun a ha => s1 a (by omega)) (fun b => s2 100 b (by omega) (by omega)) a3
  have hzX : zX Y := zX_cg (fun a ha => s1 a (by omega)) (fun a b ha g1 g2 => s2 a b (by omega) (by omega)) a2
  refine ⟨hSH, hzM, ?_⟩
  generalize hD2 : ja_up (coU (ja_up (ja_up D1 100 0 (nI 0)) 118 v (nI ly)) v ly x y w h 256) 100 16 (nI (v + 1)) = D2
  have f1 : ∀ i j, ¬ (i = 100 ∧ (j = 0 ∨ j = 16)) → ¬ (118 ≤ i ∧ i ≤ 121) → D2 i j = D1 i j := fun i j g1 g2 => by
    rw [← hD2, up_n (by omega), coU_o (by omega), up_n (by omega), up_n (by omega)]
  have f118 : D2 118 v = nI ly := by rw [← hD2, up_n (by omega), coU_o (by omega), up_s]
  have f118o : ∀ k, ¬ k = v → D2 118 k = D 118 k := fun k hk => by rw [← hD2, up_n (by omega), coU_o (by omega), up_n (by omega), up_n (by omega), d1 118 k (by omega) (by omega)]
  have f16 : D2 100 16 = nI (v + 1) := by rw [← hD2, up_s]
  have f119 : ∀ q, q < 256 → D2 119 (256 * v + q) = bI (inB x y w h q) := fun q hq => by
    rw [← hD2, up_n (by omega), coU, if_pos ⟨by omega, by omega, Or.inl rfl⟩, if_pos rfl, show 256 * v + q - 256 * v = q by omega]
  have f120 : ∀ i, (i = 120 ∨ i = 121) → ∀ q, q < 256 → D2 i (256 * v + q) = D 105 (256 * ly + q) := fun i hi q hq => by
    rw [← hD2, up_n (by omega), coU, if_pos ⟨by omega, by omega, by omega⟩, if_neg (by omega), show 256 * v + q - 256 * v = q by omega, up_n (by omega), up_n (by omega), d1 105 _ (by omega) (by omega)]
  have f120o : ∀ i, (i = 119 ∨ i = 120 ∨ i = 121) → ∀ k, ¬ (256 * v ≤ k ∧ k < 256 * v + 256) → D2 i k = D i k := fun i hi k hk => by
    rw [← hD2, up_n (by omega), coU, if_neg (fun z => hk ⟨z.1, z.2.1⟩), up_n (by omega), up_n (by omega), d1 i k (by omega) (by omega)]
  clear hD2
  have e : ∀ i j, ¬ (i = 100 ∧ (j = 0 ∨ j = 16)) → ¬ (118 ≤ i ∧ i ≤ 121) → ¬ (70 + 4 * v ≤ i ∧ i < 74 + 4 * v) → ¬ (i = 0 ∧ j = 5) → D2 i j = D i j := fun i j g1 g2 g3 g4 => by
    rw [f1 i j g1 g2, d1 i j g3 g4]
  obtain ⟨w1, w2, w3⟩ := b1 ly h1
  refine ⟨hSH, hzX, hzM, JT_d (fun j => e 12 j (by omega) (by omega) (by omega) (by omega)) a4, ⟨cc, JA_d (fun i j hd => by unfold dJA at hd; exact e i j (by omega) (by omega) (by omega) (by omega)) b1, ⟨wv, JB_d (fun i j hd => by unfold dJB at hd; exact e i j (by omega) (by omega) (by omega) (by omega)) b2⟩, tn, hs, JH_d (fun i j hd => by unfold dJH at hd; exact e i j (by omega) (by omega) (by omega) (by omega)) b3, JS_d (fun i j hd => by unfold dJS at hd; exact e i j (by omega) (by omega) (by omega) (by omega)) b4⟩, JL_d (fun i j hd => by unfold dJL at hd; exact e i j (by omega) (by omega) (by omega) (by omega)) a5, JV_d (fun i j hd => by unfold dJV at hd; exact e i j (by omega) (by omega) (by omega) (by omega)) a6, ?_, ?_⟩
  · obtain ⟨rn, fl, sl, sg, u1, ⟨u2, u2b⟩, u3, u4, u5, u6, u7⟩ := a7
    refine ⟨rn, fl, sl, sg, u1, ⟨fun r hr => ?_, fun r g1 g2 => ?_⟩, by rw [e 0 4 (by omega) (by omega) (by omega) (by omega)]; exact u3, by rw [e 100 12 (by omega) (by omega) (by omega) (by omega)]; exact u4, fun r hr => ?_, fun r hr => by rw [e 110 r (by omega) (by omega) (by omega) (by omega)]; exact u6 r hr, fun r g1 g2 => ⟨(u7 r g1 g2).1, fun hm => ?_⟩⟩
    · rw [s2 2 r (by omega) (by omega), s1 _ (by omega), s2 _ _ (by omega) (by omega), s2 _ _ (by omega) (by omega)]
      exact u2 r hr
    · rw [s2 2 r (by omega) (by omega)]; exact u2b r g1 g2
    · rw [e _ 0 (by omega) (by omega) (by omega) (by omega), e 114 _ (by omega) (by omega) (by omega) (by omega), e 115 _ (by omega) (by omega) (by omega) (by omega), e 116 _ (by omega) (by omega) (by omega) (by omega), e _ 3 (by omega) (by omega) (by omega) (by omega)]
      exact u5 r hr
    · rcases hL _ hm with hm | hm
      · exact (u7 r g1 g2).2 hm
      · omega
  · refine ⟨v + 1, fun k => if k = v then ly else vl k, fun k => if k = v then x else vx k, fun k => if k = v then y else vy k, fun k => if k = v then w else vw k, fun k => if k = v then h else vh k, fun k => if k = v then cc ly else cv k, by omega, ⟨fun k hk => ?_, fun k g1 g2 => ?_⟩, by rw [f1 0 5 (by omega) (by omega)]; exact d5, f16, fun k hk => ?_, fun k g1 g2 i hi hm => ?_, fun k hk => ?_⟩
    · by_cases z : k = v
      · subst z
        simp only [if_true]
        obtain ⟨n1, n2, n3, n4, n5, n6, n7, n8, n9⟩ := hN
        exact ⟨n1, n2, n3, h1, n4, n5, n6, n7, n8, n9⟩
      · simp only [if_neg z]
        rw [s2 3 k (by omega) (by omega), s1 (70 + 4 * k) (by omega), s2 (70 + 4 * k) 0 (by omega) (by omega), s2 (70 + 4 * k) 1 (by omega) (by omega), s1 (71 + 4 * k) (by omega), s2 (70 + 4 * k) 2 (by omega) (by omega), s1 (72 + 4 * k) (by omega), s2 (70 + 4 * k) 3 (by omega) (by omega), s1 (73 + 4 * k) (by omega)]
        exact y2.1 k (by omega)
    · rw [s2 3 k (by omega) (by omega)]; exact y2.2 k (by omega) g2
    · by_cases z : k = v
      · subst z
        simp only [if_true]
        refine ⟨f118, ⟨?_, ?_, ?_, ?_, hw2, hh2, hw1, hh1⟩, w1, fun q hq => ?_⟩
        · rw [f1 _ _ (by omega) (by omega)]; exact dB.1
        · rw [f1 _ _ (by omega) (by omega)]; exact dB.2.1
        · rw [f1 _ _ (by omega) (by omega)]; exact dB.2.2.1
        · rw [f1 _ _ (by omega) (by omega)]; exact dB.2.2.2
        · rw [f119 q hq, f120 120 (by omega) q hq, f120 121 (by omega) q hq, f1 (73 + 4 * k) _ (by omega) (by omega), f1 (71 + 4 * k) _ (by omega) (by omega), (dQ q hq).1, (dQ q hq).2, (w2 q hq).1, (w2 q hq).2]
          exact ⟨rfl, rfl, rfl, rfl⟩
      · simp only [if_neg z]
        obtain ⟨z1, ⟨x1, x2, x3, x4, x5⟩, z3, z4⟩ := y5 k (by omega)
        refine ⟨?_, ⟨?_, ?_, ?_, ?_, x5⟩, z3, fun q hq => ?_⟩
        · rw [f118o k z]; exact z1
        · rw [e _ _ (by omega) (by omega) (by omega) (by omega)]; exact x1
        · rw [e _ _ (by omega) (by omega) (by omega) (by omega)]; exact x2
        · rw [e _ _ (by omega) (by omega) (by omega) (by omega)]; exact x3
        · rw [e _ _ (by omega) (by omega) (by omega) (by omega)]; exact x4
        · rw [f120o 119 (by omega) _ (by omega), f120o 120 (by omega) _ (by omega), f120o 121 (by omega) _ (by omega), e (73 + 4 * k) _ (by omega) (by omega) (by omega) (by omega), e (71 + 4 * k) _ (by omega) (by omega) (by omega) (by omega)]
          exact z4 q hq
    · rcases hL _ hm with hm | hm
      · exact y6 k (by omega) g2 i hi hm
      · omega
    · by_cases z : 256 * v ≤ k ∧ k < 256 * v + 256
      · have := f120 121 (by omega) (k - 256 * v) (by omega)
        rw [show 256 * v + (k - 256 * v) = k by omega] at this
        rw [this, (w2 _ (by omega)).2]
        cases hc : cc ly (k - 256 * v) with
        | none => exact Or.inl rfl
        | some a => exact Or.inr ⟨a, w1 _ a hc, rfl⟩
      · rw [f120o 121 (by omega) k z]; exact y7 k hk
theorem j_addRule (l : Launch) : ∀ (p0 p1 p2 : Int32), ja_JC l JI mL_addRule mX8_addRule [.int p0, .int p1, .int p2] 200 ty_i eqv_i := by
  intro p0 p1 p2 n Z D hn hI
  show ja_JP l mL_addRule mX8_addRule [.int p0, .int p1, .int p2] 200 ty_i eqv_i n Z D
  obtain ⟨a1, a2, a3, a4, ⟨cc, b1, ⟨wv, b2⟩, tn, hs, b3, b4⟩, a5, a6, a7, a8⟩ := id hI
  obtain ⟨rn, fl, sl, sg, u1, u2, u3, u4, u5, u6, u7⟩ := id a7
  by_cases gk : p0 = nI 105 ∨ p0 = nI 110 ∨ p0 = nI 97
  rotate_left
  · refine j_F hI (c := 1) (s := 6) (k := 1) (by decide) (by decide) (w_addRule l (c_addRule_f1 (D := D) l a2 p1 p2 gk) a1.1 (fun _ _ _ h => h.elim) (fun E Z1 D1 h => by rw [h.1]; decide)) (fun E Z1 D1 h => ⟨h.1, h.2.1, by rw [h.2.2]; exact frs_r _⟩) (by decide) (by decide) (fun D1 hf hI1 => ?_)
    exact ⟨_, _, r_addRule_f1 l a3 p1 p2 gk, ⟨_, rfl⟩, fun D2 h => by subst h; exact ⟨up_s, frs_0 _ _⟩⟩
  by_cases gal : areL p1 p2
  rotate_left
  · refine j_F hI (c := 1) (s := 6) (k := 2) (by decide) (by decide) (w_addRule l (c_addRule_f2 (D := D) l a2 gk gal) a1.1 (fun _ _ _ h => h.elim) (fun E Z1 D1 h => by rw [h.1]; decide)) (fun E Z1 D1 h => ⟨h.1, h.2.1, by rw [h.2.2]; exact frs_r _⟩) (by decide) (by decide) (fun D1 hf hI1 => ?_)
    exact ⟨_, _, r_addRule_f2 l a3 gk gal, ⟨_, rfl⟩, fun D2 h => by subst h; exact ⟨up_s, frs_0 _ _⟩⟩
  obtain ⟨l1, l2, h1, h2, h3, rfl, rfl⟩ := areL_n gal
  by_cases g6 : rn = 6
  · subst g6
    obtain ⟨ib, hib⟩ : ∃ ib : Bool, D 0 7 = bI ib := by
      rcases id b4 with ⟨i1, -⟩ | ⟨i1, -⟩
      · exact ⟨_, i1⟩
      · exact ⟨_, i1⟩
    refine j_F hI (c := 1) (s := 6) (k := 3) (by decide) (by decide) (w_addRule l (c_addRule_f3 (D := D) l a2 gk h1 h2 h3 hib u3 (Nat.le_refl _) (Or.inr rfl)) a1.1 (fun _ _ _ h => h.elim) (fun E Z1 D1 h => by rw [h.1]; decide)) (fun E Z1 D1 h => ⟨h.1, h.2.1, by rw [h.2.2]; exact frs_r _⟩) (by decide) (by decide) (fun D1 hf hI1 => ?_)
    exact ⟨_, _, r_addRule_f3 l a3 gk h1 h2 h3 ((hf.1 100 12 (by unfold scr; omega)).trans u4), ⟨_, rfl⟩, fun D2 h => by subst h; exact ⟨up_s, frs_0 _ _⟩⟩
  have g7 : rn < 6 := by omega
  rcases id b4 with ⟨i1, i2, i3⟩ | ⟨i1, i2, ⟨w0, i3, i4, i5⟩, i6⟩
  rotate_left
  · refine j_F hI (c := 1) (s := 6) (k := 3) (by decide) (by decide) (w_addRule l (c_addRule_f3 (D := D) l a2 gk h1 h2 h3 i1 u3 u1 (Or.inl rfl)) a1.1 (fun _ _ _ h => h.elim) (fun E Z1 D1 h => by rw [h.1]; decide)) (fun E Z1 D1 h => ⟨h.1, h.2.1, by rw [h.2.2]; exact frs_r _⟩) (by decide) (by decide) (fun D1 hf hI1 => ?_)
    exact ⟨_, _, r_addRule_f3b l a3 gk h1 h2 h3 ((hf.1 100 12 (by unfold scr; omega)).trans u4) g7 ((hf.1 100 2 (by unfold scr; omega)).trans i5) i3, ⟨_, rfl⟩, fun D2 h => by subst h; exact ⟨up_s, frs_0 _ _⟩⟩
  obtain ⟨e1, e2, e3⟩ := JI_rule hI g7 u2 u5 u6 u7 gk h1 h2 h3
  refine j_G (c := 1) (s := 4) (by decide) (by decide) (w_addRule l (c_addRule_ok (D := D) l a2 gk h1 h2 h3 i1 u3 g7 (u7 rn (Nat.le_refl _) g7).2) a1.1 (fun v Z1 D1 h => ⟨by rw [h.2.1]; exact e1.2.2.1, _, h.1⟩) (fun _ _ _ h => h.elim)) (fun b8 Z1 D1 h => ?_)
  obtain ⟨hb, rfl, rfl⟩ := h
  cases hb
  refine ⟨e1, _, _, r_addRule_ok l (zM_u e2) gk h1 h2 h3 (by rw [up_n (by omega), dO4, up_n (by omega), ja_dn, if_neg (by omega)]; exact u4) g7 (by rw [up_n (by omega), dO4, up_n (by omega), ja_dn, if_neg (by omega)]; exact i2), ⟨_, rfl⟩, eqv_ii rfl, fun D2 h => ?_⟩
  subst h
  exact ⟨by rw [up_n (by omega), up_n (by omega), up_n (by omega), up_n (by omega), up_s], e3⟩
theorem j_checkOut (l : Launch) : ∀ (p0 p1 p2 p3 p4 : Int32), ja_JC l JI mL_checkOut mX8_checkOut [.int p0, .int p1, .int p2, .int p3, .int p4] 200 ty_i eqv_i := by
  intro p0 p1 p2 p3 p4 n Z D hn hI
  show ja_JP l mL_checkOut mX8_checkOut [.int p0, .int p1, .int p2, .int p3, .int p4] 200 ty_i eqv_i n Z D
  obtain ⟨a1, a2, a3, a4, ⟨cc, b1, ⟨wv, b2⟩, tn, hs, b3, b4⟩, a5, a6, a7, a8⟩ := id hI
  obtain ⟨vn, vl, vx, vy, vw, vh, cv, y1, y2, y3, y4, y5, y6, y7⟩ := id a8
  by_cases gp0 : nI 0 ≤ p0 ∧ p0 ≤ nI 2
  rotate_left
  · refine j_F hI (c := 1) (s := 6) (k := 1) (by decide) (by decide) (w_checkOut l (c_checkOut_f1 (D := D) l a2 p1 p2 p3 p4 gp0) a1.1 (fun _ _ _ h => h.elim) (fun E Z1 D1 h => by rw [h.1]; decide)) (fun E Z1 D1 h => ⟨h.1, h.2.1, by rw [h.2.2]; exact frs_r _⟩) (by decide) (by decide) (fun D1 hf hI1 => ?_)
    exact ⟨_, _, r_checkOut_f1 l a3 p1 p2 p3 p4 gp0, ⟨_, rfl⟩, fun D2 h => by subst h; exact ⟨up_s, frs_0 _ _⟩⟩
  obtain ⟨ly, hly, rfl⟩ := nI_rng (by decide) gp0
  have h1 : ly < 3 := by omega
  by_cases gb : bxOK p1 p2 p3 p4
  rotate_left
  · refine j_F hI (c := 1) (s := 6) (k := 2) (by decide) (by decide) (w_checkOut l (c_checkOut_f2 (D := D) l a2 h1 gb) a1.1 (fun _ _ _ h => h.elim) (fun E Z1 D1 h => by rw [h.1]; decide)) (fun E Z1 D1 h => ⟨h.1, h.2.1, by rw [h.2.2]; exact frs_r _⟩) (by decide) (by decide) (fun D1 hf hI1 => ?_)
    exact ⟨_, _, r_checkOut_f2 l a3 h1 gb, ⟨_, rfl⟩, fun D2 h => by subst h; exact ⟨up_s, frs_0 _ _⟩⟩
  obtain ⟨x, y, w, h, k1, k2, k3, k4, k5, k6, rfl, rfl, rfl, rfl⟩ := box_n gb
  rcases id b4 with ⟨i1, i2, i3⟩ | ⟨i1, i2, ⟨w0, i3, i4, i5⟩, i6⟩
  rotate_left
  · refine j_F hI (c := 1) (s := 6) (k := 3) (by decide) (by decide) (w_checkOut l (c_checkOut_f3 (D := D) l a2 h1 k1 k2 k3 k4 k5 k6 i1 y3 y1 (Or.inl rfl)) a1.1 (fun _ _ _ h => h.elim) (fun E Z1 D1 h => by rw [h.1]; decide)) (fun E Z1 D1 h => ⟨h.1, h.2.1, by rw [h.2.2]; exact frs_r _⟩) (by decide) (by decide) (fun D1 hf hI1 => ?_)
    exact ⟨_, _, r_checkOut_f3 l a3 h1 k1 k2 k3 k4 k5 k6 ((hf.1 100 2 (by unfold scr; omega)).trans i5) i3, ⟨_, rfl⟩, fun D2 h => by subst h; exact ⟨up_s, frs_0 _ _⟩⟩
  by_cases g3 : vn = 3
  · subst g3
    refine j_F hI (c := 1) (s := 6) (k := 3) (by decide) (by decide) (w_checkOut l (c_checkOut_f3 (D := D) l a2 h1 k1 k2 k3 k4 k5 k6 i1 y3 y1 (Or.inr rfl)) a1.1 (fun _ _ _ h => h.elim) (fun E Z1 D1 h => by rw [h.1]; decide)) (fun E Z1 D1 h => ⟨h.1, h.2.1, by rw [h.2.2]; exact frs_r _⟩) (by decide) (by decide) (fun D1 hf hI1 => ?_)
    exact ⟨_, _, r_checkOut_f3b l a3 h1 k1 k2 k3 k4 k5 k6 ((hf.1 100 2 (by unfold scr; omega)).trans i2) ((hf.1 100 16 (by unfold scr; omega)).trans y4), ⟨_, rfl⟩, fun D2 h => by subst h; exact ⟨up_s, frs_0 _ _⟩⟩
  obtain gv | gv | gv : vn = 0 ∨ vn = 1 ∨ vn = 2 := by omega
  · subst gv
    have fr : ∀ i, i < 4 → 70 + i ∉ Z.1 := fun i hi => y6 0 (Nat.le_refl _) (by omega) i hi
    have co := JI_co (Y := ja_uq (zO6_0 (ja_zn Z 70 6 8) (30 + 10 * ly)) 3 0 (some 70)) (D1 := ja_up (ja_cp (ja_cp (dO6_0 (ja_dn D 70) x y (x + w) (y + h)) (31 + 10 * ly) 0 73 0 256) (31 + 10 * ly) 0 71 0 256) 0 5 (nI (0 + 1))) hI b1 b2 b3 b4 (v := 0) (by omega) y2 y5 y6 y7 h1 k3 k4 k5 k6
      (fun i hi => by
        have hi : i ∈ Z.1 ++ [70] ++ [71] ++ [72] ++ [73] := hi
        simp only [List.mem_append, List.mem_singleton] at hi
        rcases hi with (((hi | hi) | hi) | hi) | hi
        · exact Or.inl hi
        · exact Or.inr (by omega)
        · exact Or.inr (by omega)
        · exact Or.inr (by omega)
        · exact Or.inr (by omega))
      (fun a ha => by
        show (if a = 73 then _ else if a = 72 then _ else if a = 71 then _ else if a = 70 then _ else Z.2.1 a) = _
        rw [if_neg (by omega), if_neg (by omega), if_neg (by omega), if_neg (by omega)])
      (fun a c g1 g2 => by
        simp only [zO6_0, ja_uq, ja_zn]
        repeat rw [if_neg (by omega)])
      ⟨rfl, rfl, rfl, rfl, rfl, rfl, rfl, rfl, rfl⟩
      (fun i j g1 g2 => by
        rw [up_n (by omega), cp_out (by omega), cp_out (by omega), dO6_0, up_n (by omega), up_n (by omega), up_n (by omega), up_n (by omega)]
        simp only [ja_dn]
        repeat rw [if_neg (by omega)])
      up_s
      ⟨by rw [up_n (by omega), cp_out (by omega), cp_out (by omega), dO6_0, up_n (by omega), up_n (by omega), up_n (by omega), up_s], by rw [up_n (by omega), cp_out (by omega), cp_out (by omega), dO6_0, up_n (by omega), up_n (by omega), up_s], by rw [up_n (by omega), cp_out (by omega), cp_out (by omega), dO6_0, up_n (by omega), up_s], by rw [up_n (by omega), cp_out (by omega), cp_out (by omega), dO6_0, up_s]⟩
      (fun q hq => by
        have e : dO6_0 (ja_dn D 70) x y (x + w) (y + h) (31 + 10 * ly) q = D (31 + 10 * ly) q := by
          rw [dO6_0, up_n (by omega), up_n (by omega), up_n (by omega), up_n (by omega)]
          simp only [ja_dn]
          repeat rw [if_neg (by omega)]
        refine ⟨?_, ?_⟩
        · rw [up_n (by omega), cp_in hq, cp_out (by omega), e]
        · rw [up_n (by omega), cp_out (by omega), cp_in hq, e])
    obtain ⟨e1, e2, e3⟩ := co
    have fo : ∀ j, ja_up (ja_cp (ja_cp (dO6_0 (ja_dn D 70) x y (x + w) (y + h)) (31 + 10 * ly) 0 73 0 256) (31 + 10 * ly) 0 71 0 256) 0 5 (nI (0 + 1)) 100 j = D 100 j := fun j => by
      rw [up_n (by omega), cp_out (by omega), cp_out (by omega), dO6_0, up_n (by omega), up_n (by omega), up_n (by omega), up_n (by omega)]
      simp only [ja_dn]
      repeat rw [if_neg (by omega)]
    refine j_G (c := 4) (s := 776) (by decide) (by decide) (w_checkOut l (c_checkOut_ok0 (D := D) l a2 h1 k1 k2 k3 k4 k5 k6 i1 y3 (fr 0 (by omega)) (fr 1 (by omega)) (fr 2 (by omega)) (fr 3 (by omega))) a1.1 (fun v9 Z1 D1 h => ⟨by rw [h.2.1]; exact e1.2.2.1, _, h.1⟩) (fun _ _ _ h => h.elim)) (fun b8 Z1 D1 h => ?_)
    obtain ⟨hb, rfl, rfl⟩ := h
    cases hb
    refine ⟨e1, _, _, r_checkOut_ok l (zM_u e2) h1 k1 k2 k3 k4 k5 k6 ((fo 2).trans i2) (vn := 0) ((fo 16).trans y4) (by omega), ⟨_, rfl⟩, eqv_ii rfl, fun D2 h => ?_⟩
    subst h
    exact ⟨by rw [up_n (by omega), coU_o (by omega), up_n (by omega), up_s], e3⟩
  · subst gv
    have fr : ∀ i, i < 4 → 74 + i ∉ Z.1 := fun i hi => y6 1 (Nat.le_refl _) (by omega) i hi
    have co := JI_co (Y := ja_uq (zO6_1 (ja_zn Z 74 6 8) (30 + 10 * ly)) 3 1 (some 74)) (D1 := ja_up (ja_cp (ja_cp (dO6_1 (ja_dn D 74) x y (x + w) (y + h)) (31 + 10 * ly) 0 77 0 256) (31 + 10 * ly) 0 75 0 256) 0 5 (nI (1 + 1))) hI b1 b2 b3 b4 (v := 1) (by omega) y2 y5 y6 y7 h1 k3 k4 k5 k6
      (fun i hi => by
        have hi : i ∈ Z.1 ++ [74] ++ [75] ++ [76] ++ [77] := hi
        simp only [List.mem_append, List.mem_singleton] at hi
        rcases hi with (((hi | hi) | hi) | hi) | hi
        · exact Or.inl hi
        · exact Or.inr (by omega)
        · exact Or.inr (by omega)
        · exact Or.inr (by omega)
        · exact Or.inr (by omega))
      (fun a ha => by
        show (if a = 77 then _ else if a = 76 then _ else if a = 75 then _ else if a = 74 then _ else Z.2.1 a) = _
        rw [if_neg (by omega), if_neg (by omega), if_neg (by omega), if_neg (by omega)])
      (fun a c g1 g2 => by
        simp only [zO6_1, ja_uq, ja_zn]
        repeat rw [if_neg (by omega)])
      ⟨rfl, rfl, rfl, rfl, rfl, rfl, rfl, rfl, rfl⟩
      (fun i j g1 g2 => by
        rw [up_n (by omega), cp_out (by omega), cp_out (by omega), dO6_1, up_n (by omega), up_n (by omega), up_n (by omega), up_n (by omega)]
        simp only [ja_dn]
        repeat rw [if_neg (by omega)])
      up_s
      ⟨by rw [up_n (by omega), cp_out (by omega), cp_out (by omega), dO6_1, up_n (by omega), up_n (by omega), up_n (by omega), up_s], by rw [up_n (by omega), cp_out (by omega), cp_out (by omega), dO6_1, up_n (by omega), up_n (by omega), up_s], by rw [up_n (by omega), cp_out (by omega), cp_out (by omega), dO6_1, up_n (by omega), up_s], by rw [up_n (by omega), cp_out (by omega), cp_out (by omega), dO6_1, up_s]⟩
      (fun q hq => by
        have e : dO6_1 (ja_dn D 74) x y (x + w) (y + h) (31 + 10 * ly) q = D (31 + 10 * ly) q := by
          rw [dO6_1, up_n (by omega), up_n (by omega), up_n (by omega), up_n (by omega)]
          simp only [ja_dn]
          repeat rw [if_neg (by omega)]
        refine ⟨?_, ?_⟩
        · rw [up_n (by omega), cp_in hq, cp_out (by omega), e]
        · rw [up_n (by omega), cp_out (by omega), cp_in hq, e])
    obtain ⟨e1, e2, e3⟩ := co
    have fo : ∀ j, ja_up (ja_cp (ja_cp (dO6_1 (ja_dn D 74) x y (x + w) (y + h)) (31 + 10 * ly) 0 77 0 256) (31 + 10 * ly) 0 75 0 256) 0 5 (nI (1 + 1)) 100 j = D 100 j := fun j => by
      rw [up_n (by omega), cp_out (by omega), cp_out (by omega), dO6_1, up_n (by omega), up_n (by omega), up_n (by omega), up_n (by omega)]
      simp only [ja_dn]
      repeat rw [if_neg (by omega)]
    refine j_G (c := 4) (s := 776) (by decide) (by decide) (w_checkOut l (c_checkOut_ok1 (D := D) l a2 h1 k1 k2 k3 k4 k5 k6 i1 y3 (fr 0 (by omega)) (fr 1 (by omega)) (fr 2 (by omega)) (fr 3 (by omega))) a1.1 (fun v9 Z1 D1 h => ⟨by rw [h.2.1]; exact e1.2.2.1, _, h.1⟩) (fun _ _ _ h => h.elim)) (fun b8 Z1 D1 h => ?_)
    obtain ⟨hb, rfl, rfl⟩ := h
    cases hb
    refine ⟨e1, _, _, r_checkOut_ok l (zM_u e2) h1 k1 k2 k3 k4 k5 k6 ((fo 2).trans i2) (vn := 1) ((fo 16).trans y4) (by omega), ⟨_, rfl⟩, eqv_ii rfl, fun D2 h => ?_⟩
    subst h
    exact ⟨by rw [up_n (by omega), coU_o (by omega), up_n (by omega), up_s], e3⟩
  · subst gv
    have fr : ∀ i, i < 4 → 78 + i ∉ Z.1 := fun i hi => y6 2 (Nat.le_refl _) (by omega) i hi
    have co := JI_co (Y := ja_uq (zO6_2 (ja_zn Z 78 6 8) (30 + 10 * ly)) 3 2 (some 78)) (D1 := ja_up (ja_cp (ja_cp (dO6_2 (ja_dn D 78) x y (x + w) (y + h)) (31 + 10 * ly) 0 81 0 256) (31 + 10 * ly) 0 79 0 256) 0 5 (nI (2 + 1))) hI b1 b2 b3 b4 (v := 2) (by omega) y2 y5 y6 y7 h1 k3 k4 k5 k6
      (fun i hi => by
        have hi : i ∈ Z.1 ++ [78] ++ [79] ++ [80] ++ [81] := hi
        simp only [List.mem_append, List.mem_singleton] at hi
        rcases hi with (((hi | hi) | hi) | hi) | hi
        · exact Or.inl hi
        · exact Or.inr (by omega)
        · exact Or.inr (by omega)
        · exact Or.inr (by omega)
        · exact Or.inr (by omega))
      (fun a ha => by
        show (if a = 81 then _ else if a = 80 then _ else if a = 79 then _ else if a = 78 then _ else Z.2.1 a) = _
        rw [if_neg (by omega), if_neg (by omega), if_neg (by omega), if_neg (by omega)])
      (fun a c g1 g2 => by
        simp only [zO6_2, ja_uq, ja_zn]
        repeat rw [if_neg (by omega)])
      ⟨rfl, rfl, rfl, rfl, rfl, rfl, rfl, rfl, rfl⟩
      (fun i j g1 g2 => by
        rw [up_n (by omega), cp_out (by omega), cp_out (by omega), dO6_2, up_n (by omega), up_n (by omega), up_n (by omega), up_n (by omega)]
        simp only [ja_dn]
        repeat rw [if_neg (by omega)])
      up_s
      ⟨by rw [up_n (by omega), cp_out (by omega), cp_out (by omega), dO6_2, up_n (by omega), up_n (by omega), up_n (by omega), up_s], by rw [up_n (by omega), cp_out (by omega), cp_out (by omega), dO6_2, up_n (by omega), up_n (by omega), up_s], by rw [up_n (by omega), cp_out (by omega), cp_out (by omega), dO6_2, up_n (by omega), up_s], by rw [up_n (by omega), cp_out (by omega), cp_out (by omega), dO6_2, up_s]⟩
      (fun q hq => by
        have e : dO6_2 (ja_dn D 78) x y (x + w) (y + h) (31 + 10 * ly) q = D (31 + 10 * ly) q := by
          rw [dO6_2, up_n (by omega), up_n (by omega), up_n (by omega), up_n (by omega)]
          simp only [ja_dn]
          repeat rw [if_neg (by omega)]
        refine ⟨?_, ?_⟩
        · rw [up_n (by omega), cp_in hq, cp_out (by omega), e]
        · rw [up_n (by omega), cp_out (by omega), cp_in hq, e])
    obtain ⟨e1, e2, e3⟩ := co
    have fo : ∀ j, ja_up (ja_cp (ja_cp (dO6_2 (ja_dn D 78) x y (x + w) (y + h)) (31 + 10 * ly) 0 81 0 256) (31 + 10 * ly) 0 79 0 256) 0 5 (nI (2 + 1)) 100 j = D 100 j := fun j => by
      rw [up_n (by omega), cp_out (by omega), cp_out (by omega), dO6_2, up_n (by omega), up_n (by omega), up_n (by omega), up_n (by omega)]
      simp only [ja_dn]
      repeat rw [if_neg (by omega)]
    refine j_G (c := 4) (s := 776) (by decide) (by decide) (w_checkOut l (c_checkOut_ok2 (D := D) l a2 h1 k1 k2 k3 k4 k5 k6 i1 y3 (fr 0 (by omega)) (fr 1 (by omega)) (fr 2 (by omega)) (fr 3 (by omega))) a1.1 (fun v9 Z1 D1 h => ⟨by rw [h.2.1]; exact e1.2.2.1, _, h.1⟩) (fun _ _ _ h => h.elim)) (fun b8 Z1 D1 h => ?_)
    obtain ⟨hb, rfl, rfl⟩ := h
    cases hb
    refine ⟨e1, _, _, r_checkOut_ok l (zM_u e2) h1 k1 k2 k3 k4 k5 k6 ((fo 2).trans i2) (vn := 2) ((fo 16).trans y4) (by omega), ⟨_, rfl⟩, eqv_ii rfl, fun D2 h => ?_⟩
    subst h
    exact ⟨by rw [up_n (by omega), coU_o (by omega), up_n (by omega), up_s], e3⟩
