/-! THE JOINT INVARIANT: what ties the class's part of the numbers to the reference's (by wip/whole/x48.py). n: calls so far -/
def JT (D : jD) : Prop := ∃ t : Nat → Nat, sT t ∧ ∀ k, k < 256 → D 12 k = nI (t k)
/-- squares and sizes -/
def JA (D : jD) (cc : Nat → Nat → Option Nat) : Prop := ∀ ly, ly < 3 → (∀ q a, cc ly q = some a → a < 10) ∧ (∀ q, q < 256 → D (31 + 10 * ly) q = oI (cc ly q) ∧ D 105 (256 * ly + q) = oI (cc ly q)) ∧ ∀ a, a < 10 → D (32 + 10 * ly) a = nI (eN (cc ly) a)
/-- values -/
def JB (n : Nat) (D : jD) (cc : Nat → Nat → Option Nat) (wv : Nat → Nat → Nat) : Prop := ∀ ly, ly < 3 → (∀ a, a < 10 → D (33 + 10 * ly) a = nI (wv ly a) ∧ D 106 (10 * ly + a) = nI (wv ly a) ∧ (eN (cc ly) a = 0 → wv ly a = 0)) ∧ fb_sm (wv ly) 10 ≤ 9999 * n
/-- lengths of names -/
def JL (D : jD) : Prop := ∃ lm : Nat → Nat → Nat, ∀ ly, ly < 3 → ∀ a, a < 10 → D (34 + 10 * ly) a = nI (lm ly a) ∧ D 107 (10 * ly + a) = nI (lm ly a) ∧ lm ly a ≤ 6
/-- dividing and copying -/
def JV (D : jD) : Prop := ∃ dv : Nat → Bool, ∀ ly, ly < 3 → D (30 + 10 * ly) 4 = bI (dv ly) ∧ D 104 ly = bI (!dv ly)
/-- the stored times -/
def JH (D : jD) (tn : Nat) (hs : Nat → Nat → Nat → Option Nat) : Prop := tn ≤ 40 ∧ D 0 6 = nI tn ∧ D 100 1 = nI tn ∧ (∀ t, t ≤ tn → ∀ ly, ly < 3 → (∀ q a, hs t ly q = some a → a < 10) ∧ ∀ q, q < 256 → D (36 + 10 * ly) (t * 256 + q) = oI (hs t ly q) ∧ D 111 (768 * t + 256 * ly + q) = oI (hs t ly q)) ∧ ∀ t, 0 < t → t ≤ tn → D 4 t = D 112 t
/-- the session -/
def JS (n : Nat) (D : jD) (cc : Nat → Nat → Option Nat) (tn : Nat) (hs : Nat → Nat → Nat → Option Nat) : Prop :=
  (D 0 7 = bI false ∧ D 100 2 = -1 ∧ ∀ ly, ly < 3 → ∀ q, q < 256 → cc ly q = hs tn ly q) ∨
  (D 0 7 = bI true ∧ tn < 40 ∧ (∃ w, w ≤ 5 ∧ D 0 8 = nI w ∧ D 100 2 = nI w) ∧ (∀ ly, ly < 3 → ∀ q, q < 256 → D 108 (256 * ly + q) = oI (hs tn ly q)) ∧ ∃ ow : Nat → Nat → Nat, ∀ ly, ly < 3 → (∀ a, a < 10 → D (35 + 10 * ly) a = nI (ow ly a) ∧ D 109 (10 * ly + a) = nI (ow ly a) ∧ (eN (hs tn ly) a = 0 → ow ly a = 0)) ∧ fb_sm (ow ly) 10 ≤ 9999 * n)
/-- the rules -/
def JR (Z : jZ) (D : jD) : Prop := ∃ (rn : Nat) (fl sl : Nat → Nat) (sg : Nat → Bool), rn ≤ 6 ∧ zXr Z rn fl sl ∧ D 0 4 = nI rn ∧ D 100 12 = nI rn ∧ (∀ r, r < rn → D (60 + r) 0 = D 114 r ∧ (D 114 r = nI 105 ∨ D 114 r = nI 110 ∨ D 114 r = nI 97) ∧ ¬ fl r = sl r ∧ D 115 r = nI (fl r) ∧ D 116 r = nI (sl r) ∧ D (60 + r) 3 = bI (sg r)) ∧ (∀ r, r < 6 → D 110 r = bI (sg r)) ∧ (∀ r, rn ≤ r → r < 6 → sg r = false ∧ 60 + r ∉ Z.1)
/-- the versions -/
def JW (Z : jZ) (D : jD) : Prop := ∃ (vn : Nat) (vl vx vy vw vh : Nat → Nat) (cv : Nat → Nat → Option Nat), vn ≤ 3 ∧ zXv Z vn vl ∧ D 0 5 = nI vn ∧ D 100 16 = nI vn ∧ (∀ v, v < vn → D 118 v = nI (vl v) ∧ vbx D v (vx v) (vy v) (vw v) (vh v) ∧ (∀ q a, cv v q = some a → a < 10) ∧ ∀ q, q < 256 → D 119 (256 * v + q) = bI (inB (vx v) (vy v) (vw v) (vh v) q) ∧ D 120 (256 * v + q) = D (73 + 4 * v) q ∧ D 121 (256 * v + q) = D (71 + 4 * v) q ∧ D (71 + 4 * v) q = oI (cv v q)) ∧ (∀ v, vn ≤ v → v < 3 → ∀ i, i < 4 → 70 + 4 * v + i ∉ Z.1) ∧ wfV D
def JI (n : Nat) (Z : jZ) (D : jD) : Prop := ja_SH Z ∧ zX Z ∧ zM Z ∧ JT D ∧ (∃ cc, JA D cc ∧ (∃ wv, JB n D cc wv) ∧ ∃ tn hs, JH D tn hs ∧ JS n D cc tn hs) ∧ JL D ∧ JV D ∧ JR Z D ∧ JW Z D
/-- cells that a call may leave as it likes -/
def scr (i j : Nat) : Prop := (5 ≤ i ∧ i ≤ 18) ∨ (20 ≤ i ∧ i ≤ 29) ∨ i = 72 ∨ i = 76 ∨ i = 80 ∨ i = 37 ∨ i = 47 ∨ i = 57 ∨ ((i = 30 ∨ i = 40 ∨ i = 50) ∧ j = 8) ∨ (i = 100 ∧ j = 0) ∨ (122 ≤ i ∧ i ≤ 128)
def frs (D E : jD) : Prop := (∀ i j, ¬ scr i j → E i j = D i j) ∧ (JT D → JT E)
theorem frs_r (D : jD) : frs D D := ⟨fun _ _ _ => rfl, fun h => h⟩
theorem frs_t {D E F : jD} (h1 : frs D E) (h2 : frs E F) : frs D F := ⟨fun i j h => (h2.1 i j h).trans (h1.1 i j h), fun h => h2.2 (h1.2 h)⟩
theorem frs_n {D E : jD} (h : ∀ i j, ¬ (scr i j ∧ i ≠ 12) → E i j = D i j) : frs D E := ⟨fun i j hs => h i j (fun q => hs q.1), fun ⟨t, h1, h2⟩ => ⟨t, h1, fun k hk => by rw [h 12 k (by simp)]; exact h2 k hk⟩⟩
theorem frs_0 (D : jD) (x : Int32) : frs D (ja_up D 100 0 x) := frs_n (fun i j h => up_n (by
  rintro ⟨rfl, rfl⟩
  exact h ⟨by unfold scr; omega, by omega⟩))
theorem frs_i {D E : jD} (h : frs D E) {i : Nat} (hi : ∀ j, ¬ scr i j) : E i = D i := funext fun j => h.1 i j (hi j)
theorem JA_f {D E : jD} {cc : Nat → Nat → Option Nat} (h : frs D E) (H : JA D cc) : JA E cc := fun ly hl => by
  obtain ⟨h1, h2, h3⟩ := H ly hl
  refine ⟨h1, fun q hq => ?_, fun a ha => ?_⟩
  · rw [h.1 _ _ (by unfold scr; omega), h.1 _ _ (by unfold scr; omega)]; exact h2 q hq
  · rw [h.1 _ _ (by unfold scr; omega)]; exact h3 a ha
theorem JB_f {n : Nat} {D E : jD} {cc : Nat → Nat → Option Nat} {wv : Nat → Nat → Nat} (h : frs D E) (H : JB n D cc wv) : JB (n + 1) E cc wv := fun ly hl => by
  obtain ⟨h1, h2⟩ := H ly hl
  refine ⟨fun a ha => ?_, by omega⟩
  rw [h.1 _ _ (by unfold scr; omega), h.1 _ _ (by unfold scr; omega)]; exact h1 a ha
theorem JL_f {D E : jD} (h : frs D E) (H : JL D) : JL E := by
  obtain ⟨lm, H⟩ := H
  refine ⟨lm, fun ly hl a ha => ?_⟩
  rw [h.1 _ _ (by unfold scr; omega), h.1 _ _ (by unfold scr; omega)]; exact H ly hl a ha
theorem JV_f {D E : jD} (h : frs D E) (H : JV D) : JV E := by
  obtain ⟨dv, H⟩ := H
  refine ⟨dv, fun ly hl => ?_⟩
  rw [h.1 _ _ (by unfold scr; omega), h.1 _ _ (by unfold scr; omega)]; exact H ly hl
theorem JH_f {D E : jD} {tn : Nat} {hs : Nat → Nat → Nat → Option Nat} (h : frs D E) (H : JH D tn hs) : JH E tn hs := by
  obtain ⟨h1, h2, h3, h4, h5⟩ := H
  refine ⟨h1, ?_, ?_, fun t ht ly hl => ⟨(h4 t ht ly hl).1, fun q hq => ?_⟩, fun t h0 ht => ?_⟩
  · rw [h.1 _ _ (by unfold scr; omega)]; exact h2
  · rw [h.1 _ _ (by unfold scr; omega)]; exact h3
  · rw [h.1 _ _ (by unfold scr; omega), h.1 _ _ (by unfold scr; omega)]; exact (h4 t ht ly hl).2 q hq
  · rw [h.1 _ _ (by unfold scr; omega), h.1 _ _ (by unfold scr; omega)]; exact h5 t h0 ht
theorem JS_f {n : Nat} {D E : jD} {cc : Nat → Nat → Option Nat} {tn : Nat} {hs : Nat → Nat → Nat → Option Nat} (h : frs D E) (H : JS n D cc tn hs) : JS (n + 1) E cc tn hs := by
  rcases H with ⟨h1, h2, h3⟩ | ⟨h1, h2, ⟨w, h3, h4, h5⟩, h6, ow, h7⟩
  · left
    refine ⟨?_, ?_, h3⟩
    · rw [h.1 _ _ (by unfold scr; omega)]; exact h1
    · rw [h.1 _ _ (by unfold scr; omega)]; exact h2
  · right
    refine ⟨?_, h2, ⟨w, h3, ?_, ?_⟩, fun ly hl q hq => ?_, ow, fun ly hl => ⟨fun a ha => ?_, ?_⟩⟩
    · rw [h.1 _ _ (by unfold scr; omega)]; exact h1
    · rw [h.1 _ _ (by unfold scr; omega)]; exact h4
    · rw [h.1 _ _ (by unfold scr; omega)]; exact h5
    · rw [h.1 _ _ (by unfold scr; omega)]; exact h6 ly hl q hq
    · rw [h.1 _ _ (by unfold scr; omega), h.1 _ _ (by unfold scr; omega)]; exact (h7 ly hl).1 a ha
    · have := (h7 ly hl).2; omega
theorem JR_f {Z Y : jZ} {D E : jD} (h : frs D E) (hz : Y.1 = Z.1) (hr : ∀ n fl sl, zXr Z n fl sl → zXr Y n fl sl) (H : JR Z D) : JR Y E := by
  obtain ⟨rn, fl, sl, sg, h1, h2, h3, h4, h5, h6, h7⟩ := H
  refine ⟨rn, fl, sl, sg, h1, hr _ _ _ h2, ?_, ?_, fun r hr => ?_, fun r hr => ?_, fun r h8 h9 => ?_⟩
  · rw [h.1 _ _ (by unfold scr; omega)]; exact h3
  · rw [h.1 _ _ (by unfold scr; omega)]; exact h4
  · rw [h.1 _ _ (by unfold scr; omega), h.1 114 _ (by unfold scr; omega), h.1 115 _ (by unfold scr; omega), h.1 116 _ (by unfold scr; omega), h.1 (60 + r) 3 (by unfold scr; omega)]; exact h5 r hr
  · rw [h.1 _ _ (by unfold scr; omega)]; exact h6 r hr
  · rw [hz]; exact h7 r h8 h9
theorem JW_f {Z Y : jZ} {D E : jD} (h : frs D E) (hz : Y.1 = Z.1) (hr : ∀ n vl, zXv Z n vl → zXv Y n vl) (H : JW Z D) : JW Y E := by
  obtain ⟨vn, vl, vx, vy, vw, vh, cv, h1, h2, h3, h4, h5, h6, h7⟩ := H
  refine ⟨vn, vl, vx, vy, vw, vh, cv, h1, hr _ _ h2, ?_, ?_, fun v hv => ?_, fun v h8 h9 => ?_, fun k hk => ?_⟩
  · rw [h.1 _ _ (by unfold scr; omega)]; exact h3
  · rw [h.1 _ _ (by unfold scr; omega)]; exact h4
  · obtain ⟨a1, ⟨b1, b2, b3, b4, b5⟩, a3, a4⟩ := h5 v hv
    refine ⟨?_, ⟨?_, ?_, ?_, ?_, b5⟩, a3, fun q hq => ?_⟩
    · rw [h.1 _ _ (by unfold scr; omega)]; exact a1
    · rw [h.1 _ _ (by unfold scr; omega)]; exact b1
    · rw [h.1 _ _ (by unfold scr; omega)]; exact b2
    · rw [h.1 _ _ (by unfold scr; omega)]; exact b3
    · rw [h.1 _ _ (by unfold scr; omega)]; exact b4
    · rw [h.1 119 _ (by unfold scr; omega), h.1 120 _ (by unfold scr; omega), h.1 121 _ (by unfold scr; omega), h.1 (73 + 4 * v) _ (by unfold scr; omega), h.1 (71 + 4 * v) _ (by unfold scr; omega)]; exact a4 q hq
  · rw [hz]; exact h6 v h8 h9
  · rw [h.1 121 _ (by unfold scr; omega)]; exact h7 k hk
theorem JI_f {n : Nat} {Z : jZ} {D E : jD} (h : frs D E) (H : JI n Z D) : JI (n + 1) Z E := by
  obtain ⟨a1, a2, a3, a4, ⟨cc, b1, ⟨wv, b2⟩, tn, hs, b3, b4⟩, a5, a6, a7, a8⟩ := H
  exact ⟨a1, a2, a3, h.2 a4, ⟨cc, JA_f h b1, ⟨wv, JB_f h b2⟩, tn, hs, JH_f h b3, JS_f h b4⟩, JL_f h a5, JV_f h a6, JR_f h rfl (fun _ _ _ h => h) a7, JW_f h rfl (fun _ _ h => h) a8⟩
theorem JI_m {n : Nat} {Z : jZ} {D : jD} (H : JI n Z D) : JI (n + 1) Z D := JI_f (frs_r D) H
theorem JI_ux {n : Nat} {Z : jZ} {D : jD} {i j : Nat} {x : UInt64} (H : JI n Z D) : JI n (ja_ux Z i j x) D := H
theorem JI_S {n : Nat} {Z : jZ} {D : jD} (H : JI n Z D) : ja_SH Z := H.1
theorem nI_rng {x : Int32} {b : Nat} (hb : b < 1000000) (h : nI 0 ≤ x ∧ x ≤ nI b) : ∃ k, k ≤ b ∧ x = nI k := by
  obtain ⟨h1, h2⟩ := h
  rw [Int32.le_iff_toInt_le, nI_toInt (by omega)] at h1 h2
  refine ⟨x.toInt.toNat, by omega, ?_⟩
  apply Int32.toInt_inj.mp
  rw [nI_toInt (by omega)]
  omega
section JOIN
variable {l : Launch} {n : Nat} {Z : jZ} {D : jD} {Mw Mm : Nat → Nat → jM} {av : List Value} {oid : Nat} {ty : Value → Prop} {eqv : Value → UInt64 → Prop} {c s : Nat}
/-- a call at one state -/
def ja_JP (l : Launch) (Mw Mm : Nat → Nat → jM) (av : List Value) (oid : Nat) (ty : Value → Prop) (eqv : Value → UInt64 → Prop) (n : Nat) (Z : jZ) (D : jD) : Prop := ∃ (c s : Nat) (kr1 : Option Value → jZ → jD → Prop), c ≤ 4 ∧ s ≤ 776 ∧ ja_M l (Mw c s) (.ref 0 :: (av ++ [.ref oid])) Z D kr1 ja_x0 ∧
  ∀ v Z1 D1, kr1 v Z1 D1 → ∃ k : Nat, k < 100 ∧ v = some (.int (nI k)) ∧ ja_SH Z1 ∧ ∃ kr2 : Option Value → jZ → jD → Prop, ja_M l (Mm 0 0) (.ref 100 :: av) Z1 D1 kr2 ja_x0 ∧
    ∀ w Z2 D2, kr2 w Z2 D2 → ja_SH Z2 ∧ D2 100 0 = nI k ∧ JI (n + 1) Z2 D2 ∧ ∃ b, w = some b ∧ ty b ∧ (k = 0 → eqv b (Z2.2.2.2 oid 0))
/-- it fails, on both sides -/
theorem j_F {kx : String → jZ → jD → Prop} {g : Value → UInt64} {xs : List String} {E0 : String} {k : Nat} (hI : JI n Z D) (hc : c ≤ 4) (hs : s ≤ 776) (hW : ja_M l (Mw c s) (.ref 0 :: (av ++ [.ref oid])) Z D (ja_wr ja_r0 kx g oid xs) ja_x0) (hkx : ∀ E Z1 D1, kx E Z1 D1 → E = E0 ∧ Z1 = Z ∧ frs D D1)
    (hk : xs.idxOf E0 + 1 = k) (hk2 : k < 100) (hM : ∀ D1, frs D D1 → JI n Z D1 → ∃ (b : Value) (φ : jD → Prop), ja_M l (Mm 0 0) (.ref 100 :: av) Z D1 (ja_jd (some b) Z φ) ja_x0 ∧ ty b ∧ ∀ D2, φ D2 → D2 100 0 = nI k ∧ frs D1 D2) : ja_JP l Mw Mm av oid ty eqv n Z D := by
  refine ⟨c, s, _, hc, hs, hW, ?_⟩
  rintro v Z1 D1 (⟨b, Y, h, -⟩ | ⟨E, h, rfl⟩)
  · exact h.elim
  · obtain ⟨rfl, rfl, h3⟩ := hkx _ _ _ h
    have hI1 : JI n Z1 D1 := by
      obtain ⟨a1, a2, a3, a4, ⟨cc, b1, ⟨wv, b2⟩, tn, hs, b3, b4⟩, a5, a6, a7, a8⟩ := hI
      refine ⟨a1, a2, a3, h3.2 a4, ⟨cc, JA_f h3 b1, ⟨wv, fun ly hl => ⟨((JB_f h3 b2) ly hl).1, (b2 ly hl).2⟩⟩, tn, hs, JH_f h3 b3, ?_⟩, JL_f h3 a5, JV_f h3 a6, JR_f h3 rfl (fun _ _ _ h => h) a7, JW_f h3 rfl (fun _ _ h => h) a8⟩
      rcases JS_f h3 b4 with q | ⟨q1, q2, q3, q4, ow, q5⟩
      · exact Or.inl q
      · rcases b4 with p | ⟨p1, p2, p3, p4, ow2, p5⟩
        · exfalso
          have e := q1.symm.trans ((h3.1 0 7 (by unfold scr; omega)).trans p.1)
          exact absurd e (by decide)
        · refine Or.inr ⟨q1, q2, q3, q4, ow2, fun ly hl => ⟨fun a ha => ?_, (p5 ly hl).2⟩⟩
          rw [h3.1 _ _ (by unfold scr; omega), h3.1 _ _ (by unfold scr; omega)]
          exact (p5 ly hl).1 a ha
    obtain ⟨b, φ, m1, m2, m3⟩ := hM D1 h3 hI1
    refine ⟨k, hk2, by rw [hk], hI.1, _, m1, ?_⟩
    rintro w Z2 D2 ⟨rfl, rfl, hφ⟩
    obtain ⟨e1, e2⟩ := m3 _ hφ
    refine ⟨hI.1, e1, JI_f e2 hI1, b, rfl, m2, fun h0 => ?_⟩
    omega
/-- it answers, on both sides, and no more than scratch is changed -/
theorem j_O {kr : Option Value → jZ → jD → Prop} {g : Value → UInt64} {xs : List String} (hI : JI n Z D) (hc : c ≤ 4) (hs : s ≤ 776) (hW : ja_M l (Mw c s) (.ref 0 :: (av ++ [.ref oid])) Z D (ja_wr kr ja_x0 g oid xs) ja_x0) (hkr : ∀ b Z1 D1, kr (some b) Z1 D1 → Z1 = Z ∧ frs D D1 ∧
    ∃ (b2 : Value) (φ : jD → Prop), ja_M l (Mm 0 0) (.ref 100 :: av) (ja_ux Z oid 0 (g b)) D1 (ja_jd (some b2) (ja_ux Z oid 0 (g b)) φ) ja_x0 ∧ ty b2 ∧ eqv b2 (g b) ∧ ∀ D2, φ D2 → D2 100 0 = nI 0 ∧ frs D1 D2) : ja_JP l Mw Mm av oid ty eqv n Z D := by
  refine ⟨c, s, _, hc, hs, hW, ?_⟩
  rintro v Z1 D1 (⟨b, Y, h, rfl, rfl⟩ | ⟨E, h, rfl⟩)
  · obtain ⟨rfl, h3, b2, φ, m1, m2, m3, m4⟩ := hkr _ _ _ h
    refine ⟨0, by decide, rfl, hI.1, _, m1, ?_⟩
    rintro w Z2 D2 ⟨rfl, rfl, hφ⟩
    obtain ⟨e1, e2⟩ := m4 _ hφ
    refine ⟨hI.1, e1, JI_ux (JI_f (frs_t h3 e2) hI), b2, rfl, m2, fun _ => ?_⟩
    have : (ja_ux Y oid 0 (g b)).2.2.2 oid 0 = g b := by simp [ja_ux]
    rw [this]
    exact m3
  · exact h.elim
end JOIN
