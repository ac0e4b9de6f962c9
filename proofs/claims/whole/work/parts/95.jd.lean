/-! FRAMES BY GROUPS (by wip/whole/x53.py) -/
def dJA (i j : Nat) : Prop := i = 31 ∨ i = 41 ∨ i = 51 ∨ i = 32 ∨ i = 42 ∨ i = 52 ∨ i = 105
theorem JA_d {D E : jD} {cc : Nat → Nat → Option Nat} (h : ∀ i j, dJA i j → E i j = D i j) (H : JA D cc) : JA E cc := fun ly hl => by
  obtain ⟨h1, h2, h3⟩ := H ly hl
  refine ⟨h1, fun q hq => ?_, fun a ha => ?_⟩
  · rw [h _ _ (by unfold dJA; omega), h _ _ (by unfold dJA; omega)]; exact h2 q hq
  · rw [h _ _ (by unfold dJA; omega)]; exact h3 a ha
def dJB (i j : Nat) : Prop := i = 33 ∨ i = 43 ∨ i = 53 ∨ i = 106
theorem JB_d {n : Nat} {D E : jD} {cc : Nat → Nat → Option Nat} {wv : Nat → Nat → Nat} (h : ∀ i j, dJB i j → E i j = D i j) (H : JB n D cc wv) : JB (n + 1) E cc wv := fun ly hl => by
  obtain ⟨h1, h2⟩ := H ly hl
  refine ⟨fun a ha => ?_, by omega⟩
  rw [h _ _ (by unfold dJB; omega), h _ _ (by unfold dJB; omega)]; exact h1 a ha
def dJL (i j : Nat) : Prop := i = 34 ∨ i = 44 ∨ i = 54 ∨ i = 107
theorem JL_d {D E : jD} (h : ∀ i j, dJL i j → E i j = D i j) (H : JL D) : JL E := by
  obtain ⟨lm, H⟩ := H
  refine ⟨lm, fun ly hl a ha => ?_⟩
  rw [h _ _ (by unfold dJL; omega), h _ _ (by unfold dJL; omega)]; exact H ly hl a ha
def dJV (i j : Nat) : Prop := ((i = 30 ∨ i = 40 ∨ i = 50) ∧ j = 4) ∨ i = 104
theorem JV_d {D E : jD} (h : ∀ i j, dJV i j → E i j = D i j) (H : JV D) : JV E := by
  obtain ⟨dv, H⟩ := H
  refine ⟨dv, fun ly hl => ?_⟩
  rw [h _ _ (by unfold dJV; omega), h _ _ (by unfold dJV; omega)]; exact H ly hl
def dJH (i j : Nat) : Prop := (i = 0 ∧ j = 6) ∨ (i = 100 ∧ j = 1) ∨ i = 36 ∨ i = 46 ∨ i = 56 ∨ i = 111 ∨ i = 4 ∨ i = 112
theorem JH_d {D E : jD} {tn : Nat} {hs : Nat → Nat → Nat → Option Nat} (h : ∀ i j, dJH i j → E i j = D i j) (H : JH D tn hs) : JH E tn hs := by
  obtain ⟨h1, h2, h3, h4, h5⟩ := H
  refine ⟨h1, ?_, ?_, fun t ht ly hl => ⟨(h4 t ht ly hl).1, fun q hq => ?_⟩, fun t h0 ht => ?_⟩
  · rw [h _ _ (by unfold dJH; omega)]; exact h2
  · rw [h _ _ (by unfold dJH; omega)]; exact h3
  · rw [h _ _ (by unfold dJH; omega), h _ _ (by unfold dJH; omega)]; exact (h4 t ht ly hl).2 q hq
  · rw [h _ _ (by unfold dJH; omega), h _ _ (by unfold dJH; omega)]; exact h5 t h0 ht
def dJS (i j : Nat) : Prop := (i = 0 ∧ (j = 7 ∨ j = 8)) ∨ (i = 100 ∧ j = 2) ∨ i = 108 ∨ i = 109 ∨ i = 35 ∨ i = 45 ∨ i = 55
theorem JS_d {n : Nat} {D E : jD} {cc : Nat → Nat → Option Nat} {tn : Nat} {hs : Nat → Nat → Nat → Option Nat} (h : ∀ i j, dJS i j → E i j = D i j) (H : JS n D cc tn hs) : JS (n + 1) E cc tn hs := by
  rcases H with ⟨h1, h2, h3⟩ | ⟨h1, h2, ⟨w, h3, h4, h5⟩, h6, ow, h7⟩
  · left
    refine ⟨?_, ?_, h3⟩
    · rw [h _ _ (by unfold dJS; omega)]; exact h1
    · rw [h _ _ (by unfold dJS; omega)]; exact h2
  · right
    refine ⟨?_, h2, ⟨w, h3, ?_, ?_⟩, fun ly hl q hq => ?_, ow, fun ly hl => ⟨fun a ha => ?_, ?_⟩⟩
    · rw [h _ _ (by unfold dJS; omega)]; exact h1
    · rw [h _ _ (by unfold dJS; omega)]; exact h4
    · rw [h _ _ (by unfold dJS; omega)]; exact h5
    · rw [h _ _ (by unfold dJS; omega)]; exact h6 ly hl q hq
    · rw [h _ _ (by unfold dJS; omega), h _ _ (by unfold dJS; omega)]; exact (h7 ly hl).1 a ha
    · have := (h7 ly hl).2; omega
def dJR (i j : Nat) : Prop := (i = 0 ∧ j = 4) ∨ (i = 100 ∧ j = 12) ∨ (60 ≤ i ∧ i < 66) ∨ i = 110 ∨ i = 114 ∨ i = 115 ∨ i = 116
theorem JR_d {Z Y : jZ} {D E : jD} (h : ∀ i j, dJR i j → E i j = D i j) (hz : Y.1 = Z.1) (hr : ∀ n fl sl, zXr Z n fl sl → zXr Y n fl sl) (H : JR Z D) : JR Y E := by
  obtain ⟨rn, fl, sl, sg, h1, h2, h3, h4, h5, h6, h7⟩ := H
  refine ⟨rn, fl, sl, sg, h1, hr _ _ _ h2, ?_, ?_, fun r hr => ?_, fun r hr => ?_, fun r h8 h9 => ?_⟩
  · rw [h _ _ (by unfold dJR; omega)]; exact h3
  · rw [h _ _ (by unfold dJR; omega)]; exact h4
  · rw [h _ _ (by unfold dJR; omega), h 114 _ (by unfold dJR; omega), h 115 _ (by unfold dJR; omega), h 116 _ (by unfold dJR; omega), h (60 + r) 3 (by unfold dJR; omega)]; exact h5 r hr
  · rw [h _ _ (by unfold dJR; omega)]; exact h6 r hr
  · rw [hz]; exact h7 r h8 h9
def dJW (i j : Nat) : Prop := (i = 0 ∧ j = 5) ∨ (i = 100 ∧ j = 16) ∨ (118 ≤ i ∧ i ≤ 121) ∨ (70 ≤ i ∧ i ≤ 81)
theorem JW_d {Z Y : jZ} {D E : jD} (h : ∀ i j, dJW i j → E i j = D i j) (hz : Y.1 = Z.1) (hr : ∀ n vl, zXv Z n vl → zXv Y n vl) (H : JW Z D) : JW Y E := by
  obtain ⟨vn, vl, vx, vy, vw, vh, cv, h1, h2, h3, h4, h5, h6, h7⟩ := H
  refine ⟨vn, vl, vx, vy, vw, vh, cv, h1, hr _ _ h2, ?_, ?_, fun v hv => ?_, fun v h8 h9 => ?_, fun k hk => ?_⟩
  · rw [h _ _ (by unfold dJW; omega)]; exact h3
  · rw [h _ _ (by unfold dJW; omega)]; exact h4
  · obtain ⟨a1, ⟨b1, b2, b3, b4, b5⟩, a3, a4⟩ := h5 v hv
    refine ⟨?_, ⟨?_, ?_, ?_, ?_, b5⟩, a3, fun q hq => ?_⟩
    · rw [h _ _ (by unfold dJW; omega)]; exact a1
    · rw [h _ _ (by unfold dJW; omega)]; exact b1
    · rw [h _ _ (by unfold dJW; omega)]; exact b2
    · rw [h _ _ (by unfold dJW; omega)]; exact b3
    · rw [h _ _ (by unfold dJW; omega)]; exact b4
    · rw [h 119 _ (by unfold dJW; omega), h 120 _ (by unfold dJW; omega), h 121 _ (by unfold dJW; omega), h (73 + 4 * v) _ (by unfold dJW; omega), h (71 + 4 * v) _ (by unfold dJW; omega)]; exact a4 q hq
  · rw [hz]; exact h6 v h8 h9
  · rw [h 121 _ (by unfold dJW; omega)]; exact h7 k hk
theorem JT_d {D E : jD} (h : ∀ j, E 12 j = D 12 j) (H : JT D) : JT E := by
  obtain ⟨t, h1, h2⟩ := H
  exact ⟨t, h1, fun k hk => by rw [h k]; exact h2 k hk⟩
section JOIN2
variable {l : Launch} {n : Nat} {Z : jZ} {D : jD} {Mw Mm : Nat → Nat → jM} {av : List Value} {oid : Nat} {ty : Value → Prop} {eqv : Value → UInt64 → Prop} {c s : Nat}
/-- it answers, on both sides, and the state goes on -/
theorem j_G {kr : Option Value → jZ → jD → Prop} {g : Value → UInt64} {xs : List String} (hc : c ≤ 4) (hs : s ≤ 776) (hW : ja_M l (Mw c s) (.ref 0 :: (av ++ [.ref oid])) Z D (ja_wr kr ja_x0 g oid xs) ja_x0) (hkr : ∀ b Z1 D1, kr (some b) Z1 D1 → ja_SH Z1 ∧
    ∃ (b2 : Value) (φ : jD → Prop), ja_M l (Mm 0 0) (.ref 100 :: av) (ja_ux Z1 oid 0 (g b)) D1 (ja_jd (some b2) (ja_ux Z1 oid 0 (g b)) φ) ja_x0 ∧ ty b2 ∧ eqv b2 (g b) ∧ ∀ D2, φ D2 → D2 100 0 = nI 0 ∧ JI (n + 1) Z1 D2) : ja_JP l Mw Mm av oid ty eqv n Z D := by
  refine ⟨c, s, _, hc, hs, hW, ?_⟩
  rintro v Z1 D1 (⟨b, Y, h, rfl, rfl⟩ | ⟨E, h, rfl⟩)
  · obtain ⟨hS, b2, φ, m1, m2, m3, m4⟩ := hkr _ _ _ h
    refine ⟨0, by decide, rfl, hS, _, m1, ?_⟩
    rintro w Z2 D2 ⟨rfl, rfl, hφ⟩
    obtain ⟨e1, e2⟩ := m4 _ hφ
    refine ⟨hS, e1, JI_ux e2, b2, rfl, m2, fun _ => ?_⟩
    have : (ja_ux Y oid 0 (g b)).2.2.2 oid 0 = g b := by simp [ja_ux]
    rw [this]
    exact m3
  · exact h.elim
end JOIN2
theorem fb_sm_up {f : Nat → Nat} {k x : Nat} : ∀ n, fb_sm (fun a => if a = k then x else f a) n ≤ fb_sm f n + (if k < n then x else 0)
  | 0 => Nat.le_refl _
  | n + 1 => by
    have ih := fb_sm_up (f := f) (k := k) (x := x) n
    rw [fb_sm_succ, fb_sm_succ]
    by_cases e : n = k
    · subst e
      rw [if_pos rfl, if_pos (by omega)]
      rw [if_neg (by omega)] at ih
      omega
    · rw [if_neg e]
      by_cases h : k < n
      · rw [if_pos (by omega)]; rw [if_pos h] at ih; omega
      · rw [if_neg (by omega)]; rw [if_neg h] at ih; omega
theorem fb_ct_ext {p : Nat → Bool} {n : Nat} : ∀ m, (∀ k, n ≤ k → k < n + m → p k = false) → fb_ct p (n + m) = fb_ct p n
  | 0, _ => rfl
  | m + 1, h => by
    rw [show n + (m + 1) = (n + m) + 1 by omega, fb_ct_succ, h (n + m) (by omega) (by omega), fb_ct_ext m (fun k h1 h2 => h k h1 (by omega))]
    rfl
theorem eqv_bb {x y : Bool} (h : x = y) : eqv_b (.int (bI y)) (g_b (.int (bI x))) := ⟨y, rfl, by subst h; cases x <;> rfl⟩
theorem val_ww {wv : Nat → Nat → Nat} {n : Nat} (hn : n < 512) (h : fb_sm (wv 0) 10 ≤ 9999 * n) : fb_sm (wv 0) 10 ≤ 8388607 := by omega
