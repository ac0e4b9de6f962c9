/-! JOINT THEOREMS, 7: change, reconcile (by wip/whole/x57.py) -/
def AG (X M : jD) : Prop := ∀ i, 100 ≤ i → X i = M i
theorem AG_up {X M : jD} (h : AG X M) {id j : Nat} {x y : Int32} (e : x = y) : AG (ja_up X id j x) (ja_up M id j y) := fun i hi => funext fun b => by
  simp only [ja_up, h i hi, e]
theorem AG_gi {X M : jD} (h : AG X M) {g : Nat → Bool} {n : Nat} : AG (giU X g n) (giU M g n) := fun i hi => funext fun b => by
  simp only [giU, h i hi]
theorem AG_gvM {X M : jD} (h : AG X M) {ly : Nat} {t : Int32} : gvM X ly t = gvM M ly t := funext fun q => by
  unfold gvM
  rw [h 125 (by decide), h 105 (by decide)]
theorem AG_gvL {X M : jD} (h : AG X M) {ly : Nat} {t : Int32} {a n : Nat} : gvL X ly t a n = gvL M ly t a n := by
  unfold gvL
  rw [AG_gvM h, h 105 (by decide)]
theorem AG_ls {X M : jD} (h : AG X M) {ly : Nat} {t : Int32} {n : Nat} : AG (lsU X ly t n) (lsU M ly t n) := fun i hi => funext fun b => by
  simp only [lsU, AG_gvL h, h i hi]
theorem AG_vst {X M : jD} (h : AG X M) {ly a : Nat} {t : Int32} (to : Option Nat) : AG (vst X ly a t to) (vst M ly a t to) := by
  have h6 := h 106 (by decide)
  cases to with
  | none => exact AG_up h (by rw [h6])
  | some b =>
    have h2 : AG (ja_up X 106 (10 * ly + a) (X 106 (10 * ly + a) - t)) (ja_up M 106 (10 * ly + a) (M 106 (10 * ly + a) - t)) := AG_up h (by rw [h6])
    exact AG_up h2 (by rw [h2 106 (by decide)])
theorem AG_vl {X M : jD} (h : AG X M) {ly : Nat} {to : Option Nat} {ls sz : Nat → Nat} : ∀ n, AG (vlU X ly to ls sz n) (vlU M ly to ls sz n)
  | 0 => h
  | n + 1 => by
    have ih := AG_vl h (ly := ly) (to := to) (ls := ls) (sz := sz) n
    rw [vlU, vlU, ih 106 (by decide)]
    exact AG_vst ih to
theorem AG_gvR {X M : jD} (h : AG X M) {ly : Nat} {to : Option Nat} {cp : Bool} : AG (gvR X ly to cp) (gvR M ly to cp) := by
  have h1 : AG (gvV X ly to cp) (gvV M ly to cp) := by
    cases cp with
    | true => rw [gvV, gvV, if_pos rfl, if_pos rfl]; exact AG_ls h
    | false =>
      rw [gvV, gvV, if_neg (by decide), if_neg (by decide)]
      have e1 : (fun a => gvL X ly (oI to) a 256) = fun a => gvL M ly (oI to) a 256 := funext fun a => AG_gvL h
      rw [e1, h 105 (by decide)]
      exact AG_vl (AG_ls h) 10
  have h2 : AG (arU (gvV X ly to cp) ly (oI to) 256) (arU (gvV M ly to cp) ly (oI to) 256) := fun i hi => funext fun b => by
    simp only [arU, h1 i hi, h1 125 (by decide)]
  exact fun i hi => funext fun b => by
    simp only [gvR, zrU, h2 i hi, h2 105 (by decide)]
theorem AG_rcB {X M : jD} (h : AG X M) {v ly q : Nat} {sv : Bool} : rcB X v ly sv q = rcB M v ly sv q := by
  unfold rcB cfl
  rw [h 119 (by decide), h 120 (by decide), h 121 (by decide), h 105 (by decide)]
theorem AG_rcE {X M : jD} (h : AG X M) {v ly : Nat} {sv cp : Bool} : ∀ q, AG (rcE X v ly sv cp q) (rcE M v ly sv cp q)
  | 0 => h
  | q + 1 => by
    have ih := AG_rcE h (v := v) (ly := ly) (sv := sv) (cp := cp) q
    rw [rcE, rcE, rcS, rcS, AG_rcB ih, ih 121 (by decide)]
    split
    · exact AG_gvR (AG_gi ih)
    · exact ih
theorem AG_rcN {X M : jD} (h : AG X M) {v ly : Nat} {sv cp : Bool} : ∀ q, rcN X v ly sv cp q = rcN M v ly sv cp q
  | 0 => rfl
  | q + 1 => by
    have ih := AG_rcE h (v := v) (ly := ly) (sv := sv) (cp := cp) q
    rw [rcN, rcN, AG_rcN h q, rcC, rcC, AG_rcB ih, AG_gvM (AG_gi ih), ih 121 (by decide)]
theorem rcE_5 {X : jD} {v ly b : Nat} {sv cp : Bool} (hb : ¬ (256 * ly ≤ b ∧ b < 256 * ly + 256)) : ∀ q, rcE X v ly sv cp q 105 b = X 105 b
  | 0 => rfl
  | q + 1 => by
    rw [rcE, rcS]
    split
    · rw [gvR_5, if_neg (fun z => hb ⟨z.1, z.2.1⟩), giU_5]; exact rcE_5 hb q
    · exact rcE_5 hb q
theorem rcE_6 {X : jD} {v ly b : Nat} {sv cp : Bool} (ht : ∀ q, q < 256 → ∀ a, toO (X 121 (256 * v + q)) = some a → a < 10) (hb : ¬ (10 * ly ≤ b ∧ b < 10 * ly + 10)) : ∀ q, q ≤ 256 → rcE X v ly sv cp q 106 b = X 106 b
  | 0, _ => rfl
  | q + 1, hq => by
    have ih := rcE_6 (X := X) (v := v) (ly := ly) (sv := sv) (cp := cp) ht hb q (by omega)
    rw [rcE, rcS]
    split
    · rw [gvR_6 (by rw [rcE_o (by decide) (by decide) (by decide) (by decide)]; exact ht q (by omega)) hb, giU_o (by decide)]; exact ih
    · exact ih
theorem toO_oI {x : Option Nat} (hx : ∀ a, x = some a → a < 10) : toO (oI x) = x := by
  cases x with
  | none => rfl
  | some a => exact toO_N (hx a rfl)
theorem cp_in {E : jD} {i0 i1 j : Nat} (hj : j < 256) : ja_cp E i0 0 i1 0 256 i1 j = E i0 j := by
  rw [ja_cp, if_pos rfl, va_cpy, if_pos (by omega)]
  congr 1
  omega
theorem cp_out {E : jD} {i0 i1 i j : Nat} (hi : ¬ i = i1) : ja_cp E i0 0 i1 0 256 i j = E i j := by rw [ja_cp, if_neg hi]
theorem JI_rec {n : Nat} {Z : jZ} {D E : jD} {cc : Nat → Nat → Option Nat} {wv : Nat → Nat → Nat} {tn : Nat} {hs : Nat → Nat → Nat → Option Nat} (hI : JI n Z D) (b1 : JA D cc) (b2 : JB n D cc wv) (b3 : JH D tn hs) (b4 : JS n D cc tn hs) (hin : D 0 7 = bI true) {vn : Nat} {vl vx vy vw vh : Nat → Nat} {cv : Nat → Nat → Option Nat} (y1 : vn ≤ 3) (y2 : zXv Z vn vl) (y3 : D 0 5 = nI vn) (y4 : D 100 16 = nI vn)
    (y5 : ∀ v, v < vn → D 118 v = nI (vl v) ∧ vbx D v (vx v) (vy v) (vw v) (vh v) ∧ (∀ q a, cv v q = some a → a < 10) ∧ ∀ q, q < 256 → D 119 (256 * v + q) = bI (inB (vx v) (vy v) (vw v) (vh v) q) ∧ D 120 (256 * v + q) = D (73 + 4 * v) q ∧ D 121 (256 * v + q) = D (71 + 4 * v) q ∧ D (71 + 4 * v) q = oI (cv v q)) (y6 : ∀ v, vn ≤ v → v < 3 → ∀ i, i < 4 → 70 + 4 * v + i ∉ Z.1) (y7 : wfV D)
    {v : Nat} (hv : v < vn) {sv cp : Bool} {m : Nat} {c : Nat → Option Nat} {w : Nat → Nat} (hR : RCI D E (ja_up D 100 0 (nI 0)) v (vl v) sv cp (wv (vl v)) 256 m c w) (D1 : jD) (hD1 : D1 = ja_cp (ja_cp E (31 + 10 * vl v) 0 (73 + 4 * v) 0 256) (31 + 10 * vl v) 0 (71 + 4 * v) 0 256) :
    rcN (ja_up D 100 0 (nI 0)) v (vl v) sv cp 256 = rcN (ja_up D1 100 0 (nI 0)) v (vl v) sv cp 256 ∧ rbU (rcE (ja_up D1 100 0 (nI 0)) v (vl v) sv cp 256) v (vl v) 256 100 0 = nI 0 ∧ JI (n + 1) Z (rbU (rcE (ja_up D1 100 0 (nI 0)) v (vl v) sv cp 256) v (vl v) 256) := by
  obtain ⟨a1, a2, a3, a4, -, a5, a6, a7, -⟩ := hI
  obtain ⟨r1, ⟨k1, k2, k3, k4, k5, k6, k7⟩, r3, r4, r5⟩ := hR
  obtain ⟨-, -, -, hvl, -⟩ := y2.1 v hv
  generalize hly : vl v = ly at *
  have d1 : ∀ i j, ¬ i = 71 + 4 * v → ¬ i = 73 + 4 * v → D1 i j = E i j := fun i j g1 g2 => by
    rw [hD1]
    rw [cp_out g1, cp_out g2]
  have d71 : ∀ q, q < 256 → D1 (71 + 4 * v) q = oI (c q) := fun q hq => by
    rw [hD1]
    rw [cp_in hq, cp_out (by omega)]; exact k1 q hq
  have d73 : ∀ q, q < 256 → D1 (73 + 4 * v) q = oI (c q) := fun q hq => by
    rw [hD1]
    rw [cp_out (by omega), cp_in hq]; exact k1 q hq
  have d100 : ∀ i j, 100 ≤ i → D1 i j = D i j := fun i j g => by
    rw [d1 i j (by omega) (by omega)]
    exact r1 i j (by omega) (by omega) (by omega) (by omega) (by omega)
  clear hD1
  have ag : AG (ja_up D 100 0 (nI 0)) (ja_up D1 100 0 (nI 0)) := fun i hi => funext fun j => by
    simp only [ja_up, d100 i j hi]
  have agE := AG_rcE ag (v := v) (ly := ly) (sv := sv) (cp := cp) 256
  refine ⟨AG_rcN ag 256, ?_, ?_⟩
  · rw [rbU_o (by decide), rcE_o (by decide) (by decide) (by decide) (by decide), up_s]
  generalize hM : rcE (ja_up D1 100 0 (nI 0)) v ly sv cp 256 = M at agE
  have m1 : ∀ i j, ¬ i = 105 → ¬ i = 106 → ¬ i = 124 → ¬ i = 125 → ¬ (i = 100 ∧ j = 0) → M i j = D1 i j := fun i j g1 g2 g3 g4 g5 => by
    rw [← hM, rcE_o g1 g2 g3 g4, up_n g5]
  have m5 : ∀ k, ¬ (256 * ly ≤ k ∧ k < 256 * ly + 256) → M 105 k = D 105 k := fun k hk => by
    rw [← agE 105 (by decide), rcE_5 hk, up_o (by decide)]
  have ht : ∀ q, q < 256 → ∀ a, toO (ja_up D 100 0 (nI 0) 121 (256 * v + q)) = some a → a < 10 := fun q hq a e => by
    obtain ⟨-, -, z3, z4⟩ := y5 v hv
    rw [up_o (by decide), (z4 q hq).2.2.1, (z4 q hq).2.2.2, toO_oI (z3 q)] at e
    exact z3 q a e
  have m6 : ∀ k, ¬ (10 * ly ≤ k ∧ k < 10 * ly + 10) → M 106 k = D 106 k := fun k hk => by
    rw [← agE 106 (by decide), rcE_6 ht hk 256 (Nat.le_refl _), up_o (by decide)]
  have M5 : ∀ q, q < 256 → M 105 (256 * ly + q) = oI (c q) := fun q hq => by rw [← agE 105 (by decide)]; exact k2 q hq
  have M6 : ∀ a, a < 10 → M 106 (10 * ly + a) = nI (w a) := fun a ha => by rw [← agE 106 (by decide)]; exact k6 a ha
  clear hM agE
  generalize hD2 : rbU M v ly 256 = D2
  have q1 : ∀ i j, ¬ (i = 120 ∨ i = 121) → D2 i j = M i j := fun i j g => by rw [← hD2, rbU_o g]
  have q2 : ∀ i, (i = 120 ∨ i = 121) → ∀ q, q < 256 → D2 i (256 * v + q) = oI (c q) := fun i hi q hq => by
    rw [← hD2, rbU, if_pos ⟨hi, by omega, by omega⟩, show 256 * v + q - 256 * v = q by omega]; exact M5 q hq
  have q3 : ∀ i, (i = 120 ∨ i = 121) → ∀ k, ¬ (256 * v ≤ k ∧ k < 256 * v + 256) → D2 i k = D i k := fun i hi k hk => by
    rw [← hD2, rbU, if_neg (fun z => hk z.2), m1 i k (by omega) (by omega) (by omega) (by omega) (by omega), d100 i k (by omega)]
  clear hD2
  have e : ∀ i j, ¬ (105 ≤ i ∧ i ≤ 106) → ¬ (120 ≤ i ∧ i ≤ 125) → ¬ (i = 100 ∧ j = 0) → ¬ i = 71 + 4 * v → ¬ i = 73 + 4 * v → ¬ i = 31 + 10 * ly → ¬ i = 32 + 10 * ly → ¬ i = 33 + 10 * ly → ¬ i = 37 + 10 * ly → ¬ (i = 30 + 10 * ly ∧ j = 8) → D2 i j = D i j := fun i j g1 g2 g3 g4 g5 g6 g7 g8 g9 g10 => by
    rw [q1 i j (by omega), m1 i j (by omega) (by omega) (by omega) (by omega) g3, d1 i j g4 g5, r1 i j g6 g7 g8 g9 g10]
  have qE : ∀ i j, (i = 31 + 10 * ly ∨ i = 32 + 10 * ly ∨ i = 33 + 10 * ly) → D2 i j = E i j := fun i j hi => by
    rw [q1 i j (by omega), m1 i j (by omega) (by omega) (by omega) (by omega) (by omega), d1 i j (by omega) (by omega)]
  have eS : JS (n + 1) D2 cc tn hs := JS_d (fun i j hd => by unfold dJS at hd; exact e i j (by omega) (by omega) (by omega) (by omega) (by omega) (by omega) (by omega) (by omega) (by omega) (by omega)) b4
  have eS2 : ∀ c2, JS (n + 1) D2 c2 tn hs := fun c2 => by
    rcases eS with ⟨z, -⟩ | z
    · exfalso
      have z2 := z.symm.trans ((e 0 7 (by omega) (by omega) (by omega) (by omega) (by omega) (by omega) (by omega) (by omega) (by omega) (by omega)).trans hin)
      exact absurd z2 (by decide)
    · exact Or.inr z
  refine ⟨a1, a2, a3, JT_d (fun j => e 12 j (by omega) (by omega) (by omega) (by omega) (by omega) (by omega) (by omega) (by omega) (by omega) (by omega)) a4, ⟨fun k => if k = ly then c else cc k, fun k hk => ?_, ⟨fun k => if k = ly then w else wv k, fun k hk => ?_⟩, tn, hs, JH_d (fun i j hd => by unfold dJH at hd; exact e i j (by omega) (by omega) (by omega) (by omega) (by omega) (by omega) (by omega) (by omega) (by omega) (by omega)) b3, eS2 _⟩, JL_d (fun i j hd => by unfold dJL at hd; exact e i j (by omega) (by omega) (by omega) (by omega) (by omega) (by omega) (by omega) (by omega) (by omega) (by omega)) a5, JV_d (fun i j hd => by unfold dJV at hd; exact e i j (by omega) (by omega) (by omega) (by omega) (by omega) (by omega) (by omega) (by omega) (by omega) (by omega)) a6, JR_d (fun i j hd => by unfold dJR at hd; exact e i j (by omega) (by omega) (by omega) (by omega) (by omega) (by omega) (by omega) (by omega) (by omega) (by omega)) rfl (fun _ _ _ h => h) a7, ⟨vn, vl, vx, vy, vw, vh, fun k => if k = v then c else cv k, y1, y2, by rw [e 0 5 (by omega) (by omega) (by omega) (by omega) (by omega) (by omega) (by omega) (by omega) (by omega) (by omega)]; exact y3, by rw [e 100 16 (by omega) (by omega) (by omega) (by omega) (by omega) (by omega) (by omega) (by omega) (by omega) (by omega)]; exact y4, fun k hk => ?_, y6, fun k hk => ?_⟩⟩
  · by_cases z : k = ly
    · subst z
      simp only [if_true]
      exact ⟨k3, fun q hq => ⟨by rw [qE _ _ (by omega)]; exact k1 q hq, by rw [q1 _ _ (by omega)]; exact M5 q hq⟩, fun a ha => by rw [qE _ _ (by omega)]; exact k4 a ha⟩
    · simp only [if_neg z]
      obtain ⟨s1, s2, s3⟩ := b1 k hk
      refine ⟨s1, fun q hq => ⟨?_, ?_⟩, fun a ha => ?_⟩
      · rw [e _ _ (by omega) (by omega) (by omega) (by omega) (by omega) (by omega) (by omega) (by omega) (by omega) (by omega)]; exact (s2 q hq).1
      · rw [q1 _ _ (by omega), m5 _ (by omega)]; exact (s2 q hq).2
      · rw [e _ _ (by omega) (by omega) (by omega) (by omega) (by omega) (by omega) (by omega) (by omega) (by omega) (by omega)]; exact s3 a ha
  · by_cases z : k = ly
    · subst z
      simp only [if_true]
      have := (b2 k hk).2
      refine ⟨fun a ha => ⟨by rw [qE _ _ (by omega)]; exact k5 a ha, by rw [q1 _ _ (by omega)]; exact M6 a ha, r3 a ha⟩, by omega⟩
    · simp only [if_neg z]
      obtain ⟨s1, s2⟩ := b2 k hk
      refine ⟨fun a ha => ⟨?_, ?_, (s1 a ha).2.2⟩, by omega⟩
      · rw [e _ _ (by omega) (by omega) (by omega) (by omega) (by omega) (by omega) (by omega) (by omega) (by omega) (by omega)]; exact (s1 a ha).1
      · rw [q1 _ _ (by omega), m6 _ (by omega)]; exact (s1 a ha).2.1
  · obtain ⟨z1, ⟨x1, x2, x3, x4, x5⟩, z3, z4⟩ := y5 k hk
    refine ⟨?_, ⟨?_, ?_, ?_, ?_, x5⟩, ?_, fun q hq => ?_⟩
    · rw [e _ _ (by omega) (by omega) (by omega) (by omega) (by omega) (by omega) (by omega) (by omega) (by omega) (by omega)]; exact z1
    · rw [e _ _ (by omega) (by omega) (by omega) (by omega) (by omega) (by omega) (by omega) (by omega) (by omega) (by omega)]; exact x1
    · rw [e _ _ (by omega) (by omega) (by omega) (by omega) (by omega) (by omega) (by omega) (by omega) (by omega) (by omega)]; exact x2
    · rw [e _ _ (by omega) (by omega) (by omega) (by omega) (by omega) (by omega) (by omega) (by omega) (by omega) (by omega)]; exact x3
    · rw [e _ _ (by omega) (by omega) (by omega) (by omega) (by omega) (by omega) (by omega) (by omega) (by omega) (by omega)]; exact x4
    · by_cases z : k = v
      · subst z; simp only [if_true]; exact k3
      · simp only [if_neg z]; exact z3
    · rw [e 119 _ (by omega) (by omega) (by omega) (by omega) (by omega) (by omega) (by omega) (by omega) (by omega) (by omega)]
      refine ⟨(z4 q hq).1, ?_⟩
      by_cases z : k = v
      · subst z
        simp only [if_true]
        rw [q2 120 (by omega) q hq, q2 121 (by omega) q hq, q1 (73 + 4 * k) _ (by omega), q1 (71 + 4 * k) _ (by omega), m1 (73 + 4 * k) _ (by omega) (by omega) (by omega) (by omega) (by omega), m1 (71 + 4 * k) _ (by omega) (by omega) (by omega) (by omega) (by omega), d73 q hq, d71 q hq]
        exact ⟨rfl, rfl, rfl⟩
      · simp only [if_neg z]
        rw [q3 120 (by omega) _ (by omega), q3 121 (by omega) _ (by omega), e (73 + 4 * k) _ (by omega) (by omega) (by omega) (by omega) (by omega) (by omega) (by omega) (by omega) (by omega) (by omega), e (71 + 4 * k) _ (by omega) (by omega) (by omega) (by omega) (by omega) (by omega) (by omega) (by omega) (by omega) (by omega)]
        exact (z4 q hq).2
  · by_cases z : 256 * v ≤ k ∧ k < 256 * v + 256
    · have := q2 121 (by omega) (k - 256 * v) (by omega)
      rw [show 256 * v + (k - 256 * v) = k by omega] at this
      rw [this]
      cases hc : c (k - 256 * v) with
      | none => exact Or.inl rfl
      | some a => exact Or.inr ⟨a, k3 _ a hc, rfl⟩
    · rw [q3 121 (by omega) k z]; exact y7 k hk
theorem j_reconcile (l : Launch) : ∀ (p0 p1 : Int32), ja_JC l JI mL_reconcile mX8_reconcile [.int p0, .int p1] 200 ty_i eqv_i := by
  intro p0 p1 n Z D hn hI
  show ja_JP l mL_reconcile mX8_reconcile [.int p0, .int p1] 200 ty_i eqv_i n Z D
  obtain ⟨a1, a2, a3, a4, ⟨cc, b1, ⟨wv, b2⟩, tn, hs, b3, b4⟩, a5, a6, a7, a8⟩ := id hI
  obtain ⟨vn, vl, vx, vy, vw, vh, cv, y1, y2, y3, y4, y5, y6, y7⟩ := id a8
  by_cases gk : 0 ≤ p0.toInt ∧ p0.toInt < vn
  rotate_left
  · refine j_F hI (c := 1) (s := 6) (k := 1) (by decide) (by decide) (w_reconcile l (c_reconcile_f1 (D := D) l a2 y2 y1 gk p1) a1.1 (fun _ _ _ h => h.elim) (fun E Z1 D1 h => by rw [h.1]; decide)) (fun E Z1 D1 h => ⟨h.1, h.2.1, by rw [h.2.2]; exact frs_r _⟩) (by decide) (by decide) (fun D1 hf hI1 => ?_)
    exact ⟨_, _, r_reconcile_f1 l a3 ((hf.1 100 16 (by unfold scr; omega)).trans y4) y1 p1 gk, ⟨_, rfl⟩, fun D2 h => by subst h; exact ⟨up_s, frs_0 _ _⟩⟩
  obtain ⟨v, h1, rfl⟩ := k_rng (by omega) gk
  obtain ⟨z1, z2, z3, z4⟩ := y5 v h1
  obtain ⟨-, -, -, hvl, -⟩ := y2.1 v h1
  have hv3 : v < 3 := by omega
  by_cases gs0 : p1 = nI 118 ∨ p1 = nI 108
  rotate_left
  · refine j_F hI (c := 1) (s := 6) (k := 2) (by decide) (by decide) (w_reconcile l (c_reconcile_f2 (D := D) l a2 y2 y1 h1 gs0) a1.1 (fun _ _ _ h => h.elim) (fun E Z1 D1 h => by rw [h.1]; decide)) (fun E Z1 D1 h => ⟨h.1, h.2.1, by rw [h.2.2]; exact frs_r _⟩) (by decide) (by decide) (fun D1 hf hI1 => ?_)
    exact ⟨_, _, r_reconcile_f2 l a3 ((hf.1 100 16 (by unfold scr; omega)).trans y4) y1 h1 gs0, ⟨_, rfl⟩, fun D2 h => by subst h; exact ⟨up_s, frs_0 _ _⟩⟩
  rcases gs0 with gs | gs
  · subst gs
    rcases id b4 with ⟨i1, i2, i3⟩ | ⟨i1, i2, ⟨w0, i3, i4, i5⟩, i6⟩
    · refine j_F hI (c := 1) (s := 6) (k := 3) (by decide) (by decide) (w_reconcile l (c_reconcile_f3t (D := D) l a2 y2 y1 i1 h1) a1.1 (fun _ _ _ h => h.elim) (fun E Z1 D1 h => by rw [h.1]; decide)) (fun E Z1 D1 h => ⟨h.1, h.2.1, by rw [h.2.2]; exact frs_r _⟩) (by decide) (by decide) (fun D1 hf hI1 => ?_)
      exact ⟨_, _, r_reconcile_f3t l a3 ((hf.1 100 16 (by unfold scr; omega)).trans y4) y1 h1 ((hf.1 100 2 (by unfold scr; omega)).trans i2), ⟨_, rfl⟩, fun D2 h => by subst h; exact ⟨up_s, frs_0 _ _⟩⟩
    obtain ⟨dv, hdv⟩ := id a6
    obtain ⟨w1, w2, w3⟩ := b1 _ hvl
    obtain ⟨x1, x2⟩ := b2 _ hvl
    have hX : ∀ i j, ¬ i = 100 → ja_up D 100 0 (nI 0) i j = D i j := fun i j g => up_n (by omega)
    refine j_G (c := 0) (s := 0) (by decide) (by decide) (w_reconcile l (c_reconcile_okt (D := D) l a2 y2 y1 h1 z2 i1 (X := ja_up D 100 0 (nI 0)) (c0 := cc (vl v)) (cv := cv v) (w0 := wv (vl v)) (cp := !dv (vl v)) ⟨fun q hq => (w2 q hq).1, fun q hq => by rw [hX 105 _ (by omega)]; exact (w2 q hq).2, w1, w3, fun a ha => (x1 a ha).1, fun a ha => by rw [hX 106 _ (by omega)]; exact (x1 a ha).2.1, by omega⟩ (fun a ha => (x1 a ha).2.2) (by rw [Bool.not_not]; exact (hdv _ hvl).1) (fun q hq => by rw [hX 119 _ (by omega)]; exact (z4 q hq).1) (fun q hq => by rw [hX 120 _ (by omega)]; exact (z4 q hq).2.1) (fun q hq => by rw [hX 121 _ (by omega)]; exact (z4 q hq).2.2.1) (fun q hq => (z4 q hq).2.2.2) z3) a1.1 (fun v9 Z1 D1 h => ?_) (fun _ _ _ h => h.elim)) (fun b8 Z1 D1 h => ?_)
    · obtain ⟨E, c, w, g1, g2, g3, g4⟩ := h
      exact ⟨by rw [g2]; exact a1.2.2.1, _, g1⟩
    obtain ⟨E, c, w, hb, rfl, rfl, hR⟩ := h
    cases hb
    have fD : ∀ i j, 100 ≤ i → ja_cp (ja_cp E (31 + 10 * vl v) 0 (73 + 4 * v) 0 256) (31 + 10 * vl v) 0 (71 + 4 * v) 0 256 i j = D i j := fun i j g => by
      rw [cp_out (by omega), cp_out (by omega)]
      exact hR.1 i j (by omega) (by omega) (by omega) (by omega) (by omega)
    obtain ⟨e1, e2, e3⟩ := JI_rec hI b1 b2 b3 b4 i1 y1 y2 y3 y4 y5 y6 y7 h1 hR _ rfl
    refine ⟨a1, _, _, r_reconcile_okt l (zM_u a3) ((fD 100 16 (by omega)).trans y4) y1 h1 ((fD 118 _ (by omega)).trans z1) hvl (fun k hk => by rw [fD 105 _ (by omega)]; exact JA_wA b1 k hk) (fun k hk => by rw [fD 121 _ (by omega)]; exact y7 k hk) ((fD 104 _ (by omega)).trans (hdv _ hvl).2) ((fD 100 2 (by omega)).trans i5) i3, ⟨_, rfl⟩, eqv_ii (congrArg nI e1), fun D2 h => ?_⟩
    subst h
    exact ⟨e2, e3⟩
  · subst gs
    rcases id b4 with ⟨i1, i2, i3⟩ | ⟨i1, i2, ⟨w0, i3, i4, i5⟩, i6⟩
    · refine j_F hI (c := 1) (s := 6) (k := 3) (by decide) (by decide) (w_reconcile l (c_reconcile_f3f (D := D) l a2 y2 y1 i1 h1) a1.1 (fun _ _ _ h => h.elim) (fun E Z1 D1 h => by rw [h.1]; decide)) (fun E Z1 D1 h => ⟨h.1, h.2.1, by rw [h.2.2]; exact frs_r _⟩) (by decide) (by decide) (fun D1 hf hI1 => ?_)
      exact ⟨_, _, r_reconcile_f3f l a3 ((hf.1 100 16 (by unfold scr; omega)).trans y4) y1 h1 ((hf.1 100 2 (by unfold scr; omega)).trans i2), ⟨_, rfl⟩, fun D2 h => by subst h; exact ⟨up_s, frs_0 _ _⟩⟩
    obtain ⟨dv, hdv⟩ := id a6
    obtain ⟨w1, w2, w3⟩ := b1 _ hvl
    obtain ⟨x1, x2⟩ := b2 _ hvl
    have hX : ∀ i j, ¬ i = 100 → ja_up D 100 0 (nI 0) i j = D i j := fun i j g => up_n (by omega)
    refine j_G (c := 0) (s := 0) (by decide) (by decide) (w_reconcile l (c_reconcile_okf (D := D) l a2 y2 y1 h1 z2 i1 (X := ja_up D 100 0 (nI 0)) (c0 := cc (vl v)) (cv := cv v) (w0 := wv (vl v)) (cp := !dv (vl v)) ⟨fun q hq => (w2 q hq).1, fun q hq => by rw [hX 105 _ (by omega)]; exact (w2 q hq).2, w1, w3, fun a ha => (x1 a ha).1, fun a ha => by rw [hX 106 _ (by omega)]; exact (x1 a ha).2.1, by omega⟩ (fun a ha => (x1 a ha).2.2) (by rw [Bool.not_not]; exact (hdv _ hvl).1) (fun q hq => by rw [hX 119 _ (by omega)]; exact (z4 q hq).1) (fun q hq => by rw [hX 120 _ (by omega)]; exact (z4 q hq).2.1) (fun q hq => by rw [hX 121 _ (by omega)]; exact (z4 q hq).2.2.1) (fun q hq => (z4 q hq).2.2.2) z3) a1.1 (fun v9 Z1 D1 h => ?_) (fun _ _ _ h => h.elim)) (fun b8 Z1 D1 h => ?_)
    · obtain ⟨E, c, w, g1, g2, g3, g4⟩ := h
      exact ⟨by rw [g2]; exact a1.2.2.1, _, g1⟩
    obtain ⟨E, c, w, hb, rfl, rfl, hR⟩ := h
    cases hb
    have fD : ∀ i j, 100 ≤ i → ja_cp (ja_cp E (31 + 10 * vl v) 0 (73 + 4 * v) 0 256) (31 + 10 * vl v) 0 (71 + 4 * v) 0 256 i j = D i j := fun i j g => by
      rw [cp_out (by omega), cp_out (by omega)]
      exact hR.1 i j (by omega) (by omega) (by omega) (by omega) (by omega)
    obtain ⟨e1, e2, e3⟩ := JI_rec hI b1 b2 b3 b4 i1 y1 y2 y3 y4 y5 y6 y7 h1 hR _ rfl
    refine ⟨a1, _, _, r_reconcile_okf l (zM_u a3) ((fD 100 16 (by omega)).trans y4) y1 h1 ((fD 118 _ (by omega)).trans z1) hvl (fun k hk => by rw [fD 105 _ (by omega)]; exact JA_wA b1 k hk) (fun k hk => by rw [fD 121 _ (by omega)]; exact y7 k hk) ((fD 104 _ (by omega)).trans (hdv _ hvl).2) ((fD 100 2 (by omega)).trans i5) i3, ⟨_, rfl⟩, eqv_ii (congrArg nI e1), fun D2 h => ?_⟩
    subst h
    exact ⟨e2, e3⟩
theorem j_change (l : Launch) : ∀ (p0 p1 p2 : Int32), ja_JC l JI mL_change mX8_change [.int p0, .int p1, .int p2] 200 ty_i eqv_i := by
  intro p0 p1 p2 n Z D hn hI
  show ja_JP l mL_change mX8_change [.int p0, .int p1, .int p2] 200 ty_i eqv_i n Z D
  obtain ⟨a1, a2, a3, a4, ⟨cc, b1, ⟨wv, b2⟩, tn, hs, b3, b4⟩, a5, a6, a7, a8⟩ := id hI
  obtain ⟨vn, vl, vx, vy, vw, vh, cv, y1, y2, y3, y4, y5, y6, y7⟩ := id a8
  by_cases gk : 0 ≤ p0.toInt ∧ p0.toInt < vn
  rotate_left
  · refine j_F hI (c := 1) (s := 6) (k := 1) (by decide) (by decide) (w_change l (c_change_f1 (D := D) l a2 y2 y1 gk p1 p2) a1.1 (fun _ _ _ h => h.elim) (fun E Z1 D1 h => by rw [h.1]; decide)) (fun E Z1 D1 h => ⟨h.1, h.2.1, by rw [h.2.2]; exact frs_r _⟩) (by decide) (by decide) (fun D1 hf hI1 => ?_)
    exact ⟨_, _, r_change_f1 l a3 ((hf.1 100 16 (by unfold scr; omega)).trans y4) y1 p1 p2 gk, ⟨_, rfl⟩, fun D2 h => by subst h; exact ⟨up_s, frs_0 _ _⟩⟩
  obtain ⟨v, h1, rfl⟩ := k_rng (by omega) gk
  obtain ⟨z1, z2, z3, z4⟩ := y5 v h1
  obtain ⟨-, -, -, hvl, -⟩ := y2.1 v h1
  have hv3 : v < 3 := by omega
  by_cases gp1 : nI 0 ≤ p1 ∧ p1 ≤ nI 255
  rotate_left
  · refine j_F hI (c := 1) (s := 6) (k := 2) (by decide) (by decide) (w_change l (c_change_f2 (D := D) l a2 y2 y1 h1 p2 gp1) a1.1 (fun _ _ _ h => h.elim) (fun E Z1 D1 h => by rw [h.1]; decide)) (fun E Z1 D1 h => ⟨h.1, h.2.1, by rw [h.2.2]; exact frs_r _⟩) (by decide) (by decide) (fun D1 hf hI1 => ?_)
    exact ⟨_, _, r_change_f2 l a3 ((hf.1 100 16 (by unfold scr; omega)).trans y4) y1 h1 p2 gp1, ⟨_, rfl⟩, fun D2 h => by subst h; exact ⟨up_s, frs_0 _ _⟩⟩
  obtain ⟨q, h2, rfl⟩ := nI_rng (by decide) gp1
  have hq : q < 256 := by omega
  by_cases gin : inB (vx v) (vy v) (vw v) (vh v) q = true
  rotate_left
  · have gin : inB (vx v) (vy v) (vw v) (vh v) q = false := by
      cases hh : inB (vx v) (vy v) (vw v) (vh v) q with
      | true => exact absurd hh gin
      | false => rfl
    refine j_F hI (c := 1) (s := 6) (k := 2) (by decide) (by decide) (w_change l (c_change_f2b (D := D) l a2 y2 y1 h1 z2 hq p2 gin) a1.1 (fun _ _ _ h => h.elim) (fun E Z1 D1 h => by rw [h.1]; decide)) (fun E Z1 D1 h => ⟨h.1, h.2.1, by rw [h.2.2]; exact frs_r _⟩) (by decide) (by decide) (fun D1 hf hI1 => ?_)
    exact ⟨_, _, r_change_f2b l a3 ((hf.1 100 16 (by unfold scr; omega)).trans y4) y1 h1 hq p2 ((hf.1 119 _ (by unfold scr; omega)).trans ((z4 q hq).1.trans (by rw [gin]))), ⟨_, rfl⟩, fun D2 h => by subst h; exact ⟨up_s, frs_0 _ _⟩⟩
  by_cases gm : p2 = -1
  · subst gm
    have ht : ∀ b, none = some b → b < 10 := by
      intro b e
      cases e
    refine j_G (c := 0) (s := 0) (by decide) (by decide) (w_change l (c_change_ok (D := D) l a2 y2 y1 h1 z2 hq gin (t := none) ht) a1.1 (fun v Z1 D1 h => ⟨by rw [h.2.1]; exact a1.2.2.1, _, h.1⟩) (fun _ _ _ h => h.elim)) (fun b8 Z1 D1 h => ?_)
    obtain ⟨hb, rfl, hd⟩ := h
    cases hb
    subst hd
    refine ⟨a1, _, _, r_change_okN l (zM_u a3) ((up_n (by omega)).trans y4) y1 h1 hq ((up_n (by omega)).trans ((z4 q hq).1.trans (by rw [gin]))), ⟨_, rfl⟩, eqv_ii (by rw [up_n (by omega)]; exact (z4 q hq).2.2.1.symm), fun D2 h => ?_⟩
    subst h
    exact ⟨by rw [up_n (by omega), up_s], ⟨a1, a2, a3, JT_d (fun j => by rw [up_n (by omega), up_n (by omega), up_n (by omega)]) a4, ⟨cc, JA_d (fun i j hd => by unfold dJA at hd; rw [up_n (by omega), up_n (by omega), up_n (by omega)]) b1, ⟨wv, JB_d (fun i j hd => by unfold dJB at hd; rw [up_n (by omega), up_n (by omega), up_n (by omega)]) b2⟩, tn, hs, JH_d (fun i j hd => by unfold dJH at hd; rw [up_n (by omega), up_n (by omega), up_n (by omega)]) b3, JS_d (fun i j hd => by unfold dJS at hd; rw [up_n (by omega), up_n (by omega), up_n (by omega)]) b4⟩, JL_d (fun i j hd => by unfold dJL at hd; rw [up_n (by omega), up_n (by omega), up_n (by omega)]) a5, JV_d (fun i j hd => by unfold dJV at hd; rw [up_n (by omega), up_n (by omega), up_n (by omega)]) a6, JR_d (fun i j hd => by unfold dJR at hd; rw [up_n (by omega), up_n (by omega), up_n (by omega)]) rfl (fun _ _ _ h => h) a7, ⟨vn, vl, vx, vy, vw, vh, fun k => if k = v then (fun b => if b = q then none else cv v b) else cv k, y1, y2, by rw [up_n (by omega), up_n (by omega), up_n (by omega)]; exact y3, by rw [up_n (by omega), up_n (by omega), up_n (by omega)]; exact y4, fun k hk => by
      obtain ⟨c1, ⟨x1, x2, x3, x4, x5⟩, c3, c4⟩ := y5 k hk
      refine ⟨?_, ⟨?_, ?_, ?_, ?_, x5⟩, ?_, fun r hr => ?_⟩
      · rw [up_n (by omega), up_n (by omega), up_n (by omega)]; exact c1
      · rw [up_n (by omega), up_n (by omega), up_n (by omega)]; exact x1
      · rw [up_n (by omega), up_n (by omega), up_n (by omega)]; exact x2
      · rw [up_n (by omega), up_n (by omega), up_n (by omega)]; exact x3
      · rw [up_n (by omega), up_n (by omega), up_n (by omega)]; exact x4
      · by_cases z : k = v
        · subst z
          simp only [if_true]
          intro r a hr
          by_cases zz : r = q
          · rw [if_pos zz] at hr; exact ht a hr
          · rw [if_neg zz] at hr; exact c3 r a hr
        · simp only [if_neg z]; exact c3
      · obtain ⟨s1, s2, s3, s4⟩ := c4 r hr
        refine ⟨?_, ?_, ?_⟩
        · rw [up_n (by omega), up_n (by omega), up_n (by omega)]; exact s1
        · rw [up_n (by omega), up_n (by omega), up_n (by omega), up_n (by omega), up_n (by omega), up_n (by omega)]; exact s2
        · by_cases z : k = v ∧ r = q
          · obtain ⟨rfl, rfl⟩ := z
            simp only [if_true]
            rw [up_s, up_n (by omega), up_n (by omega), up_s]
            exact ⟨rfl, rfl⟩
          · rw [up_n (by omega), up_n (by omega), up_n (by omega), up_n (by omega), up_n (by omega), up_n (by omega)]
            refine ⟨s3, ?_⟩
            by_cases z1 : k = v
            · subst z1
              simp only [if_true]
              rw [if_neg (fun zz => z ⟨rfl, zz⟩)]
              exact s4
            · simp only [if_neg z1]; exact s4, y6, fun k hk => by
      by_cases z : k = 256 * v + q
      · subst z
        rw [up_s]
        exact Or.inl rfl
      · rw [up_n (by omega), up_n (by omega), up_n (by omega)]; exact y7 k hk⟩⟩⟩
  by_cases gp2 : nI 0 ≤ p2 ∧ p2 ≤ nI 9
  rotate_left
  · refine j_F hI (c := 1) (s := 6) (k := 3) (by decide) (by decide) (w_change l (c_change_f3 (D := D) l a2 y2 y1 h1 z2 hq gin gm gp2) a1.1 (fun _ _ _ h => h.elim) (fun E Z1 D1 h => by rw [h.1]; decide)) (fun E Z1 D1 h => ⟨h.1, h.2.1, by rw [h.2.2]; exact frs_r _⟩) (by decide) (by decide) (fun D1 hf hI1 => ?_)
    exact ⟨_, _, r_change_f3 l a3 ((hf.1 100 16 (by unfold scr; omega)).trans y4) y1 h1 hq ((hf.1 119 _ (by unfold scr; omega)).trans ((z4 q hq).1.trans (by rw [gin]))) gm gp2, ⟨_, rfl⟩, fun D2 h => by subst h; exact ⟨up_s, frs_0 _ _⟩⟩
  obtain ⟨a, h4, rfl⟩ := nI_rng (by decide) gp2
  have h3 : a < 10 := by omega
  have ht : ∀ b, (some a) = some b → b < 10 := by
    intro b e
    cases e
    omega
  refine j_G (c := 0) (s := 0) (by decide) (by decide) (w_change l (c_change_ok (D := D) l a2 y2 y1 h1 z2 hq gin (t := (some a)) ht) a1.1 (fun v Z1 D1 h => ⟨by rw [h.2.1]; exact a1.2.2.1, _, h.1⟩) (fun _ _ _ h => h.elim)) (fun b8 Z1 D1 h => ?_)
  obtain ⟨hb, rfl, hd⟩ := h
  cases hb
  subst hd
  refine ⟨a1, _, _, r_change_ok l (zM_u a3) ((up_n (by omega)).trans y4) y1 h1 hq ((up_n (by omega)).trans ((z4 q hq).1.trans (by rw [gin]))) h3, ⟨_, rfl⟩, eqv_ii (by rw [up_n (by omega)]; exact (z4 q hq).2.2.1.symm), fun D2 h => ?_⟩
  subst h
  exact ⟨by rw [up_n (by omega), up_s], ⟨a1, a2, a3, JT_d (fun j => by rw [up_n (by omega), up_n (by omega), up_n (by omega)]) a4, ⟨cc, JA_d (fun i j hd => by unfold dJA at hd; rw [up_n (by omega), up_n (by omega), up_n (by omega)]) b1, ⟨wv, JB_d (fun i j hd => by unfold dJB at hd; rw [up_n (by omega), up_n (by omega), up_n (by omega)]) b2⟩, tn, hs, JH_d (fun i j hd => by unfold dJH at hd; rw [up_n (by omega), up_n (by omega), up_n (by omega)]) b3, JS_d (fun i j hd => by unfold dJS at hd; rw [up_n (by omega), up_n (by omega), up_n (by omega)]) b4⟩, JL_d (fun i j hd => by unfold dJL at hd; rw [up_n (by omega), up_n (by omega), up_n (by omega)]) a5, JV_d (fun i j hd => by unfold dJV at hd; rw [up_n (by omega), up_n (by omega), up_n (by omega)]) a6, JR_d (fun i j hd => by unfold dJR at hd; rw [up_n (by omega), up_n (by omega), up_n (by omega)]) rfl (fun _ _ _ h => h) a7, ⟨vn, vl, vx, vy, vw, vh, fun k => if k = v then (fun b => if b = q then (some a) else cv v b) else cv k, y1, y2, by rw [up_n (by omega), up_n (by omega), up_n (by omega)]; exact y3, by rw [up_n (by omega), up_n (by omega), up_n (by omega)]; exact y4, fun k hk => by
    obtain ⟨c1, ⟨x1, x2, x3, x4, x5⟩, c3, c4⟩ := y5 k hk
    refine ⟨?_, ⟨?_, ?_, ?_, ?_, x5⟩, ?_, fun r hr => ?_⟩
    · rw [up_n (by omega), up_n (by omega), up_n (by omega)]; exact c1
    · rw [up_n (by omega), up_n (by omega), up_n (by omega)]; exact x1
    · rw [up_n (by omega), up_n (by omega), up_n (by omega)]; exact x2
    · rw [up_n (by omega), up_n (by omega), up_n (by omega)]; exact x3
    · rw [up_n (by omega), up_n (by omega), up_n (by omega)]; exact x4
    · by_cases z : k = v
      · subst z
        simp only [if_true]
        intro r a hr
        by_cases zz : r = q
        · rw [if_pos zz] at hr; exact ht a hr
        · rw [if_neg zz] at hr; exact c3 r a hr
      · simp only [if_neg z]; exact c3
    · obtain ⟨s1, s2, s3, s4⟩ := c4 r hr
      refine ⟨?_, ?_, ?_⟩
      · rw [up_n (by omega), up_n (by omega), up_n (by omega)]; exact s1
      · rw [up_n (by omega), up_n (by omega), up_n (by omega), up_n (by omega), up_n (by omega), up_n (by omega)]; exact s2
      · by_cases z : k = v ∧ r = q
        · obtain ⟨rfl, rfl⟩ := z
          simp only [if_true]
          rw [up_s, up_n (by omega), up_n (by omega), up_s]
          exact ⟨rfl, rfl⟩
        · rw [up_n (by omega), up_n (by omega), up_n (by omega), up_n (by omega), up_n (by omega), up_n (by omega)]
          refine ⟨s3, ?_⟩
          by_cases z1 : k = v
          · subst z1
            simp only [if_true]
            rw [if_neg (fun zz => z ⟨rfl, zz⟩)]
            exact s4
          · simp only [if_neg z1]; exact s4, y6, fun k hk => by
    by_cases z : k = 256 * v + q
    · subst z
      rw [up_s]
      exact Or.inr ⟨a, h3, rfl⟩
    · rw [up_n (by omega), up_n (by omega), up_n (by omega)]; exact y7 k hk⟩⟩⟩
