/-! THE CLASS: an edit, square by square -/
/-- squares behind giving g's to t; sizes, losses, changes -/
def eC (c : Nat → Option Nat) (t : Option Nat) (g : Nat → Bool) (q : Nat) : Option Nat := if g q = true then t else c q
def eN (c : Nat → Option Nat) (a : Nat) : Nat := fb_ct (fun q => decide (c q = some a)) 256
def eL (c : Nat → Option Nat) (t : Option Nat) (g : Nat → Bool) (a : Nat) : Nat := fb_ct (fun q => g q && decide (¬ c q = t) && decide (c q = some a)) 256
def eT (c : Nat → Option Nat) (t : Option Nat) (g : Nat → Bool) : Nat := fb_ct (fun q => g q && decide (¬ c q = t)) 256
def edU (D : jD) (ly : Nat) (c : Nat → Option Nat) (t : Option Nat) (g : Nat → Bool) : jD := fun a b =>
  if a = 31 + 10 * ly ∧ b < 256 then oI (eC c t g b) else if a = 32 + 10 * ly ∧ b < 10 then nI (eN (eC c t g) b) else if a = 37 + 10 * ly ∧ b < 10 then nI (eL c t g b) else if a = 30 + 10 * ly ∧ b = 8 then nI (eT c t g) else D a b
def gq (g : Nat → Bool) (q : Nat) : Nat → Bool := fun k => if k = q then true else g k
theorem edU_q {D : jD} {ly q : Nat} {c : Nat → Option Nat} {t : Option Nat} {g : Nat → Bool} (h : q < 256) : edU D ly c t g (31 + 10 * ly) q = oI (eC c t g q) := by rw [edU, if_pos ⟨rfl, h⟩]
theorem edU_n {D : jD} {ly q : Nat} {c : Nat → Option Nat} {t : Option Nat} {g : Nat → Bool} (h : q < 10) : edU D ly c t g (32 + 10 * ly) q = nI (eN (eC c t g) q) := by rw [edU, if_neg (by omega), if_pos ⟨rfl, h⟩]
theorem edU_l {D : jD} {ly q : Nat} {c : Nat → Option Nat} {t : Option Nat} {g : Nat → Bool} (h : q < 10) : edU D ly c t g (37 + 10 * ly) q = nI (eL c t g q) := by rw [edU, if_neg (by omega), if_neg (by omega), if_pos ⟨rfl, h⟩]
theorem edU_t {D : jD} {ly : Nat} {c : Nat → Option Nat} {t : Option Nat} {g : Nat → Bool} : edU D ly c t g (30 + 10 * ly) 8 = nI (eT c t g) := by rw [edU, if_neg (by omega), if_neg (by omega), if_neg (by omega), if_pos ⟨rfl, rfl⟩]
theorem edU_o {D : jD} {ly a b : Nat} {c : Nat → Option Nat} {t : Option Nat} {g : Nat → Bool} (h1 : ¬ a = 31 + 10 * ly) (h2 : ¬ a = 32 + 10 * ly) (h3 : ¬ a = 37 + 10 * ly) (h4 : ¬ (a = 30 + 10 * ly ∧ b = 8)) : edU D ly c t g a b = D a b := by
  rw [edU, if_neg (fun h => h1 h.1), if_neg (fun h => h2 h.1), if_neg (fun h => h3 h.1), if_neg h4]
theorem eL_le (c : Nat → Option Nat) (t : Option Nat) (g : Nat → Bool) (a : Nat) : eL c t g a ≤ 256 := fb_ct_le _ _
theorem eN_le (c : Nat → Option Nat) (a : Nat) : eN c a ≤ 256 := fb_ct_le _ _
theorem edU_0 {D : jD} {ly : Nat} {c : Nat → Option Nat} {t : Option Nat} (hc : ∀ q, q < 256 → D (31 + 10 * ly) q = oI (c q)) (hn : ∀ a, a < 10 → D (32 + 10 * ly) a = nI (eN c a)) : ja_up (fiU D (37 + 10 * ly) 10 0) (30 + 10 * ly) 8 (nI 0) = edU D ly c t (fun _ => false) := by
  have z1 : ∀ a, eL c t (fun _ => false) a = 0 := fun a => fb_ct_zero.mpr fun k _ => rfl
  have z2 : eT c t (fun _ => false) = 0 := fb_ct_zero.mpr fun k _ => rfl
  have z3 : eC c t (fun _ => false) = c := funext fun q => if_neg (show ¬ (false = true) by decide)
  funext a b
  simp only [ja_up, fiU, edU, z1, z2, z3]
  by_cases e1 : a = 31 + 10 * ly ∧ b < 256
  · rw [if_pos e1, if_neg (by omega), if_neg (by omega), e1.1]; exact hc b e1.2
  · rw [if_neg e1]
    by_cases e2 : a = 32 + 10 * ly ∧ b < 10
    · rw [if_pos e2, if_neg (by omega), if_neg (by omega), e2.1]; exact hn b e2.2
    · rw [if_neg e2]
      by_cases e3 : a = 37 + 10 * ly ∧ b < 10
      · rw [if_pos e3, if_neg (by omega), if_pos e3]; rfl
      · rw [if_neg e3, if_neg e3]
theorem eC_s {c : Nat → Option Nat} {t : Option Nat} {g : Nat → Bool} {q k : Nat} : eC c t (gq g q) k = if k = q then t else eC c t g k := by
  unfold eC gq
  by_cases e : k = q
  · rw [if_pos e, if_pos e, if_pos rfl]
  · rw [if_neg e, if_neg e]
theorem gq_same {c : Nat → Option Nat} {t : Option Nat} {g : Nat → Bool} {q : Nat} (h : c q = t) (D : jD) (ly : Nat) : edU D ly c t g = edU D ly c t (gq g q) := by
  have e1 : eC c t (gq g q) = eC c t g := funext fun k => by
    rw [eC_s]
    by_cases e : k = q
    · rw [if_pos e, e, eC]; split
      · rfl
      · exact h.symm
    · rw [if_neg e]
  have e2 : ∀ k, (gq g q k && decide (¬ c k = t)) = (g k && decide (¬ c k = t)) := fun k => by
    unfold gq
    by_cases e : k = q
    · rw [if_pos e, e, decide_eq_false (fun x => x h), Bool.and_false, Bool.and_false]
    · rw [if_neg e]
  have e3 : eL c t (gq g q) = eL c t g := funext fun a => fb_ct_cong fun k _ => by rw [e2 k]
  have e4 : eT c t (gq g q) = eT c t g := fb_ct_cong fun k _ => e2 k
  unfold edU
  rw [e1, e3, e4]
theorem gq_eC {c : Nat → Option Nat} {t : Option Nat} {g : Nat → Bool} {q : Nat} (hg : g q = false) : eC c t g q = c q := if_neg (by rw [hg]; decide)
theorem eN_s {c : Nat → Option Nat} {t : Option Nat} {g : Nat → Bool} {q : Nat} (hq : q < 256) (hg : g q = false) (a : Nat) : eN (eC c t (gq g q)) a + (if c q = some a then 1 else 0) = eN (eC c t g) a + (if t = some a then 1 else 0) := by
  have h := fb_ct_upd (fun k => decide (eC c t g k = some a)) (decide (t = some a)) (i := q) (n := 256) hq
  have e : eN (eC c t (gq g q)) a = fb_ct (fun k => if k = q then decide (t = some a) else decide (eC c t g k = some a)) 256 := fb_ct_cong fun k _ => by
    rw [eC_s]
    by_cases e : k = q
    · rw [if_pos e, if_pos e]
    · rw [if_neg e, if_neg e]
  rw [e, eN]
  have g1 : (if (decide (eC c t g q = some a)) = true then 1 else 0) = (if c q = some a then 1 else 0) := by rw [gq_eC hg]; simp only [decide_eq_true_eq]
  have g2 : (if (decide (t = some a)) = true then 1 else 0) = (if t = some a then 1 else 0) := by simp only [decide_eq_true_eq]
  rw [g1, g2] at h
  exact h
theorem eL_s {c : Nat → Option Nat} {t : Option Nat} {g : Nat → Bool} {q : Nat} (hq : q < 256) (hg : g q = false) (hne : ¬ c q = t) (a : Nat) : eL c t (gq g q) a = eL c t g a + (if c q = some a then 1 else 0) := by
  have h := fb_ct_upd (fun k => g k && decide (¬ c k = t) && decide (c k = some a)) (decide (c q = some a)) (i := q) (n := 256) hq
  have e : eL c t (gq g q) a = fb_ct (fun k => if k = q then decide (c q = some a) else g k && decide (¬ c k = t) && decide (c k = some a)) 256 := fb_ct_cong fun k _ => by
    unfold gq
    by_cases e : k = q
    · rw [if_pos e, if_pos e, e, decide_eq_true hne]; rfl
    · rw [if_neg e, if_neg e]
  rw [e, eL]
  have g1 : (if (g q && decide (¬ c q = t) && decide (c q = some a)) = true then 1 else 0) = 0 := by rw [hg]; rfl
  have g2 : (if (decide (c q = some a)) = true then 1 else 0) = (if c q = some a then 1 else 0) := by simp only [decide_eq_true_eq]
  rw [g1, g2] at h
  omega
theorem eT_s {c : Nat → Option Nat} {t : Option Nat} {g : Nat → Bool} {q : Nat} (hq : q < 256) (hg : g q = false) (hne : ¬ c q = t) : eT c t (gq g q) = eT c t g + 1 := by
  have h := fb_ct_upd (fun k => g k && decide (¬ c k = t)) true (i := q) (n := 256) hq
  have e : eT c t (gq g q) = fb_ct (fun k => if k = q then true else g k && decide (¬ c k = t)) 256 := fb_ct_cong fun k _ => by
    unfold gq
    by_cases e : k = q
    · rw [if_pos e, if_pos e, e, decide_eq_true hne]; rfl
    · rw [if_neg e, if_neg e]
  rw [e, eT]
  have g1 : (if (g q && decide (¬ c q = t)) = true then 1 else 0) = 0 := by rw [hg]; rfl
  rw [g1, if_pos rfl] at h
  omega
theorem szD_n {X : jD} {ly : Nat} {b t : Option Nat} {a : Nat} : szI (szD X ly b) ly t (32 + 10 * ly) a = X (32 + 10 * ly) a - nI (if b = some a then 1 else 0) + nI (if t = some a then 1 else 0) := by
  have z : ∀ x : Int32, x - nI 0 = x := fun x => by rw [show nI 0 = 0 from rfl, Int32.sub_zero]
  have z2 : ∀ x : Int32, x + nI 0 = x := fun x => by rw [show nI 0 = 0 from rfl, Int32.add_zero]
  cases b with
  | none => cases t with
    | none => rw [szI, szD, if_neg (by simp), z, z2]
    | some y =>
      simp only [szI, szD, ja_up]
      by_cases e : a = y
      · rw [if_pos ⟨trivial, e⟩, if_neg (by simp), if_pos (by rw [e]), z, e]
      · rw [if_neg (fun h => e h.2), if_neg (by simp), if_neg (fun h => e (Option.some.inj h).symm), z, z2]
  | some x => cases t with
    | none =>
      simp only [szI, szD, ja_up]
      by_cases e : a = x
      · rw [if_pos ⟨trivial, e⟩, if_pos (by rw [e]), if_neg (by simp), z2, e]
      · rw [if_neg (fun h => e h.2), if_neg (fun h => e (Option.some.inj h).symm), if_neg (by simp), z, z2]
    | some y =>
      simp only [szI, szD, ja_up]
      by_cases e : a = y
      · rw [if_pos ⟨trivial, e⟩, if_pos (show some y = some a by rw [e])]
        by_cases e2 : a = x
        · rw [if_pos ⟨trivial, e.symm.trans e2⟩, if_pos (by rw [e2]), ← e2]
        · rw [if_neg (fun h => e2 (e.trans h.2)), if_neg (fun h => e2 (Option.some.inj h).symm), z, e]
      · rw [if_neg (fun h => e h.2), if_neg (fun h => e (Option.some.inj h).symm), z2]
        by_cases e2 : a = x
        · rw [if_pos ⟨trivial, e2⟩, if_pos (by rw [e2]), e2]
        · rw [if_neg (fun h => e2 h.2), if_neg (fun h => e2 (Option.some.inj h).symm), z]
theorem szD_o {X : jD} {ly : Nat} {b t : Option Nat} {a k : Nat} (h : ¬ a = 32 + 10 * ly) : szI (szD X ly b) ly t a k = X a k := by
  cases b <;> cases t <;> simp [szI, szD, ja_up, h]
theorem szD_b {X : jD} {ly : Nat} {b t : Option Nat} {a k : Nat} (hb : ∀ x, b = some x → x < 10) (ht : ∀ x, t = some x → x < 10) (h : 10 ≤ k) : szI (szD X ly b) ly t a k = X a k := by
  cases b with
  | none => cases t with
    | none => rfl
    | some y => have := ht y rfl; simp only [szI, szD, ja_up]; rw [if_neg (by omega)]
  | some x =>
    have := hb x rfl
    cases t with
    | none => simp only [szI, szD, ja_up]; rw [if_neg (by omega)]
    | some y => have := ht y rfl; simp only [szI, szD, ja_up]; rw [if_neg (by omega), if_neg (by omega)]
theorem lsI_n {X : jD} {ly : Nat} {b : Option Nat} {a : Nat} : lsI X ly b (37 + 10 * ly) a = X (37 + 10 * ly) a + nI (if b = some a then 1 else 0) := by
  cases b with
  | none => rw [lsI, if_neg (by simp), show nI 0 = 0 from rfl, Int32.add_zero]
  | some x =>
    simp only [lsI, ja_up]
    by_cases e : a = x
    · rw [if_pos ⟨trivial, e⟩, if_pos (by rw [e]), e]
    · rw [if_neg (fun h => e h.2), if_neg (fun h => e (Option.some.inj h).symm), show nI 0 = 0 from rfl, Int32.add_zero]
theorem lsI_o {X : jD} {ly : Nat} {b : Option Nat} {a k : Nat} (h : ¬ a = 37 + 10 * ly) : lsI X ly b a k = X a k := by
  cases b <;> simp [lsI, ja_up, h]
theorem lsI_b {X : jD} {ly : Nat} {b : Option Nat} {a k : Nat} (hb : ∀ x, b = some x → x < 10) (h : 10 ≤ k) : lsI X ly b a k = X a k := by
  cases b with
  | none => rfl
  | some x => have := hb x rfl; simp only [lsI, ja_up]; rw [if_neg (by omega)]
theorem edU_s {D : jD} {ly q : Nat} {c : Nat → Option Nat} {t : Option Nat} {g : Nat → Bool} (hw : ∀ k x, c k = some x → x < 10) (ht : ∀ x, t = some x → x < 10) (hq : q < 256) (hg : g q = false) (hne : ¬ c q = t) : giv (edU D ly c t g) ly q (c q) t = edU D ly c t (gq g q) := by
  funext a b
  have hX := hw q
  by_cases e4 : a = 30 + 10 * ly ∧ b = 8
  · obtain ⟨rfl, rfl⟩ := e4
    rw [edU_t, giv, up_s, ptU, up_o (by omega), szD_o (by omega), lsI_o (by omega), edU_t, nI_add, eT_s hq hg hne]
  rw [giv, up_n e4, ptU]
  by_cases e1 : a = 31 + 10 * ly ∧ b < 256
  · obtain ⟨rfl, hb⟩ := e1
    rw [edU_q hb, eC_s]
    by_cases e : b = q
    · rw [if_pos e, e, up_s]
    · rw [if_neg e, up_n (fun h => e h.2), szD_o (by omega), lsI_o (by omega), edU_q hb]
  rw [up_n (fun h => e1 ⟨h.1, by omega⟩)]
  by_cases e2 : a = 32 + 10 * ly ∧ b < 10
  · obtain ⟨rfl, hb⟩ := e2
    rw [edU_n hb, szD_n, lsI_o (by omega), edU_n hb]
    have h1 := eN_s (c := c) (t := t) hq hg b
    have h2 : (if c q = some b then 1 else 0) ≤ eN (eC c t g) b := by
      split
      · next h => exact fb_ct_pos.mpr ⟨q, hq, decide_eq_true (by rw [gq_eC hg]; exact h)⟩
      · omega
    rw [pk_sub h2, nI_add]
    exact congrArg nI (by omega)
  by_cases e3 : a = 37 + 10 * ly ∧ b < 10
  · obtain ⟨rfl, hb⟩ := e3
    rw [edU_l hb, szD_o (by omega), lsI_n, edU_l hb, nI_add, eL_s hq hg hne]
  have e5 : edU D ly c t (gq g q) a b = D a b := by rw [edU, if_neg e1, if_neg e2, if_neg e3, if_neg e4]
  have e6 : edU D ly c t g a b = D a b := by rw [edU, if_neg e1, if_neg e2, if_neg e3, if_neg e4]
  rw [e5, ← e6]
  by_cases e7 : b < 10
  · rw [szD_o (fun h => e2 ⟨h, e7⟩), lsI_o (fun h => e3 ⟨h, e7⟩)]
  · rw [szD_b hX ht (by omega), lsI_b hX (by omega)]
theorem c_giveE (l : Launch) {Z : jZ} {D : jD} (hx : zX Z) {ly q : Nat} (h1 : ly < 3) {c : Nat → Option Nat} {t : Option Nat} {g : Nat → Bool} (hw : ∀ k x, c k = some x → x < 10) (ht : ∀ x, t = some x → x < 10) (hq : q < 256) (hg : g q = false) :
    ja_M l (mX1_give 0 0) [.ref (30 + 10 * ly), .int (nI q), .int (oI t)] Z (edU D ly c t g) (ja_jd none Z (fun D2 => D2 = edU D ly c t (gq g q))) ja_x0 := by
  have hs : edU D ly c t g (31 + 10 * ly) q = oI (c q) := by rw [edU_q hq, gq_eC hg]
  by_cases e : c q = t
  · rw [← gq_same e D ly]
    rw [e] at hs
    cases t with
    | none => exact ja_Mrd (c_giveNe l hx h1 (b := 0) hq hs) rfl
    | some b => exact ja_Mrd (c_giveSe l hx h1 hq (ht b rfl) hs) rfl
  · rw [← edU_s hw ht hq hg e]
    cases hc : c q with
    | none => cases t with
      | none => exact absurd hc e
      | some a =>
        rw [hc] at hs
        exact c_giveNS l hx h1 (b := 0) hq (ht a rfl) hs
    | some b =>
      have hb := hw q b hc
      rw [hc] at hs
      cases t with
      | none => exact c_giveSN l hx h1 (a := 0) hq hb hs
      | some a => exact c_giveSS l hx h1 hq hb (ht a rfl) (fun h => e (by rw [hc, h])) hs
