/-! Borders, and the coarser map drawn -/
def eF (n : Nat → Option Nat) (c : Nat → Int32) (a o : Int32) (q : Nat) : Nat := match n q with
  | none => 0
  | some k => if c q = a ∧ c k = o then 1 else 0
theorem sm_shift {h g : Nat → Nat} {d : Nat} (hd : d ≤ 256) (h1 : ∀ q, q < 256 - d → h (q + d) = g q) (h2 : ∀ q, q < d → h q = 0) (h3 : ∀ q, 256 - d ≤ q → q < 256 → g q = 0) : fb_sm h 256 = fb_sm g 256 := by
  have z : ∀ {f : Nat → Nat} {n : Nat}, (∀ k, k < n → f k = 0) → fb_sm f n = 0 := fun {f n} hf => by
    have := fb_sm_bound (f := f) (c := 0) (n := n) (fun k hk => by rw [hf k hk]; exact Nat.le_refl _)
    omega
  have e1 := fb_sm_split h d (256 - d)
  have e2 := fb_sm_split g (256 - d) d
  rw [show d + (256 - d) = 256 by omega] at e1
  rw [show 256 - d + d = 256 by omega] at e2
  rw [e1, e2, z h2, z (fun k hk => h3 (256 - d + k) (by omega) (by omega)), Nat.zero_add, Nat.add_zero]
  exact fb_sm_cong (fun k hk => by rw [Nat.add_comm]; exact h1 k hk)
theorem eF_L (c : Nat → Int32) (a o : Int32) : fb_sm (eF nLf c a o) 256 = fb_sm (eF nR c o a) 256 := by
  refine sm_shift (d := 1) (by omega) (fun q hq => ?_) (fun q hq => ?_) (fun q h1 h2 => ?_)
  · unfold eF nLf nR
    by_cases e : q % 16 < 15
    · rw [if_pos (show 0 < (q + 1) % 16 by omega), if_pos e]
      show (if c (q + 1) = a ∧ c (q + 1 - 1) = o then 1 else 0) = if c q = o ∧ c (q + 1) = a then 1 else 0
      rw [show q + 1 - 1 = q by omega]
      grind
    · rw [if_neg (show ¬ 0 < (q + 1) % 16 by omega), if_neg e]
  · unfold eF nLf
    rw [if_neg (show ¬ 0 < q % 16 by omega)]
  · unfold eF nR
    rw [if_neg (show ¬ q % 16 < 15 by omega)]
theorem eF_U (c : Nat → Int32) (a o : Int32) : fb_sm (eF nUp c a o) 256 = fb_sm (eF nDn c o a) 256 := by
  refine sm_shift (d := 16) (by omega) (fun q hq => ?_) (fun q hq => ?_) (fun q h1 h2 => ?_)
  · unfold eF nUp nDn
    rw [if_pos (show 0 < (q + 16) / 16 by omega), if_pos (show q / 16 < 15 by omega)]
    show (if c (q + 16) = a ∧ c (q + 16 - 16) = o then 1 else 0) = if c q = o ∧ c (q + 16) = a then 1 else 0
    rw [show q + 16 - 16 = q by omega]
    grind
  · unfold eF nUp
    rw [if_neg (show ¬ 0 < q / 16 by omega)]
  · unfold eF nDn
    rw [if_neg (show ¬ q / 16 < 15 by omega)]
theorem bdQ_e (c : Nat → Int32) (a o : Int32) (q : Nat) : bdQ c a o q = eF nR c a o q + eF nLf c a o q + eF nDn c a o q + eF nUp c a o q := by
  have e : fb_sm (nbC c o q) 4 = nbC c o q 0 + nbC c o q 1 + nbC c o q 2 + nbC c o q 3 := by
    rw [fb_sm_succ, fb_sm_succ, fb_sm_succ, fb_sm_succ]
    show 0 + _ + _ + _ + _ = _
    rw [Nat.zero_add]
  have e1 : ∀ (s : Nat) (n : Nat → Option Nat), nbM s q = n q → (if c q = a then nbC c o q s else 0) = eF n c a o q := fun s n hn => by
    unfold nbC eF
    rw [hn]
    cases n q with
    | none => show (if c q = a then 0 else 0) = 0; split <;> rfl
    | some k => show (if c q = a then (if c k = o then 1 else 0) else 0) = if c q = a ∧ c k = o then 1 else 0; grind
  unfold bdQ
  rw [e, ← e1 0 nR rfl, ← e1 1 nLf rfl, ← e1 2 nDn rfl, ← e1 3 nUp rfl]
  split <;> rfl
theorem bd_e (c : Nat → Int32) (a o : Int32) : bd c a o 256 = fb_sm (eF nR c a o) 256 + fb_sm (eF nR c o a) 256 + fb_sm (eF nDn c a o) 256 + fb_sm (eF nDn c o a) 256 := by
  have e : bd c a o 256 = fb_sm (fun q => (eF nR c a o q + eF nLf c a o q + eF nDn c a o q) + eF nUp c a o q) 256 := fb_sm_cong fun q _ => bdQ_e c a o q
  rw [e, fb_sm_add, fb_sm_add, fb_sm_add, eF_L, eF_U]
theorem bd_sym (c : Nat → Int32) (a o : Int32) : bd c a o 256 = bd c o a 256 := by
  rw [bd_e, bd_e]
  omega
/-- the class's count of borders -/
theorem cnB_bd {c : Nat → Option Nat} {cc : Nat → Int32} (hw : ∀ q a, c q = some a → a < 10) (hc : ∀ q, q < 256 → cc q = oI (c q)) {i j : Nat} (hi : i < 10) (hj : j < 10) : cnB (fun _ _ => 0) c 256 0 i j = if j = i then 0 else bd cc (nI i) (nI j) 256 := by
  have z : cnB (fun _ _ => 0) c 256 0 i j = fb_sm (fun q => fb_sm (pq c i j q) 2) 256 := by
    show 0 + _ + 0 = _
    omega
  rw [z]
  have two : ∀ q, fb_sm (pq c i j q) 2 = pq c i j q 0 + pq c i j q 1 := fun q => by
    rw [fb_sm_succ, fb_sm_succ]
    show 0 + _ + _ = _
    rw [Nat.zero_add]
  by_cases e : j = i
  · subst e
    rw [if_pos rfl]
    have z2 : ∀ q s, pq c j j q s = 0 := fun q s => by
      unfold pq
      split
      · rfl
      · unfold pc2
        rw [if_neg (fun h => h.2.2 rfl), if_neg (fun h => h.2.2 rfl)]
    have := fb_sm_bound (f := fun q => fb_sm (pq c j j q) 2) (c := 0) (n := 256) (fun q _ => by show fb_sm (pq c j j q) 2 ≤ 0; rw [two, z2, z2]; exact Nat.le_refl _)
    omega
  · rw [if_neg e, bd_e]
    have eq1 : ∀ q x, q < 256 → x < 10 → (cc q = nI x ↔ c q = some x) := fun q x hq hx => by
      rw [hc q hq]
      cases h : c q with
      | none => exact ⟨fun h2 => absurd h2.symm (nI_nm1 (by omega)), fun h2 => by cases h2⟩
      | some y => exact ⟨fun h2 => by rw [nI_j (by have := hw q y h; omega) (by omega) h2], fun h2 => by rw [Option.some.inj h2]; rfl⟩
    have one : ∀ (s : Nat) (n : Nat → Option Nat), (∀ q, nbX s q = n q) → s < 4 → ∀ q, q < 256 → pq c i j q s = eF n cc (nI i) (nI j) q + eF n cc (nI j) (nI i) q := fun s n hn hs q hq => by
      unfold pq eF
      rw [hn q]
      cases hk : n q with
      | none => rfl
      | some k =>
        have hk2 : k < 256 := nbX_lt hq ((hn q).trans hk)
        show pc2 (c q) (c k) i j = (if cc q = nI i ∧ cc k = nI j then 1 else 0) + if cc q = nI j ∧ cc k = nI i then 1 else 0
        have a1 := eq1 q i hq hi
        have a2 := eq1 q j hq hj
        have a3 := eq1 k i hk2 hi
        have a4 := eq1 k j hk2 hj
        unfold pc2
        simp only [a1, a2, a3, a4]
        grind
    have e2 : fb_sm (fun q => fb_sm (pq c i j q) 2) 256 = fb_sm (fun q => (eF nR cc (nI i) (nI j) q + eF nR cc (nI j) (nI i) q + eF nDn cc (nI i) (nI j) q) + eF nDn cc (nI j) (nI i) q) 256 := fb_sm_cong fun q hq => by
      rw [two, one 0 nR (fun _ => rfl) (by omega) q hq, one 1 nDn (fun _ => rfl) (by omega) q hq]
      omega
    rw [e2, fb_sm_add, fb_sm_add, fb_sm_add]
/-- S goes into I -/
theorem bd_in {c c2 : Nat → Int32} {S I o : Int32} (h : ∀ q, c2 q = if c q = S then I else c q) (hSI : ¬ S = I) (hoS : ¬ o = S) (hoI : ¬ o = I) : bd c2 I o 256 = bd c I o 256 + bd c S o 256 := by
  have e : bd c2 I o 256 = fb_sm (fun q => bdQ c I o q + bdQ c S o q) 256 := fb_sm_cong fun q _ => by
    have hn : ∀ s, nbC c2 o q s = nbC c o q s := fun s => by
      unfold nbC
      cases nbM s q with
      | none => rfl
      | some k =>
        show (if c2 k = o then 1 else 0) = if c k = o then 1 else 0
        rw [h k]
        grind
    have hs : fb_sm (nbC c2 o q) 4 = fb_sm (nbC c o q) 4 := fb_sm_cong fun s _ => hn s
    unfold bdQ
    rw [hs, h q]
    grind
  rw [e, fb_sm_add]
  rfl
theorem bd_no {c c2 : Nat → Int32} {S I a o : Int32} (h : ∀ q, c2 q = if c q = S then I else c q) (haS : ¬ a = S) (haI : ¬ a = I) (hoS : ¬ o = S) (hoI : ¬ o = I) : bd c2 a o 256 = bd c a o 256 := by
  refine fb_sm_cong fun q _ => ?_
  have hn : ∀ s, nbC c2 o q s = nbC c o q s := fun s => by
    unfold nbC
    cases nbM s q with
    | none => rfl
    | some k =>
      show (if c2 k = o then 1 else 0) = if c k = o then 1 else 0
      rw [h k]
      grind
  have hs : fb_sm (nbC c2 o q) 4 = fb_sm (nbC c o q) 4 := fb_sm_cong fun s _ => hn s
  unfold bdQ
  rw [hs, h q]
  grind
theorem bd_S {c c2 : Nat → Int32} {S I o : Int32} (h : ∀ q, c2 q = if c q = S then I else c q) (hSI : ¬ S = I) : bd c2 S o 256 = 0 := by
  have := fb_sm_bound (f := bdQ c2 S o) (c := 0) (n := 256) (fun q _ => by
    unfold bdQ
    rw [h q, if_neg (by grind)]
    exact Nat.le_refl _)
  unfold bd
  omega
theorem jB_bd {c c2 : Nat → Int32} {b : Nat → Nat → Nat} {S I : Nat} (hS : S < 10) (hI : I < 10) (hSI : ¬ S = I) (h : ∀ q, c2 q = if c q = nI S then nI I else c q) (hb : ∀ i j, i < 10 → j < 10 → b i j = if j = i then 0 else bd c (nI i) (nI j) 256) {i j : Nat} (hi : i < 10) (hj : j < 10) :
    jBk b S I 10 i j = if j = i then 0 else bd c2 (nI i) (nI j) 256 := by
  have ne : ∀ {x y : Nat}, x < 10 → y < 10 → ¬ x = y → ¬ nI x = nI y := fun hx hy hxy e => hxy (nI_j (by omega) (by omega) e)
  by_cases e : j = i
  · subst e
    rw [if_pos rfl]
    unfold jBk
    rw [hb j j hj hj, if_pos rfl]
    grind
  · rw [if_neg e]
    unfold jBk
    by_cases e1 : i = S
    · subst e1
      rw [if_pos (Or.inl ⟨rfl, hj⟩), bd_S h (ne hS hI hSI)]
    · by_cases e2 : j = S
      · subst e2
        rw [if_pos (Or.inr ⟨rfl, hi⟩), bd_sym, bd_S h (ne hS hI hSI)]
      · rw [if_neg (by grind)]
        by_cases e3 : i = I
        · subst e3
          rw [if_pos ⟨rfl, hj, e, e2⟩, hb i j hi hj, hb S j hS hj, if_neg e, if_neg e2, bd_in h (ne hS hI hSI) (ne hj hS e2) (ne hj hI e)]
        · rw [if_neg (by grind)]
          by_cases e4 : j = I
          · subst e4
            rw [if_pos ⟨rfl, hi, e3, e1⟩, hb j i hj hi, hb S i hS hi, if_neg (fun x => e x.symm), if_neg e1, bd_sym c2, bd_in h (ne hS hI hSI) (ne hi hS e1) (ne hi hI e3)]
          · rw [if_neg (by grind), hb i j hi hj, if_neg e, bd_no h (ne hi hS e1) (ne hi hI e3) (ne hj hS e2) (ne hj hI e4)]
theorem cz_jn {c c2 : Nat → Int32} {z : Nat → Nat} {S I : Nat} (hS : S < 10) (hI : I < 10) (hSI : ¬ S = I) (h : ∀ q, c2 q = if c q = nI S then nI I else c q) (hz : ∀ i, i < 10 → z i = cCt c (nI i) 256) {i : Nat} (hi : i < 10) :
    nup (nup z I (z I + z S)) S 0 i = cCt c2 (nI i) 256 := by
  have ne : ∀ {x y : Nat}, x < 10 → y < 10 → ¬ x = y → ¬ nI x = nI y := fun hx hy hxy e => hxy (nI_j (by omega) (by omega) e)
  unfold nup
  by_cases e1 : i = S
  · subst e1
    rw [if_pos rfl]
    refine (fb_ct_zero.mpr fun q _ => decide_eq_false ?_).symm
    rw [h q]
    have := ne hS hI hSI
    grind
  · rw [if_neg e1]
    by_cases e2 : i = I
    · subst e2
      rw [if_pos rfl, hz i hi, hz S hS]
      have e := fb_ct_or (p := fun q => decide (c q = nI i)) (q := fun q => decide (c q = nI S)) (n := 256) (fun k _ hk => by
        have a1 := of_decide_eq_true hk.1
        have a2 := of_decide_eq_true hk.2
        exact ne hS hI hSI (a2.symm.trans a1))
      unfold cCt
      rw [← e]
      refine fb_ct_cong fun q _ => ?_
      rw [h q]
      have := ne hS hI hSI
      grind
    · rw [if_neg e2, hz i hi]
      refine fb_ct_cong fun q _ => ?_
      rw [h q]
      have := ne hi hS e1
      have := ne hi hI e2
      grind
