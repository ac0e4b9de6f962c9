/-! THE REFERENCE: pieces -/
theorem nbM_sym {s j k : Nat} (hs : s < 4) (hj : j < 256) (h : nbM s j = some k) : ∃ s2, s2 < 4 ∧ nbM s2 k = some j := by
  have e : ∀ s : Fin 4, ∀ j : Fin 256, ((nbM s j).elim true fun k => decide (∃ s2 : Fin 4, nbM s2 k = some (j : Nat))) = true := by decide +kernel
  have e2 := e ⟨s, hs⟩ ⟨j, hj⟩
  rw [show nbM ((⟨s, hs⟩ : Fin 4) : Nat) ((⟨j, hj⟩ : Fin 256) : Nat) = some k from h] at e2
  obtain ⟨s2, h2⟩ := of_decide_eq_true e2
  exact ⟨s2, s2.isLt, h2⟩
/-- what is reached from q in m steps over squares with q's number -/
def rcs (r : Nat → Int32) (q : Nat) : Nat → Nat → Prop
  | 0, k => k = q
  | m + 1, k => rcs r q m k ∨ ∃ s j, s < 4 ∧ j < 256 ∧ nbM s j = some k ∧ rcs r q m j ∧ r k = r q
def Rch (r : Nat → Int32) (q k : Nat) : Prop := ∃ m, rcs r q m k
theorem Rch_refl (r : Nat → Int32) (q : Nat) : Rch r q q := ⟨0, rfl⟩
theorem Rch_step {r : Nat → Int32} {q j k s : Nat} (h : Rch r q j) (hs : s < 4) (hj : j < 256) (hn : nbM s j = some k) (hr : r k = r q) : Rch r q k := by
  obtain ⟨m, hm⟩ := h
  exact ⟨m + 1, Or.inr ⟨s, j, hs, hj, hn, hm, hr⟩⟩
theorem Rch_sub {r : Nat → Int32} {q : Nat} {S : Nat → Prop} (hq : S q) (hs : ∀ s j k, s < 4 → j < 256 → S j → nbM s j = some k → r k = r q → S k) {k : Nat} : Rch r q k → S k := by
  rintro ⟨m, hm⟩
  induction m generalizing k with
  | zero => exact (show k = q from hm) ▸ hq
  | succ m ih =>
    rcases hm with hm | ⟨s, j, h1, h2, h3, h4, h5⟩
    · exact ih hm
    · exact hs s j k h1 h2 (ih h4) h3 h5
theorem Rch_r {r : Nat → Int32} {q k : Nat} (h : Rch r q k) : r k = r q := Rch_sub (S := fun k => r k = r q) rfl (fun _ _ _ _ _ _ _ h => h) h
theorem Rch_lt {r : Nat → Int32} {q k : Nat} (hq : q < 256) (h : Rch r q k) : k < 256 := Rch_sub (S := fun k => k < 256) hq (fun s j k h1 h2 _ h3 _ => nbM_lt h2 h3) h
/-- pieces by their lowest squares: number of each square below q's, and how many -/
noncomputable def pcs (r : Nat → Int32) : Nat → (Nat → Int32) × Nat
  | 0 => (fun _ => -1, 0)
  | q + 1 => if r q = -1 ∨ ¬ (pcs r q).1 q = -1 then pcs r q else (fun k => @ite _ (Rch r q k) (Classical.propDecidable _) (nI (pcs r q).2) ((pcs r q).1 k), (pcs r q).2 + 1)
theorem pcs_le (r : Nat → Int32) : ∀ q, (pcs r q).2 ≤ q
  | 0 => Nat.le_refl _
  | q + 1 => by
    have ih := pcs_le r q
    rw [pcs]
    split
    · omega
    · show (pcs r q).2 + 1 ≤ q + 1
      omega
def Cl (r p : Nat → Int32) : Prop := ∀ s j k, s < 4 → j < 256 → nbM s j = some k → r k = r j → ¬ p j = -1 → p k = p j
theorem Cl_un {r p : Nat → Int32} {q : Nat} (hq : q < 256) (h : Cl r p) (hp : p q = -1) {k : Nat} (hk : Rch r q k) : p k = -1 := by
  refine (Rch_sub (S := fun k => r k = r q ∧ p k = -1) ⟨rfl, hp⟩ (fun s j k h1 h2 h3 h4 h5 => ⟨h5, ?_⟩) hk).2
  apply Classical.byContradiction
  intro hc
  obtain ⟨s2, h6, h7⟩ := nbM_sym h1 h2 h4
  have := h s2 k j h6 (nbM_lt h2 h4) h7 (by rw [h3.1, h5]) hc
  exact hc (this.symm.trans h3.2)
theorem pcs_cl (r : Nat → Int32) : ∀ {q}, q ≤ 256 → Cl r (pcs r q).1
  | 0, _ => fun s j k _ _ _ _ h => absurd rfl h
  | q + 1, hq => by
    have ih := pcs_cl r (q := q) (by omega)
    rw [pcs]
    split
    · exact ih
    · next hx =>
      intro s j k h1 h2 h3 h4 h5
      show @ite _ (Rch r q k) (Classical.propDecidable _) _ _ = @ite _ (Rch r q j) (Classical.propDecidable _) _ _
      by_cases e : Rch r q j
      · rw [if_pos e, if_pos (Rch_step e h1 h2 h3 (h4.trans (Rch_r e)))]
      · have e2 : ¬ Rch r q k := by
          intro e2
          obtain ⟨s2, h6, h7⟩ := nbM_sym h1 h2 h3
          exact e (Rch_step e2 h6 (nbM_lt h2 h3) h7 (h4.symm.trans (Rch_r e2)))
        rw [if_neg e, if_neg e2]
        have h5' : ¬ (pcs r q).1 j = -1 := by
          have h6 : ¬ @ite _ (Rch r q j) (Classical.propDecidable _) (nI (pcs r q).2) ((pcs r q).1 j) = -1 := h5
          rwa [if_neg e] at h6
        exact ih s j k h1 h2 h3 h4 h5'
def pcU (D : jD) (p : Nat → Int32) : jD := fun a b => if a = 122 ∧ b < 256 then p b else D a b
theorem pcU_i {D : jD} {p : Nat → Int32} {b : Nat} (h : b < 256) : pcU D p 122 b = p b := by
  rw [pcU, if_pos ⟨rfl, h⟩]
theorem pcU_o {D : jD} {p : Nat → Int32} {a b : Nat} (h : ¬ a = 122) : pcU D p a b = D a b := by
  rw [pcU, if_neg (fun e => h e.1)]
theorem pcU_0 {D : jD} : fiU D 122 256 (-1) = pcU D (fun _ => -1) := by
  funext a b
  rw [fiU, pcU]
def fup (p : Nat → Int32) (j : Nat) (c : Int32) : Nat → Int32 := fun b => if b = j then c else p b
theorem pcU_s {D : jD} {p : Nat → Int32} {j : Nat} {c : Int32} (h : j < 256) : ja_up (pcU D p) 122 j c = pcU D (fup p j c) := by
  funext a b
  simp only [ja_up, pcU, fup]
  by_cases e : a = 122 ∧ b = j
  · obtain ⟨rfl, rfl⟩ := e
    rw [if_pos ⟨rfl, rfl⟩, if_pos ⟨rfl, h⟩, if_pos rfl]
  · rw [if_neg e]
    by_cases e2 : a = 122 ∧ b < 256
    · rw [if_pos e2, if_pos e2, if_neg (fun x => e ⟨e2.1, x⟩)]
    · rw [if_neg e2, if_neg e2]
theorem pcU_cg {D : jD} {p p2 : Nat → Int32} (h : ∀ b, b < 256 → p b = p2 b) : pcU D p = pcU D p2 := by
  funext a b
  rw [pcU, pcU]
  split
  · next e => exact h b e.2
  · rfl
/-- how many squares have no piece -/
def unP (p : Nat → Int32) : Nat := fb_ct (fun j => decide (p j = -1)) 256
theorem ct_lt {f g : Nat → Bool} {j : Nat} (hfg : ∀ k, f k = true → g k = true) (h1 : f j = false) (h2 : g j = true) : ∀ {n}, j < n → fb_ct f n < fb_ct g n
  | 0, h => absurd h (Nat.not_lt_zero _)
  | n + 1, h => by
    have mono : ∀ n, fb_ct f n ≤ fb_ct g n := by
      intro n
      induction n with
      | zero => exact Nat.le_refl _
      | succ n ih =>
        rw [fb_ct_succ, fb_ct_succ]
        by_cases e : f n = true
        · rw [e, hfg n e]
          simpa using ih
        · rw [Bool.not_eq_true] at e
          rw [e]
          simp only [Bool.false_eq_true, if_false]
          split <;> omega
    rw [fb_ct_succ, fb_ct_succ]
    by_cases e : j = n
    · subst e
      rw [h1, h2]
      have := mono j
      simp only [Bool.false_eq_true, if_false, if_true]
      omega
    · have ih := ct_lt hfg h1 h2 (n := n) (by omega)
      by_cases e2 : f n = true
      · rw [e2, hfg n e2]
        simpa using ih
      · rw [Bool.not_eq_true] at e2
        rw [e2]
        simp only [Bool.false_eq_true, if_false]
        split <;> omega
theorem unP_s {p : Nat → Int32} {j : Nat} {c : Int32} (hj : j < 256) (h : p j = -1) (hc : ¬ c = -1) : unP (fup p j c) < unP p := by
  refine ct_lt (j := j) (fun k hk => ?_) ?_ ?_ hj
  · have h2 := of_decide_eq_true hk
    rw [fup] at h2
    by_cases e : k = j
    · rw [if_pos e] at h2
      exact absurd h2 hc
    · rw [if_neg e] at h2
      exact decide_eq_true h2
  · exact decide_eq_false (by rw [fup, if_pos rfl]; exact hc)
  · exact decide_eq_true h
/-- a piece under way -/
def FI (p0 p r : Nat → Int32) (q : Nat) (c : Int32) : Prop := p q = c ∧ ∀ j, j < 256 → p j = p0 j ∨ (p j = c ∧ Rch r q j)
theorem FI_s {p0 p r : Nat → Int32} {q j k s : Nat} {c : Int32} (hp : FI p0 p r q c) (h0 : ∀ j, j < 256 → ¬ p0 j = c) (hs : s < 4) (hk : k < 256) (hpk : p k = c) (hn : nbM s k = some j) (hr : r j = r q) : FI p0 (fup p j c) r q c := by
  constructor
  · rw [fup]
    split
    · rfl
    · exact hp.1
  · intro i hi
    rw [fup]
    by_cases e : i = j
    · subst e
      rw [if_pos rfl]
      refine Or.inr ⟨rfl, ?_⟩
      rcases hp.2 k hk with h | h
      · exact absurd (h.symm.trans hpk) (h0 k hk)
      · exact Rch_step h.2 hs hk hn hr
    · rw [if_neg e]
      exact hp.2 i hi
/-- no square before k, and no side before s of k, leads on -/
def NoL (p r : Nat → Int32) (q : Nat) (c : Int32) (k s : Nat) : Prop := ∀ k2 s2 j, (k2 < k ∧ s2 < 4) ∨ (k2 = k ∧ s2 < s) → p k2 = c → nbM s2 k2 = some j → r j = r q → ¬ p j = -1
theorem FI_end {p0 p r : Nat → Int32} {q : Nat} {c : Int32} (hq : q < 256) (hp : FI p0 p r q c) (h0 : ∀ j, j < 256 → ¬ p0 j = c) (hu : ∀ k, Rch r q k → p0 k = -1) (hc : ¬ c = -1) (hcl : NoL p r q c 256 0) {k : Nat} (hk : k < 256) : p k = @ite _ (Rch r q k) (Classical.propDecidable _) c (p0 k) := by
  have h1 : ∀ k, Rch r q k → k < 256 ∧ p k = c := fun k hk => Rch_sub (S := fun k => k < 256 ∧ p k = c ∧ Rch r q k) ⟨hq, hp.1, Rch_refl r q⟩ (fun s j k a1 a2 a3 a4 a5 => by
    have b1 := nbM_lt a2 a4
    have b3 := Rch_step a3.2.2 a1 a2 a4 a5
    refine ⟨b1, ?_, b3⟩
    rcases hp.2 k b1 with h | h
    · exact absurd (h.trans (hu k b3)) (hcl j s k (Or.inl ⟨a2, a1⟩) a3.2.1 a4 a5)
    · exact h.1) hk |> fun h => ⟨h.1, h.2.1⟩
  by_cases e : Rch r q k
  · rw [if_pos e]
    exact (h1 k e).2
  · rw [if_neg e]
    rcases hp.2 k hk with h | h
    · exact h
    · exact absurd h.2 e
theorem pcs_val (r : Nat → Int32) (j : Nat) : ∀ q, (pcs r q).1 j = -1 ∨ ∃ i, i < (pcs r q).2 ∧ (pcs r q).1 j = nI i
  | 0 => Or.inl rfl
  | q + 1 => by
    have ih := pcs_val r j q
    rw [pcs]
    split
    · exact ih
    · show @ite _ (Rch r q j) (Classical.propDecidable _) (nI (pcs r q).2) ((pcs r q).1 j) = -1 ∨ ∃ i, i < (pcs r q).2 + 1 ∧ @ite _ (Rch r q j) (Classical.propDecidable _) (nI (pcs r q).2) ((pcs r q).1 j) = nI i
      by_cases e : Rch r q j
      · rw [if_pos e]
        exact Or.inr ⟨_, Nat.lt_succ_self _, rfl⟩
      · rw [if_neg e]
        rcases ih with h | ⟨i, h1, h2⟩
        · exact Or.inl h
        · exact Or.inr ⟨i, by omega, h2⟩
theorem pcs_ne {r : Nat → Int32} {q : Nat} (hq : q ≤ 256) (j : Nat) : ¬ (pcs r q).1 j = nI (pcs r q).2 := by
  intro h
  have h0 := pcs_le r q
  rcases pcs_val r j q with e | ⟨i, h1, e⟩
  · exact nI_nm1 (by omega) (h.symm.trans e)
  · have := nI_j (by omega) (by omega) (h.symm.trans e)
    omega
theorem pcs_y {r : Nat → Int32} {q : Nat} (h1 : ¬ r q = -1) (h2 : (pcs r q).1 q = -1) : pcs r (q + 1) = (fun k => @ite _ (Rch r q k) (Classical.propDecidable _) (nI (pcs r q).2) ((pcs r q).1 k), (pcs r q).2 + 1) := by
  rw [pcs, if_neg (fun h => h.elim h1 (fun h => h h2))]
theorem pcs_n {r : Nat → Int32} {q : Nat} (h : r q = -1 ∨ ¬ (pcs r q).1 q = -1) : pcs r (q + 1) = pcs r q := by
  rw [pcs, if_pos h]
theorem NoL_0 {p r : Nat → Int32} {q : Nat} {c : Int32} : NoL p r q c 0 0 := fun k2 s2 j h => by omega
theorem NoL_s {p r : Nat → Int32} {q k s : Nat} {c : Int32} (h : NoL p r q c k s) (h2 : ∀ j, nbM s k = some j → r j = r q → ¬ p j = -1) : NoL p r q c k (s + 1) := by
  intro k2 s2 j a1 a2 a3 a4
  by_cases e : k2 = k ∧ s2 = s
  · obtain ⟨rfl, rfl⟩ := e
    exact h2 j a3 a4
  · exact h k2 s2 j (by omega) a2 a3 a4
theorem NoL_k {p r : Nat → Int32} {q k s : Nat} {c : Int32} (h : NoL p r q c k s) (h2 : 4 ≤ s ∨ ¬ p k = c) : NoL p r q c (k + 1) 0 := by
  intro k2 s2 j a1 a2 a3 a4
  by_cases e : k2 = k
  · subst e
    rcases h2 with h2 | h2
    · exact h k2 s2 j (by omega) a2 a3 a4
    · exact absurd a2 h2
  · exact h k2 s2 j (by omega) a2 a3 a4

set_option maxRecDepth 100000 in
set_option maxHeartbeats 4000000 in
theorem s_parts (l : Launch) {Z : jZ} {D : jD} (hz : zM Z) : ja_M l (mX8_parts 0 0) [.ref (100)] Z D (ja_jd (some (.int (nI (pcs (D 123) 256).2))) Z (fun D2 => D2 = pcU D (pcs (D 123) 256).1)) ja_x0 := by
  refine ja_Mof (lv := [some (.ref (100)), none, none, none, none, none, none]) (by decide +kernel) rfl rfl (Nat.le_of_ble_eq_true rfl) rfl ?_
  refine ja_iconst (v := nI 0) dX8_parts_0 (by decide +kernel) ?_
  refine ja_istore_n (i := 1) dX8_parts_1 rfl rfl (Nat.le_of_ble_eq_true rfl) ?_
  refine ja_iconst (v := nI 0) dX8_parts_2 (by decide +kernel) ?_
  refine ja_istore_n (i := 2) dX8_parts_3 rfl rfl (Nat.le_of_ble_eq_true rfl) ?_
  have lp4 : ∀ (f4 : Nat) (k : Nat) (E : jD), (256 < k + f4) → (k ≤ 256) → (E = fiU D 122 k (-1)) → ja_A l (mX8_parts 0 0) ja_sn (ja_Qf (mX8_parts 0 0) (ja_jd (some (.int (nI (pcs (D 123) 256).2))) Z (fun D2 => D2 = pcU D (pcs (D 123) 256).1)) ja_x0) 4 [some (.ref (100)), some (.int (nI (0))), some (.int (nI (k))), none, none, none, none] [] Z E 0 0 := by
    intro f4
    induction f4 with
    | zero => intro k E hk hq hE; exfalso; omega
    | succ f4 ih4 =>
      intro k E hk hq hE
      refine ja_iload_n (i := 2) dX8_parts_4 rfl rfl ?_
      refine ja_sipush (v := nI 256) dX8_parts_5 (by decide +kernel) ?_
      refine ja_icmpN_ge (tgt := 24) dX8_parts_8 (by decide) (by omega) (by omega) (fun c8 => ?_) (fun c8 => ?_)
      ·
        refine ja_iconst (v := nI 0) dX8_parts_24 (by decide +kernel) ?_
        refine ja_istore_n (i := 2) dX8_parts_25 rfl rfl (Nat.le_of_ble_eq_true rfl) ?_
        have lp26 : ∀ (f26 : Nat) (q n : Nat) (E : jD), (256 < q + f26) → (q ≤ 256) → (n = (pcs (D 123) q).2) → (E = pcU D (pcs (D 123) q).1) → ja_A l (mX8_parts 0 0) ja_sn (ja_Qf (mX8_parts 0 0) (ja_jd (some (.int (nI (pcs (D 123) 256).2))) Z (fun D2 => D2 = pcU D (pcs (D 123) 256).1)) ja_x0) 26 [some (.ref (100)), some (.int (nI (n))), some (.int (nI (q))), none, none, none, none] [] Z E 0 0 := by
          intro f26
          induction f26 with
          | zero => intro q n E hk hq hn hE; exfalso; omega
          | succ f26 ih26 =>
            intro q n E hk hq hn hE
            have hnq := pcs_le (D 123) q
            refine ja_iload_n (i := 2) dX8_parts_26 rfl rfl ?_
            refine ja_sipush (v := nI 256) dX8_parts_27 (by decide +kernel) ?_
            refine ja_icmpN_ge (tgt := 175) dX8_parts_30 (by decide) (by omega) (by omega) (fun c30 => ?_) (fun c30 => ?_)
            ·
              refine ja_iload_n (i := 1) dX8_parts_175 rfl rfl ?_
              refine ja_iret rfl rfl dX8_parts_176 (Nat.zero_le _) (Nat.zero_le _) ?_
              exact ⟨by rw [hn, show q = 256 by omega], rfl, by rw [hE, show q = 256 by omega]⟩
            ·
              refine ja_aload_n (i := 0) dX8_parts_33 rfl rfl ?_
              refine ja_getR fl_X8_67 (zM_s hz) rfl (zM_p22 hz) dX8_parts_34 ?_
              refine ja_iload_n (i := 2) dX8_parts_37 rfl rfl ?_
              refine ja_iald (zM_a22 hz) rfl (by omega) (by decide) dX8_parts_38 ?_
              refine ja_top (y := D 123 q) (by rw [hE, pcU_o (by decide)]) ?_
              refine ja_iconst (v := (-1)) dX8_parts_39 (by decide +kernel) ?_
              refine ja_icmp_eq (tgt := 169) dX8_parts_40 (by decide) (fun c40 => ?_) (fun c40 => ?_)
              ·
                refine ja_iincN dX8_parts_169 rfl rfl (Nat.le_of_ble_eq_true rfl) ?_
                refine ja_goto (tgt := 26) dX8_parts_172 (by decide) ?_
                exact ih26 (q + 1) _ _ (by omega) (by omega) (by rw [hn, pcs_n (by first | exact Or.inl c40 | exact Or.inr c50)]) (by rw [hE, pcs_n (by first | exact Or.inl c40 | exact Or.inr c50)])
              ·
                refine ja_aload_n (i := 0) dX8_parts_43 rfl rfl ?_
                refine ja_getR fl_X8_64 (zM_s hz) rfl (zM_p21 hz) dX8_parts_44 ?_
                refine ja_iload_n (i := 2) dX8_parts_47 rfl rfl ?_
                refine ja_iald (zM_a21 hz) rfl (by omega) (by decide) dX8_parts_48 ?_
                refine ja_top (y := (pcs (D 123) q).1 q) (by rw [hE, pcU_i (by omega)]) ?_
                refine ja_iconst (v := (-1)) dX8_parts_49 (by decide +kernel) ?_
                refine ja_icmp_ne (tgt := 169) dX8_parts_50 (by decide) (fun c50 => ?_) (fun c50 => ?_)
                ·
                  refine ja_iincN dX8_parts_169 rfl rfl (Nat.le_of_ble_eq_true rfl) ?_
                  refine ja_goto (tgt := 26) dX8_parts_172 (by decide) ?_
                  exact ih26 (q + 1) _ _ (by omega) (by omega) (by rw [hn, pcs_n (by first | exact Or.inl c40 | exact Or.inr c50)]) (by rw [hE, pcs_n (by first | exact Or.inl c40 | exact Or.inr c50)])
                ·
                  refine ja_aload_n (i := 0) dX8_parts_53 rfl rfl ?_
                  refine ja_getR fl_X8_64 (zM_s hz) rfl (zM_p21 hz) dX8_parts_54 ?_
                  refine ja_iload_n (i := 2) dX8_parts_57 rfl rfl ?_
                  refine ja_iload_n (i := 1) dX8_parts_58 rfl rfl ?_
                  refine ja_iast (zM_a21 hz) rfl (by omega) (by decide) dX8_parts_59 ?_
                  refine ja_iconst (v := nI 1) dX8_parts_60 (by decide +kernel) ?_
                  refine ja_istore_n (i := 3) dX8_parts_61 rfl rfl (Nat.le_of_ble_eq_true rfl) ?_
                  have lp62 : ∀ (f62 : Nat) (p : Nat → Int32) (E1 : jD) (g : Bool), ((g = true ∧ unP p + 1 < f62) ∨ (g = false ∧ 0 < f62)) → (FI (pcs (D 123) q).1 p (D 123) q (nI n)) → (E1 = pcU D p) → (g = false → NoL p (D 123) q (nI n) 256 0) → ja_A l (mX8_parts 0 0) ja_sn (ja_Qf (mX8_parts 0 0) (ja_jd (some (.int (nI (pcs (D 123) 256).2))) Z (fun D2 => D2 = pcU D (pcs (D 123) 256).1)) ja_x0) 62 [some (.ref (100)), some (.int (nI (n))), some (.int (nI (q))), some (.int (bI (g))), none, none, none] [] Z E1 0 0 := by
                    intro f62
                    induction f62 with
                    | zero => intro p E1 g hfu hF hE1 hcl; exfalso; rcases hfu with ⟨_, h⟩ | ⟨_, h⟩ <;> omega
                    | succ f62 ih62 =>
                      intro p E1 g hfu hF hE1 hcl
                      refine ja_iload_n (i := 3) dX8_parts_62 rfl rfl ?_
                      refine ja_ifB_eq (tgt := 166) dX8_parts_63 (by decide) (fun c63 => ?_) (fun c63 => ?_)
                      ·
                        refine ja_iincN dX8_parts_166 rfl rfl (Nat.le_of_ble_eq_true rfl) ?_
                        refine ja_iincN dX8_parts_169 rfl rfl (Nat.le_of_ble_eq_true rfl) ?_
                        refine ja_goto (tgt := 26) dX8_parts_172 (by decide) ?_
                        refine ja_forget (i := 3) ?_
                        exact ih26 (q + 1) _ _ (by omega) (by omega) (by rw [hn, pcs_y c40 c50]) (by rw [hE1, pcs_y c40 c50]; refine pcU_cg (fun b hb => ?_); rw [← hn]; exact FI_end (by omega) hF (fun j hj => by rw [hn]; exact pcs_ne hq j) (fun k hk2 => Cl_un (by omega) (pcs_cl _ hq) c50 hk2) (nI_nm1 (by omega)) (hcl c63) hb)
                      ·
                        refine ja_iconst (v := nI 0) dX8_parts_66 (by decide +kernel) ?_
                        refine ja_istore_n (i := 3) dX8_parts_67 rfl rfl (Nat.le_of_ble_eq_true rfl) ?_
                        refine ja_iconst (v := nI 0) dX8_parts_68 (by decide +kernel) ?_
                        refine ja_istore (i := 4) dX8_parts_69 rfl (Nat.le_of_ble_eq_true rfl) ?_
                        have lp71 : ∀ (f71 : Nat) (k : Nat) (p1 : Nat → Int32) (E3 : jD) (g1 : Bool), (256 < k + f71) → (k ≤ 256) → (FI (pcs (D 123) q).1 p1 (D 123) q (nI n)) → (E3 = pcU D p1) → (g1 = false → NoL p1 (D 123) q (nI n) k 0) → (g1 = true → unP p1 < unP p) → (unP p1 ≤ unP p) → ja_A l (mX8_parts 0 0) ja_sn (ja_Qf (mX8_parts 0 0) (ja_jd (some (.int (nI (pcs (D 123) 256).2))) Z (fun D2 => D2 = pcU D (pcs (D 123) 256).1)) ja_x0) 71 [some (.ref (100)), some (.int (nI (n))), some (.int (nI (q))), some (.int (bI (g1))), some (.int (nI (k))), none, none] [] Z E3 0 0 := by
                          intro f71
                          induction f71 with
                          | zero => intro k p1 E3 g1 hk71 hq71 hF1 hE3 hga hgb hgc; exfalso; omega
                          | succ f71 ih71 =>
                            intro k p1 E3 g1 hk71 hq71 hF1 hE3 hga hgb hgc
                            refine ja_iload (i := 4) dX8_parts_71 rfl ?_
                            refine ja_sipush (v := nI 256) dX8_parts_73 (by decide +kernel) ?_
                            refine ja_icmpN_ge (tgt := 163) dX8_parts_76 (by decide) (by omega) (by omega) (fun c76 => ?_) (fun c76 => ?_)
                            ·
                              refine ja_goto (tgt := 62) dX8_parts_163 (by decide) ?_
                              refine ja_forget (i := 4) ?_
                              exact ih62 p1 E3 g1 (by rcases hfu with ⟨_, h⟩ | ⟨h, _⟩; rcases Bool.eq_false_or_eq_true g1 with e | e; exact Or.inl ⟨e, by have := hgb e; omega⟩; exact Or.inr ⟨e, by omega⟩; exact absurd (h.symm.trans c63) (by decide)) hF1 hE3 (fun e => by have h := hga e; rwa [show k = 256 by omega] at h)
                            ·
                              refine ja_iconst (v := nI 0) dX8_parts_79 (by decide +kernel) ?_
                              refine ja_istore (i := 5) dX8_parts_80 rfl (Nat.le_of_ble_eq_true rfl) ?_
                              have lp82 : ∀ (f82 : Nat) (s : Nat) (p2 : Nat → Int32) (E2 : jD) (g2 : Bool), (4 < s + f82) → (s ≤ 4) → (FI (pcs (D 123) q).1 p2 (D 123) q (nI n)) → (E2 = pcU D p2) → (g2 = false → NoL p2 (D 123) q (nI n) k s) → (g2 = true → unP p2 < unP p) → (unP p2 ≤ unP p) → ja_A l (mX8_parts 0 0) ja_sn (ja_Qf (mX8_parts 0 0) (ja_jd (some (.int (nI (pcs (D 123) 256).2))) Z (fun D2 => D2 = pcU D (pcs (D 123) 256).1)) ja_x0) 82 [some (.ref (100)), some (.int (nI (n))), some (.int (nI (q))), some (.int (bI (g2))), some (.int (nI (k))), some (.int (nI (s))), none] [] Z E2 0 0 := by
                                intro f82
                                induction f82 with
                                | zero => intro s p2 E2 g2 hk82 hq82 hF2 hE2 hga2 hgb2 hgc2; exfalso; omega
                                | succ f82 ih82 =>
                                  intro s p2 E2 g2 hk82 hq82 hF2 hE2 hga2 hgb2 hgc2
                                  refine ja_iload (i := 5) dX8_parts_82 rfl ?_
                                  refine ja_iconst (v := nI 4) dX8_parts_84 (by decide +kernel) ?_
                                  refine ja_icmpN_ge (tgt := 157) dX8_parts_85 (by decide) (by omega) (by omega) (fun c85 => ?_) (fun c85 => ?_)
                                  ·
                                    refine ja_iincN dX8_parts_157 rfl rfl (Nat.le_of_ble_eq_true rfl) ?_
                                    refine ja_goto (tgt := 71) dX8_parts_160 (by decide) ?_
                                    refine ja_forget (i := 5) ?_
                                    exact ih71 (k + 1) p2 E2 g2 (by omega) (by omega) hF2 hE2 (fun e => NoL_k (hga2 e) (by first | exact Or.inl c85 | exact Or.inr c96)) hgb2 hgc2
                                  ·
                                    refine ja_aload_n (i := 0) dX8_parts_88 rfl rfl ?_
                                    refine ja_getR fl_X8_64 (zM_s hz) rfl (zM_p21 hz) dX8_parts_89 ?_
                                    refine ja_iload (i := 4) dX8_parts_92 rfl ?_
                                    refine ja_iald (zM_a21 hz) rfl (by omega) (by decide) dX8_parts_94 ?_
                                    refine ja_top (y := p2 k) (by rw [hE2, pcU_i (by omega)]) ?_
                                    refine ja_iload_n (i := 1) dX8_parts_95 rfl rfl ?_
                                    refine ja_icmp_ne (tgt := 157) dX8_parts_96 (by decide) (fun c96 => ?_) (fun c96 => ?_)
                                    ·
                                      refine ja_iincN dX8_parts_157 rfl rfl (Nat.le_of_ble_eq_true rfl) ?_
                                      refine ja_goto (tgt := 71) dX8_parts_160 (by decide) ?_
                                      refine ja_forget (i := 5) ?_
                                      exact ih71 (k + 1) p2 E2 g2 (by omega) (by omega) hF2 hE2 (fun e => NoL_k (hga2 e) (by first | exact Or.inl c85 | exact Or.inr c96)) hgb2 hgc2
                                    ·
                                      refine ja_iload (i := 4) dX8_parts_99 rfl ?_
                                      refine ja_iload (i := 5) dX8_parts_101 rfl ?_
                                      refine ja_cSr (st := []) (s_beside l (q := k) (side := s) (by omega) (by omega)) rfl rfl (ce_X8_beside 0 0) st_X8_beside lk_X8_129 ⟨(Nat.le_of_ble_eq_true rfl), (Nat.le_of_ble_eq_true rfl)⟩ dX8_parts_103 rfl rfl (Nat.le_of_ble_eq_true rfl) (Nat.zero_le _) (Nat.zero_le _) ?_
                                      refine ja_istore (i := 6) dX8_parts_106 rfl (Nat.le_of_ble_eq_true rfl) ?_
                                      rcases hnb : nbM s k with _ | j
                                      ·
                                        refine ja_iload (i := 6) dX8_parts_108 rfl ?_
                                        refine ja_iconst (v := (-1)) dX8_parts_110 (by decide +kernel) ?_
                                        refine ja_icmp_eq (tgt := 151) dX8_parts_111 (by decide) (fun c111 => ?_) (fun c111 => absurd rfl c111)
                                        refine ja_iincN dX8_parts_151 rfl rfl (Nat.le_of_ble_eq_true rfl) ?_
                                        refine ja_goto (tgt := 82) dX8_parts_154 (by decide) ?_
                                        refine ja_forget (i := 6) ?_
                                        exact ih82 (s + 1) p2 E2 g2 (by omega) (by omega) hF2 hE2 (fun e => NoL_s (hga2 e) (fun j2 a3 a4 => by first | (rw [hnb] at a3; cases a3; done) | (rw [hnb] at a3; cases a3; first | exact absurd a4 c127 | exact c138))) hgb2 hgc2
                                      ·
                                        have hj := nbM_lt (by omega) hnb
                                        refine ja_iload (i := 6) dX8_parts_108 rfl ?_
                                        refine ja_iconst (v := (-1)) dX8_parts_110 (by decide +kernel) ?_
                                        refine ja_icmp_eq (tgt := 151) dX8_parts_111 (by decide) (fun c111 => absurd c111 (nI_nm1 (by omega))) (fun c111 => ?_)
                                        refine ja_aload_n (i := 0) dX8_parts_114 rfl rfl ?_
                                        refine ja_getR fl_X8_67 (zM_s hz) rfl (zM_p22 hz) dX8_parts_115 ?_
                                        refine ja_iload (i := 6) dX8_parts_118 rfl ?_
                                        refine ja_iald (zM_a22 hz) rfl (by omega) (by decide) dX8_parts_120 ?_
                                        refine ja_top (y := D 123 j) (by rw [hE2, pcU_o (by decide)]) ?_
                                        refine ja_aload_n (i := 0) dX8_parts_121 rfl rfl ?_
                                        refine ja_getR fl_X8_67 (zM_s hz) rfl (zM_p22 hz) dX8_parts_122 ?_
                                        refine ja_iload_n (i := 2) dX8_parts_125 rfl rfl ?_
                                        refine ja_iald (zM_a22 hz) rfl (by omega) (by decide) dX8_parts_126 ?_
                                        refine ja_top (y := D 123 q) (by rw [hE2, pcU_o (by decide)]) ?_
                                        refine ja_icmp_ne (tgt := 151) dX8_parts_127 (by decide) (fun c127 => ?_) (fun c127 => ?_)
                                        ·
                                          refine ja_iincN dX8_parts_151 rfl rfl (Nat.le_of_ble_eq_true rfl) ?_
                                          refine ja_goto (tgt := 82) dX8_parts_154 (by decide) ?_
                                          refine ja_forget (i := 6) ?_
                                          exact ih82 (s + 1) p2 E2 g2 (by omega) (by omega) hF2 hE2 (fun e => NoL_s (hga2 e) (fun j2 a3 a4 => by first | (rw [hnb] at a3; cases a3; done) | (rw [hnb] at a3; cases a3; first | exact absurd a4 c127 | exact c138))) hgb2 hgc2
                                        ·
                                          refine ja_aload_n (i := 0) dX8_parts_130 rfl rfl ?_
                                          refine ja_getR fl_X8_64 (zM_s hz) rfl (zM_p21 hz) dX8_parts_131 ?_
                                          refine ja_iload (i := 6) dX8_parts_134 rfl ?_
                                          refine ja_iald (zM_a21 hz) rfl (by omega) (by decide) dX8_parts_136 ?_
                                          refine ja_top (y := p2 j) (by rw [hE2, pcU_i (by omega)]) ?_
                                          refine ja_iconst (v := (-1)) dX8_parts_137 (by decide +kernel) ?_
                                          refine ja_icmp_ne (tgt := 151) dX8_parts_138 (by decide) (fun c138 => ?_) (fun c138 => ?_)
                                          ·
                                            refine ja_iincN dX8_parts_151 rfl rfl (Nat.le_of_ble_eq_true rfl) ?_
                                            refine ja_goto (tgt := 82) dX8_parts_154 (by decide) ?_
                                            refine ja_forget (i := 6) ?_
                                            exact ih82 (s + 1) p2 E2 g2 (by omega) (by omega) hF2 hE2 (fun e => NoL_s (hga2 e) (fun j2 a3 a4 => by first | (rw [hnb] at a3; cases a3; done) | (rw [hnb] at a3; cases a3; first | exact absurd a4 c127 | exact c138))) hgb2 hgc2
                                          ·
                                            refine ja_aload_n (i := 0) dX8_parts_141 rfl rfl ?_
                                            refine ja_getR fl_X8_64 (zM_s hz) rfl (zM_p21 hz) dX8_parts_142 ?_
                                            refine ja_iload (i := 6) dX8_parts_145 rfl ?_
                                            refine ja_iload_n (i := 1) dX8_parts_147 rfl rfl ?_
                                            refine ja_iast (zM_a21 hz) rfl (by omega) (by decide) dX8_parts_148 ?_
                                            refine ja_iconst (v := nI 1) dX8_parts_149 (by decide +kernel) ?_
                                            refine ja_istore_n (i := 3) dX8_parts_150 rfl rfl (Nat.le_of_ble_eq_true rfl) ?_
                                            refine ja_iincN dX8_parts_151 rfl rfl (Nat.le_of_ble_eq_true rfl) ?_
                                            refine ja_goto (tgt := 82) dX8_parts_154 (by decide) ?_
                                            refine ja_forget (i := 6) ?_
                                            exact ih82 (s + 1) _ _ true (by omega) (by omega) (FI_s hF2 (fun j hj => by rw [hn]; exact pcs_ne hq j) (by omega) (by omega) c96 hnb c127) (by rw [hE2]; exact pcU_s hj) (fun e => by cases e) (fun _ => Nat.lt_of_lt_of_le (unP_s hj c138 (nI_nm1 (by omega))) hgc2) (Nat.le_of_lt (Nat.lt_of_lt_of_le (unP_s hj c138 (nI_nm1 (by omega))) hgc2))
                              exact lp82 5 0 p1 E3 g1 (by omega) (by omega) hF1 hE3 hga hgb hgc
                        exact lp71 257 0 p E1 false (by omega) (by omega) hF hE1 (fun _ => NoL_0) (fun e => by cases e) (Nat.le_refl _)
                  exact lp62 (unP (fup (pcs (D 123) q).1 q (nI n)) + 2) (fup (pcs (D 123) q).1 q (nI n)) (ja_up E 122 q (nI (n))) true (Or.inl ⟨rfl, by omega⟩) ⟨by rw [fup, if_pos rfl], fun j hj => (if e : j = q then Or.inr ⟨by rw [fup, if_pos e], e ▸ Rch_refl _ _⟩ else Or.inl (by rw [fup, if_neg e]))⟩ (by rw [hE]; exact pcU_s (by omega)) (fun e => by cases e)
        exact lp26 257 0 0 E (by omega) (by omega) rfl (by rw [hE, show k = 256 by omega]; exact pcU_0)
      ·
        refine ja_aload_n (i := 0) dX8_parts_11 rfl rfl ?_
        refine ja_getR fl_X8_64 (zM_s hz) rfl (zM_p21 hz) dX8_parts_12 ?_
        refine ja_iload_n (i := 2) dX8_parts_15 rfl rfl ?_
        refine ja_iconst (v := (-1)) dX8_parts_16 (by decide +kernel) ?_
        refine ja_iast (zM_a21 hz) rfl (by omega) (by decide) dX8_parts_17 ?_
        refine ja_iincN dX8_parts_18 rfl rfl (Nat.le_of_ble_eq_true rfl) ?_
        refine ja_goto (tgt := 4) dX8_parts_21 (by decide) ?_
        exact ih4 (k + 1) _ (by omega) (by omega) (by rw [hE]; exact fiU_s)
  exact lp4 257 0 D (by omega) (by omega) fiU_0
