/-! JOINT THEOREMS, 4 (by wip/whole/x54.py) -/
theorem JA_szX {D : jD} {cc : Nat → Nat → Option Nat} (H : JA D cc) : szX D := fun ly h1 a ha => by
  rw [(H ly h1).2.2 a ha]
  refine congrArg nI (fb_ct_cong (fun q hq => ?_))
  rw [((H ly h1).2.1 q hq).1, decide_eq_decide]
  exact (oI_nI ((H ly h1).1 q) ha).symm
theorem fb_sm_ge {f : Nat → Nat} {a : Nat} : ∀ {n}, a < n → f a ≤ fb_sm f n
  | 0, h => absurd h (Nat.not_lt_zero a)
  | n + 1, h => by
    rw [fb_sm_succ]
    by_cases e : a = n
    · subst e; omega
    · have := fb_sm_ge (f := f) (a := a) (n := n) (by omega); omega
theorem JB_le {n : Nat} {D : jD} {cc : Nat → Nat → Option Nat} {wv : Nat → Nat → Nat} (H : JB n D cc wv) (hn : n < 512) {ly a : Nat} (h1 : ly < 3) (ha : a < 10) : wv ly a < 2 ^ 31 := by
  have h2 := (H ly h1).2
  have h3 := fb_sm_ge (f := wv ly) ha
  omega
theorem frs_of {D E : jD} (h : ofO D E) : frs D E := frs_n (fun i j hs => h i j (by unfold scr at hs; omega))
theorem j_isSound (l : Launch) : ja_JS l JI := by
  intro n Z D hn hI
  obtain ⟨a1, a2, a3, a4, ⟨cc, b1, ⟨wv, b2⟩, tn, hs, b3, b4⟩, a5, a6, a7, a8⟩ := id hI
  obtain ⟨t1, t2, t3, t4, t5⟩ := id b3
  obtain ⟨ins, hin, hst⟩ : ∃ ins : Bool, D 0 7 = bI ins ∧ (ins = false → ∀ ly, ly < 3 → ∀ q, q < 256 → D (31 + 10 * ly) q = D (36 + 10 * ly) (tn * 256 + q)) := by
    rcases b4 with ⟨i1, i2, i3⟩ | ⟨i1, -⟩
    · refine ⟨false, i1, fun _ ly h1 q hq => ?_⟩
      rw [((b1 ly h1).2.1 q hq).1, ((t4 tn (Nat.le_refl _) ly h1).2 q hq).1, i3 ly h1 q hq]
    · exact ⟨true, i1, fun h => by cases h⟩
  refine ⟨true, _, c_isSound (D := D) l a2 (wv := wv) (sa := fun ly => eN (cc ly)) (JA_wX b1) (JA_szX b1) (fun ly h1 a ha => ⟨((b2 ly h1).1 a ha).1, JB_le b2 hn h1 ha⟩) (fun ly h1 a ha => ⟨(b1 ly h1).2.2 a ha, fb_ct_le _ _⟩) (fun ly h1 a ha => ((b2 ly h1).1 a ha).2.2) hin t2 t1 hst, ?_⟩
  rintro v Z1 D1 ⟨rfl, rfl, hd⟩
  refine ⟨rfl, a1, _, r_isSound l a3, ?_⟩
  rintro w Z2 D2 ⟨rfl, rfl, rfl⟩
  exact ⟨rfl, a1, JI_f (frs_t (frs_of hd) (frs_0 _ _)) hI⟩
theorem j_name (l : Launch) : ∀ (p0 p1 p2 : Int32), ja_JC l JI mL_name mX8_name [.int p0, .int p1, .int p2] 200 ty_i eqv_i := by
  intro p0 p1 p2 n Z D hn hI
  show ja_JP l mL_name mX8_name [.int p0, .int p1, .int p2] 200 ty_i eqv_i n Z D
  obtain ⟨a1, a2, a3, a4, ⟨cc, b1, ⟨wv, b2⟩, tn, hs, b3, b4⟩, a5, a6, a7, a8⟩ := id hI
  by_cases gp0 : nI 0 ≤ p0 ∧ p0 ≤ nI 2
  rotate_left
  · refine j_F hI (c := 1) (s := 6) (k := 1) (by decide) (by decide) (w_name l (c_name_f1 (D := D) l a2 p1 p2 gp0) a1.1 (fun _ _ _ h => h.elim) (fun E Z1 D1 h => by rw [h.1]; decide)) (fun E Z1 D1 h => ⟨h.1, h.2.1, by rw [h.2.2]; exact frs_r _⟩) (by decide) (by decide) (fun D1 hf hI1 => ?_)
    exact ⟨_, _, r_name_f1 l a3 p1 p2 gp0, ⟨_, rfl⟩, fun D2 h => by subst h; exact ⟨up_s, frs_0 _ _⟩⟩
  obtain ⟨ly, hly, rfl⟩ := nI_rng (by decide) gp0
  have h1 : ly < 3 := by omega
  by_cases gp1 : nI 0 ≤ p1 ∧ p1 ≤ nI 9
  rotate_left
  · refine j_F hI (c := 1) (s := 6) (k := 2) (by decide) (by decide) (w_name l (c_name_f2 (D := D) l a2 h1 p2 gp1) a1.1 (fun _ _ _ h => h.elim) (fun E Z1 D1 h => by rw [h.1]; decide)) (fun E Z1 D1 h => ⟨h.1, h.2.1, by rw [h.2.2]; exact frs_r _⟩) (by decide) (by decide) (fun D1 hf hI1 => ?_)
    exact ⟨_, _, r_name_f2 l a3 h1 p2 gp1, ⟨_, rfl⟩, fun D2 h => by subst h; exact ⟨up_s, frs_0 _ _⟩⟩
  obtain ⟨a, h2, rfl⟩ := nI_rng (by decide) gp1
  have h3 : a < 10 := by omega
  by_cases gp2 : nI 0 ≤ p2 ∧ p2 ≤ nI 6
  rotate_left
  · refine j_F hI (c := 1) (s := 6) (k := 2) (by decide) (by decide) (w_name l (c_name_f2b (D := D) l a2 h1 h3 gp2) a1.1 (fun _ _ _ h => h.elim) (fun E Z1 D1 h => by rw [h.1]; decide)) (fun E Z1 D1 h => ⟨h.1, h.2.1, by rw [h.2.2]; exact frs_r _⟩) (by decide) (by decide) (fun D1 hf hI1 => ?_)
    exact ⟨_, _, r_name_f2b l a3 h1 h3 gp2, ⟨_, rfl⟩, fun D2 h => by subst h; exact ⟨up_s, frs_0 _ _⟩⟩
  obtain ⟨lm, hlm⟩ := id a5
  obtain ⟨nx, g4, rfl⟩ := nI_rng (by decide) gp2
  refine j_G (c := 0) (s := 0) (by decide) (by decide) (w_name l (c_name_ok (D := D) l a2 h1 h3 g4) a1.1 (fun v Z1 D1 h => ⟨by rw [h.2.1]; exact a1.2.2.1, _, h.1⟩) (fun _ _ _ h => h.elim)) (fun b8 Z1 D1 h => ?_)
  obtain ⟨hb, rfl, hd⟩ := h
  cases hb
  subst hd
  refine ⟨a1, _, _, r_name_ok l (zM_u a3) h1 h3 g4, ⟨_, rfl⟩, eqv_ii (by rw [up_n (by omega)]; exact (hlm ly h1 a h3).1.trans (hlm ly h1 a h3).2.1.symm), fun D2 h => ?_⟩
  subst h
  exact ⟨by rw [up_n (by omega), up_s], ⟨a1, a2, a3, JT_d (fun j => by rw [up_n (by omega), up_n (by omega), up_n (by omega)]) a4, ⟨cc, JA_d (fun i j hd => by unfold dJA at hd; rw [up_n (by omega), up_n (by omega), up_n (by omega)]) b1, ⟨wv, JB_d (fun i j hd => by unfold dJB at hd; rw [up_n (by omega), up_n (by omega), up_n (by omega)]) b2⟩, tn, hs, JH_d (fun i j hd => by unfold dJH at hd; rw [up_n (by omega), up_n (by omega), up_n (by omega)]) b3, JS_d (fun i j hd => by unfold dJS at hd; rw [up_n (by omega), up_n (by omega), up_n (by omega)]) b4⟩, ⟨fun k b => if k = ly ∧ b = a then nx else lm k b, fun k hk b hb => by
    by_cases e : k = ly ∧ b = a
    · obtain ⟨rfl, rfl⟩ := e
      dsimp only
      rw [if_pos (show k = k ∧ b = b from ⟨rfl, rfl⟩)]
      exact ⟨by rw [up_n (by omega), up_n (by omega), up_s], up_s, g4⟩
    · dsimp only
      rw [if_neg e, up_n (by omega), up_n (by omega), up_n (by omega), up_n (by omega), up_n (by omega), up_n (by omega)]
      exact hlm k hk b hb⟩, JV_d (fun i j hd => by unfold dJV at hd; rw [up_n (by omega), up_n (by omega), up_n (by omega)]) a6, JR_d (fun i j hd => by unfold dJR at hd; rw [up_n (by omega), up_n (by omega), up_n (by omega)]) rfl (fun _ _ _ h => h) a7, JW_d (fun i j hd => by unfold dJW at hd; rw [up_n (by omega), up_n (by omega), up_n (by omega)]) rfl (fun _ _ h => h) a8⟩⟩
theorem j_setValue (l : Launch) : ∀ (p0 p1 p2 : Int32), ja_JC l JI mL_setValue mX8_setValue [.int p0, .int p1, .int p2] 200 ty_i eqv_i := by
  intro p0 p1 p2 n Z D hn hI
  show ja_JP l mL_setValue mX8_setValue [.int p0, .int p1, .int p2] 200 ty_i eqv_i n Z D
  obtain ⟨a1, a2, a3, a4, ⟨cc, b1, ⟨wv, b2⟩, tn, hs, b3, b4⟩, a5, a6, a7, a8⟩ := id hI
  by_cases gp0 : nI 0 ≤ p0 ∧ p0 ≤ nI 2
  rotate_left
  · refine j_F hI (c := 1) (s := 6) (k := 1) (by decide) (by decide) (w_setValue l (c_setValue_f1 (D := D) l a2 p1 p2 gp0) a1.1 (fun _ _ _ h => h.elim) (fun E Z1 D1 h => by rw [h.1]; decide)) (fun E Z1 D1 h => ⟨h.1, h.2.1, by rw [h.2.2]; exact frs_r _⟩) (by decide) (by decide) (fun D1 hf hI1 => ?_)
    exact ⟨_, _, r_setValue_f1 l a3 p1 p2 gp0, ⟨_, rfl⟩, fun D2 h => by subst h; exact ⟨up_s, frs_0 _ _⟩⟩
  obtain ⟨ly, hly, rfl⟩ := nI_rng (by decide) gp0
  have h1 : ly < 3 := by omega
  by_cases gp1 : nI 0 ≤ p1 ∧ p1 ≤ nI 9
  rotate_left
  · refine j_F hI (c := 1) (s := 6) (k := 2) (by decide) (by decide) (w_setValue l (c_setValue_f2 (D := D) l a2 h1 p2 gp1) a1.1 (fun _ _ _ h => h.elim) (fun E Z1 D1 h => by rw [h.1]; decide)) (fun E Z1 D1 h => ⟨h.1, h.2.1, by rw [h.2.2]; exact frs_r _⟩) (by decide) (by decide) (fun D1 hf hI1 => ?_)
    exact ⟨_, _, r_setValue_f2 l a3 h1 p2 gp1, ⟨_, rfl⟩, fun D2 h => by subst h; exact ⟨up_s, frs_0 _ _⟩⟩
  obtain ⟨a, h2, rfl⟩ := nI_rng (by decide) gp1
  have h3 : a < 10 := by omega
  by_cases gp2 : nI 0 ≤ p2 ∧ p2 ≤ nI 9999
  rotate_left
  · refine j_F hI (c := 1) (s := 6) (k := 2) (by decide) (by decide) (w_setValue l (c_setValue_f2b (D := D) l a2 h1 h3 gp2) a1.1 (fun _ _ _ h => h.elim) (fun E Z1 D1 h => by rw [h.1]; decide)) (fun E Z1 D1 h => ⟨h.1, h.2.1, by rw [h.2.2]; exact frs_r _⟩) (by decide) (by decide) (fun D1 hf hI1 => ?_)
    exact ⟨_, _, r_setValue_f2b l a3 h1 h3 gp2, ⟨_, rfl⟩, fun D2 h => by subst h; exact ⟨up_s, frs_0 _ _⟩⟩
  obtain ⟨nx, g4, rfl⟩ := nI_rng (by decide) gp2
  rcases id b4 with ⟨i1, i2, i3⟩ | ⟨i1, i2, ⟨w0, i3, i4, i5⟩, i6⟩
  · refine j_F hI (c := 1) (s := 6) (k := 3) (by decide) (by decide) (w_setValue l (c_setValue_f3 (D := D) l a2 h1 i1 h3 g4) a1.1 (fun _ _ _ h => h.elim) (fun E Z1 D1 h => by rw [h.1]; decide)) (fun E Z1 D1 h => ⟨h.1, h.2.1, by rw [h.2.2]; exact frs_r _⟩) (by decide) (by decide) (fun D1 hf hI1 => ?_)
    exact ⟨_, _, r_setValue_f3 l a3 h1 h3 g4 ((hf.1 100 2 (by unfold scr; omega)).trans i2), ⟨_, rfl⟩, fun D2 h => by subst h; exact ⟨up_s, frs_0 _ _⟩⟩
  by_cases gs : eN (cc ly) a = 0
  · refine j_F hI (c := 1) (s := 6) (k := 4) (by decide) (by decide) (w_setValue l (c_setValue_f4 (D := D) l a2 h1 i1 (f := D 105) (fun a ha => JA_sz2 b1 h1 ha) h3 g4 ((JA_sz b1 h1 h3).trans gs)) a1.1 (fun _ _ _ h => h.elim) (fun E Z1 D1 h => by rw [h.1]; decide)) (fun E Z1 D1 h => ⟨h.1, h.2.1, by rw [h.2.2]; exact frs_r _⟩) (by decide) (by decide) (fun D1 hf hI1 => ?_)
    exact ⟨_, _, r_setValue_f4 l a3 h1 h3 g4 ((hf.1 100 2 (by unfold scr; omega)).trans i5) i3 (by rw [frs_5 hf]; exact (JA_sz b1 h1 h3).trans gs), ⟨_, rfl⟩, fun D2 h => by subst h; exact ⟨up_s, frs_0 _ _⟩⟩
  refine j_G (c := 0) (s := 0) (by decide) (by decide) (w_setValue l (c_setValue_ok (D := D) l a2 h1 i1 (f := D 105) (fun a ha => JA_sz2 b1 h1 ha) h3 g4 (by rw [JA_sz b1 h1 h3]; exact gs)) a1.1 (fun v Z1 D1 h => ⟨by rw [h.2.1]; exact a1.2.2.1, _, h.1⟩) (fun _ _ _ h => h.elim)) (fun b8 Z1 D1 h => ?_)
  obtain ⟨hb, rfl, hd⟩ := h
  cases hb
  subst hd
  refine ⟨a1, _, _, r_setValue_ok l (zM_u a3) h1 h3 g4 ((up_n (by omega)).trans i5) i3 (by rw [up_o (by omega), JA_sz b1 h1 h3]; exact gs), ⟨_, rfl⟩, eqv_ii (by rw [up_n (by omega)]; exact ((b2 ly h1).1 a h3).1.trans ((b2 ly h1).1 a h3).2.1.symm), fun D2 h => ?_⟩
  subst h
  exact ⟨by rw [up_n (by omega), up_s], ⟨a1, a2, a3, JT_d (fun j => by rw [up_n (by omega), up_n (by omega), up_n (by omega)]) a4, ⟨cc, JA_d (fun i j hd => by unfold dJA at hd; rw [up_n (by omega), up_n (by omega), up_n (by omega)]) b1, ⟨fun k => if k = ly then (fun b => if b = a then nx else wv ly b) else wv k, fun k hk => by
    refine ⟨fun b hb => ?_, ?_⟩
    · show _ ∧ _ ∧ (_ → (if k = ly then (fun b => if b = a then nx else wv ly b) else wv k) b = 0)
      by_cases e : k = ly
      · subst e
        by_cases e2 : b = a
        · subst e2
          refine ⟨?_, ?_, fun h => absurd h gs⟩
          · rw [up_n (by omega), up_n (by omega), up_s]; simp
          · rw [up_s]; simp
        · simp only [if_true, if_neg e2]
          rw [up_n (by omega), up_n (by omega), up_n (by omega), up_n (by omega), up_n (by omega), up_n (by omega)]
          exact (b2 k hk).1 b hb
      · simp only [if_neg e]
        rw [up_n (by omega), up_n (by omega), up_n (by omega), up_n (by omega), up_n (by omega), up_n (by omega)]
        exact (b2 k hk).1 b hb
    · have := (b2 k hk).2
      by_cases e : k = ly
      · subst e
        have h9 := fb_sm_up (f := wv k) (k := a) (x := nx) 10
        rw [if_pos h3] at h9
        simp only [if_true]
        omega
      · simp only [if_neg e]
        omega⟩, tn, hs, JH_d (fun i j hd => by unfold dJH at hd; rw [up_n (by omega), up_n (by omega), up_n (by omega)]) b3, JS_d (fun i j hd => by unfold dJS at hd; rw [up_n (by omega), up_n (by omega), up_n (by omega)]) b4⟩, JL_d (fun i j hd => by unfold dJL at hd; rw [up_n (by omega), up_n (by omega), up_n (by omega)]) a5, JV_d (fun i j hd => by unfold dJV at hd; rw [up_n (by omega), up_n (by omega), up_n (by omega)]) a6, JR_d (fun i j hd => by unfold dJR at hd; rw [up_n (by omega), up_n (by omega), up_n (by omega)]) rfl (fun _ _ _ h => h) a7, JW_d (fun i j hd => by unfold dJW at hd; rw [up_n (by omega), up_n (by omega), up_n (by omega)]) rfl (fun _ _ h => h) a8⟩⟩
theorem j_setDivides (l : Launch) : ∀ (p0 : Int32) (p1 : Bool), ja_JC l JI mL_setDivides mX8_setDivides [.int p0, .int (bI p1)] 200 ty_b eqv_b := by
  intro p0 p1 n Z D hn hI
  show ja_JP l mL_setDivides mX8_setDivides [.int p0, .int (bI p1)] 200 ty_b eqv_b n Z D
  obtain ⟨a1, a2, a3, a4, ⟨cc, b1, ⟨wv, b2⟩, tn, hs, b3, b4⟩, a5, a6, a7, a8⟩ := id hI
  by_cases gp0 : nI 0 ≤ p0 ∧ p0 ≤ nI 2
  rotate_left
  · refine j_F hI (c := 1) (s := 6) (k := 1) (by decide) (by decide) (w_setDivides l (c_setDivides_f1 (D := D) l a2 (dv := p1) gp0) a1.1 (fun _ _ _ h => h.elim) (fun E Z1 D1 h => by rw [h.1]; decide)) (fun E Z1 D1 h => ⟨h.1, h.2.1, by rw [h.2.2]; exact frs_r _⟩) (by decide) (by decide) (fun D1 hf hI1 => ?_)
    exact ⟨_, _, r_setDivides_f1 l a3 (dv := p1) gp0, ⟨_, rfl⟩, fun D2 h => by subst h; exact ⟨up_s, frs_0 _ _⟩⟩
  obtain ⟨ly, hly, rfl⟩ := nI_rng (by decide) gp0
  have h1 : ly < 3 := by omega
  obtain ⟨dv, hdv⟩ := id a6
  refine j_G (c := 0) (s := 0) (by decide) (by decide) (w_setDivides l (c_setDivides_ok (D := D) l a2 h1 (dv := p1) (hdv ly h1).1) a1.1 (fun v Z1 D1 h => ⟨by rw [h.2.1]; exact a1.2.2.1, _, h.1⟩) (fun _ _ _ h => h.elim)) (fun b8 Z1 D1 h => ?_)
  obtain ⟨hb, rfl, hd⟩ := h
  cases hb
  subst hd
  refine ⟨a1, _, _, r_setDivides_ok l (zM_u a3) h1 (dv := p1) ((up_n (by omega)).trans (hdv ly h1).2), ⟨_, rfl⟩, eqv_bb (by simp), fun D2 h => ?_⟩
  subst h
  exact ⟨by rw [up_n (by omega), up_s], ⟨a1, a2, a3, JT_d (fun j => by rw [up_n (by omega), up_n (by omega), up_n (by omega)]) a4, ⟨cc, JA_d (fun i j hd => by unfold dJA at hd; rw [up_n (by omega), up_n (by omega), up_n (by omega)]) b1, ⟨wv, JB_d (fun i j hd => by unfold dJB at hd; rw [up_n (by omega), up_n (by omega), up_n (by omega)]) b2⟩, tn, hs, JH_d (fun i j hd => by unfold dJH at hd; rw [up_n (by omega), up_n (by omega), up_n (by omega)]) b3, JS_d (fun i j hd => by unfold dJS at hd; rw [up_n (by omega), up_n (by omega), up_n (by omega)]) b4⟩, JL_d (fun i j hd => by unfold dJL at hd; rw [up_n (by omega), up_n (by omega), up_n (by omega)]) a5, ⟨fun k => if k = ly then p1 else dv k, fun k hk => by
    by_cases e : k = ly
    · subst e
      simp only [if_true]
      exact ⟨by rw [up_n (by omega), up_n (by omega), up_s], up_s⟩
    · simp only [if_neg e]
      rw [up_n (by omega), up_n (by omega), up_n (by omega), up_n (by omega), up_n (by omega), up_n (by omega)]
      exact hdv k hk⟩, JR_d (fun i j hd => by unfold dJR at hd; rw [up_n (by omega), up_n (by omega), up_n (by omega)]) rfl (fun _ _ _ h => h) a7, JW_d (fun i j hd => by unfold dJW at hd; rw [up_n (by omega), up_n (by omega), up_n (by omega)]) rfl (fun _ _ h => h) a8⟩⟩
theorem j_sign (l : Launch) : ∀ (p0 : Int32), ja_JC l JI mL_sign mX8_sign [.int p0] 200 ty_i eqv_i := by
  intro p0 n Z D hn hI
  show ja_JP l mL_sign mX8_sign [.int p0] 200 ty_i eqv_i n Z D
  obtain ⟨a1, a2, a3, a4, ⟨cc, b1, ⟨wv, b2⟩, tn, hs, b3, b4⟩, a5, a6, a7, a8⟩ := id hI
  obtain ⟨rn, fl, sl, sg, u1, u2, u3, u4, u5, u6, u7⟩ := id a7
  by_cases gk : 0 ≤ p0.toInt ∧ p0.toInt < rn
  rotate_left
  · refine j_F hI (c := 1) (s := 6) (k := 1) (by decide) (by decide) (w_sign l (c_sign_f1 (D := D) l a2 u2 gk) a1.1 (fun _ _ _ h => h.elim) (fun E Z1 D1 h => by rw [h.1]; decide)) (fun E Z1 D1 h => ⟨h.1, h.2.1, by rw [h.2.2]; exact frs_r _⟩) (by decide) (by decide) (fun D1 hf hI1 => ?_)
    exact ⟨_, _, r_sign_f1 l a3 ((hf.1 100 12 (by unfold scr; omega)).trans u4) u1 gk, ⟨_, rfl⟩, fun D2 h => by subst h; exact ⟨up_s, frs_0 _ _⟩⟩
  obtain ⟨r, h1, rfl⟩ := k_rng (by omega) gk
  rcases id b4 with ⟨i1, i2, i3⟩ | ⟨i1, i2, ⟨w0, i3, i4, i5⟩, i6⟩
  · refine j_F hI (c := 1) (s := 6) (k := 2) (by decide) (by decide) (w_sign l (c_sign_f2 (D := D) l a2 u2 u1 u3 i1 h1) a1.1 (fun _ _ _ h => h.elim) (fun E Z1 D1 h => by rw [h.1]; decide)) (fun E Z1 D1 h => ⟨h.1, h.2.1, by rw [h.2.2]; exact frs_r _⟩) (by decide) (by decide) (fun D1 hf hI1 => ?_)
    exact ⟨_, _, r_sign_f2 l a3 ((hf.1 100 12 (by unfold scr; omega)).trans u4) u1 ((hf.1 100 2 (by unfold scr; omega)).trans i2) h1, ⟨_, rfl⟩, fun D2 h => by subst h; exact ⟨up_s, frs_0 _ _⟩⟩
  have ec : fb_ct (fun k => decide (k = r) || sg k) rn = fb_ct (fun k => decide (¬ ja_up (ja_up D (60 + r) 3 1) 110 r (nI 1) 110 k = 0)) 6 := by
    have e1 : fb_ct (fun k => decide (¬ ja_up (ja_up D (60 + r) 3 1) 110 r (nI 1) 110 k = 0)) 6 = fb_ct (fun k => decide (k = r) || sg k) 6 := fb_ct_cong (fun k hk => by
      by_cases e : k = r
      · subst e
        rw [up_s]
        simp
        decide
      · rw [up_n (by omega), up_n (by omega), u6 k hk, Bool.eq_iff_iff]
        simp [e, bI_0])
    rw [e1]
    have e2 := fb_ct_ext (p := fun k => decide (k = r) || sg k) (n := rn) (6 - rn) (fun k k1 k2 => by
      have := (u7 k k1 (by omega)).1
      simp [this]
      omega)
    rw [show rn + (6 - rn) = 6 by omega] at e2
    exact e2.symm
  refine j_G (c := 0) (s := 0) (by decide) (by decide) (w_sign l (c_sign_ok (D := D) l a2 u2 u1 u3 (sg := sg) (fun k hk => (u5 k hk).2.2.2.2.2) i1 h1) a1.1 (fun v Z1 D1 h => ⟨by rw [h.2.1]; exact a1.2.2.1, _, h.1⟩) (fun _ _ _ h => h.elim)) (fun b8 Z1 D1 h => ?_)
  obtain ⟨hb, rfl, hd⟩ := h
  cases hb
  subst hd
  refine ⟨a1, _, _, r_sign_ok l (zM_u a3) ((up_n (by omega)).trans u4) u1 ((up_n (by omega)).trans i5) i3 h1, ⟨_, rfl⟩, eqv_ii (congrArg nI ec), fun D2 h => ?_⟩
  subst h
  exact ⟨by rw [up_n (by omega), up_s], ⟨a1, a2, a3, JT_d (fun j => by rw [up_n (by omega), up_n (by omega), up_n (by omega)]) a4, ⟨cc, JA_d (fun i j hd => by unfold dJA at hd; rw [up_n (by omega), up_n (by omega), up_n (by omega)]) b1, ⟨wv, JB_d (fun i j hd => by unfold dJB at hd; rw [up_n (by omega), up_n (by omega), up_n (by omega)]) b2⟩, tn, hs, JH_d (fun i j hd => by unfold dJH at hd; rw [up_n (by omega), up_n (by omega), up_n (by omega)]) b3, JS_d (fun i j hd => by unfold dJS at hd; rw [up_n (by omega), up_n (by omega), up_n (by omega)]) b4⟩, JL_d (fun i j hd => by unfold dJL at hd; rw [up_n (by omega), up_n (by omega), up_n (by omega)]) a5, JV_d (fun i j hd => by unfold dJV at hd; rw [up_n (by omega), up_n (by omega), up_n (by omega)]) a6, ⟨rn, fl, sl, fun k => decide (k = r) || sg k, u1, u2, by rw [up_n (by omega), up_n (by omega), up_n (by omega)]; exact u3, by rw [up_n (by omega), up_n (by omega), up_n (by omega)]; exact u4, fun k hk => by
    obtain ⟨v1, v2, v3, v4, v5, v6⟩ := u5 k hk
    refine ⟨?_, ?_, v3, ?_, ?_, ?_⟩
    · rw [up_n (by omega), up_n (by omega), up_n (by omega), up_n (by omega), up_n (by omega), up_n (by omega)]; exact v1
    · rw [up_n (by omega), up_n (by omega), up_n (by omega)]; exact v2
    · rw [up_n (by omega), up_n (by omega), up_n (by omega)]; exact v4
    · rw [up_n (by omega), up_n (by omega), up_n (by omega)]; exact v5
    · rw [up_n (by omega), up_n (by omega)]
      by_cases e : k = r
      · subst e
        rw [up_s]; simp; rfl
      · rw [up_n (by omega), v6]; simp [e], fun k hk => by
    by_cases e : k = r
    · subst e
      rw [up_s]; simp; rfl
    · rw [up_n (by omega), up_n (by omega), up_n (by omega), u6 k hk]; simp [e], fun k hk hk2 => by
    obtain ⟨x1, x2⟩ := u7 k hk hk2
    refine ⟨?_, x2⟩
    dsimp only
    rw [x1]
    simp
    omega⟩, JW_d (fun i j hd => by unfold dJW at hd; rw [up_n (by omega), up_n (by omega), up_n (by omega)]) rfl (fun _ _ h => h) a8⟩⟩
