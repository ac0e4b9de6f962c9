/-! JOINT THEOREMS, 3 (by wip/whole/x52.py) -/
theorem cv_n {n : Nat} (h : n ≤ 256) : vf_n32 (FP.fdiv (FP.i2f (nI n)) 1132462080) ∧ vf_n64 (FP.f2d (FP.fdiv (FP.i2f (nI n)) 1132462080)) ∧ Op.cmpValue (FP.dcmp (FP.f2d (FP.fdiv (FP.i2f (nI n)) 1132462080)) (FP.f2d (FP.fdiv (FP.i2f (nI n)) 1132462080))) .l = 0 := by
  have := cvB_all n (by omega)
  unfold cvB at this
  simp only [Bool.and_eq_true, decide_eq_true_eq] at this
  exact ⟨this.1.1, this.1.2, this.2⟩
theorem mpB_e {a b : Nat} (ha : a ≤ 256) (h0 : 0 < b) (hb : b ≤ 256) : mpB a b = true := by
  obtain ⟨i, j, r, hi, hj, hr, rfl⟩ : ∃ i j r, i < 8 ∧ j < 4 ∧ r < 8 ∧ b = r + (32 * i + 8 * j + 1) := ⟨(b - 1) / 32, (b - 1) % 32 / 8, (b - 1) % 8, by omega, by omega, by omega, by omega⟩
  have ha2 : a < 257 := by omega
  obtain rfl | rfl | rfl | rfl | rfl | rfl | rfl | rfl : i = 0 ∨ i = 1 ∨ i = 2 ∨ i = 3 ∨ i = 4 ∨ i = 5 ∨ i = 6 ∨ i = 7 := by omega
  · obtain rfl | rfl | rfl | rfl : j = 0 ∨ j = 1 ∨ j = 2 ∨ j = 3 := by omega
    · exact mpB_0_0 r hr a ha2
    · exact mpB_0_1 r hr a ha2
    · exact mpB_0_2 r hr a ha2
    · exact mpB_0_3 r hr a ha2
  · obtain rfl | rfl | rfl | rfl : j = 0 ∨ j = 1 ∨ j = 2 ∨ j = 3 := by omega
    · exact mpB_1_0 r hr a ha2
    · exact mpB_1_1 r hr a ha2
    · exact mpB_1_2 r hr a ha2
    · exact mpB_1_3 r hr a ha2
  · obtain rfl | rfl | rfl | rfl : j = 0 ∨ j = 1 ∨ j = 2 ∨ j = 3 := by omega
    · exact mpB_2_0 r hr a ha2
    · exact mpB_2_1 r hr a ha2
    · exact mpB_2_2 r hr a ha2
    · exact mpB_2_3 r hr a ha2
  · obtain rfl | rfl | rfl | rfl : j = 0 ∨ j = 1 ∨ j = 2 ∨ j = 3 := by omega
    · exact mpB_3_0 r hr a ha2
    · exact mpB_3_1 r hr a ha2
    · exact mpB_3_2 r hr a ha2
    · exact mpB_3_3 r hr a ha2
  · obtain rfl | rfl | rfl | rfl : j = 0 ∨ j = 1 ∨ j = 2 ∨ j = 3 := by omega
    · exact mpB_4_0 r hr a ha2
    · exact mpB_4_1 r hr a ha2
    · exact mpB_4_2 r hr a ha2
    · exact mpB_4_3 r hr a ha2
  · obtain rfl | rfl | rfl | rfl : j = 0 ∨ j = 1 ∨ j = 2 ∨ j = 3 := by omega
    · exact mpB_5_0 r hr a ha2
    · exact mpB_5_1 r hr a ha2
    · exact mpB_5_2 r hr a ha2
    · exact mpB_5_3 r hr a ha2
  · obtain rfl | rfl | rfl | rfl : j = 0 ∨ j = 1 ∨ j = 2 ∨ j = 3 := by omega
    · exact mpB_6_0 r hr a ha2
    · exact mpB_6_1 r hr a ha2
    · exact mpB_6_2 r hr a ha2
    · exact mpB_6_3 r hr a ha2
  · obtain rfl | rfl | rfl | rfl : j = 0 ∨ j = 1 ∨ j = 2 ∨ j = 3 := by omega
    · exact mpB_7_0 r hr a ha2
    · exact mpB_7_1 r hr a ha2
    · exact mpB_7_2 r hr a ha2
    · exact mpB_7_3 r hr a ha2
theorem mp_n {a b : Nat} (ha : a ≤ 256) (h0 : 0 < b) (hb : b ≤ 256) : vf_n64 (FP.ddiv (FP.i2d (nI a)) (FP.i2d (nI b))) ∧ Op.cmpValue (FP.dcmp (FP.ddiv (FP.i2d (nI a)) (FP.i2d (nI b))) (FP.ddiv (FP.i2d (nI a)) (FP.i2d (nI b)))) .l = 0 := by
  have := mpB_e ha h0 hb
  unfold mpB at this
  simp only [Bool.and_eq_true, decide_eq_true_eq] at this
  exact this
theorem ovP_e {D E : jD} {cc : Nat → Nat → Option Nat} (H : JA D cc) (hE : E 105 = D 105) {l1 l2 : Nat} (h1 : l1 < 3) (h2 : l2 < 3) : ovP (ja_up E 100 0 (nI 0)) l1 l2 = pcs (rwX D l1 l2) 256 := by
  unfold ovP
  refine pcs_cg (fun k hk => ?_) (Nat.le_refl _)
  rw [ovD, fnU, if_pos ⟨rfl, hk⟩, rwV, up_o (by decide), hE, rwX, JA_q H h1 hk, JA_q H h2 hk]
theorem frs_LAY {D E : jD} {i1 i2 : Nat} {r : Nat → Int32} {q : Nat} (h : LAY D E i1 i2 r q) : frs D E := frs_n (fun i j hs => LAY_w h i j (by unfold scr at hs; omega))
theorem frs_ov {D : jD} {l1 l2 : Nat} : frs D (ovR D l1 l2) := frs_n (fun i j hs => ovR_o (by rintro rfl; exact hs ⟨by unfold scr; omega, by decide⟩) (by rintro rfl; exact hs ⟨by unfold scr; omega, by decide⟩))
theorem frs_pc {D : jD} {p : Nat → Int32} : frs D (pcU D p) := frs_n (fun i j hs => pcU_o (by rintro rfl; exact hs ⟨by unfold scr; omega, by decide⟩))
theorem frs_cl {D : jD} {v ly : Nat} : frs D (clD D v ly) := frs_fn (by decide)
theorem frs_72 {D E : jD} {v : Nat} (hv : v < 3) (h : ∀ a b, ¬ a = 72 + 4 * v → ¬ (5 ≤ a ∧ a ≤ 10) → E a b = D a b) : frs D E := frs_n (fun i j hs => h i j (by unfold scr at hs; omega) (by unfold scr at hs; omega))
theorem cf_e {D E : jD} {cc : Nat → Nat → Option Nat} (H : JA D cc) {v ly x y w h : Nat} (h1 : ly < 3) (hE : frs D E) (hv : ∀ q, q < 256 → D 119 (256 * v + q) = bI (inB x y w h q) ∧ D 120 (256 * v + q) = D (73 + 4 * v) q ∧ D 121 (256 * v + q) = D (71 + 4 * v) q) {q : Nat} (hq : q < 256) : xcf D v ly (inB x y w h) q = cfl E v ly q := by
  obtain ⟨e1, e2, e3⟩ := hv q hq
  unfold xcf xch cfl
  rw [hE.1 119 _ (by unfold scr; omega), hE.1 120 _ (by unfold scr; omega), hE.1 121 _ (by unfold scr; omega), hE.1 105 _ (by unfold scr; omega), e1, e2, e3, JA_q H h1 hq, Bool.eq_iff_iff]
  simp only [Bool.and_eq_true, decide_eq_true_eq, bI_0, Bool.not_eq_false]
  constructor
  · rintro ⟨⟨⟨g1, g2⟩, g3⟩, g4⟩
    exact ⟨g1, g2, g3, fun e => g4 e.symm⟩
  · rintro ⟨g1, g2, g3, g4⟩
    exact ⟨⟨⟨g1, g2⟩, g3⟩, fun e => g4 e.symm⟩
theorem cst_cg {f T S : Nat → Int32} (h : ∀ k, k < 256 → T k = S k) {ly q m : Nat} {a : Int32} (hq : q < 256) : cst f T ly a q m ↔ cst f S ly a q m := by
  unfold cst cst1
  refine and_congr_right (fun h16 => forall_congr' (fun k => imp_congr_right (fun h1 => imp_congr_right (fun h2 => ?_))))
  have hk : k < 256 := by omega
  rw [h k hk]
  refine and_congr_right (fun _ => forall_congr' (fun s => forall_congr' (fun j => imp_congr_right (fun _ => imp_congr_right (fun hj => ?_)))))
  rw [h j (nbM_lt hk hj)]
theorem plN_g {X Y : jD} {ly : Nat} {lm : Nat → Nat} (h5 : X 105 = Y 105) : ∀ n, (∀ o, o < 10 → plN X ly lm n 127 o = plN Y ly lm n 127 o) ∧ ∀ k, k < 256 → plN X ly lm n 128 k = plN Y ly lm n 128 k
  | 0 => by
    refine ⟨fun o ho => ?_, fun k hk => ?_⟩
    · show plS X lm 127 o = plS Y lm 127 o
      rw [plS, plS, fnU, fnU, if_pos (show 127 = 127 ∧ o < 10 from ⟨rfl, ho⟩), if_pos (show 127 = 127 ∧ o < 10 from ⟨rfl, ho⟩)]
    · show plS X lm 128 k = plS Y lm 128 k
      rw [plS, plS, fnU_o (by decide), fnU_o (by decide), fiU, fiU, if_pos (show 128 = 128 ∧ k < 256 from ⟨rfl, hk⟩), if_pos (show 128 = 128 ∧ k < 256 from ⟨rfl, hk⟩)]
  | n + 1 => by
    obtain ⟨i7, i8⟩ := plN_g h5 n (ly := ly) (lm := lm)
    have i5 : plN X ly lm n 105 = plN Y ly lm n 105 := by rw [plN_5, plN_5, h5]
    have ek : plK (plN X ly lm n) ly 10 = plK (plN Y ly lm n) ly 10 := cbM_cg (fun o ho => ⟨by rw [i7 o ho], by rw [i5]⟩)
    cases hk : plK (plN Y ly lm n) ly 10 with
    | none =>
      rw [plN_n (ek.trans hk), plN_n hk]
      exact ⟨i7, i8⟩
    | some b =>
      rw [plN_y (ek.trans hk), plN_y hk]
      have eb : plB (plN X ly lm n) ly b (lm b) = plB (plN Y ly lm n) ly b (lm b) := by
        unfold plB
        rw [i5]
        split
        · rfl
        · refine cbM_cg (fun q hq => ⟨?_, rfl⟩)
          have e := propext (cst_cg (f := plN Y ly lm n 105) i8 (ly := ly) (a := nI b) (m := lm b) hq)
          rw [e]
      cases hb : plB (plN Y ly lm n) ly b (lm b) with
      | none =>
        rw [plR_n (eb.trans hb), plR_n hb]
        refine ⟨fun o ho => ?_, fun k hk2 => ?_⟩
        · simp only [ja_up, i7 o ho]
        · simp only [ja_up, i8 k hk2]
      | some c =>
        rw [plR_y (eb.trans hb), plR_y hb]
        refine ⟨fun o ho => ?_, fun k hk2 => ?_⟩
        · simp only [tkU, ja_up, i7 o ho]
        · simp only [tkU, ja_up, i8 k hk2]
theorem plN_fr {D E : jD} {ly n a : Nat} {lm : Nat → Nat} (h : frs D E) (ha : a < 10) : plN (ja_up E 100 0 (nI 0)) ly lm n 127 a = plN (ja_up D 100 0 (nI 0)) ly lm n 127 a :=
  (plN_g (by rw [up_o (by decide), up_o (by decide)]; exact frs_5 h) n).1 a ha
theorem frs_18 {D E : jD} (h : ∀ i j, ¬ i = 18 → E i j = D i j) : frs D E := frs_n (fun i j hs => h i j (by rintro rfl; exact hs ⟨by unfold scr; omega, by decide⟩))
theorem frs_pl {D : jD} {ly n : Nat} {lm : Nat → Nat} : frs D (plN D ly lm n) := frs_n (fun i j hs => plN_o (by rintro rfl; exact hs ⟨by unfold scr; omega, by decide⟩) (by rintro rfl; exact hs ⟨by unfold scr; omega, by decide⟩))
theorem least_of {Pq : Nat → Prop} {n : Nat} (h : ∃ j, j < n ∧ Pq j) : ∃ q, q < n ∧ Pq q ∧ ∀ j, j < q → ¬ Pq j := by
  obtain ⟨j, hj, hp⟩ := h
  obtain ⟨q, h1, h2⟩ := pk_least Pq ⟨j, hp⟩
  exact ⟨q, Nat.lt_of_le_of_lt (Nat.le_of_not_lt (fun h => h2 j h hp)) hj, h1, h2⟩
theorem cov_e {D : jD} {cc : Nat → Nat → Option Nat} (H : JA D cc) {ly : Nat} (h1 : ly < 3) : fb_sm (eN (cc ly)) 10 = 256 - cSz (D 105) ly (-1) 256 := by
  obtain ⟨w, q, -⟩ := H ly h1
  have e := sz_sum w 256
  have e2 : cSz (D 105) ly (-1) 256 = fb_ct (fun q => decide (cc ly q = none)) 256 := fb_ct_cong (fun k hk => by
    rw [(q k hk).2, decide_eq_decide]
    cases hc : cc ly k with
    | none => exact ⟨fun _ => rfl, fun _ => rfl⟩
    | some a => exact ⟨fun h => absurd h (nI_nm1 (by have := w k a hc; omega)), fun h => by cases h⟩)
  rw [e2]
  have : fb_sm (eN (cc ly)) 10 = fb_sm (fun a => fb_ct (fun q => decide (cc ly q = some a)) 256) 10 := rfl
  omega
theorem j_pieces (l : Launch) : ∀ (p0 p1 : Int32), ja_JC l JI mL_pieces mX8_pieces [.int p0, .int p1] 200 ty_i eqv_i := by
  intro p0 p1 n Z D hn hI
  show ja_JP l mL_pieces mX8_pieces [.int p0, .int p1] 200 ty_i eqv_i n Z D
  obtain ⟨a1, a2, a3, a4, ⟨cc, b1, ⟨wv, b2⟩, tn, hs, b3, b4⟩, a5, a6, a7, a8⟩ := id hI
  by_cases gal : areL p0 p1
  rotate_left
  · refine j_F hI (c := 1) (s := 6) (k := 1) (by decide) (by decide) (w_pieces l (c_pieces_f1 (D := D) l a2 gal) a1.1 (fun _ _ _ h => h.elim) (fun E Z1 D1 h => by rw [h.1]; decide)) (fun E Z1 D1 h => ⟨h.1, h.2.1, by rw [h.2.2]; exact frs_r _⟩) (by decide) (by decide) (fun D1 hf hI1 => ?_)
    exact ⟨_, _, r_pieces_f1 l a3 gal, ⟨_, rfl⟩, fun D2 h => by subst h; exact ⟨up_s, frs_0 _ _⟩⟩
  obtain ⟨l1, l2, h1, h2, h3, rfl, rfl⟩ := areL_n gal
  have eo := fun (E : jD) (hE : E 105 = D 105) => ovP_e b1 hE h1 h2
  refine j_O hI (c := 0) (s := 0) (by decide) (by decide) (w_pieces l (c_pieces_ok (D := D) l a2 (JA_wX b1) h1 h2 h3) a1.1 (fun v Z1 D1 h => ⟨by rw [h.2.1]; exact a1.2.2.1, _, h.1⟩) (fun _ _ _ h => h.elim)) (fun b Z1 D1 h => ?_)
  obtain ⟨hb, rfl, hd⟩ := h
  cases hb
  exact ⟨rfl, frs_LAY hd, _, _, r_pieces_ok l (zM_u a3) h1 h2 h3, ⟨_, rfl⟩, eqv_ii (by rw [eo _ (frs_5 (frs_LAY hd))]), fun D2 h => by subst h; exact ⟨by rw [ovR_o (by decide) (by decide), up_s], frs_t (frs_0 _ _) frs_ov⟩⟩
theorem j_pieceSize (l : Launch) : ∀ (p0 p1 p2 : Int32), ja_JC l JI mL_pieceSize mX8_pieceSize [.int p0, .int p1, .int p2] 200 ty_i eqv_i := by
  intro p0 p1 p2 n Z D hn hI
  show ja_JP l mL_pieceSize mX8_pieceSize [.int p0, .int p1, .int p2] 200 ty_i eqv_i n Z D
  obtain ⟨a1, a2, a3, a4, ⟨cc, b1, ⟨wv, b2⟩, tn, hs, b3, b4⟩, a5, a6, a7, a8⟩ := id hI
  by_cases gal : areL p0 p1
  rotate_left
  · refine j_F hI (c := 1) (s := 6) (k := 1) (by decide) (by decide) (w_pieceSize l (c_pieceSize_f1 (D := D) l a2 gal p2) a1.1 (fun _ _ _ h => h.elim) (fun E Z1 D1 h => by rw [h.1]; decide)) (fun E Z1 D1 h => ⟨h.1, h.2.1, by rw [h.2.2]; exact frs_r _⟩) (by decide) (by decide) (fun D1 hf hI1 => ?_)
    exact ⟨_, _, r_pieceSize_f1 l a3 gal p2, ⟨_, rfl⟩, fun D2 h => by subst h; exact ⟨up_s, frs_0 _ _⟩⟩
  obtain ⟨l1, l2, h1, h2, h3, rfl, rfl⟩ := areL_n gal
  have eo := fun (E : jD) (hE : E 105 = D 105) => ovP_e b1 hE h1 h2
  by_cases gk : 0 ≤ p2.toInt ∧ p2.toInt < ((pcs (rwX D l1 l2) 256).2 : Int)
  rotate_left
  · refine j_F hI (c := 1) (s := 6) (k := 2) (by decide) (by decide) (w_pieceSize l (c_pieceSize_f2 (D := D) l a2 (JA_wX b1) h1 h2 h3 gk) a1.1 (fun _ _ _ h => h.elim) (fun E Z1 D1 h => by rw [h.1]; decide)) (fun E Z1 D1 h => ⟨h.1, h.2.1, frs_LAY h.2.2⟩) (by decide) (by decide) (fun D1 hf hI1 => ?_)
    exact ⟨_, _, r_pieceSize_f2 l a3 h1 h2 h3 (by rw [eo _ (frs_5 hf)]; exact gk), ⟨_, rfl⟩, fun D2 h => by subst h; exact ⟨up_s, frs_t (frs_t (frs_0 _ _) frs_ov) (frs_0 _ _)⟩⟩
  obtain ⟨k, h4, rfl⟩ := k_rng (pcs_le _ _) gk
  refine j_O hI (c := 0) (s := 0) (by decide) (by decide) (w_pieceSize l (c_pieceSize_ok (D := D) l a2 (JA_wX b1) h1 h2 h3 h4) a1.1 (fun v Z1 D1 h => ⟨by rw [h.2.1]; exact a1.2.2.1, _, h.1⟩) (fun _ _ _ h => h.elim)) (fun b Z1 D1 h => ?_)
  obtain ⟨hb, rfl, hd⟩ := h
  cases hb
  exact ⟨rfl, frs_LAY hd, _, _, r_pieceSize_ok l (zM_u a3) h1 h2 h3 (by rw [eo _ (frs_5 (frs_LAY hd))]; exact h4), ⟨_, rfl⟩, eqv_ii (by rw [eo _ (frs_5 (frs_LAY hd))]; rfl), fun D2 h => by subst h; exact ⟨by rw [ovR_o (by decide) (by decide), up_s], frs_t (frs_0 _ _) frs_ov⟩⟩
theorem j_parent (l : Launch) : ∀ (p0 p1 p2 : Int32) (p3 : Bool), ja_JC l JI mL_parent mX8_parent [.int p0, .int p1, .int p2, .int (bI p3)] 200 ty_i eqv_i := by
  intro p0 p1 p2 p3 n Z D hn hI
  show ja_JP l mL_parent mX8_parent [.int p0, .int p1, .int p2, .int (bI p3)] 200 ty_i eqv_i n Z D
  obtain ⟨a1, a2, a3, a4, ⟨cc, b1, ⟨wv, b2⟩, tn, hs, b3, b4⟩, a5, a6, a7, a8⟩ := id hI
  by_cases gal : areL p0 p1
  rotate_left
  · refine j_F hI (c := 1) (s := 6) (k := 1) (by decide) (by decide) (w_parent l (c_parent_f1 (D := D) l a2 gal p2 p3) a1.1 (fun _ _ _ h => h.elim) (fun E Z1 D1 h => by rw [h.1]; decide)) (fun E Z1 D1 h => ⟨h.1, h.2.1, by rw [h.2.2]; exact frs_r _⟩) (by decide) (by decide) (fun D1 hf hI1 => ?_)
    exact ⟨_, _, r_parent_f1 l a3 gal p2 p3, ⟨_, rfl⟩, fun D2 h => by subst h; exact ⟨up_s, frs_0 _ _⟩⟩
  obtain ⟨l1, l2, h1, h2, h3, rfl, rfl⟩ := areL_n gal
  have eo := fun (E : jD) (hE : E 105 = D 105) => ovP_e b1 hE h1 h2
  by_cases gk : 0 ≤ p2.toInt ∧ p2.toInt < ((pcs (rwX D l1 l2) 256).2 : Int)
  rotate_left
  · refine j_F hI (c := 1) (s := 6) (k := 2) (by decide) (by decide) (w_parent l (c_parent_f2 (D := D) l a2 (JA_wX b1) h1 h2 h3 gk p3) a1.1 (fun _ _ _ h => h.elim) (fun E Z1 D1 h => by rw [h.1]; decide)) (fun E Z1 D1 h => ⟨h.1, h.2.1, frs_LAY h.2.2⟩) (by decide) (by decide) (fun D1 hf hI1 => ?_)
    exact ⟨_, _, r_parent_f2 l a3 h1 h2 h3 (by rw [eo _ (frs_5 hf)]; exact gk) p3, ⟨_, rfl⟩, fun D2 h => by subst h; exact ⟨up_s, frs_t (frs_t (frs_0 _ _) frs_ov) (frs_0 _ _)⟩⟩
  obtain ⟨k, h4, rfl⟩ := k_rng (pcs_le _ _) gk
  obtain ⟨q0, q1, q2, q3⟩ := least_of (pcs_ex (r := rwX D l1 l2) (Nat.le_refl _) h4)
  cases p3 with
  | true =>
    refine j_O hI (c := 0) (s := 0) (by decide) (by decide) (w_parent l (c_parent_okt (D := D) l a2 (JA_wX b1) h1 h2 h3 h4 q1 q2 q3) a1.1 (fun v Z1 D1 h => ⟨by rw [h.2.1]; exact a1.2.2.1, _, h.1⟩) (fun _ _ _ h => h.elim)) (fun b Z1 D1 h => ?_)
    obtain ⟨hb, rfl, hd⟩ := h
    cases hb
    exact ⟨rfl, frs_LAY hd, _, _, r_parent_okt l (zM_u a3) h1 h2 h3 (by rw [eo _ (frs_5 (frs_LAY hd))]; exact h4) q1 (by rw [eo _ (frs_5 (frs_LAY hd))]; exact q2) (by rw [eo _ (frs_5 (frs_LAY hd))]; exact q3), ⟨_, rfl⟩, eqv_ii (by rw [frs_5 (frs_LAY hd)]; exact JA_q b1 h2 q1), fun D2 h => by subst h; exact ⟨by rw [ovR_o (by decide) (by decide), up_s], frs_t (frs_0 _ _) frs_ov⟩⟩
  | false =>
    refine j_O hI (c := 0) (s := 0) (by decide) (by decide) (w_parent l (c_parent_okf (D := D) l a2 (JA_wX b1) h1 h2 h3 h4 q1 q2 q3) a1.1 (fun v Z1 D1 h => ⟨by rw [h.2.1]; exact a1.2.2.1, _, h.1⟩) (fun _ _ _ h => h.elim)) (fun b Z1 D1 h => ?_)
    obtain ⟨hb, rfl, hd⟩ := h
    cases hb
    exact ⟨rfl, frs_LAY hd, _, _, r_parent_okf l (zM_u a3) h1 h2 h3 (by rw [eo _ (frs_5 (frs_LAY hd))]; exact h4) q1 (by rw [eo _ (frs_5 (frs_LAY hd))]; exact q2) (by rw [eo _ (frs_5 (frs_LAY hd))]; exact q3), ⟨_, rfl⟩, eqv_ii (by rw [frs_5 (frs_LAY hd)]; exact JA_q b1 h1 q1), fun D2 h => by subst h; exact ⟨by rw [ovR_o (by decide) (by decide), up_s], frs_t (frs_0 _ _) frs_ov⟩⟩
theorem j_meanPiece (l : Launch) : ∀ (p0 p1 : Int32), ja_JC l JI mL_meanPiece mX8_meanPiece [.int p0, .int p1] 201 ty_d eqv_d := by
  intro p0 p1 n Z D hn hI
  show ja_JP l mL_meanPiece mX8_meanPiece [.int p0, .int p1] 201 ty_d eqv_d n Z D
  obtain ⟨a1, a2, a3, a4, ⟨cc, b1, ⟨wv, b2⟩, tn, hs, b3, b4⟩, a5, a6, a7, a8⟩ := id hI
  by_cases gal : areL p0 p1
  rotate_left
  · refine j_F hI (c := 1) (s := 6) (k := 1) (by decide) (by decide) (w_meanPiece l (c_meanPiece_f1 (D := D) l a2 gal) a1.1 (fun _ _ _ h => h.elim) (fun E Z1 D1 h => by rw [h.1]; decide)) (fun E Z1 D1 h => ⟨h.1, h.2.1, by rw [h.2.2]; exact frs_r _⟩) (by decide) (by decide) (fun D1 hf hI1 => ?_)
    exact ⟨_, _, r_meanPiece_f1 l a3 gal, ⟨_, rfl⟩, fun D2 h => by subst h; exact ⟨up_s, frs_0 _ _⟩⟩
  obtain ⟨l1, l2, h1, h2, h3, rfl, rfl⟩ := areL_n gal
  have eo := fun (E : jD) (hE : E 105 = D 105) => ovP_e b1 hE h1 h2
  by_cases g0 : (pcs (rwX D l1 l2) 256).2 = 0
  · refine j_F hI (c := 1) (s := 6) (k := 2) (by decide) (by decide) (w_meanPiece l (c_meanPiece_f2 (D := D) l a2 (JA_wX b1) h1 h2 h3 g0) a1.1 (fun _ _ _ h => h.elim) (fun E Z1 D1 h => by rw [h.1]; decide)) (fun E Z1 D1 h => ⟨h.1, h.2.1, frs_LAY h.2.2⟩) (by decide) (by decide) (fun D1 hf hI1 => ?_)
    exact ⟨_, _, r_meanPiece_f2 l a3 h1 h2 h3 (by rw [eo _ (frs_5 hf)]; exact g0), ⟨_, rfl⟩, fun D2 h => by subst h; exact ⟨up_s, frs_t (frs_t (frs_0 _ _) frs_ov) (frs_0 _ _)⟩⟩
  have hm := mp_n (a := fb_ct (fun k => decide (¬ (pcs (rwX D l1 l2) 256).1 k = -1)) 256) (b := (pcs (rwX D l1 l2) 256).2) (fb_ct_le _ _) (by omega) (pcs_le _ _)
  refine j_O hI (c := 0) (s := 0) (by decide) (by decide) (w_meanPiece l (c_meanPiece_ok (D := D) l a2 (JA_wX b1) h1 h2 h3 g0 (fun a b x y z => (mp_n x y z).1)) a1.1 (fun v Z1 D1 h => ⟨by rw [h.2.1]; exact a1.2.2.2, _, h.1⟩) (fun _ _ _ h => h.elim)) (fun b Z1 D1 h => ?_)
  obtain ⟨hb, rfl, hd⟩ := h
  cases hb
  exact ⟨rfl, frs_LAY hd, _, _, r_meanPiece_ok l (zM_u a3) h1 h2 h3 (by rw [eo _ (frs_5 (frs_LAY hd))]; exact g0) (fun a b x y z => (mp_n x y z).1), ⟨_, rfl⟩, ⟨_, rfl, by rw [eo _ (frs_5 (frs_LAY hd)), ← pz_all]; rfl, by show Op.cmpValue (FP.dcmp (FP.ddiv _ _) (FP.ddiv _ _)) .l = 0; rw [pz_all]; exact hm.2⟩, fun D2 h => by subst h; exact ⟨up_s, frs_t (frs_t (frs_0 _ _) frs_ov) (frs_0 _ _)⟩⟩
theorem j_conflicts (l : Launch) : ∀ (p0 : Int32), ja_JC l JI mL_conflicts mX8_conflicts [.int p0] 200 ty_i eqv_i := by
  intro p0 n Z D hn hI
  show ja_JP l mL_conflicts mX8_conflicts [.int p0] 200 ty_i eqv_i n Z D
  obtain ⟨a1, a2, a3, a4, ⟨cc, b1, ⟨wv, b2⟩, tn, hs, b3, b4⟩, a5, a6, a7, a8⟩ := id hI
  obtain ⟨vn, vl, vx, vy, vw, vh, cv, y1, y2, y3, y4, y5, y6, y7⟩ := id a8
  by_cases gk : 0 ≤ p0.toInt ∧ p0.toInt < vn
  rotate_left
  · refine j_F hI (c := 1) (s := 6) (k := 1) (by decide) (by decide) (w_conflicts l (c_conflicts_f1 (D := D) l a2 y2 y1 gk) a1.1 (fun _ _ _ h => h.elim) (fun E Z1 D1 h => by rw [h.1]; decide)) (fun E Z1 D1 h => ⟨h.1, h.2.1, by rw [h.2.2]; exact frs_r _⟩) (by decide) (by decide) (fun D1 hf hI1 => ?_)
    exact ⟨_, _, r_conflicts_f1 l a3 ((hf.1 100 16 (by unfold scr; omega)).trans y4) y1 gk, ⟨_, rfl⟩, fun D2 h => by subst h; exact ⟨up_s, frs_0 _ _⟩⟩
  obtain ⟨v, h1, rfl⟩ := k_rng (by omega) gk
  obtain ⟨z1, z2, z3, z4⟩ := y5 v h1
  obtain ⟨-, -, -, hvl, -⟩ := y2.1 v h1
  have hv3 : v < 3 := by omega
  refine j_O hI (c := 0) (s := 0) (by decide) (by decide) (w_conflicts l (c_conflicts_ok (D := D) l a2 y2 y1 h1 z2) a1.1 (fun v Z1 D1 h => ⟨by rw [h.2.1]; exact a1.2.2.1, _, h.1⟩) (fun _ _ _ h => h.elim)) (fun b Z1 D1 h => ?_)
  obtain ⟨hb, rfl, hd⟩ := h
  cases hb
  have fr := frs_72 hv3 (fun a b e1 e2 => hd a b e1)
  have ec : ∀ q, q < 256 → xcf D v (vl v) (inB (vx v) (vy v) (vw v) (vh v)) q = cfl D1 v (vl v) q := fun q hq => cf_e b1 hvl fr (fun q hq => ⟨(z4 q hq).1, (z4 q hq).2.1, (z4 q hq).2.2.1⟩) hq
  exact ⟨rfl, fr, _, _, r_conflicts_ok l (zM_u a3) ((fr.1 100 16 (by unfold scr; omega)).trans y4) y1 h1 ((fr.1 118 _ (by unfold scr; omega)).trans z1) hvl, ⟨_, rfl⟩, eqv_ii (congrArg nI (fb_ct_cong ec)), fun D2 h => by subst h; exact ⟨up_s, frs_0 _ _⟩⟩
theorem j_clashes (l : Launch) : ∀ (p0 : Int32), ja_JC l JI mL_clashes mX8_clashes [.int p0] 200 ty_i eqv_i := by
  intro p0 n Z D hn hI
  show ja_JP l mL_clashes mX8_clashes [.int p0] 200 ty_i eqv_i n Z D
  obtain ⟨a1, a2, a3, a4, ⟨cc, b1, ⟨wv, b2⟩, tn, hs, b3, b4⟩, a5, a6, a7, a8⟩ := id hI
  obtain ⟨vn, vl, vx, vy, vw, vh, cv, y1, y2, y3, y4, y5, y6, y7⟩ := id a8
  by_cases gk : 0 ≤ p0.toInt ∧ p0.toInt < vn
  rotate_left
  · refine j_F hI (c := 1) (s := 6) (k := 1) (by decide) (by decide) (w_clashes l (c_clashes_f1 (D := D) l a2 y2 y1 gk) a1.1 (fun _ _ _ h => h.elim) (fun E Z1 D1 h => by rw [h.1]; decide)) (fun E Z1 D1 h => ⟨h.1, h.2.1, by rw [h.2.2]; exact frs_r _⟩) (by decide) (by decide) (fun D1 hf hI1 => ?_)
    exact ⟨_, _, r_clashes_f1 l a3 ((hf.1 100 16 (by unfold scr; omega)).trans y4) y1 gk, ⟨_, rfl⟩, fun D2 h => by subst h; exact ⟨up_s, frs_0 _ _⟩⟩
  obtain ⟨v, h1, rfl⟩ := k_rng (by omega) gk
  obtain ⟨z1, z2, z3, z4⟩ := y5 v h1
  obtain ⟨-, -, -, hvl, -⟩ := y2.1 v h1
  have hv3 : v < 3 := by omega
  refine j_O hI (c := 0) (s := 0) (by decide) (by decide) (w_clashes l (c_clashes_ok (D := D) l a2 y2 y1 h1 z2) a1.1 (fun v Z1 D1 h => ⟨by rw [h.2.1]; exact a1.2.2.1, _, h.1⟩) (fun _ _ _ h => h.elim)) (fun b Z1 D1 h => ?_)
  obtain ⟨hb, rfl, hd⟩ := h
  cases hb
  have fr := frs_72 hv3 hd
  have ec : ∀ q, q < 256 → xcf D v (vl v) (inB (vx v) (vy v) (vw v) (vh v)) q = cfl (ja_up D1 100 0 (nI 0)) v (vl v) q := fun q hq => cf_e b1 hvl (frs_t fr (frs_0 _ _)) (fun q hq => ⟨(z4 q hq).1, (z4 q hq).2.1, (z4 q hq).2.2.1⟩) hq
  have ep : pcs (fun q => if xcf D v (vl v) (inB (vx v) (vy v) (vw v) (vh v)) q = true then (1 : Int32) else -1) 256 = pcs ((clD (ja_up D1 100 0 (nI 0)) v (vl v)) 123) 256 := pcs_cg (fun k hk => by
    show (if xcf D v (vl v) (inB (vx v) (vy v) (vw v) (vh v)) k = true then (1 : Int32) else -1) = _
    rw [clD, fnU, if_pos (show 123 = 123 ∧ k < 256 from ⟨rfl, hk⟩), clV, ec k hk]) (Nat.le_refl _)
  exact ⟨rfl, fr, _, _, r_clashes_ok l (zM_u a3) ((fr.1 100 16 (by unfold scr; omega)).trans y4) y1 h1 ((fr.1 118 _ (by unfold scr; omega)).trans z1) hvl, ⟨_, rfl⟩, eqv_ii (by rw [ep]), fun D2 h => by subst h; exact ⟨by rw [pcU_o (by decide), clD, fnU_o (by decide), up_s], frs_t (frs_t (frs_0 _ _) frs_cl) frs_pc⟩⟩
theorem j_covered (l : Launch) : ∀ (p0 : Int32), ja_JC l JI mL_covered mX8_covered [.int p0] 201 ty_f eqv_f := by
  intro p0 n Z D hn hI
  show ja_JP l mL_covered mX8_covered [.int p0] 201 ty_f eqv_f n Z D
  obtain ⟨a1, a2, a3, a4, ⟨cc, b1, ⟨wv, b2⟩, tn, hs, b3, b4⟩, a5, a6, a7, a8⟩ := id hI
  by_cases gp0 : nI 0 ≤ p0 ∧ p0 ≤ nI 2
  rotate_left
  · refine j_F hI (c := 1) (s := 6) (k := 1) (by decide) (by decide) (w_covered l (c_covered_f1 (D := D) l a2 gp0) a1.1 (fun _ _ _ h => h.elim) (fun E Z1 D1 h => by rw [h.1]; decide)) (fun E Z1 D1 h => ⟨h.1, h.2.1, by rw [h.2.2]; exact frs_r _⟩) (by decide) (by decide) (fun D1 hf hI1 => ?_)
    exact ⟨_, _, r_covered_f1 l a3 gp0, ⟨_, rfl⟩, fun D2 h => by subst h; exact ⟨up_s, frs_0 _ _⟩⟩
  obtain ⟨ly, hly, rfl⟩ := nI_rng (by decide) gp0
  have h1 : ly < 3 := by omega
  obtain ⟨w1, w2, w3⟩ := b1 ly h1
  have ez := cov_e b1 h1
  have hl : fb_sm (eN (cc ly)) 10 ≤ 256 := by omega
  have hc := cv_n hl
  refine j_O hI (c := 0) (s := 0) (by decide) (by decide) (w_covered l (c_covered_ok (D := D) l a2 h1 (z := eN (cc ly)) w3 hl (fun n hn => (cv_n hn).1)) a1.1 (fun v Z1 D1 h => ⟨by rw [h.2.1]; exact a1.2.2.2, _, h.1, hc.2.1⟩) (fun _ _ _ h => h.elim)) (fun b Z1 D1 h => ?_)
  obtain ⟨hb, rfl, rfl⟩ := h
  cases hb
  exact ⟨rfl, frs_r _, _, _, r_covered_ok l (zM_u a3) h1 (fun n hn => (cv_n hn).1), ⟨_, rfl⟩, ⟨_, rfl, by rw [← ez]; exact hc.2.1, by rw [← ez]; rfl, hc.2.2⟩, fun D2 h => by subst h; exact ⟨up_s, frs_0 _ _⟩⟩
theorem j_placeOf (l : Launch) : ∀ (p0 p1 : Int32), ja_JC l JI mL_placeOf mX8_placeOf [.int p0, .int p1] 200 ty_i eqv_i := by
  intro p0 p1 n Z D hn hI
  show ja_JP l mL_placeOf mX8_placeOf [.int p0, .int p1] 200 ty_i eqv_i n Z D
  obtain ⟨a1, a2, a3, a4, ⟨cc, b1, ⟨wv, b2⟩, tn, hs, b3, b4⟩, a5, a6, a7, a8⟩ := id hI
  by_cases gp0 : nI 0 ≤ p0 ∧ p0 ≤ nI 2
  rotate_left
  · refine j_F hI (c := 1) (s := 6) (k := 1) (by decide) (by decide) (w_placeOf l (c_placeOf_f1 (D := D) l a2 gp0) a1.1 (fun _ _ _ h => h.elim) (fun E Z1 D1 h => by rw [h.1]; decide)) (fun E Z1 D1 h => ⟨h.1, h.2.1, by rw [h.2.2]; exact frs_r _⟩) (by decide) (by decide) (fun D1 hf hI1 => ?_)
    exact ⟨_, _, r_placeOf_f1 l a3 gp0, ⟨_, rfl⟩, fun D2 h => by subst h; exact ⟨up_s, frs_0 _ _⟩⟩
  obtain ⟨ly, hly, rfl⟩ := nI_rng (by decide) gp0
  have h1 : ly < 3 := by omega
  by_cases gp1 : nI 0 ≤ p1 ∧ p1 ≤ nI 9
  rotate_left
  · refine j_F hI (c := 1) (s := 6) (k := 2) (by decide) (by decide) (w_placeOf l (c_placeOf_f2 (D := D) l a2 h1 gp1) a1.1 (fun _ _ _ h => h.elim) (fun E Z1 D1 h => by rw [h.1]; decide)) (fun E Z1 D1 h => ⟨h.1, h.2.1, by rw [h.2.2]; exact frs_r _⟩) (by decide) (by decide) (fun D1 hf hI1 => ?_)
    exact ⟨_, _, r_placeOf_f2 l a3 h1 gp1, ⟨_, rfl⟩, fun D2 h => by subst h; exact ⟨up_s, frs_0 _ _⟩⟩
  obtain ⟨a, h2, rfl⟩ := nI_rng (by decide) gp1
  have h3 : a < 10 := by omega
  obtain ⟨w1, w2, w3⟩ := b1 ly h1
  obtain ⟨lm, hlm⟩ := id a5
  have e5 : (ja_up D 100 0 (nI 0)) 105 = D 105 := up_o (by decide)
  have hlX : ∀ a, a < 10 → D (34 + 10 * ly) a = nI (lm ly a) ∧ lm ly a ≤ 6 := fun a ha => ⟨(hlm ly h1 a ha).1, (hlm ly h1 a ha).2.2⟩
  have hlM : ∀ (E : jD), frs D E → ∀ o, o < 10 → E 107 (10 * ly + o) = nI (lm ly o) ∧ lm ly o ≤ 6 := fun E hE o ho => ⟨(hE.1 107 _ (by unfold scr; omega)).trans (hlm ly h1 o ho).2.1, (hlm ly h1 o ho).2.2⟩
  by_cases gp : plN (ja_up D 100 0 (nI 0)) ly (lm ly) 10 127 a = -1
  · refine j_F hI (c := 1) (s := 6) (k := 3) (by decide) (by decide) (w_placeOf l (c_placeOf_f3 (D := D) l a2 h1 (X := ja_up D 100 0 (nI 0)) (fun q hq => by rw [e5]; exact JA_q b1 h1 hq) (z := eN (cc ly)) w3 (fun _ _ => fb_ct_le _ _) hlX (fun o ho => by rw [e5]; exact (JA_sz b1 h1 ho).symm) h3 gp) a1.1 (fun _ _ _ h => h.elim) (fun E Z1 D1 h => by rw [h.1]; decide)) (E0 := "java/util/NoSuchElementException") (fun E Z1 D1 h => ⟨h.1, h.2.1, frs_18 h.2.2⟩) (by decide) (by decide) (fun D1 hf hI1 => ?_)
    by_cases gq : plN (ja_up D1 100 0 (nI 0)) ly (lm ly) 10 127 a = -1
    · exact ⟨_, _, r_placeOf_f3 l a3 h1 h3 (hlM D1 hf) gq, ⟨_, rfl⟩, fun D2 h => by subst h; exact ⟨up_s, frs_t (frs_t (frs_0 _ _) frs_pl) (frs_0 _ _)⟩⟩
    · exact absurd ((plN_fr hf h3).trans gp) gq
  refine j_O hI (c := 0) (s := 0) (by decide) (by decide) (w_placeOf l (c_placeOf_ok (D := D) l a2 h1 (X := ja_up D 100 0 (nI 0)) (fun q hq => by rw [e5]; exact JA_q b1 h1 hq) (z := eN (cc ly)) w3 (fun _ _ => fb_ct_le _ _) hlX (fun o ho => by rw [e5]; exact (JA_sz b1 h1 ho).symm) h3 gp) a1.1 (fun v Z1 D1 h => ⟨by rw [h.2.1]; exact a1.2.2.1, _, h.1⟩) (fun _ _ _ h => h.elim)) (fun b Z1 D1 h => ?_)
  obtain ⟨hb, rfl, hd⟩ := h
  cases hb
  exact ⟨rfl, frs_18 hd, _, _, r_placeOf_ok l (zM_u a3) h1 h3 (hlM D1 (frs_18 hd)) (by rw [plN_fr (frs_18 hd) h3]; exact gp), ⟨_, rfl⟩, eqv_ii (plN_fr (frs_18 hd) h3).symm, fun D2 h => ⟨by rw [h, plN_o (by decide) (by decide), up_s], by rw [h]; exact frs_t (frs_0 _ _) frs_pl⟩⟩
