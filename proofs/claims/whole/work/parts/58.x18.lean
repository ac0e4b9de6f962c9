/-! THE CLASS: an overlay -/
noncomputable def pzs (r : Nat → Int32) (q i : Nat) : Nat := fb_ct (fun k => decide ((pcs r q).1 k = nI i)) 256
theorem pcs_done (r : Nat → Int32) : ∀ q j, q ≤ 256 → j < q → r j = -1 ∨ ¬ (pcs r q).1 j = -1
  | 0, j, _, h => absurd h (Nat.not_lt_zero j)
  | q + 1, j, hq, h => by
    by_cases hc : r q = -1 ∨ ¬ (pcs r q).1 q = -1
    · rw [pcs_n hc]
      by_cases e : j = q
      · rw [e]; exact hc
      · exact pcs_done r q j (by omega) (by omega)
    · have h1 : ¬ r q = -1 := fun x => hc (Or.inl x)
      have h2 : (pcs r q).1 q = -1 := Classical.byContradiction fun x => hc (Or.inr x)
      rw [pcs_y h1 h2]
      have hl := pcs_le r q
      by_cases e : r j = -1
      · exact Or.inl e
      · right
        show ¬ @ite _ (Rch r q j) (Classical.propDecidable _) _ _ = -1
        by_cases hR : Rch r q j
        · rw [@if_pos _ (Classical.propDecidable _) hR]
          exact nI_nm1 (by omega)
        · rw [@if_neg _ (Classical.propDecidable _) hR]
          by_cases e2 : j = q
          · subst e2; exact absurd (Rch_refl r j) hR
          · rcases pcs_done r q j (by omega) (by omega) with d | d
            · exact absurd d e
            · exact d
/-- the pieces of the squares below q are laid -/
def LAY (D E : jD) (i1 i2 : Nat) (r : Nat → Int32) (q : Nat) : Prop :=
  (∀ a b, ¬ (5 ≤ a ∧ a ≤ 10) → E a b = D a b) ∧ E 5 3 = nI (pcs r q).2 ∧ (∀ k, k < 256 → E 9 k = (pcs r q).1 k) ∧ ∀ i, i < (pcs r q).2 → E 6 i = nI (pzs r q i) ∧ ∃ x, x < q ∧ (pcs r q).1 x = nI i ∧ (∀ j, j < x → ¬ (pcs r q).1 j = nI i) ∧ E 7 i = D i1 x ∧ E 8 i = D i2 x
theorem LAY_0 {D : jD} {i1 i2 : Nat} {r : Nat → Int32} : LAY D (fiU (ja_up D 5 3 (nI 0)) 9 256 (-1)) i1 i2 r 0 := by
  refine ⟨fun a b h => ?_, ?_, fun k hk => ?_, fun i hi => absurd hi (Nat.not_lt_zero i)⟩
  · rw [fiU, if_neg (by omega), up_n (by omega)]
  · rw [fiU, if_neg (by omega), up_s]; rfl
  · rw [fiU, if_pos ⟨rfl, hk⟩]; rfl
theorem LAY_k {D E : jD} {i1 i2 : Nat} {r : Nat → Int32} {q : Nat} (h : LAY D E i1 i2 r q) (hp : r q = -1 ∨ ¬ (pcs r q).1 q = -1) : LAY D E i1 i2 r (q + 1) := by
  unfold LAY pzs
  rw [pcs_n hp]
  refine ⟨h.1, h.2.1, h.2.2.1, fun i hi => ?_⟩
  obtain ⟨h1, x, h2, h3⟩ := h.2.2.2 i hi
  exact ⟨h1, x, by omega, h3⟩
theorem LAY_s {D E E3 : jD} {i1 i2 : Nat} {r : Nat → Int32} {q n : Nat} (hi1 : 10 < i1) (hi2 : 10 < i2) (h : LAY D E i1 i2 r q) (hn : n = (pcs r q).2) (hq : q < 256) (h1 : ¬ r q = -1) (h2 : (pcs r q).1 q = -1)
    (a1 : ∀ a b, ¬ a = 9 → ¬ a = 10 → E3 a b = ja_up (ja_up E 7 n (D i1 q)) 8 n (D i2 q) a b) (a2 : ∀ k, k < 256 → E3 9 k = @ite _ (Rch r q k) (Classical.propDecidable _) (nI n) ((pcs r q).1 k)) :
    LAY D (ja_up (ja_up E3 6 n (nI (fb_ct (fun k => bP (Rch r q k)) 256))) 5 3 (nI (n + 1))) i1 i2 r (q + 1) := by
  obtain ⟨b1, b2, b3, b4⟩ := h
  have hn2 : n ≤ q := by rw [hn]; exact pcs_le r q
  have e1 : (pcs r (q + 1)).2 = n + 1 := by rw [pcs_y h1 h2, hn]
  have e2 : ∀ k, (pcs r (q + 1)).1 k = @ite _ (Rch r q k) (Classical.propDecidable _) (nI n) ((pcs r q).1 k) := fun k => by rw [pcs_y h1 h2, hn]
  have hu : ∀ k, Rch r q k → (pcs r q).1 k = -1 := fun k hk => Cl_un hq (pcs_cl r (by omega)) h2 hk
  have h0 : ∀ j, ¬ (pcs r q).1 j = nI n := fun j => by rw [hn]; exact pcs_ne (by omega) j
  have e3 : ∀ i, i < n → ∀ k, (pcs r (q + 1)).1 k = nI i ↔ (pcs r q).1 k = nI i := fun i hi k => by
    rw [e2]
    by_cases hR : Rch r q k
    · rw [@if_pos _ (Classical.propDecidable _) hR, hu k hR]
      exact ⟨fun e => absurd (nI_j (by omega) (by omega) e) (by omega), fun e => absurd e.symm (nI_nm1 (by omega))⟩
    · rw [@if_neg _ (Classical.propDecidable _) hR]
  have e4 : ∀ k, (pcs r (q + 1)).1 k = nI n ↔ Rch r q k := fun k => by
    rw [e2]
    by_cases hR : Rch r q k
    · rw [@if_pos _ (Classical.propDecidable _) hR]; exact ⟨fun _ => hR, fun _ => rfl⟩
    · rw [@if_neg _ (Classical.propDecidable _) hR]; exact ⟨fun e => absurd e (h0 k), fun e => absurd e hR⟩
  refine ⟨fun a b hab => ?_, ?_, fun k hk => ?_, fun i hi => ?_⟩
  · rw [up_n (by omega), up_n (by omega), a1 a b (by omega) (by omega), up_n (by omega), up_n (by omega), b1 a b hab]
  · rw [up_s, e1]
  · rw [up_n (by omega), up_n (by omega), a2 k hk, e2]
  · rw [e1] at hi
    by_cases ei : i = n
    · subst ei
      refine ⟨?_, q, by omega, (e4 q).mpr (Rch_refl r q), fun j hj => ?_, ?_, ?_⟩
      · rw [up_n (by omega), up_s]
        refine congrArg nI (fb_ct_cong fun k _ => ?_)
        by_cases hR : Rch r q k
        · rw [bP_t hR, decide_eq_true ((e4 k).mpr hR)]
        · rw [bP_f hR, decide_eq_false (fun e => hR ((e4 k).mp e))]
      · intro e
        have hR := (e4 j).mp e
        have u1 := hu j hR
        rcases pcs_done r q j (by omega) hj with d1 | d1
        · rw [Rch_r hR] at d1; exact h1 d1
        · exact d1 u1
      · rw [up_n (by omega), up_n (by omega), a1 7 i (by omega) (by omega), up_n (by omega), up_s]
      · rw [up_n (by omega), up_n (by omega), a1 8 i (by omega) (by omega), up_s]
    · obtain ⟨c1, x, c2, c3, c4, c5, c6⟩ := b4 i (by omega)
      have hi2 : i < n := by omega
      refine ⟨?_, x, by omega, (e3 i hi2 x).mpr c3, fun j hj e => c4 j hj ((e3 i hi2 j).mp e), ?_, ?_⟩
      · rw [up_n (by omega), up_n (by omega), a1 6 i (by omega) (by omega), up_n (by omega), up_n (by omega), c1]
        exact congrArg nI (fb_ct_cong fun k _ => decide_eq_decide.mpr (e3 i hi2 k).symm)
      · rw [up_n (by omega), up_n (by omega), a1 7 i (by omega) (by omega), up_n (by omega), up_n (by omega), c5]
      · rw [up_n (by omega), up_n (by omega), a1 8 i (by omega) (by omega), up_n (by omega), up_n (by omega), c6]

set_option maxRecDepth 100000 in
set_option maxHeartbeats 4000000 in
theorem c_lay (l : Launch) {Z : jZ} {D : jD} (hx : zX Z) {i1 i2 : Nat} (hA1 : Z.2.1 i1 = (10, 256)) (hA2 : Z.2.1 i2 = (10, 256)) (hi1 : 10 < i1) (hi2 : 10 < i2) {r : Nat → Int32} (hrr : ∀ q k, q < 256 → k < 256 → ((D i1 k = D i1 q ∧ D i2 k = D i2 q) ↔ r k = r q)) (hr0 : ∀ q, q < 256 → ((D i1 q = -1 ∧ D i2 q = -1) ↔ r q = -1)) : ja_M l (mX3_lay 0 0) [.ref (5), .ref (i1), .ref (i2)] Z D (ja_jd none Z (fun D2 => LAY D D2 i1 i2 r 256)) ja_x0 := by
  refine ja_Mof (lv := [some (.ref (5)), some (.ref (i1)), some (.ref (i2)), none, none]) (by decide +kernel) rfl rfl (Nat.le_of_ble_eq_true rfl) rfl ?_
  refine ja_aload_n (i := 0) dX3_lay_0 rfl rfl ?_
  refine ja_iconst (v := nI 0) dX3_lay_1 (by decide +kernel) ?_
  refine ja_putI fl_X3_27 (zX_o5 hx) rfl rfl rfl dX3_lay_2 ?_
  refine ja_aload_n (i := 0) dX3_lay_5 rfl rfl ?_
  refine ja_getR fl_X3_21 (zX_o5 hx) rfl (zX_p5_4 hx) dX3_lay_6 ?_
  refine ja_iconst (v := (-1)) dX3_lay_9 (by decide +kernel) ?_
  refine ja_cSd0 (st := []) (c_fill256 (D := (ja_up D 5 3 (nI (0)))) l (zX_o9 hx) ((-1))) rfl rfl (ce_J7_fill_53178 0 0) st_J7_fill_53178 lk_X3_31 ⟨(Nat.le_of_ble_eq_true rfl), (Nat.le_of_ble_eq_true rfl)⟩ dX3_lay_10 rfl rfl (Nat.le_of_ble_eq_true rfl) (Nat.zero_le _) (Nat.zero_le _) ?_
  intro D10 hD10
  subst hD10
  refine ja_iconst (v := nI 0) dX3_lay_13 (by decide +kernel) ?_
  refine ja_istore_n (i := 3) dX3_lay_14 rfl rfl (Nat.le_of_ble_eq_true rfl) ?_
  have lp15 : ∀ (f15 : Nat) (q : Nat) (E : jD), (256 < q + f15) → (q ≤ 256) → (LAY D E i1 i2 r q) → ja_A l (mX3_lay 0 0) ja_sn (ja_Qf (mX3_lay 0 0) (ja_jd none Z (fun D2 => LAY D D2 i1 i2 r 256)) ja_x0) 15 [some (.ref (5)), some (.ref (i1)), some (.ref (i2)), some (.int (nI (q))), none] [] Z E 0 0 := by
    intro f15
    induction f15 with
    | zero => intro q E hf hq hL; exfalso; omega
    | succ f15 ih15 =>
      intro q E hf hq hL
      have hnle := pcs_le r q
      refine ja_iload_n (i := 3) dX3_lay_15 rfl rfl ?_
      refine ja_sipush (v := nI 256) dX3_lay_16 (by decide +kernel) ?_
      refine ja_icmpN_ge (tgt := 124) dX3_lay_19 (by decide) (by omega) (by omega) (fun c19 => ?_) (fun c19 => ?_)
      ·
        refine ja_vret rfl dX3_lay_124 (Nat.zero_le _) (Nat.zero_le _) ?_
        exact ⟨rfl, rfl, (show q = 256 by omega) ▸ hL⟩
      ·
        have hql : q < 256 := by omega
        obtain ⟨n, hn⟩ : ∃ n, n = (pcs r q).2 := ⟨_, rfl⟩
        have hE3 : E 5 3 = nI n := by rw [hn]; exact hL.2.1
        refine ja_aload_n (i := 1) dX3_lay_22 rfl rfl ?_
        refine ja_iload_n (i := 3) dX3_lay_23 rfl rfl ?_
        refine ja_iald hA1 rfl (by omega) (by decide) dX3_lay_24 ?_
        refine ja_top (y := D i1 q) (hL.1 i1 q (by omega)) ?_
        refine ja_iconst (v := (-1)) dX3_lay_25 (by decide +kernel) ?_
        refine ja_icmp_ne (tgt := 36) dX3_lay_26 (by decide) (fun c26 => ?_) (fun c26 => ?_)
        ·
          refine ja_iconst (v := nI 1) dX3_lay_36 (by decide +kernel) ?_
          refine ja_goto (tgt := 41) dX3_lay_37 (by decide) ?_
          refine ja_istore (i := 4) dX3_lay_41 rfl (Nat.le_of_ble_eq_true rfl) ?_
          refine ja_iload (i := 4) dX3_lay_43 rfl ?_
          refine ja_ifN_eq (tgt := 118) dX3_lay_45 (by decide) (by omega) (fun c45 => absurd c45 (by decide)) (fun c45 => ?_)
          have hrq : ¬ r q = -1 := fun e => by
            have hr1 := (hr0 q hql).mpr e
            first | exact c26 hr1.1 | exact c33 hr1.2
          refine ja_aload_n (i := 0) dX3_lay_48 rfl rfl ?_
          refine ja_getR fl_X3_21 (zX_o5 hx) rfl (zX_p5_4 hx) dX3_lay_49 ?_
          refine ja_iload_n (i := 3) dX3_lay_52 rfl rfl ?_
          refine ja_iald (zX_o9 hx) rfl (by omega) (by decide) dX3_lay_53 ?_
          refine ja_top (y := (pcs r q).1 q) (hL.2.2.1 q (by omega)) ?_
          refine ja_iconst (v := (-1)) dX3_lay_54 (by decide +kernel) ?_
          refine ja_icmp_ne (tgt := 118) dX3_lay_55 (by decide) (fun c55 => ?_) (fun c55 => ?_)
          ·
            refine ja_iincN dX3_lay_118 rfl rfl (Nat.le_of_ble_eq_true rfl) ?_
            refine ja_goto (tgt := 15) dX3_lay_121 (by decide) ?_
            refine ja_forget (i := 4) ?_
            exact ih15 (q + 1) E (by omega) (by omega) (LAY_k hL (Or.inr c55))
          ·
            have hp9 : (pcs r q).1 q = -1 := c55
            refine ja_aload_n (i := 0) dX3_lay_58 rfl rfl ?_
            refine ja_getI fl_X3_27 (zX_o5 hx) rfl dX3_lay_59 ?_
            refine ja_top (y := nI (n)) hE3 ?_
            refine ja_sipush (v := nI 256) dX3_lay_62 (by decide +kernel) ?_
            refine ja_icmpN_ge (tgt := 118) dX3_lay_65 (by decide) (by omega) (by omega) (fun c65 => (by exfalso; omega)) (fun c65 => ?_)
            refine ja_aload_n (i := 0) dX3_lay_68 rfl rfl ?_
            refine ja_getR fl_X3_15 (zX_o5 hx) rfl (zX_p5_1 hx) dX3_lay_69 ?_
            refine ja_aload_n (i := 0) dX3_lay_72 rfl rfl ?_
            refine ja_getI fl_X3_27 (zX_o5 hx) rfl dX3_lay_73 ?_
            refine ja_top (y := nI (n)) hE3 ?_
            refine ja_aload_n (i := 1) dX3_lay_76 rfl rfl ?_
            refine ja_iload_n (i := 3) dX3_lay_77 rfl rfl ?_
            refine ja_iald hA1 rfl (by omega) (by decide) dX3_lay_78 ?_
            refine ja_top (y := D i1 q) (hL.1 i1 q (by omega)) ?_
            refine ja_iast (zX_o7 hx) rfl (by omega) (by decide) dX3_lay_79 ?_
            refine ja_aload_n (i := 0) dX3_lay_80 rfl rfl ?_
            refine ja_getR fl_X3_18 (zX_o5 hx) rfl (zX_p5_2 hx) dX3_lay_81 ?_
            refine ja_aload_n (i := 0) dX3_lay_84 rfl rfl ?_
            refine ja_getI fl_X3_27 (zX_o5 hx) rfl dX3_lay_85 ?_
            refine ja_top (y := nI (n)) (by rw [up_n (by omega)]; exact hE3) ?_
            refine ja_aload_n (i := 2) dX3_lay_88 rfl rfl ?_
            refine ja_iload_n (i := 3) dX3_lay_89 rfl rfl ?_
            refine ja_iald hA2 rfl (by omega) (by decide) dX3_lay_90 ?_
            refine ja_top (y := D i2 q) (by rw [up_n (by omega)]; exact hL.1 i2 q (by omega)) ?_
            refine ja_iast (zX_o8 hx) rfl (by omega) (by decide) dX3_lay_91 ?_
            refine ja_aload_n (i := 0) dX3_lay_92 rfl rfl ?_
            refine ja_getR fl_X3_9 (zX_o5 hx) rfl (zX_p5_0 hx) dX3_lay_93 ?_
            refine ja_aload_n (i := 0) dX3_lay_96 rfl rfl ?_
            refine ja_getI fl_X3_27 (zX_o5 hx) rfl dX3_lay_97 ?_
            refine ja_top (y := nI (n)) (by rw [up_n (by omega), up_n (by omega)]; exact hE3) ?_
            refine ja_aload_n (i := 0) dX3_lay_100 rfl rfl ?_
            refine ja_aload_n (i := 1) dX3_lay_101 rfl rfl ?_
            refine ja_aload_n (i := 2) dX3_lay_102 rfl rfl ?_
            refine ja_iload_n (i := 3) dX3_lay_103 rfl rfl ?_
            refine ja_cVd (st := [.int (nI (n)), .ref (6)]) (c_spread (D := (ja_up (ja_up E 7 n (D i1 q)) 8 n (D i2 q))) l hx hA1 hA2 hi1 hi2 (r := r) (p0 := (pcs r q).1) (q := q) (n := n) (fun k hk => by rw [up_n (by omega), up_n (by omega), up_n (by omega), up_n (by omega), up_n (by omega), up_n (by omega), up_n (by omega), up_n (by omega), hL.1 i1 k (by omega), hL.1 i1 q (by omega), hL.1 i2 k (by omega), hL.1 i2 q (by omega)]; exact hrr q k hql hk) (by rw [up_n (by omega), up_n (by omega)]; exact hE3) (by omega) (fun k hk => by rw [up_n (by omega), up_n (by omega)]; exact hL.2.2.1 k hk) (pcs_cl r (by omega)) (fun j _ => by rw [hn]; exact pcs_ne (by omega) j) hql hp9) rfl rfl (ce_X3_spread 0 0) im_X3_spread se_X3_spread lk_X3_37 k_X3 (zX_o5 hx) ⟨(Nat.le_of_ble_eq_true rfl), (Nat.le_of_ble_eq_true rfl)⟩ dX3_lay_104 rfl rfl (Nat.le_of_ble_eq_true rfl) (Nat.zero_le _) (Nat.zero_le _) ?_
            intro E3 hE3x
            obtain ⟨hE3a, hE3b⟩ := hE3x
            refine ja_iast (zX_o6 hx) rfl (by omega) (by decide) dX3_lay_107 ?_
            refine ja_aload_n (i := 0) dX3_lay_108 rfl rfl ?_
            refine ja_dup dX3_lay_109 rfl ?_
            refine ja_getI fl_X3_27 (zX_o5 hx) rfl dX3_lay_110 ?_
            refine ja_top (y := nI (n)) (by rw [up_n (by omega), hE3a 5 3 (by decide) (by decide), up_n (by omega), up_n (by omega)]; exact hE3) ?_
            refine ja_iconst (v := nI 1) dX3_lay_113 (by decide +kernel) ?_
            refine ja_iaddN dX3_lay_114 ?_
            refine ja_putI fl_X3_27 (zX_o5 hx) rfl rfl rfl dX3_lay_115 ?_
            refine ja_iincN dX3_lay_118 rfl rfl (Nat.le_of_ble_eq_true rfl) ?_
            refine ja_goto (tgt := 15) dX3_lay_121 (by decide) ?_
            refine ja_forget (i := 4) ?_
            exact ih15 (q + 1) _ (by omega) (by omega) (LAY_s hi1 hi2 hL hn hql hrq hp9 hE3a hE3b)
        ·
          refine ja_aload_n (i := 2) dX3_lay_29 rfl rfl ?_
          refine ja_iload_n (i := 3) dX3_lay_30 rfl rfl ?_
          refine ja_iald hA2 rfl (by omega) (by decide) dX3_lay_31 ?_
          refine ja_top (y := D i2 q) (hL.1 i2 q (by omega)) ?_
          refine ja_iconst (v := (-1)) dX3_lay_32 (by decide +kernel) ?_
          refine ja_icmp_eq (tgt := 40) dX3_lay_33 (by decide) (fun c33 => ?_) (fun c33 => ?_)
          ·
            refine ja_iconst (v := nI 0) dX3_lay_40 (by decide +kernel) ?_
            refine ja_istore (i := 4) dX3_lay_41 rfl (Nat.le_of_ble_eq_true rfl) ?_
            refine ja_iload (i := 4) dX3_lay_43 rfl ?_
            refine ja_ifN_eq (tgt := 118) dX3_lay_45 (by decide) (by omega) (fun c45 => ?_) (fun c45 => absurd c45 (by decide))
            refine ja_iincN dX3_lay_118 rfl rfl (Nat.le_of_ble_eq_true rfl) ?_
            refine ja_goto (tgt := 15) dX3_lay_121 (by decide) ?_
            refine ja_forget (i := 4) ?_
            exact ih15 (q + 1) E (by omega) (by omega) (LAY_k hL (Or.inl ((hr0 q hql).mp ⟨c26, c33⟩)))
          ·
            refine ja_iconst (v := nI 1) dX3_lay_36 (by decide +kernel) ?_
            refine ja_goto (tgt := 41) dX3_lay_37 (by decide) ?_
            refine ja_istore (i := 4) dX3_lay_41 rfl (Nat.le_of_ble_eq_true rfl) ?_
            refine ja_iload (i := 4) dX3_lay_43 rfl ?_
            refine ja_ifN_eq (tgt := 118) dX3_lay_45 (by decide) (by omega) (fun c45 => absurd c45 (by decide)) (fun c45 => ?_)
            have hrq : ¬ r q = -1 := fun e => by
              have hr1 := (hr0 q hql).mpr e
              first | exact c26 hr1.1 | exact c33 hr1.2
            refine ja_aload_n (i := 0) dX3_lay_48 rfl rfl ?_
            refine ja_getR fl_X3_21 (zX_o5 hx) rfl (zX_p5_4 hx) dX3_lay_49 ?_
            refine ja_iload_n (i := 3) dX3_lay_52 rfl rfl ?_
            refine ja_iald (zX_o9 hx) rfl (by omega) (by decide) dX3_lay_53 ?_
            refine ja_top (y := (pcs r q).1 q) (hL.2.2.1 q (by omega)) ?_
            refine ja_iconst (v := (-1)) dX3_lay_54 (by decide +kernel) ?_
            refine ja_icmp_ne (tgt := 118) dX3_lay_55 (by decide) (fun c55 => ?_) (fun c55 => ?_)
            ·
              refine ja_iincN dX3_lay_118 rfl rfl (Nat.le_of_ble_eq_true rfl) ?_
              refine ja_goto (tgt := 15) dX3_lay_121 (by decide) ?_
              refine ja_forget (i := 4) ?_
              exact ih15 (q + 1) E (by omega) (by omega) (LAY_k hL (Or.inr c55))
            ·
              have hp9 : (pcs r q).1 q = -1 := c55
              refine ja_aload_n (i := 0) dX3_lay_58 rfl rfl ?_
              refine ja_getI fl_X3_27 (zX_o5 hx) rfl dX3_lay_59 ?_
              refine ja_top (y := nI (n)) hE3 ?_
              refine ja_sipush (v := nI 256) dX3_lay_62 (by decide +kernel) ?_
              refine ja_icmpN_ge (tgt := 118) dX3_lay_65 (by decide) (by omega) (by omega) (fun c65 => (by exfalso; omega)) (fun c65 => ?_)
              refine ja_aload_n (i := 0) dX3_lay_68 rfl rfl ?_
              refine ja_getR fl_X3_15 (zX_o5 hx) rfl (zX_p5_1 hx) dX3_lay_69 ?_
              refine ja_aload_n (i := 0) dX3_lay_72 rfl rfl ?_
              refine ja_getI fl_X3_27 (zX_o5 hx) rfl dX3_lay_73 ?_
              refine ja_top (y := nI (n)) hE3 ?_
              refine ja_aload_n (i := 1) dX3_lay_76 rfl rfl ?_
              refine ja_iload_n (i := 3) dX3_lay_77 rfl rfl ?_
              refine ja_iald hA1 rfl (by omega) (by decide) dX3_lay_78 ?_
              refine ja_top (y := D i1 q) (hL.1 i1 q (by omega)) ?_
              refine ja_iast (zX_o7 hx) rfl (by omega) (by decide) dX3_lay_79 ?_
              refine ja_aload_n (i := 0) dX3_lay_80 rfl rfl ?_
              refine ja_getR fl_X3_18 (zX_o5 hx) rfl (zX_p5_2 hx) dX3_lay_81 ?_
              refine ja_aload_n (i := 0) dX3_lay_84 rfl rfl ?_
              refine ja_getI fl_X3_27 (zX_o5 hx) rfl dX3_lay_85 ?_
              refine ja_top (y := nI (n)) (by rw [up_n (by omega)]; exact hE3) ?_
              refine ja_aload_n (i := 2) dX3_lay_88 rfl rfl ?_
              refine ja_iload_n (i := 3) dX3_lay_89 rfl rfl ?_
              refine ja_iald hA2 rfl (by omega) (by decide) dX3_lay_90 ?_
              refine ja_top (y := D i2 q) (by rw [up_n (by omega)]; exact hL.1 i2 q (by omega)) ?_
              refine ja_iast (zX_o8 hx) rfl (by omega) (by decide) dX3_lay_91 ?_
              refine ja_aload_n (i := 0) dX3_lay_92 rfl rfl ?_
              refine ja_getR fl_X3_9 (zX_o5 hx) rfl (zX_p5_0 hx) dX3_lay_93 ?_
              refine ja_aload_n (i := 0) dX3_lay_96 rfl rfl ?_
              refine ja_getI fl_X3_27 (zX_o5 hx) rfl dX3_lay_97 ?_
              refine ja_top (y := nI (n)) (by rw [up_n (by omega), up_n (by omega)]; exact hE3) ?_
              refine ja_aload_n (i := 0) dX3_lay_100 rfl rfl ?_
              refine ja_aload_n (i := 1) dX3_lay_101 rfl rfl ?_
              refine ja_aload_n (i := 2) dX3_lay_102 rfl rfl ?_
              refine ja_iload_n (i := 3) dX3_lay_103 rfl rfl ?_
              refine ja_cVd (st := [.int (nI (n)), .ref (6)]) (c_spread (D := (ja_up (ja_up E 7 n (D i1 q)) 8 n (D i2 q))) l hx hA1 hA2 hi1 hi2 (r := r) (p0 := (pcs r q).1) (q := q) (n := n) (fun k hk => by rw [up_n (by omega), up_n (by omega), up_n (by omega), up_n (by omega), up_n (by omega), up_n (by omega), up_n (by omega), up_n (by omega), hL.1 i1 k (by omega), hL.1 i1 q (by omega), hL.1 i2 k (by omega), hL.1 i2 q (by omega)]; exact hrr q k hql hk) (by rw [up_n (by omega), up_n (by omega)]; exact hE3) (by omega) (fun k hk => by rw [up_n (by omega), up_n (by omega)]; exact hL.2.2.1 k hk) (pcs_cl r (by omega)) (fun j _ => by rw [hn]; exact pcs_ne (by omega) j) hql hp9) rfl rfl (ce_X3_spread 0 0) im_X3_spread se_X3_spread lk_X3_37 k_X3 (zX_o5 hx) ⟨(Nat.le_of_ble_eq_true rfl), (Nat.le_of_ble_eq_true rfl)⟩ dX3_lay_104 rfl rfl (Nat.le_of_ble_eq_true rfl) (Nat.zero_le _) (Nat.zero_le _) ?_
              intro E3 hE3x
              obtain ⟨hE3a, hE3b⟩ := hE3x
              refine ja_iast (zX_o6 hx) rfl (by omega) (by decide) dX3_lay_107 ?_
              refine ja_aload_n (i := 0) dX3_lay_108 rfl rfl ?_
              refine ja_dup dX3_lay_109 rfl ?_
              refine ja_getI fl_X3_27 (zX_o5 hx) rfl dX3_lay_110 ?_
              refine ja_top (y := nI (n)) (by rw [up_n (by omega), hE3a 5 3 (by decide) (by decide), up_n (by omega), up_n (by omega)]; exact hE3) ?_
              refine ja_iconst (v := nI 1) dX3_lay_113 (by decide +kernel) ?_
              refine ja_iaddN dX3_lay_114 ?_
              refine ja_putI fl_X3_27 (zX_o5 hx) rfl rfl rfl dX3_lay_115 ?_
              refine ja_iincN dX3_lay_118 rfl rfl (Nat.le_of_ble_eq_true rfl) ?_
              refine ja_goto (tgt := 15) dX3_lay_121 (by decide) ?_
              refine ja_forget (i := 4) ?_
              exact ih15 (q + 1) _ (by omega) (by omega) (LAY_s hi1 hi2 hL hn hql hrq hp9 hE3a hE3b)
  exact lp15 257 0 _ (by omega) (by omega) LAY_0

set_option maxRecDepth 100000 in
set_option maxHeartbeats 4000000 in
theorem c_sumOf (l : Launch) {Z : jZ} {D : jD} (hx : zX Z) {pi : Nat} (hP : Z.2.1 pi = (10, 256)) {n : Nat} (h3 : D 5 3 = nI n) (hn : n ≤ 256) {sz : Nat → Nat} (h6 : ∀ i, i < n → D 6 i = nI (sz i)) (a : Int32) : ja_M l (mX3_sumOf 0 0) [.ref (5), .ref (pi), .int (a)] Z D (ja_jr (some (.int (nI (fb_sm (fun i => if D pi i = a then sz i else 0) n)))) Z D) ja_x0 := by
  refine ja_Mof (lv := [some (.ref (5)), some (.ref (pi)), some (.int (a)), none, none]) (by decide +kernel) rfl rfl (Nat.le_of_ble_eq_true rfl) rfl ?_
  refine ja_iconst (v := nI 0) dX3_sumOf_0 (by decide +kernel) ?_
  refine ja_istore_n (i := 3) dX3_sumOf_1 rfl rfl (Nat.le_of_ble_eq_true rfl) ?_
  refine ja_iconst (v := nI 0) dX3_sumOf_2 (by decide +kernel) ?_
  refine ja_istore (i := 4) dX3_sumOf_3 rfl (Nat.le_of_ble_eq_true rfl) ?_
  have lp5 : ∀ (f5 : Nat) (i m : Nat), (n < i + f5) → (i ≤ n) → (m = fb_sm (fun i => if D pi i = a then sz i else 0) i) → ja_A l (mX3_sumOf 0 0) ja_sn (ja_Qf (mX3_sumOf 0 0) (ja_jr (some (.int (nI (fb_sm (fun i => if D pi i = a then sz i else 0) n)))) Z D) ja_x0) 5 [some (.ref (5)), some (.ref (pi)), some (.int (a)), some (.int (nI (m))), some (.int (nI (i)))] [] Z D 0 0 := by
    intro f5
    induction f5 with
    | zero => intro i m hf hi hm; exfalso; omega
    | succ f5 ih5 =>
      intro i m hf hi hm
      refine ja_iload (i := 4) dX3_sumOf_5 rfl ?_
      refine ja_aload_n (i := 0) dX3_sumOf_7 rfl rfl ?_
      refine ja_getI fl_X3_27 (zX_o5 hx) rfl dX3_sumOf_8 ?_
      refine ja_top (y := nI (n)) h3 ?_
      refine ja_icmpN_ge (tgt := 38) dX3_sumOf_11 (by decide) (by omega) (by omega) (fun c11 => ?_) (fun c11 => ?_)
      ·
        refine ja_iload_n (i := 3) dX3_sumOf_38 rfl rfl ?_
        refine ja_iret rfl rfl dX3_sumOf_39 (Nat.zero_le _) (Nat.zero_le _) ?_
        exact ⟨by rw [hm, show i = n by omega], rfl, rfl⟩
      ·
        refine ja_aload_n (i := 1) dX3_sumOf_14 rfl rfl ?_
        refine ja_iload (i := 4) dX3_sumOf_15 rfl ?_
        refine ja_iald hP rfl (by omega) (by decide) dX3_sumOf_17 ?_
        refine ja_iload_n (i := 2) dX3_sumOf_18 rfl rfl ?_
        refine ja_icmp_ne (tgt := 32) dX3_sumOf_19 (by decide) (fun c19 => ?_) (fun c19 => ?_)
        ·
          refine ja_iincN dX3_sumOf_32 rfl rfl (Nat.le_of_ble_eq_true rfl) ?_
          refine ja_goto (tgt := 5) dX3_sumOf_35 (by decide) ?_
          exact ih5 (i + 1) _ (by omega) (by omega) (by rw [hm, fb_sm_succ]; simp only [c19, if_true, if_false, Nat.add_zero])
        ·
          refine ja_iload_n (i := 3) dX3_sumOf_22 rfl rfl ?_
          refine ja_aload_n (i := 0) dX3_sumOf_23 rfl rfl ?_
          refine ja_getR fl_X3_9 (zX_o5 hx) rfl (zX_p5_0 hx) dX3_sumOf_24 ?_
          refine ja_iload (i := 4) dX3_sumOf_27 rfl ?_
          refine ja_iald (zX_o6 hx) rfl (by omega) (by decide) dX3_sumOf_29 ?_
          refine ja_top (y := nI (sz i)) (h6 i (by omega)) ?_
          refine ja_iaddN dX3_sumOf_30 ?_
          refine ja_istore_n (i := 3) dX3_sumOf_31 rfl rfl (Nat.le_of_ble_eq_true rfl) ?_
          refine ja_iincN dX3_sumOf_32 rfl rfl (Nat.le_of_ble_eq_true rfl) ?_
          refine ja_goto (tgt := 5) dX3_sumOf_35 (by decide) ?_
          exact ih5 (i + 1) _ (by omega) (by omega) (by rw [hm, fb_sm_succ]; simp only [c19, if_true, if_false, Nat.add_zero])
  exact lp5 (n + 1) 0 0 (by omega) (by omega) rfl
