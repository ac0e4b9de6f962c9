/-! THE CLASS: a piece spreads -/
theorem nup_e {w : Nat → Nat} {k x : Nat} : nup w k x k = x := if_pos rfl
theorem nup_n {w : Nat → Nat} {k x a : Nat} (h : ¬ a = k) : nup w k x a = w a := if_neg h
def sgm (s : Nat) : Nat := if s = 1 then 2 else if s = 2 then 1 else s
theorem nbX_M {s q : Nat} : nbX s q = nbM (sgm s) q := by
  unfold nbX nbM sgm
  by_cases h0 : s = 0
  · subst h0; rfl
  · by_cases h1 : s = 1
    · subst h1; rfl
    · by_cases h2 : s = 2
      · subst h2; rfl
      · rw [if_neg h0, if_neg h1, if_neg h2, if_neg h1, if_neg h2, if_neg h0, if_neg h1, if_neg h2]
theorem sgm_lt {s : Nat} (h : s < 4) : sgm s < 4 := by unfold sgm; split <;> (try split) <;> omega
theorem sgm_2 {s : Nat} (h : s < 4) : sgm (sgm s) = s := by
  rcases (show s = 0 ∨ s = 1 ∨ s = 2 ∨ s = 3 by omega) with rfl | rfl | rfl | rfl <;> rfl
/-- the sides below s of square k are looked at -/
def DN (p r : Nat → Int32) (q k s : Nat) : Prop := ∀ s2, s2 < s → ∀ j, nbX s2 k = some j → r j = r q → ¬ p j = -1
/-- the queue v of m squares, all with n; p0 ahead of it -/
def SPR (D E : jD) (p0 p r : Nat → Int32) (q n m : Nat) (v : Nat → Nat) : Prop :=
  (∀ a b, ¬ a = 9 → ¬ a = 10 → E a b = D a b) ∧ (∀ k, k < 256 → E 9 k = p k) ∧ (∀ x, x < m → E 10 x = nI (v x) ∧ v x < 256 ∧ p (v x) = nI n) ∧ FI p0 p r q (nI n) ∧ m = fb_ct (fun j => decide (p j = nI n)) 256 ∧ (∀ j, j < 256 → p j = nI n → ∃ x, x < m ∧ v x = j) ∧ 1 ≤ m
theorem SPR_le {D E : jD} {p0 p r : Nat → Int32} {q n m : Nat} {v : Nat → Nat} (h : SPR D E p0 p r q n m v) : m ≤ 256 := by rw [h.2.2.2.2.1]; exact fb_ct_le _ _
theorem SPR_full {D E : jD} {p0 p r : Nat → Int32} {q n m : Nat} {v : Nat → Nat} (h : SPR D E p0 p r q n m v) (hn : n < 256) (hm : 256 ≤ m) {j : Nat} (hj : j < 256) : ¬ p j = -1 := by
  have e : fb_ct (fun j => decide (p j = nI n)) 256 = 256 := by have := SPR_le h; rw [← h.2.2.2.2.1]; omega
  have := of_decide_eq_true (fb_ct_all.mp e j hj)
  rw [this]
  exact nI_nm1 (by omega)
theorem SPR_0 {D : jD} {p0 r : Nat → Int32} {q n : Nat} (hq : q < 256) (hp : ∀ k, k < 256 → D 9 k = p0 k) (h0 : ∀ j, j < 256 → ¬ p0 j = nI n) : SPR D (ja_up (ja_up D 10 0 (nI q)) 9 q (nI n)) p0 (fup p0 q (nI n)) r q n 1 (fun _ => q) := by
  have hz : fb_ct (fun j => decide (p0 j = nI n)) 256 = 0 := fb_ct_zero.mpr fun k hk => decide_eq_false (h0 k hk)
  have e1 : fup p0 q (nI n) q = nI n := if_pos rfl
  refine ⟨fun a b h1 h2 => ?_, fun k hk => ?_, fun x hx => ⟨?_, hq, e1⟩, ⟨e1, fun j hj => ?_⟩, ?_, fun j hj hj2 => ⟨0, by omega, ?_⟩, by omega⟩
  · rw [up_n (fun h => h1 h.1), up_n (fun h => h2 h.1)]
  · unfold fup
    by_cases e : k = q
    · rw [if_pos e, e, up_s]
    · rw [if_neg e, up_n (fun h => e h.2), up_n (fun h => absurd h.1 (by decide)), hp k hk]
  · rw [up_n (fun h => absurd h.1 (by decide)), show x = 0 by omega, up_s]
  · unfold fup
    by_cases e : j = q
    · rw [if_pos e, e]; exact Or.inr ⟨rfl, Rch_refl r q⟩
    · rw [if_neg e]; exact Or.inl rfl
  · have h := fb_ct_upd (fun j => decide (p0 j = nI n)) true (i := q) (n := 256) hq
    rw [hz, decide_eq_false (h0 q hq), if_neg (by decide), if_pos rfl] at h
    have e : fb_ct (fun j => decide (fup p0 q (nI n) j = nI n)) 256 = fb_ct (fun k => if k = q then true else decide (p0 k = nI n)) 256 := fb_ct_cong fun k _ => by
      unfold fup
      by_cases e : k = q
      · rw [if_pos e, if_pos e, decide_eq_true rfl]
      · rw [if_neg e, if_neg e]
    rw [e]
    omega
  · unfold fup at hj2
    by_cases e : j = q
    · exact e.symm
    · rw [if_neg e] at hj2; exact absurd hj2 (h0 j hj)
theorem SPR_s {D E : jD} {p0 p r : Nat → Int32} {q n m k j s : Nat} {v : Nat → Nat} (h : SPR D E p0 p r q n m v) (h0 : ∀ j, j < 256 → ¬ p0 j = nI n) (hn : n < 256) (hs : s < 4) (hk : k < 256) (hpk : p k = nI n) (hnb : nbX s k = some j) (hr : r j = r q) (hp : p j = -1) :
    SPR D (ja_up (ja_up E 9 j (nI n)) 10 m (nI j)) p0 (fup p j (nI n)) r q n (m + 1) (nup v m j) := by
  have hj : j < 256 := nbX_lt hk hnb
  obtain ⟨a1, a2, a3, a4, a5, a6, a7⟩ := h
  have hne : ¬ (-1 : Int32) = nI n := fun e => nI_nm1 (by omega) e.symm
  refine ⟨fun a b h1 h2 => ?_, fun y hy => ?_, fun x hx => ?_, FI_s a4 h0 (sgm_lt hs) hk hpk (by rw [← nbX_M]; exact hnb) hr, ?_, fun y hy hy2 => ?_, by omega⟩
  · rw [up_n (fun h => h2 h.1), up_n (fun h => h1 h.1), a1 a b h1 h2]
  · rw [up_n (fun h => absurd h.1 (by decide))]
    unfold fup
    by_cases e : y = j
    · rw [if_pos e, e, up_s]
    · rw [if_neg e, up_n (fun h => e h.2), a2 y hy]
  · by_cases e : x = m
    · subst e
      refine ⟨by rw [up_s, nup_e], ?_, ?_⟩
      · rw [nup_e]; exact hj
      · rw [nup_e]; exact if_pos rfl
    · obtain ⟨b1, b2, b3⟩ := a3 x (by omega)
      rw [nup_n e]
      refine ⟨by rw [up_n (fun h => e h.2), up_n (fun h => absurd h.1 (by decide)), b1], b2, ?_⟩
      unfold fup
      split
      · rfl
      · exact b3
  · have h := fb_ct_upd (fun j => decide (p j = nI n)) true (i := j) (n := 256) hj
    rw [decide_eq_false (by rw [hp]; exact hne), if_neg (by decide), if_pos rfl] at h
    have e : fb_ct (fun y => decide (fup p j (nI n) y = nI n)) 256 = fb_ct (fun k => if k = j then true else decide (p k = nI n)) 256 := fb_ct_cong fun k _ => by
      unfold fup
      by_cases e : k = j
      · rw [if_pos e, if_pos e, decide_eq_true rfl]
      · rw [if_neg e, if_neg e]
    rw [e, a5]
    omega
  · by_cases e : y = j
    · exact ⟨m, by omega, by rw [nup_e, e]⟩
    · unfold fup at hy2
      rw [if_neg e] at hy2
      obtain ⟨x, x1, x2⟩ := a6 y hy hy2
      exact ⟨x, by omega, by rw [nup_n (by omega), x2]⟩
theorem DN_0 {p r : Nat → Int32} {q k : Nat} : DN p r q k 0 := fun s2 h => absurd h (Nat.not_lt_zero s2)
theorem DN_s {p r : Nat → Int32} {q k s : Nat} (h : DN p r q k s) (h2 : ∀ j, nbX s k = some j → r j = r q → ¬ p j = -1) : DN p r q k (s + 1) := fun s2 hs j hj => by
  by_cases e : s2 = s
  · subst e; exact h2 j hj
  · exact h s2 (by omega) j hj
theorem DN_f {p r : Nat → Int32} {q k s j : Nat} {c : Int32} (hc : ¬ c = -1) (h : DN p r q k s) : DN (fup p j c) r q k s := fun s2 hs i hi hr => by
  unfold fup
  split
  · exact hc
  · exact h s2 hs i hi hr
theorem SPR_end {D E : jD} {p0 p r : Nat → Int32} {q n m : Nat} {v : Nat → Nat} (h : SPR D E p0 p r q n m v) (hn : n < 256) (hq : q < 256) (h0 : ∀ j, j < 256 → ¬ p0 j = nI n) (hcl : Cl r p0) (hpq : p0 q = -1) (hd : ∀ x, x < m → DN p r q (v x) 4) :
    (∀ k, k < 256 → p k = @ite _ (Rch r q k) (Classical.propDecidable _) (nI n) (p0 k)) ∧ m = fb_ct (fun k => bP (Rch r q k)) 256 := by
  have hne : ¬ nI n = -1 := nI_nm1 (by omega)
  obtain ⟨a1, a2, a3, a4, a5, a6, a7⟩ := h
  have hu : ∀ k, Rch r q k → p0 k = -1 := fun k hk => Cl_un hq hcl hpq hk
  have e : ∀ k, k < 256 → p k = @ite _ (Rch r q k) (Classical.propDecidable _) (nI n) (p0 k) := fun k hk => FI_end hq a4 h0 hu hne (fun k2 s2 j hks hk2 hnb hr => by
    rcases hks with ⟨h1, h2⟩ | ⟨h1, h2⟩
    · obtain ⟨x, x1, x2⟩ := a6 k2 h1 hk2
      have := hd x x1 (sgm s2) (sgm_lt h2) j (by rw [x2, nbX_M, sgm_2 h2]; exact hnb) hr
      exact this
    · omega) hk
  refine ⟨e, ?_⟩
  rw [a5]
  refine fb_ct_cong fun k hk => ?_
  rw [e k hk]
  by_cases hR : Rch r q k
  · rw [@if_pos _ (Classical.propDecidable _) hR, bP_t hR, decide_eq_true rfl]
  · rw [@if_neg _ (Classical.propDecidable _) hR, bP_f hR, decide_eq_false (h0 k hk)]

set_option maxRecDepth 100000 in
set_option maxHeartbeats 4000000 in
theorem c_spread (l : Launch) {Z : jZ} {D : jD} (hx : zX Z) {i1 i2 : Nat} (hA1 : Z.2.1 i1 = (10, 256)) (hA2 : Z.2.1 i2 = (10, 256)) (hi1 : 10 < i1) (hi2 : 10 < i2) {r p0 : Nat → Int32} {q n : Nat} (hrr : ∀ k, k < 256 → ((D i1 k = D i1 q ∧ D i2 k = D i2 q) ↔ r k = r q)) (h3 : D 5 3 = nI n) (hn : n < 256) (hp : ∀ k, k < 256 → D 9 k = p0 k) (hcl : Cl r p0) (h0 : ∀ j, j < 256 → ¬ p0 j = nI n) (hq : q < 256) (hpq : p0 q = -1) : ja_M l (mX3_spread 0 0) [.ref (5), .ref (i1), .ref (i2), .int (nI (q))] Z D (ja_jd (some (.int (nI (fb_ct (fun k => bP (Rch r q k)) 256)))) Z (fun D2 => (∀ a b, ¬ a = 9 → ¬ a = 10 → D2 a b = D a b) ∧ ∀ k, k < 256 → D2 9 k = @ite _ (Rch r q k) (Classical.propDecidable _) (nI n) (p0 k))) ja_x0 := by
  have hne : ¬ nI n = -1 := nI_nm1 (by omega)
  refine ja_Mof (lv := [some (.ref (5)), some (.ref (i1)), some (.ref (i2)), some (.int (nI (q))), none, none, none, none]) (by decide +kernel) rfl rfl (Nat.le_of_ble_eq_true rfl) rfl ?_
  refine ja_iconst (v := nI 1) dX3_spread_0 (by decide +kernel) ?_
  refine ja_istore (i := 4) dX3_spread_1 rfl (Nat.le_of_ble_eq_true rfl) ?_
  refine ja_aload_n (i := 0) dX3_spread_3 rfl rfl ?_
  refine ja_getR fl_X3_24 (zX_o5 hx) rfl (zX_p5_5 hx) dX3_spread_4 ?_
  refine ja_iconst (v := nI 0) dX3_spread_7 (by decide +kernel) ?_
  refine ja_iload_n (i := 3) dX3_spread_8 rfl rfl ?_
  refine ja_iast (zX_o10 hx) rfl (by omega) (by decide) dX3_spread_9 ?_
  refine ja_aload_n (i := 0) dX3_spread_10 rfl rfl ?_
  refine ja_getR fl_X3_21 (zX_o5 hx) rfl (zX_p5_4 hx) dX3_spread_11 ?_
  refine ja_iload_n (i := 3) dX3_spread_14 rfl rfl ?_
  refine ja_aload_n (i := 0) dX3_spread_15 rfl rfl ?_
  refine ja_getI fl_X3_27 (zX_o5 hx) rfl dX3_spread_16 ?_
  refine ja_top (y := nI (n)) (by rw [up_n (fun h => absurd h.1 (by decide))]; exact h3) ?_
  refine ja_iast (zX_o9 hx) rfl (by omega) (by decide) dX3_spread_19 ?_
  refine ja_iconst (v := nI 0) dX3_spread_20 (by decide +kernel) ?_
  refine ja_istore (i := 5) dX3_spread_21 rfl (Nat.le_of_ble_eq_true rfl) ?_
  have lp23 : ∀ (f23 : Nat) (i : Nat) (m : Nat) (E : jD) (p : Nat → Int32) (v : Nat → Nat), (256 < i + f23) → (i ≤ m) → (SPR D E p0 p r q n m v) → (∀ x, x < i → DN p r q (v x) 4) → ja_A l (mX3_spread 0 0) ja_sn (ja_Qf (mX3_spread 0 0) (ja_jd (some (.int (nI (fb_ct (fun k => bP (Rch r q k)) 256)))) Z (fun D2 => (∀ a b, ¬ a = 9 → ¬ a = 10 → D2 a b = D a b) ∧ ∀ k, k < 256 → D2 9 k = @ite _ (Rch r q k) (Classical.propDecidable _) (nI n) (p0 k))) ja_x0) 23 [some (.ref (5)), some (.ref (i1)), some (.ref (i2)), some (.int (nI (q))), some (.int (nI (m))), some (.int (nI (i))), none, none] [] Z E 0 0 := by
    intro f23
    induction f23 with
    | zero => intro i m E p v hf him hS hd; exfalso; have := SPR_le hS; omega
    | succ f23 ih23 =>
      intro i m E p v hf him hS hd
      have hm := SPR_le hS
      refine ja_iload (i := 5) dX3_spread_23 rfl ?_
      refine ja_iload (i := 4) dX3_spread_25 rfl ?_
      refine ja_icmpN_ge (tgt := 141) dX3_spread_27 (by decide) (by omega) (by omega) (fun c27 => ?_) (fun c27 => ?_)
      ·
        refine ja_iload (i := 4) dX3_spread_141 rfl ?_
        refine ja_iret rfl rfl dX3_spread_143 (Nat.zero_le _) (Nat.zero_le _) ?_
        obtain ⟨e1, e2⟩ := SPR_end hS hn hq h0 hcl hpq (fun x hx => hd x (by omega))
        exact ⟨by rw [← e2], rfl, hS.1, fun k hk => by rw [hS.2.1 k hk, e1 k hk]⟩
      ·
        refine ja_iload (i := 5) dX3_spread_30 rfl ?_
        refine ja_sipush (v := nI 256) dX3_spread_32 (by decide +kernel) ?_
        refine ja_icmpN_ge (tgt := 141) dX3_spread_35 (by decide) (by omega) (by omega) (fun c35 => (by exfalso; omega)) (fun c35 => ?_)
        refine ja_iconst (v := nI 0) dX3_spread_38 (by decide +kernel) ?_
        refine ja_istore (i := 6) dX3_spread_39 rfl (Nat.le_of_ble_eq_true rfl) ?_
        have lp41 : ∀ (f41 : Nat) (s : Nat) (m : Nat) (E : jD) (p : Nat → Int32) (v : Nat → Nat), (4 < s + f41) → (s ≤ 4) → (i < m) → (SPR D E p0 p r q n m v) → (∀ x, x < i → DN p r q (v x) 4) → (DN p r q (v i) s) → ja_A l (mX3_spread 0 0) ja_sn (ja_Qf (mX3_spread 0 0) (ja_jd (some (.int (nI (fb_ct (fun k => bP (Rch r q k)) 256)))) Z (fun D2 => (∀ a b, ¬ a = 9 → ¬ a = 10 → D2 a b = D a b) ∧ ∀ k, k < 256 → D2 9 k = @ite _ (Rch r q k) (Classical.propDecidable _) (nI n) (p0 k))) ja_x0) 41 [some (.ref (5)), some (.ref (i1)), some (.ref (i2)), some (.int (nI (q))), some (.int (nI (m))), some (.int (nI (i))), some (.int (nI (s))), none] [] Z E 0 0 := by
          intro f41
          induction f41 with
          | zero => intro s m E p v hf hs hi hS hd hd2; exfalso; omega
          | succ f41 ih41 =>
            intro s m E p v hf hs hi hS hd hd2
            have hm := SPR_le hS
            obtain ⟨va, vi1, vi2⟩ := hS.2.2.1 i hi
            refine ja_iload (i := 6) dX3_spread_41 rfl ?_
            refine ja_iconst (v := nI 4) dX3_spread_43 (by decide +kernel) ?_
            refine ja_icmpN_ge (tgt := 135) dX3_spread_44 (by decide) (by omega) (by omega) (fun c44 => ?_) (fun c44 => ?_)
            ·
              refine ja_iincN dX3_spread_135 rfl rfl (Nat.le_of_ble_eq_true rfl) ?_
              refine ja_goto (tgt := 23) dX3_spread_138 (by decide) ?_
              refine ja_forget (i := 6) ?_
              exact ih23 (i + 1) m E p v (by omega) (by omega) hS (fun x hx => if e : x = i then (by have e4 : s = 4 := (by omega); subst e4; rw [e]; exact hd2) else hd x (by omega))
            ·
              refine ja_aload_n (i := 0) dX3_spread_47 rfl rfl ?_
              refine ja_getR fl_X3_24 (zX_o5 hx) rfl (zX_p5_5 hx) dX3_spread_48 ?_
              refine ja_iload (i := 5) dX3_spread_51 rfl ?_
              refine ja_iald (zX_o10 hx) rfl (by omega) (by decide) dX3_spread_53 ?_
              refine ja_top (y := nI (v i)) va ?_
              refine ja_iload (i := 6) dX3_spread_54 rfl ?_
              refine ja_cNr (st := []) (c_nb l (q := v i) (s := s) (by omega) (by omega)) rfl rfl (ce_X7_neighbour 0 0) st_X7_neighbour nk_X3_41 ⟨(Nat.le_of_ble_eq_true rfl), (Nat.le_of_ble_eq_true rfl)⟩ dX3_spread_56 rfl rfl (Nat.le_of_ble_eq_true rfl) (Nat.zero_le _) (Nat.zero_le _) ?_
              refine ja_istore (i := 7) dX3_spread_59 rfl (Nat.le_of_ble_eq_true rfl) ?_
              rcases hnb : nbX s (v i) with _ | j
              ·
                refine ja_iload (i := 7) dX3_spread_61 rfl ?_
                refine ja_iconst (v := (-1)) dX3_spread_63 (by decide +kernel) ?_
                refine ja_icmp_eq (tgt := 129) dX3_spread_64 (by decide) (fun c64 => ?_) (fun c64 => absurd rfl c64)
                refine ja_iincN dX3_spread_129 rfl rfl (Nat.le_of_ble_eq_true rfl) ?_
                refine ja_goto (tgt := 41) dX3_spread_132 (by decide) ?_
                refine ja_forget (i := 7) ?_
                exact ih41 (s + 1) m E p v (by omega) (by omega) (by omega) hS hd (DN_s hd2 (fun j2 hj2 => by rw [hnb] at hj2; cases hj2))
              ·
                have hj := nbX_lt (by omega) hnb
                refine ja_iload (i := 7) dX3_spread_61 rfl ?_
                refine ja_iconst (v := (-1)) dX3_spread_63 (by decide +kernel) ?_
                refine ja_icmp_eq (tgt := 129) dX3_spread_64 (by decide) (fun c64 => absurd c64 (nI_nm1 (by omega))) (fun c64 => ?_)
                refine ja_iload (i := 4) dX3_spread_67 rfl ?_
                refine ja_sipush (v := nI 256) dX3_spread_69 (by decide +kernel) ?_
                refine ja_icmpN_ge (tgt := 129) dX3_spread_72 (by decide) (by omega) (by omega) (fun c72 => ?_) (fun c72 => ?_)
                ·
                  refine ja_iincN dX3_spread_129 rfl rfl (Nat.le_of_ble_eq_true rfl) ?_
                  refine ja_goto (tgt := 41) dX3_spread_132 (by decide) ?_
                  refine ja_forget (i := 7) ?_
                  exact ih41 (s + 1) m E p v (by omega) (by omega) (by omega) hS hd (DN_s hd2 (fun j2 hj2 hr2 => by rw [hnb] at hj2; cases hj2; first | exact SPR_full hS hn (by omega) hj | exact c83 | exact absurd hr2 (fun e => c93 ((hrr j hj).mpr e).1) | exact absurd hr2 (fun e => c103 ((hrr j hj).mpr e).2)))
                ·
                  refine ja_aload_n (i := 0) dX3_spread_75 rfl rfl ?_
                  refine ja_getR fl_X3_21 (zX_o5 hx) rfl (zX_p5_4 hx) dX3_spread_76 ?_
                  refine ja_iload (i := 7) dX3_spread_79 rfl ?_
                  refine ja_iald (zX_o9 hx) rfl (by omega) (by decide) dX3_spread_81 ?_
                  refine ja_top (y := p j) (hS.2.1 j hj) ?_
                  refine ja_iconst (v := (-1)) dX3_spread_82 (by decide +kernel) ?_
                  refine ja_icmp_ne (tgt := 129) dX3_spread_83 (by decide) (fun c83 => ?_) (fun c83 => ?_)
                  ·
                    refine ja_iincN dX3_spread_129 rfl rfl (Nat.le_of_ble_eq_true rfl) ?_
                    refine ja_goto (tgt := 41) dX3_spread_132 (by decide) ?_
                    refine ja_forget (i := 7) ?_
                    exact ih41 (s + 1) m E p v (by omega) (by omega) (by omega) hS hd (DN_s hd2 (fun j2 hj2 hr2 => by rw [hnb] at hj2; cases hj2; first | exact SPR_full hS hn (by omega) hj | exact c83 | exact absurd hr2 (fun e => c93 ((hrr j hj).mpr e).1) | exact absurd hr2 (fun e => c103 ((hrr j hj).mpr e).2)))
                  ·
                    refine ja_aload_n (i := 1) dX3_spread_86 rfl rfl ?_
                    refine ja_iload (i := 7) dX3_spread_87 rfl ?_
                    refine ja_iald hA1 rfl (by omega) (by decide) dX3_spread_89 ?_
                    refine ja_top (y := D i1 j) (hS.1 i1 j (by omega) (by omega)) ?_
                    refine ja_aload_n (i := 1) dX3_spread_90 rfl rfl ?_
                    refine ja_iload_n (i := 3) dX3_spread_91 rfl rfl ?_
                    refine ja_iald hA1 rfl (by omega) (by decide) dX3_spread_92 ?_
                    refine ja_top (y := D i1 q) (hS.1 i1 q (by omega) (by omega)) ?_
                    refine ja_icmp_ne (tgt := 129) dX3_spread_93 (by decide) (fun c93 => ?_) (fun c93 => ?_)
                    ·
                      refine ja_iincN dX3_spread_129 rfl rfl (Nat.le_of_ble_eq_true rfl) ?_
                      refine ja_goto (tgt := 41) dX3_spread_132 (by decide) ?_
                      refine ja_forget (i := 7) ?_
                      exact ih41 (s + 1) m E p v (by omega) (by omega) (by omega) hS hd (DN_s hd2 (fun j2 hj2 hr2 => by rw [hnb] at hj2; cases hj2; first | exact SPR_full hS hn (by omega) hj | exact c83 | exact absurd hr2 (fun e => c93 ((hrr j hj).mpr e).1) | exact absurd hr2 (fun e => c103 ((hrr j hj).mpr e).2)))
                    ·
                      refine ja_aload_n (i := 2) dX3_spread_96 rfl rfl ?_
                      refine ja_iload (i := 7) dX3_spread_97 rfl ?_
                      refine ja_iald hA2 rfl (by omega) (by decide) dX3_spread_99 ?_
                      refine ja_top (y := D i2 j) (hS.1 i2 j (by omega) (by omega)) ?_
                      refine ja_aload_n (i := 2) dX3_spread_100 rfl rfl ?_
                      refine ja_iload_n (i := 3) dX3_spread_101 rfl rfl ?_
                      refine ja_iald hA2 rfl (by omega) (by decide) dX3_spread_102 ?_
                      refine ja_top (y := D i2 q) (hS.1 i2 q (by omega) (by omega)) ?_
                      refine ja_icmp_ne (tgt := 129) dX3_spread_103 (by decide) (fun c103 => ?_) (fun c103 => ?_)
                      ·
                        refine ja_iincN dX3_spread_129 rfl rfl (Nat.le_of_ble_eq_true rfl) ?_
                        refine ja_goto (tgt := 41) dX3_spread_132 (by decide) ?_
                        refine ja_forget (i := 7) ?_
                        exact ih41 (s + 1) m E p v (by omega) (by omega) (by omega) hS hd (DN_s hd2 (fun j2 hj2 hr2 => by rw [hnb] at hj2; cases hj2; first | exact SPR_full hS hn (by omega) hj | exact c83 | exact absurd hr2 (fun e => c93 ((hrr j hj).mpr e).1) | exact absurd hr2 (fun e => c103 ((hrr j hj).mpr e).2)))
                      ·
                        have hs4 : s < 4 := by omega
                        have hrj : r j = r q := (hrr j hj).mp ⟨c93, c103⟩
                        have hpj : p j = -1 := c83
                        refine ja_aload_n (i := 0) dX3_spread_106 rfl rfl ?_
                        refine ja_getR fl_X3_21 (zX_o5 hx) rfl (zX_p5_4 hx) dX3_spread_107 ?_
                        refine ja_iload (i := 7) dX3_spread_110 rfl ?_
                        refine ja_aload_n (i := 0) dX3_spread_112 rfl rfl ?_
                        refine ja_getI fl_X3_27 (zX_o5 hx) rfl dX3_spread_113 ?_
                        refine ja_top (y := nI (n)) ((hS.1 5 3 (by decide) (by decide)).trans h3) ?_
                        refine ja_iast (zX_o9 hx) rfl (by omega) (by decide) dX3_spread_116 ?_
                        refine ja_aload_n (i := 0) dX3_spread_117 rfl rfl ?_
                        refine ja_getR fl_X3_24 (zX_o5 hx) rfl (zX_p5_5 hx) dX3_spread_118 ?_
                        refine ja_iload (i := 4) dX3_spread_121 rfl ?_
                        refine ja_iload (i := 7) dX3_spread_123 rfl ?_
                        refine ja_iast (zX_o10 hx) rfl (by omega) (by decide) dX3_spread_125 ?_
                        refine ja_iincN dX3_spread_126 rfl rfl (Nat.le_of_ble_eq_true rfl) ?_
                        refine ja_iincN dX3_spread_129 rfl rfl (Nat.le_of_ble_eq_true rfl) ?_
                        refine ja_goto (tgt := 41) dX3_spread_132 (by decide) ?_
                        refine ja_forget (i := 7) ?_
                        exact ih41 (s + 1) (m + 1) _ (fup p j (nI n)) (nup v m j) (by omega) (by omega) (by omega) (SPR_s hS h0 hn hs4 vi1 vi2 hnb hrj hpj) (fun x hx => by rw [nup_n (show ¬ x = m by omega)]; exact DN_f hne (hd x hx)) (by rw [nup_n (show ¬ i = m by omega)]; exact DN_s (DN_f hne hd2) (fun j2 hj2 _ => by rw [hnb] at hj2; cases hj2; unfold fup; rw [if_pos rfl]; exact hne))
        exact lp41 5 0 m E p v (by omega) (by omega) (by omega) hS hd DN_0
  exact lp23 257 0 1 _ _ _ (by omega) (by omega) (SPR_0 hq hp h0) (fun x hx => absurd hx (Nat.not_lt_zero x))
