/-! THE CLASS: steps, 2 -/
def sq0 (D : jD) (ly : Nat) (a : Int32) (t : Nat → Nat) (q : Nat) : Nat → Nat := fun k => if k = q then (if D (31 + 10 * ly) q = a then 0 else 1000) else t k
/-- there: the squares below n -/
def ms1 (D : jD) (ly : Nat) (a : Int32) : Nat → (Nat → Nat) → Nat → Nat
  | 0, t => t
  | q + 1, t => sfr (sfr (sq0 D ly a (ms1 D ly a q t) q) q 2) q 3
/-- and back: the squares from 255 down, n of them -/
def ms2 (t : Nat → Nat) : Nat → Nat → Nat
  | 0 => t
  | n + 1 => sfr (sfr (ms2 t n) (255 - n) 0) (255 - n) 1

set_option maxRecDepth 100000 in
set_option maxHeartbeats 4000000 in
theorem c_squaresWithin (l : Launch) {Z : jZ} {D : jD} (hx : zX Z) {t : Nat → Nat} (ht : ∀ k, k < 256 → t k ≤ 1000) {w : Nat} (hw : w ≤ 30) : ja_M l (mX5_squaresWithin 0 0) [.ref (11), .int (nI (w))] Z (stU D t) (ja_jr (some (.int (nI (fb_ct (fun q => decide (0 < t q) && decide (t q ≤ w)) 256)))) Z (stU D t)) ja_x0 := by
  refine ja_Mof (lv := [some (.ref (11)), some (.int (nI (w))), none, none]) (by decide +kernel) rfl rfl (Nat.le_of_ble_eq_true rfl) rfl ?_
  refine ja_iconst (v := nI 0) dX5_squaresWithin_0 (by decide +kernel) ?_
  refine ja_istore_n (i := 2) dX5_squaresWithin_1 rfl rfl (Nat.le_of_ble_eq_true rfl) ?_
  refine ja_iconst (v := nI 0) dX5_squaresWithin_2 (by decide +kernel) ?_
  refine ja_istore_n (i := 3) dX5_squaresWithin_3 rfl rfl (Nat.le_of_ble_eq_true rfl) ?_
  have lp4 : ∀ (f4 : Nat) (q n : Nat), (256 < q + f4) → (q ≤ 256) → (n = fb_ct (fun q => decide (0 < t q) && decide (t q ≤ w)) q) → ja_A l (mX5_squaresWithin 0 0) ja_sn (ja_Qf (mX5_squaresWithin 0 0) (ja_jr (some (.int (nI (fb_ct (fun q => decide (0 < t q) && decide (t q ≤ w)) 256)))) Z (stU D t)) ja_x0) 4 [some (.ref (11)), some (.int (nI (w))), some (.int (nI (n))), some (.int (nI (q)))] [] Z (stU D t) 0 0 := by
    intro f4
    induction f4 with
    | zero => intro q n hf hq hn; exfalso; omega
    | succ f4 ih4 =>
      intro q n hf hq hn
      refine ja_iload_n (i := 3) dX5_squaresWithin_4 rfl rfl ?_
      refine ja_sipush (v := nI 256) dX5_squaresWithin_5 (by decide +kernel) ?_
      refine ja_icmpN_ge (tgt := 39) dX5_squaresWithin_8 (by decide) (by omega) (by omega) (fun c8 => ?_) (fun c8 => ?_)
      ·
        refine ja_iload_n (i := 2) dX5_squaresWithin_39 rfl rfl ?_
        refine ja_iret rfl rfl dX5_squaresWithin_40 (Nat.zero_le _) (Nat.zero_le _) ?_
        exact ⟨by rw [hn, show q = 256 by omega], rfl, rfl⟩
      ·
        have t1 := ht q (by omega)
        refine ja_aload_n (i := 0) dX5_squaresWithin_11 rfl rfl ?_
        refine ja_getR fl_X5_9 (zX_o11 hx) rfl (zX_p11_0 hx) dX5_squaresWithin_12 ?_
        refine ja_iload_n (i := 3) dX5_squaresWithin_15 rfl rfl ?_
        refine ja_iald (zX_o12 hx) rfl (by omega) (by decide) dX5_squaresWithin_16 ?_
        refine ja_top (y := nI (t q)) (stU_i (by omega)) ?_
        refine ja_ifN_le (tgt := 33) dX5_squaresWithin_17 (by decide) (by omega) (fun c17 => ?_) (fun c17 => ?_)
        ·
          refine ja_iincN dX5_squaresWithin_33 rfl rfl (Nat.le_of_ble_eq_true rfl) ?_
          refine ja_goto (tgt := 4) dX5_squaresWithin_36 (by decide) ?_
          exact ih4 (q + 1) _ (by omega) (by omega) (by rw [hn, fb_ct_succ]; first | (rw [decide_eq_false (show ¬ 0 < t q by omega)]; rfl) | (rw [decide_eq_false (show ¬ t q ≤ w by omega), Bool.and_false]; rfl))
        ·
          refine ja_aload_n (i := 0) dX5_squaresWithin_20 rfl rfl ?_
          refine ja_getR fl_X5_9 (zX_o11 hx) rfl (zX_p11_0 hx) dX5_squaresWithin_21 ?_
          refine ja_iload_n (i := 3) dX5_squaresWithin_24 rfl rfl ?_
          refine ja_iald (zX_o12 hx) rfl (by omega) (by decide) dX5_squaresWithin_25 ?_
          refine ja_top (y := nI (t q)) (stU_i (by omega)) ?_
          refine ja_iload_n (i := 1) dX5_squaresWithin_26 rfl rfl ?_
          refine ja_icmpN_gt (tgt := 33) dX5_squaresWithin_27 (by decide) (by omega) (by omega) (fun c27 => ?_) (fun c27 => ?_)
          ·
            refine ja_iincN dX5_squaresWithin_33 rfl rfl (Nat.le_of_ble_eq_true rfl) ?_
            refine ja_goto (tgt := 4) dX5_squaresWithin_36 (by decide) ?_
            exact ih4 (q + 1) _ (by omega) (by omega) (by rw [hn, fb_ct_succ]; first | (rw [decide_eq_false (show ¬ 0 < t q by omega)]; rfl) | (rw [decide_eq_false (show ¬ t q ≤ w by omega), Bool.and_false]; rfl))
          ·
            refine ja_iincN dX5_squaresWithin_30 rfl rfl (Nat.le_of_ble_eq_true rfl) ?_
            refine ja_iincN dX5_squaresWithin_33 rfl rfl (Nat.le_of_ble_eq_true rfl) ?_
            refine ja_goto (tgt := 4) dX5_squaresWithin_36 (by decide) ?_
            exact ih4 (q + 1) _ (by omega) (by omega) (by rw [hn, fb_ct_succ, decide_eq_true (show 0 < t q by omega), decide_eq_true (show t q ≤ w by omega)]; rfl)
  exact lp4 257 0 0 (by omega) (by omega) rfl
