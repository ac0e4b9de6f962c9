/-! THE CLASS: the coarser map -/
def jBk (b : Nat → Nat → Nat) (S I k i j : Nat) : Nat :=
  if (i = S ∧ j < k) ∨ (j = S ∧ i < k) then 0 else if i = I ∧ j < k ∧ ¬ j = I ∧ ¬ j = S then b I j + b S j else if j = I ∧ i < k ∧ ¬ i = I ∧ ¬ i = S then b I i + b S i else b i j
theorem jB_0 {b : Nat → Nat → Nat} {S I : Nat} : b = jBk b S I 0 := by
  funext i j
  unfold jBk
  rw [if_neg (by omega), if_neg (by omega), if_neg (by omega)]
theorem jB_s1 {b : Nat → Nat → Nat} {S I k : Nat} (h : k = S ∨ k = I) : bup (bup (jBk b S I k) S k 0) k S 0 = jBk b S I (k + 1) := by
  funext i j
  simp only [bup, jBk]
  grind (splits := 30)
theorem jB_s2 {b : Nat → Nat → Nat} {S I k : Nat} (hSI : ¬ S = I) (h1 : ¬ k = S) (h2 : ¬ k = I) : bup (bup (bup (bup (jBk b S I k) I k (jBk b S I k I k + jBk b S I k S k)) k I (bup (jBk b S I k) I k (jBk b S I k I k + jBk b S I k S k) I k)) S k 0) k S 0 = jBk b S I (k + 1) := by
  funext i j
  simp only [bup, jBk]
  grind (splits := 40)
def sJk (s : Nat → Nat) (S I k : Nat) : Nat → Nat := fun a => if a < k ∧ s a = S then I else s a
theorem sJ_0 {s : Nat → Nat} {S I : Nat} : s = sJk s S I 0 := funext fun a => (if_neg (by omega)).symm
theorem sJ_k {s : Nat → Nat} {S I k : Nat} : sJk s S I k k = s k := if_neg (by omega)
theorem sJ_y {s : Nat → Nat} {S I k : Nat} (h : s k = S) : nup (sJk s S I k) k I = sJk s S I (k + 1) := by
  funext a
  simp only [nup, sJk]
  grind
theorem sJ_n {s : Nat → Nat} {S I k : Nat} (h : ¬ s k = S) : sJk s S I k = sJk s S I (k + 1) := by
  funext a
  simp only [sJk]
  grind

set_option maxRecDepth 100000 in
set_option maxHeartbeats 4000000 in
theorem c_join (l : Launch) {Z : jZ} {D : jD} (hx : zX Z) {s z : Nat → Nat} {b : Nat → Nat → Nat} (hs : ∀ a, a < 10 → s a < 10) {S I : Nat} (hS : S < 10) (hI : I < 10) (hSI : ¬ S = I) : ja_M l (mX0_join 0 0) [.ref (13), .int (nI (S)), .int (nI (I))] Z (cmU D s z b) (ja_jd none Z (fun D2 => D2 = cmU D (sJk s S I 10) (nup (nup z I (z I + z S)) S 0) (jBk b S I 10))) ja_x0 := by
  refine ja_Mof (lv := [some (.ref (13)), some (.int (nI (S))), some (.int (nI (I))), none]) (by decide +kernel) rfl rfl (Nat.le_of_ble_eq_true rfl) rfl ?_
  refine ja_aload_n (i := 0) dX0_join_0 rfl rfl ?_
  refine ja_getR fl_X0_15 (zX_o13 hx) rfl (zX_p13_1 hx) dX0_join_1 ?_
  refine ja_iload_n (i := 2) dX0_join_4 rfl rfl ?_
  refine ja_dup2 dX0_join_5 rfl rfl ?_
  refine ja_iald (zX_o15 hx) rfl (by omega) (by decide) dX0_join_6 ?_
  refine ja_top (y := nI (z I)) (cmU_z hI) ?_
  refine ja_aload_n (i := 0) dX0_join_7 rfl rfl ?_
  refine ja_getR fl_X0_15 (zX_o13 hx) rfl (zX_p13_1 hx) dX0_join_8 ?_
  refine ja_iload_n (i := 1) dX0_join_11 rfl rfl ?_
  refine ja_iald (zX_o15 hx) rfl (by omega) (by decide) dX0_join_12 ?_
  refine ja_top (y := nI (z S)) (cmU_z hS) ?_
  refine ja_iaddN dX0_join_13 ?_
  refine ja_iast (zX_o15 hx) rfl (by omega) (by decide) dX0_join_14 ?_
  refine ja_num (cmU_zs hI) ?_
  refine ja_aload_n (i := 0) dX0_join_15 rfl rfl ?_
  refine ja_getR fl_X0_15 (zX_o13 hx) rfl (zX_p13_1 hx) dX0_join_16 ?_
  refine ja_iload_n (i := 1) dX0_join_19 rfl rfl ?_
  refine ja_iconst (v := nI 0) dX0_join_20 (by decide +kernel) ?_
  refine ja_iast (zX_o15 hx) rfl (by omega) (by decide) dX0_join_21 ?_
  refine ja_num (cmU_zs (x := 0) hS) ?_
  refine ja_iconst (v := nI 0) dX0_join_22 (by decide +kernel) ?_
  refine ja_istore_n (i := 3) dX0_join_23 rfl rfl (Nat.le_of_ble_eq_true rfl) ?_
  have lp24 : ∀ (f24 : Nat) (k : Nat) (s1 : Nat → Nat) (B : Nat → Nat → Nat), (10 < k + f24) → (k ≤ 10) → (s1 = sJk s S I k) → (B = jBk b S I k) → ja_A l (mX0_join 0 0) ja_sn (ja_Qf (mX0_join 0 0) (ja_jd none Z (fun D2 => D2 = cmU D (sJk s S I 10) (nup (nup z I (z I + z S)) S 0) (jBk b S I 10))) ja_x0) 24 [some (.ref (13)), some (.int (nI (S))), some (.int (nI (I))), some (.int (nI (k)))] [] Z (cmU D s1 (nup (nup z I (z I + z S)) S 0) B) 0 0 := by
    intro f24
    induction f24 with
    | zero => intro k s1 B hf hk hs1 hB; exfalso; omega
    | succ f24 ih24 =>
      intro k s1 B hf hk hs1 hB
      refine ja_iload_n (i := 3) dX0_join_24 rfl rfl ?_
      refine ja_bipush (v := nI 10) dX0_join_25 (by decide +kernel) ?_
      refine ja_icmpN_ge (tgt := 116) dX0_join_27 (by decide) (by omega) (by omega) (fun c27 => ?_) (fun c27 => ?_)
      ·
        refine ja_vret rfl dX0_join_116 (Nat.zero_le _) (Nat.zero_le _) ?_
        exact ⟨rfl, rfl, by rw [hs1, hB, show k = 10 by omega]⟩
      ·
        have hsk : s1 k < 10 := by rw [hs1, sJ_k]; exact hs k (by omega)
        refine ja_aload_n (i := 0) dX0_join_30 rfl rfl ?_
        refine ja_getR fl_X0_9 (zX_o13 hx) rfl (zX_p13_0 hx) dX0_join_31 ?_
        refine ja_iload_n (i := 3) dX0_join_34 rfl rfl ?_
        refine ja_iald (zX_o14 hx) rfl (by omega) (by decide) dX0_join_35 ?_
        refine ja_top (y := nI (s1 k)) (cmU_s (by omega)) ?_
        refine ja_iload_n (i := 1) dX0_join_36 rfl rfl ?_
        refine ja_icmpN_ne (tgt := 47) dX0_join_37 (by decide) (by omega) (by omega) (fun c37 => ?_) (fun c37 => ?_)
        ·
          refine ja_iload_n (i := 3) dX0_join_47 rfl rfl ?_
          refine ja_iload_n (i := 1) dX0_join_48 rfl rfl ?_
          refine ja_icmpN_eq (tgt := 92) dX0_join_49 (by decide) (by omega) (by omega) (fun c49 => ?_) (fun c49 => ?_)
          ·
            refine ja_aload_n (i := 0) dX0_join_92 rfl rfl ?_
            refine ja_getR fl_X0_20 (zX_o13 hx) rfl (zX_p13_2 hx) dX0_join_93 ?_
            refine ja_iload_n (i := 1) dX0_join_96 rfl rfl ?_
            refine ja_aald (zX_o16 hx) (by decide) rfl (by omega) (by decide) (zC_e hx (c := S) (by omega)) dX0_join_97 ?_
            refine ja_iload_n (i := 3) dX0_join_98 rfl rfl ?_
            refine ja_iconst (v := nI 0) dX0_join_99 (by decide +kernel) ?_
            refine ja_iast (zC_o hx (c := S) (by omega)) rfl (by omega) (by decide) dX0_join_100 ?_
            refine ja_num (cmU_bs (x := 0) (by omega) (by omega)) ?_
            refine ja_aload_n (i := 0) dX0_join_101 rfl rfl ?_
            refine ja_getR fl_X0_20 (zX_o13 hx) rfl (zX_p13_2 hx) dX0_join_102 ?_
            refine ja_iload_n (i := 3) dX0_join_105 rfl rfl ?_
            refine ja_aald (zX_o16 hx) (by decide) rfl (by omega) (by decide) (zC_e hx (c := k) (by omega)) dX0_join_106 ?_
            refine ja_iload_n (i := 1) dX0_join_107 rfl rfl ?_
            refine ja_iconst (v := nI 0) dX0_join_108 (by decide +kernel) ?_
            refine ja_iast (zC_o hx (c := k) (by omega)) rfl (by omega) (by decide) dX0_join_109 ?_
            refine ja_num (cmU_bs (x := 0) (by omega) (by omega)) ?_
            refine ja_iincN dX0_join_110 rfl rfl (Nat.le_of_ble_eq_true rfl) ?_
            refine ja_goto (tgt := 24) dX0_join_113 (by decide) ?_
            exact ih24 (k + 1) _ _ (by omega) (by omega) (by rw [hs1]; exact sJ_n (by rw [hs1, sJ_k] at c37; exact c37)) (by rw [hB]; exact jB_s1 (by omega))
          ·
            refine ja_iload_n (i := 3) dX0_join_52 rfl rfl ?_
            refine ja_iload_n (i := 2) dX0_join_53 rfl rfl ?_
            refine ja_icmpN_eq (tgt := 92) dX0_join_54 (by decide) (by omega) (by omega) (fun c54 => ?_) (fun c54 => ?_)
            ·
              refine ja_aload_n (i := 0) dX0_join_92 rfl rfl ?_
              refine ja_getR fl_X0_20 (zX_o13 hx) rfl (zX_p13_2 hx) dX0_join_93 ?_
              refine ja_iload_n (i := 1) dX0_join_96 rfl rfl ?_
              refine ja_aald (zX_o16 hx) (by decide) rfl (by omega) (by decide) (zC_e hx (c := S) (by omega)) dX0_join_97 ?_
              refine ja_iload_n (i := 3) dX0_join_98 rfl rfl ?_
              refine ja_iconst (v := nI 0) dX0_join_99 (by decide +kernel) ?_
              refine ja_iast (zC_o hx (c := S) (by omega)) rfl (by omega) (by decide) dX0_join_100 ?_
              refine ja_num (cmU_bs (x := 0) (by omega) (by omega)) ?_
              refine ja_aload_n (i := 0) dX0_join_101 rfl rfl ?_
              refine ja_getR fl_X0_20 (zX_o13 hx) rfl (zX_p13_2 hx) dX0_join_102 ?_
              refine ja_iload_n (i := 3) dX0_join_105 rfl rfl ?_
              refine ja_aald (zX_o16 hx) (by decide) rfl (by omega) (by decide) (zC_e hx (c := k) (by omega)) dX0_join_106 ?_
              refine ja_iload_n (i := 1) dX0_join_107 rfl rfl ?_
              refine ja_iconst (v := nI 0) dX0_join_108 (by decide +kernel) ?_
              refine ja_iast (zC_o hx (c := k) (by omega)) rfl (by omega) (by decide) dX0_join_109 ?_
              refine ja_num (cmU_bs (x := 0) (by omega) (by omega)) ?_
              refine ja_iincN dX0_join_110 rfl rfl (Nat.le_of_ble_eq_true rfl) ?_
              refine ja_goto (tgt := 24) dX0_join_113 (by decide) ?_
              exact ih24 (k + 1) _ _ (by omega) (by omega) (by rw [hs1]; exact sJ_n (by rw [hs1, sJ_k] at c37; exact c37)) (by rw [hB]; exact jB_s1 (by omega))
            ·
              refine ja_aload_n (i := 0) dX0_join_57 rfl rfl ?_
              refine ja_getR fl_X0_20 (zX_o13 hx) rfl (zX_p13_2 hx) dX0_join_58 ?_
              refine ja_iload_n (i := 2) dX0_join_61 rfl rfl ?_
              refine ja_aald (zX_o16 hx) (by decide) rfl (by omega) (by decide) (zC_e hx (c := I) (by omega)) dX0_join_62 ?_
              refine ja_iload_n (i := 3) dX0_join_63 rfl rfl ?_
              refine ja_dup2 dX0_join_64 rfl rfl ?_
              refine ja_iald (zC_o hx (c := I) (by omega)) rfl (by omega) (by decide) dX0_join_65 ?_
              refine ja_top (y := nI (B I k)) (cmU_b (by omega) (by omega)) ?_
              refine ja_aload_n (i := 0) dX0_join_66 rfl rfl ?_
              refine ja_getR fl_X0_20 (zX_o13 hx) rfl (zX_p13_2 hx) dX0_join_67 ?_
              refine ja_iload_n (i := 1) dX0_join_70 rfl rfl ?_
              refine ja_aald (zX_o16 hx) (by decide) rfl (by omega) (by decide) (zC_e hx (c := S) (by omega)) dX0_join_71 ?_
              refine ja_iload_n (i := 3) dX0_join_72 rfl rfl ?_
              refine ja_iald (zC_o hx (c := S) (by omega)) rfl (by omega) (by decide) dX0_join_73 ?_
              refine ja_top (y := nI (B S k)) (cmU_b (by omega) (by omega)) ?_
              refine ja_iaddN dX0_join_74 ?_
              refine ja_iast (zC_o hx (c := I) (by omega)) rfl (by omega) (by decide) dX0_join_75 ?_
              refine ja_num (cmU_bs (x := B I k + B S k) (by omega) (by omega)) ?_
              refine ja_aload_n (i := 0) dX0_join_76 rfl rfl ?_
              refine ja_getR fl_X0_20 (zX_o13 hx) rfl (zX_p13_2 hx) dX0_join_77 ?_
              refine ja_iload_n (i := 3) dX0_join_80 rfl rfl ?_
              refine ja_aald (zX_o16 hx) (by decide) rfl (by omega) (by decide) (zC_e hx (c := k) (by omega)) dX0_join_81 ?_
              refine ja_iload_n (i := 2) dX0_join_82 rfl rfl ?_
              refine ja_aload_n (i := 0) dX0_join_83 rfl rfl ?_
              refine ja_getR fl_X0_20 (zX_o13 hx) rfl (zX_p13_2 hx) dX0_join_84 ?_
              refine ja_iload_n (i := 2) dX0_join_87 rfl rfl ?_
              refine ja_aald (zX_o16 hx) (by decide) rfl (by omega) (by decide) (zC_e hx (c := I) (by omega)) dX0_join_88 ?_
              refine ja_iload_n (i := 3) dX0_join_89 rfl rfl ?_
              refine ja_iald (zC_o hx (c := I) (by omega)) rfl (by omega) (by decide) dX0_join_90 ?_
              refine ja_top (y := nI ((bup B I k (B I k + B S k)) I k)) (cmU_b (by omega) (by omega)) ?_
              refine ja_iast (zC_o hx (c := k) (by omega)) rfl (by omega) (by decide) dX0_join_91 ?_
              refine ja_num (cmU_bs (x := (bup B I k (B I k + B S k)) I k) (by omega) (by omega)) ?_
              refine ja_aload_n (i := 0) dX0_join_92 rfl rfl ?_
              refine ja_getR fl_X0_20 (zX_o13 hx) rfl (zX_p13_2 hx) dX0_join_93 ?_
              refine ja_iload_n (i := 1) dX0_join_96 rfl rfl ?_
              refine ja_aald (zX_o16 hx) (by decide) rfl (by omega) (by decide) (zC_e hx (c := S) (by omega)) dX0_join_97 ?_
              refine ja_iload_n (i := 3) dX0_join_98 rfl rfl ?_
              refine ja_iconst (v := nI 0) dX0_join_99 (by decide +kernel) ?_
              refine ja_iast (zC_o hx (c := S) (by omega)) rfl (by omega) (by decide) dX0_join_100 ?_
              refine ja_num (cmU_bs (x := 0) (by omega) (by omega)) ?_
              refine ja_aload_n (i := 0) dX0_join_101 rfl rfl ?_
              refine ja_getR fl_X0_20 (zX_o13 hx) rfl (zX_p13_2 hx) dX0_join_102 ?_
              refine ja_iload_n (i := 3) dX0_join_105 rfl rfl ?_
              refine ja_aald (zX_o16 hx) (by decide) rfl (by omega) (by decide) (zC_e hx (c := k) (by omega)) dX0_join_106 ?_
              refine ja_iload_n (i := 1) dX0_join_107 rfl rfl ?_
              refine ja_iconst (v := nI 0) dX0_join_108 (by decide +kernel) ?_
              refine ja_iast (zC_o hx (c := k) (by omega)) rfl (by omega) (by decide) dX0_join_109 ?_
              refine ja_num (cmU_bs (x := 0) (by omega) (by omega)) ?_
              refine ja_iincN dX0_join_110 rfl rfl (Nat.le_of_ble_eq_true rfl) ?_
              refine ja_goto (tgt := 24) dX0_join_113 (by decide) ?_
              exact ih24 (k + 1) _ _ (by omega) (by omega) (by rw [hs1]; exact sJ_n (by rw [hs1, sJ_k] at c37; exact c37)) (by rw [hB]; exact jB_s2 hSI (by omega) (by omega))
        ·
          refine ja_aload_n (i := 0) dX0_join_40 rfl rfl ?_
          refine ja_getR fl_X0_9 (zX_o13 hx) rfl (zX_p13_0 hx) dX0_join_41 ?_
          refine ja_iload_n (i := 3) dX0_join_44 rfl rfl ?_
          refine ja_iload_n (i := 2) dX0_join_45 rfl rfl ?_
          refine ja_iast (zX_o14 hx) rfl (by omega) (by decide) dX0_join_46 ?_
          refine ja_num (cmU_ss (by omega)) ?_
          refine ja_iload_n (i := 3) dX0_join_47 rfl rfl ?_
          refine ja_iload_n (i := 1) dX0_join_48 rfl rfl ?_
          refine ja_icmpN_eq (tgt := 92) dX0_join_49 (by decide) (by omega) (by omega) (fun c49 => ?_) (fun c49 => ?_)
          ·
            refine ja_aload_n (i := 0) dX0_join_92 rfl rfl ?_
            refine ja_getR fl_X0_20 (zX_o13 hx) rfl (zX_p13_2 hx) dX0_join_93 ?_
            refine ja_iload_n (i := 1) dX0_join_96 rfl rfl ?_
            refine ja_aald (zX_o16 hx) (by decide) rfl (by omega) (by decide) (zC_e hx (c := S) (by omega)) dX0_join_97 ?_
            refine ja_iload_n (i := 3) dX0_join_98 rfl rfl ?_
            refine ja_iconst (v := nI 0) dX0_join_99 (by decide +kernel) ?_
            refine ja_iast (zC_o hx (c := S) (by omega)) rfl (by omega) (by decide) dX0_join_100 ?_
            refine ja_num (cmU_bs (x := 0) (by omega) (by omega)) ?_
            refine ja_aload_n (i := 0) dX0_join_101 rfl rfl ?_
            refine ja_getR fl_X0_20 (zX_o13 hx) rfl (zX_p13_2 hx) dX0_join_102 ?_
            refine ja_iload_n (i := 3) dX0_join_105 rfl rfl ?_
            refine ja_aald (zX_o16 hx) (by decide) rfl (by omega) (by decide) (zC_e hx (c := k) (by omega)) dX0_join_106 ?_
            refine ja_iload_n (i := 1) dX0_join_107 rfl rfl ?_
            refine ja_iconst (v := nI 0) dX0_join_108 (by decide +kernel) ?_
            refine ja_iast (zC_o hx (c := k) (by omega)) rfl (by omega) (by decide) dX0_join_109 ?_
            refine ja_num (cmU_bs (x := 0) (by omega) (by omega)) ?_
            refine ja_iincN dX0_join_110 rfl rfl (Nat.le_of_ble_eq_true rfl) ?_
            refine ja_goto (tgt := 24) dX0_join_113 (by decide) ?_
            exact ih24 (k + 1) _ _ (by omega) (by omega) (by rw [hs1]; exact sJ_y (by rw [hs1, sJ_k] at c37; exact c37)) (by rw [hB]; exact jB_s1 (by omega))
          ·
            refine ja_iload_n (i := 3) dX0_join_52 rfl rfl ?_
            refine ja_iload_n (i := 2) dX0_join_53 rfl rfl ?_
            refine ja_icmpN_eq (tgt := 92) dX0_join_54 (by decide) (by omega) (by omega) (fun c54 => ?_) (fun c54 => ?_)
            ·
              refine ja_aload_n (i := 0) dX0_join_92 rfl rfl ?_
              refine ja_getR fl_X0_20 (zX_o13 hx) rfl (zX_p13_2 hx) dX0_join_93 ?_
              refine ja_iload_n (i := 1) dX0_join_96 rfl rfl ?_
              refine ja_aald (zX_o16 hx) (by decide) rfl (by omega) (by decide) (zC_e hx (c := S) (by omega)) dX0_join_97 ?_
              refine ja_iload_n (i := 3) dX0_join_98 rfl rfl ?_
              refine ja_iconst (v := nI 0) dX0_join_99 (by decide +kernel) ?_
              refine ja_iast (zC_o hx (c := S) (by omega)) rfl (by omega) (by decide) dX0_join_100 ?_
              refine ja_num (cmU_bs (x := 0) (by omega) (by omega)) ?_
              refine ja_aload_n (i := 0) dX0_join_101 rfl rfl ?_
              refine ja_getR fl_X0_20 (zX_o13 hx) rfl (zX_p13_2 hx) dX0_join_102 ?_
              refine ja_iload_n (i := 3) dX0_join_105 rfl rfl ?_
              refine ja_aald (zX_o16 hx) (by decide) rfl (by omega) (by decide) (zC_e hx (c := k) (by omega)) dX0_join_106 ?_
              refine ja_iload_n (i := 1) dX0_join_107 rfl rfl ?_
              refine ja_iconst (v := nI 0) dX0_join_108 (by decide +kernel) ?_
              refine ja_iast (zC_o hx (c := k) (by omega)) rfl (by omega) (by decide) dX0_join_109 ?_
              refine ja_num (cmU_bs (x := 0) (by omega) (by omega)) ?_
              refine ja_iincN dX0_join_110 rfl rfl (Nat.le_of_ble_eq_true rfl) ?_
              refine ja_goto (tgt := 24) dX0_join_113 (by decide) ?_
              exact ih24 (k + 1) _ _ (by omega) (by omega) (by rw [hs1]; exact sJ_y (by rw [hs1, sJ_k] at c37; exact c37)) (by rw [hB]; exact jB_s1 (by omega))
            ·
              refine ja_aload_n (i := 0) dX0_join_57 rfl rfl ?_
              refine ja_getR fl_X0_20 (zX_o13 hx) rfl (zX_p13_2 hx) dX0_join_58 ?_
              refine ja_iload_n (i := 2) dX0_join_61 rfl rfl ?_
              refine ja_aald (zX_o16 hx) (by decide) rfl (by omega) (by decide) (zC_e hx (c := I) (by omega)) dX0_join_62 ?_
              refine ja_iload_n (i := 3) dX0_join_63 rfl rfl ?_
              refine ja_dup2 dX0_join_64 rfl rfl ?_
              refine ja_iald (zC_o hx (c := I) (by omega)) rfl (by omega) (by decide) dX0_join_65 ?_
              refine ja_top (y := nI (B I k)) (cmU_b (by omega) (by omega)) ?_
              refine ja_aload_n (i := 0) dX0_join_66 rfl rfl ?_
              refine ja_getR fl_X0_20 (zX_o13 hx) rfl (zX_p13_2 hx) dX0_join_67 ?_
              refine ja_iload_n (i := 1) dX0_join_70 rfl rfl ?_
              refine ja_aald (zX_o16 hx) (by decide) rfl (by omega) (by decide) (zC_e hx (c := S) (by omega)) dX0_join_71 ?_
              refine ja_iload_n (i := 3) dX0_join_72 rfl rfl ?_
              refine ja_iald (zC_o hx (c := S) (by omega)) rfl (by omega) (by decide) dX0_join_73 ?_
              refine ja_top (y := nI (B S k)) (cmU_b (by omega) (by omega)) ?_
              refine ja_iaddN dX0_join_74 ?_
              refine ja_iast (zC_o hx (c := I) (by omega)) rfl (by omega) (by decide) dX0_join_75 ?_
              refine ja_num (cmU_bs (x := B I k + B S k) (by omega) (by omega)) ?_
              refine ja_aload_n (i := 0) dX0_join_76 rfl rfl ?_
              refine ja_getR fl_X0_20 (zX_o13 hx) rfl (zX_p13_2 hx) dX0_join_77 ?_
              refine ja_iload_n (i := 3) dX0_join_80 rfl rfl ?_
              refine ja_aald (zX_o16 hx) (by decide) rfl (by omega) (by decide) (zC_e hx (c := k) (by omega)) dX0_join_81 ?_
              refine ja_iload_n (i := 2) dX0_join_82 rfl rfl ?_
              refine ja_aload_n (i := 0) dX0_join_83 rfl rfl ?_
              refine ja_getR fl_X0_20 (zX_o13 hx) rfl (zX_p13_2 hx) dX0_join_84 ?_
              refine ja_iload_n (i := 2) dX0_join_87 rfl rfl ?_
              refine ja_aald (zX_o16 hx) (by decide) rfl (by omega) (by decide) (zC_e hx (c := I) (by omega)) dX0_join_88 ?_
              refine ja_iload_n (i := 3) dX0_join_89 rfl rfl ?_
              refine ja_iald (zC_o hx (c := I) (by omega)) rfl (by omega) (by decide) dX0_join_90 ?_
              refine ja_top (y := nI ((bup B I k (B I k + B S k)) I k)) (cmU_b (by omega) (by omega)) ?_
              refine ja_iast (zC_o hx (c := k) (by omega)) rfl (by omega) (by decide) dX0_join_91 ?_
              refine ja_num (cmU_bs (x := (bup B I k (B I k + B S k)) I k) (by omega) (by omega)) ?_
              refine ja_aload_n (i := 0) dX0_join_92 rfl rfl ?_
              refine ja_getR fl_X0_20 (zX_o13 hx) rfl (zX_p13_2 hx) dX0_join_93 ?_
              refine ja_iload_n (i := 1) dX0_join_96 rfl rfl ?_
              refine ja_aald (zX_o16 hx) (by decide) rfl (by omega) (by decide) (zC_e hx (c := S) (by omega)) dX0_join_97 ?_
              refine ja_iload_n (i := 3) dX0_join_98 rfl rfl ?_
              refine ja_iconst (v := nI 0) dX0_join_99 (by decide +kernel) ?_
              refine ja_iast (zC_o hx (c := S) (by omega)) rfl (by omega) (by decide) dX0_join_100 ?_
              refine ja_num (cmU_bs (x := 0) (by omega) (by omega)) ?_
              refine ja_aload_n (i := 0) dX0_join_101 rfl rfl ?_
              refine ja_getR fl_X0_20 (zX_o13 hx) rfl (zX_p13_2 hx) dX0_join_102 ?_
              refine ja_iload_n (i := 3) dX0_join_105 rfl rfl ?_
              refine ja_aald (zX_o16 hx) (by decide) rfl (by omega) (by decide) (zC_e hx (c := k) (by omega)) dX0_join_106 ?_
              refine ja_iload_n (i := 1) dX0_join_107 rfl rfl ?_
              refine ja_iconst (v := nI 0) dX0_join_108 (by decide +kernel) ?_
              refine ja_iast (zC_o hx (c := k) (by omega)) rfl (by omega) (by decide) dX0_join_109 ?_
              refine ja_num (cmU_bs (x := 0) (by omega) (by omega)) ?_
              refine ja_iincN dX0_join_110 rfl rfl (Nat.le_of_ble_eq_true rfl) ?_
              refine ja_goto (tgt := 24) dX0_join_113 (by decide) ?_
              exact ih24 (k + 1) _ _ (by omega) (by omega) (by rw [hs1]; exact sJ_y (by rw [hs1, sJ_k] at c37; exact c37)) (by rw [hB]; exact jB_s2 hSI (by omega) (by omega))
  exact lp24 11 0 s b (by omega) (by omega) sJ_0 jB_0
