/-! THE CLASS: an edit, its end -/
/-- a contract, its ends weakened -/
theorem ja_Mw {l : Launch} {M : jM} {av : List Value} {Z : jZ} {D : jD} {kr kr2 : Option Value → jZ → jD → Prop} {kx kx2 : String → jZ → jD → Prop} (h : ja_M l M av Z D kr kx) (hr : ∀ v Z2 D2, kr v Z2 D2 → kr2 v Z2 D2) (hx : ∀ E Z2 D2, kx E Z2 D2 → kx2 E Z2 D2) : ja_M l M av Z D kr2 kx2 := by
  intro G tc ad sz p e ha hc hk s m args below hf happ hP hK
  obtain ⟨n, o, h1, h2, h3, h4⟩ := h G tc ad sz p e ha hc hk s m args below hf happ hP hK
  refine ⟨n, o, h1, h2, h3, ?_⟩
  rcases h4 with ⟨⟨⟨v, Z2, D2, ad2, q1, q2, q3⟩, q4⟩, q5⟩ | ⟨q, eo, E, ce, L, ⟨⟨Z2, D2, ad2, q1, q2⟩, q3⟩, q4⟩
  · exact Or.inl ⟨⟨⟨v, Z2, D2, ad2, q1, hr _ _ _ q2, q3⟩, q4⟩, q5⟩
  · exact Or.inr ⟨q, eo, E, ce, L, ⟨⟨Z2, D2, ad2, hx _ _ _ q1, q2⟩, q3⟩, q4⟩
theorem ja_Mrd {l : Launch} {M : jM} {av : List Value} {Z : jZ} {D : jD} {v : Option Value} {φ : jD → Prop} {kx : String → jZ → jD → Prop} (h : ja_M l M av Z D (ja_jr v Z D) kx) (hp : φ D) : ja_M l M av Z D (ja_jd v Z φ) kx :=
  ja_Mw h (fun _ _ _ q => ⟨q.1, q.2.1, q.2.2 ▸ hp⟩) (fun _ _ _ q => q)
theorem ja_Mdd {l : Launch} {M : jM} {av : List Value} {Z : jZ} {D : jD} {v : Option Value} {φ ψ : jD → Prop} {kx : String → jZ → jD → Prop} (h : ja_M l M av Z D (ja_jd v Z φ) kx) (hp : ∀ D2, φ D2 → ψ D2) : ja_M l M av Z D (ja_jd v Z ψ) kx :=
  ja_Mw h (fun _ _ _ q => ⟨q.1, q.2.1, hp _ q.2.2⟩) (fun _ _ _ q => q)
def nup (w : Nat → Nat) (k x : Nat) : Nat → Nat := fun a => if a = k then x else w a
def wtU (E : jD) (ly : Nat) (w : Nat → Nat) : jD := fnU E (33 + 10 * ly) (fun a => nI (w a)) 10
theorem wtU_o {E : jD} {ly a : Nat} {w : Nat → Nat} (h : ¬ a = 33 + 10 * ly) : wtU E ly w a = E a := funext fun b => fnU_o h
theorem wtU_i {E : jD} {ly k : Nat} {w : Nat → Nat} (h : k < 10) : wtU E ly w (33 + 10 * ly) k = nI (w k) := by
  rw [wtU, fnU, if_pos ⟨rfl, h⟩]
theorem wtU_s {E : jD} {ly k x : Nat} {w : Nat → Nat} (h : k < 10) : ja_up (wtU E ly w) (33 + 10 * ly) k (nI x) = wtU E ly (nup w k x) := by
  funext a b
  simp only [ja_up, wtU, fnU, nup]
  by_cases e : a = 33 + 10 * ly ∧ b = k
  · obtain ⟨rfl, rfl⟩ := e
    rw [if_pos ⟨rfl, rfl⟩, if_pos ⟨rfl, h⟩, if_pos rfl]
  · rw [if_neg e]
    by_cases e2 : a = 33 + 10 * ly ∧ b < 10
    · rw [if_pos e2, if_pos e2, if_neg (fun y => e ⟨e2.1, y⟩)]
    · rw [if_neg e2, if_neg e2]
/-- a loser's part goes to t -/
def hov (w : Nat → Nat) (k ls sz : Nat) : Option Nat → Nat → Nat
  | none => nup w k (w k - w k * ls / sz)
  | some b => nup (nup w k (w k - w k * ls / sz)) b (nup w k (w k - w k * ls / sz) b + w k * ls / sz)
theorem nup_id {w : Nat → Nat} {k : Nat} : nup w k (w k) = w := funext fun a => by
  unfold nup
  split
  · next h => rw [h]
  · rfl
theorem hov_0 {w : Nat → Nat} {k sz : Nat} {t : Option Nat} : hov w k 0 sz t = w := by
  cases t with
  | none => simp only [hov, Nat.mul_zero, Nat.zero_div, Nat.sub_zero, nup_id]
  | some b => simp only [hov, Nat.mul_zero, Nat.zero_div, Nat.sub_zero, nup_id, Nat.add_zero]
theorem hov_lg {w l s : Nat} (h1 : w * l < 2 ^ 31) (hw : w < 2 ^ 31) (hl : l < 2 ^ 31) (hs : s < 2 ^ 31) (h0 : 0 < s) : ((nI w).toInt64 * (nI l).toInt64 / (nI s).toInt64).toInt32 = nI (w * l / s) := by
  rw [nI_l hw, nI_l hl, nI_l hs, lN_mul, pk_lDiv (by omega) h0 (by omega), lN_i]
theorem hov_nz {s : Nat} (hs : s < 2 ^ 31) (h0 : 0 < s) : ¬ (nI s).toInt64 = 0 := by
  rw [nI_l hs]
  intro e
  have := (pk_lEQ (a := s) (b := 0) (by omega) (by omega)).mp e
  omega
theorem hov_le {w ls sa : Nat} : w * ls / (sa + ls) ≤ w := Nat.div_le_of_le_mul (by rw [Nat.mul_comm]; exact Nat.mul_le_mul_right _ (Nat.le_add_left _ _))

set_option maxRecDepth 100000 in
set_option maxHeartbeats 4000000 in
theorem c_handOverN (l : Launch) {Z : jZ} {D : jD} (hx : zX Z) {ly : Nat} (h1 : ly < 3) {k b ls sa : Nat} {w : Nat → Nat} (hk : k < 10) (h37 : D (37 + 10 * ly) k = nI ls) (h32 : D (32 + 10 * ly) k = nI sa) (hls : ls ≤ 256) (hsa : sa ≤ 256) (hw1 : w k * ls < 2 ^ 31) (hw2 : w k < 2 ^ 31) : ja_M l (mX1_handOver 0 0) [.ref (30 + 10 * ly), .int (nI (k)), .int ((-1))] Z (wtU D ly w) (ja_jd none Z (fun D2 => D2 = wtU D ly (hov w k ls (sa + ls) none))) ja_x0 := by
  have h37b : (wtU D ly w) (37 + 10 * ly) k = nI ls := by rw [wtU_o (by omega)]; exact h37
  have h32b : (wtU D ly w) (32 + 10 * ly) k = nI sa := by rw [wtU_o (by omega)]; exact h32
  have hpl := hov_le (w := w k) (ls := ls) (sa := sa)
  refine ja_Mof (lv := [some (.ref (30 + 10 * ly)), some (.int (nI (k))), some (.int ((-1))), none, none]) (by decide +kernel) rfl rfl (Nat.le_of_ble_eq_true rfl) rfl ?_
  refine ja_aload_n (i := 0) dX1_handOver_0 rfl rfl ?_
  refine ja_getR fl_X1_15 (zL_o hx (l := ly) (by omega)) rfl (zL_p1 hx (l := ly) (by omega)) dX1_handOver_1 ?_
  refine ja_iload_n (i := 1) dX1_handOver_4 rfl rfl ?_
  refine ja_iald (zL_a1 hx (l := ly) (by omega)) rfl (by omega) (by decide) dX1_handOver_5 ?_
  refine ja_top (y := nI (sa)) h32b ?_
  refine ja_aload_n (i := 0) dX1_handOver_6 rfl rfl ?_
  refine ja_getR fl_X1_34 (zL_o hx (l := ly) (by omega)) rfl (zL_p7 hx (l := ly) (by omega)) dX1_handOver_7 ?_
  refine ja_iload_n (i := 1) dX1_handOver_10 rfl rfl ?_
  refine ja_iald (zL_a7 hx (l := ly) (by omega)) rfl (by omega) (by decide) dX1_handOver_11 ?_
  refine ja_top (y := nI (ls)) h37b ?_
  refine ja_iaddN dX1_handOver_12 ?_
  refine ja_istore_n (i := 3) dX1_handOver_13 rfl rfl (Nat.le_of_ble_eq_true rfl) ?_
  refine ja_aload_n (i := 0) dX1_handOver_14 rfl rfl ?_
  refine ja_getR fl_X1_34 (zL_o hx (l := ly) (by omega)) rfl (zL_p7 hx (l := ly) (by omega)) dX1_handOver_15 ?_
  refine ja_iload_n (i := 1) dX1_handOver_18 rfl rfl ?_
  refine ja_iald (zL_a7 hx (l := ly) (by omega)) rfl (by omega) (by decide) dX1_handOver_19 ?_
  refine ja_top (y := nI (ls)) h37b ?_
  refine ja_ifN_eq (tgt := 27) dX1_handOver_20 (by decide) (by omega) (fun c20 => ?_) (fun c20 => ?_)
  ·
    refine ja_vret rfl dX1_handOver_27 (Nat.zero_le _) (Nat.zero_le _) ?_
    exact ⟨rfl, rfl, by rw [show ls = 0 by omega, hov_0]⟩
  ·
    refine ja_iload_n (i := 3) dX1_handOver_23 rfl rfl ?_
    refine ja_ifN_ne (tgt := 28) dX1_handOver_24 (by decide) (by omega) (fun c24 => ?_) (fun c24 => (by exfalso; omega))
    refine ja_aload_n (i := 0) dX1_handOver_28 rfl rfl ?_
    refine ja_getR fl_X1_18 (zL_o hx (l := ly) (by omega)) rfl (zL_p2 hx (l := ly) (by omega)) dX1_handOver_29 ?_
    refine ja_iload_n (i := 1) dX1_handOver_32 rfl rfl ?_
    refine ja_iald (zL_a2 hx (l := ly) (by omega)) rfl (by omega) (by decide) dX1_handOver_33 ?_
    refine ja_top (y := nI (w k)) (wtU_i hk) ?_
    refine ja_i2l dX1_handOver_34 rfl ?_
    refine ja_aload_n (i := 0) dX1_handOver_35 rfl rfl ?_
    refine ja_getR fl_X1_34 (zL_o hx (l := ly) (by omega)) rfl (zL_p7 hx (l := ly) (by omega)) dX1_handOver_36 ?_
    refine ja_iload_n (i := 1) dX1_handOver_39 rfl rfl ?_
    refine ja_iald (zL_a7 hx (l := ly) (by omega)) rfl (by omega) (by decide) dX1_handOver_40 ?_
    refine ja_top (y := nI (ls)) h37b ?_
    refine ja_i2l dX1_handOver_41 rfl ?_
    refine ja_lmul dX1_handOver_42 ?_
    refine ja_iload_n (i := 3) dX1_handOver_43 rfl rfl ?_
    refine ja_i2l dX1_handOver_44 rfl ?_
    refine ja_ldiv dX1_handOver_45 (hov_nz (by omega) (by omega)) ?_
    refine ja_l2i (v := nI (w k * ls / (sa + ls))) dX1_handOver_46 (hov_lg hw1 hw2 (by omega) (by omega) (by omega)) ?_
    refine ja_istore (i := 4) dX1_handOver_47 rfl (Nat.le_of_ble_eq_true rfl) ?_
    refine ja_aload_n (i := 0) dX1_handOver_49 rfl rfl ?_
    refine ja_getR fl_X1_18 (zL_o hx (l := ly) (by omega)) rfl (zL_p2 hx (l := ly) (by omega)) dX1_handOver_50 ?_
    refine ja_iload_n (i := 1) dX1_handOver_53 rfl rfl ?_
    refine ja_dup2 dX1_handOver_54 rfl rfl ?_
    refine ja_iald (zL_a2 hx (l := ly) (by omega)) rfl (by omega) (by decide) dX1_handOver_55 ?_
    refine ja_top (y := nI (w k)) (wtU_i hk) ?_
    refine ja_iload (i := 4) dX1_handOver_56 rfl ?_
    refine ja_isubN dX1_handOver_58 hpl ?_
    refine ja_iast (zL_a2 hx (l := ly) (by omega)) rfl (by omega) (by decide) dX1_handOver_59 ?_
    refine ja_num (wtU_s hk) ?_
    refine ja_iload_n (i := 2) dX1_handOver_60 rfl rfl ?_
    refine ja_cNr (st := []) (c_isAreaN l) rfl rfl (ce_X7_isArea 0 0) st_X7_isArea nk_X1_47 ⟨(Nat.le_of_ble_eq_true rfl), (Nat.le_of_ble_eq_true rfl)⟩ dX1_handOver_61 rfl rfl (Nat.le_of_ble_eq_true rfl) (Nat.zero_le _) (Nat.zero_le _) ?_
    refine ja_ifB_eq (tgt := 78) dX1_handOver_64 (by decide) (fun c64 => ?_) (fun c64 => absurd c64 (by decide))
    refine ja_vret rfl dX1_handOver_78 (Nat.zero_le _) (Nat.zero_le _) ?_
    exact ⟨rfl, rfl, rfl⟩

set_option maxRecDepth 100000 in
set_option maxHeartbeats 4000000 in
theorem c_handOverS (l : Launch) {Z : jZ} {D : jD} (hx : zX Z) {ly : Nat} (h1 : ly < 3) {k b ls sa : Nat} {w : Nat → Nat} (hk : k < 10) (hb : b < 10) (h37 : D (37 + 10 * ly) k = nI ls) (h32 : D (32 + 10 * ly) k = nI sa) (hls : ls ≤ 256) (hsa : sa ≤ 256) (hw1 : w k * ls < 2 ^ 31) (hw2 : w k < 2 ^ 31) : ja_M l (mX1_handOver 0 0) [.ref (30 + 10 * ly), .int (nI (k)), .int (nI (b))] Z (wtU D ly w) (ja_jd none Z (fun D2 => D2 = wtU D ly (hov w k ls (sa + ls) (some b)))) ja_x0 := by
  have h37b : (wtU D ly w) (37 + 10 * ly) k = nI ls := by rw [wtU_o (by omega)]; exact h37
  have h32b : (wtU D ly w) (32 + 10 * ly) k = nI sa := by rw [wtU_o (by omega)]; exact h32
  have hpl := hov_le (w := w k) (ls := ls) (sa := sa)
  refine ja_Mof (lv := [some (.ref (30 + 10 * ly)), some (.int (nI (k))), some (.int (nI (b))), none, none]) (by decide +kernel) rfl rfl (Nat.le_of_ble_eq_true rfl) rfl ?_
  refine ja_aload_n (i := 0) dX1_handOver_0 rfl rfl ?_
  refine ja_getR fl_X1_15 (zL_o hx (l := ly) (by omega)) rfl (zL_p1 hx (l := ly) (by omega)) dX1_handOver_1 ?_
  refine ja_iload_n (i := 1) dX1_handOver_4 rfl rfl ?_
  refine ja_iald (zL_a1 hx (l := ly) (by omega)) rfl (by omega) (by decide) dX1_handOver_5 ?_
  refine ja_top (y := nI (sa)) h32b ?_
  refine ja_aload_n (i := 0) dX1_handOver_6 rfl rfl ?_
  refine ja_getR fl_X1_34 (zL_o hx (l := ly) (by omega)) rfl (zL_p7 hx (l := ly) (by omega)) dX1_handOver_7 ?_
  refine ja_iload_n (i := 1) dX1_handOver_10 rfl rfl ?_
  refine ja_iald (zL_a7 hx (l := ly) (by omega)) rfl (by omega) (by decide) dX1_handOver_11 ?_
  refine ja_top (y := nI (ls)) h37b ?_
  refine ja_iaddN dX1_handOver_12 ?_
  refine ja_istore_n (i := 3) dX1_handOver_13 rfl rfl (Nat.le_of_ble_eq_true rfl) ?_
  refine ja_aload_n (i := 0) dX1_handOver_14 rfl rfl ?_
  refine ja_getR fl_X1_34 (zL_o hx (l := ly) (by omega)) rfl (zL_p7 hx (l := ly) (by omega)) dX1_handOver_15 ?_
  refine ja_iload_n (i := 1) dX1_handOver_18 rfl rfl ?_
  refine ja_iald (zL_a7 hx (l := ly) (by omega)) rfl (by omega) (by decide) dX1_handOver_19 ?_
  refine ja_top (y := nI (ls)) h37b ?_
  refine ja_ifN_eq (tgt := 27) dX1_handOver_20 (by decide) (by omega) (fun c20 => ?_) (fun c20 => ?_)
  ·
    refine ja_vret rfl dX1_handOver_27 (Nat.zero_le _) (Nat.zero_le _) ?_
    exact ⟨rfl, rfl, by rw [show ls = 0 by omega, hov_0]⟩
  ·
    refine ja_iload_n (i := 3) dX1_handOver_23 rfl rfl ?_
    refine ja_ifN_ne (tgt := 28) dX1_handOver_24 (by decide) (by omega) (fun c24 => ?_) (fun c24 => (by exfalso; omega))
    refine ja_aload_n (i := 0) dX1_handOver_28 rfl rfl ?_
    refine ja_getR fl_X1_18 (zL_o hx (l := ly) (by omega)) rfl (zL_p2 hx (l := ly) (by omega)) dX1_handOver_29 ?_
    refine ja_iload_n (i := 1) dX1_handOver_32 rfl rfl ?_
    refine ja_iald (zL_a2 hx (l := ly) (by omega)) rfl (by omega) (by decide) dX1_handOver_33 ?_
    refine ja_top (y := nI (w k)) (wtU_i hk) ?_
    refine ja_i2l dX1_handOver_34 rfl ?_
    refine ja_aload_n (i := 0) dX1_handOver_35 rfl rfl ?_
    refine ja_getR fl_X1_34 (zL_o hx (l := ly) (by omega)) rfl (zL_p7 hx (l := ly) (by omega)) dX1_handOver_36 ?_
    refine ja_iload_n (i := 1) dX1_handOver_39 rfl rfl ?_
    refine ja_iald (zL_a7 hx (l := ly) (by omega)) rfl (by omega) (by decide) dX1_handOver_40 ?_
    refine ja_top (y := nI (ls)) h37b ?_
    refine ja_i2l dX1_handOver_41 rfl ?_
    refine ja_lmul dX1_handOver_42 ?_
    refine ja_iload_n (i := 3) dX1_handOver_43 rfl rfl ?_
    refine ja_i2l dX1_handOver_44 rfl ?_
    refine ja_ldiv dX1_handOver_45 (hov_nz (by omega) (by omega)) ?_
    refine ja_l2i (v := nI (w k * ls / (sa + ls))) dX1_handOver_46 (hov_lg hw1 hw2 (by omega) (by omega) (by omega)) ?_
    refine ja_istore (i := 4) dX1_handOver_47 rfl (Nat.le_of_ble_eq_true rfl) ?_
    refine ja_aload_n (i := 0) dX1_handOver_49 rfl rfl ?_
    refine ja_getR fl_X1_18 (zL_o hx (l := ly) (by omega)) rfl (zL_p2 hx (l := ly) (by omega)) dX1_handOver_50 ?_
    refine ja_iload_n (i := 1) dX1_handOver_53 rfl rfl ?_
    refine ja_dup2 dX1_handOver_54 rfl rfl ?_
    refine ja_iald (zL_a2 hx (l := ly) (by omega)) rfl (by omega) (by decide) dX1_handOver_55 ?_
    refine ja_top (y := nI (w k)) (wtU_i hk) ?_
    refine ja_iload (i := 4) dX1_handOver_56 rfl ?_
    refine ja_isubN dX1_handOver_58 hpl ?_
    refine ja_iast (zL_a2 hx (l := ly) (by omega)) rfl (by omega) (by decide) dX1_handOver_59 ?_
    refine ja_num (wtU_s hk) ?_
    refine ja_iload_n (i := 2) dX1_handOver_60 rfl rfl ?_
    refine ja_cNr (st := []) (c_isAreaT l (by omega)) rfl rfl (ce_X7_isArea 0 0) st_X7_isArea nk_X1_47 ⟨(Nat.le_of_ble_eq_true rfl), (Nat.le_of_ble_eq_true rfl)⟩ dX1_handOver_61 rfl rfl (Nat.le_of_ble_eq_true rfl) (Nat.zero_le _) (Nat.zero_le _) ?_
    refine ja_ifB_eq (tgt := 78) dX1_handOver_64 (by decide) (fun c64 => absurd c64 (by decide)) (fun c64 => ?_)
    refine ja_aload_n (i := 0) dX1_handOver_67 rfl rfl ?_
    refine ja_getR fl_X1_18 (zL_o hx (l := ly) (by omega)) rfl (zL_p2 hx (l := ly) (by omega)) dX1_handOver_68 ?_
    refine ja_iload_n (i := 2) dX1_handOver_71 rfl rfl ?_
    refine ja_dup2 dX1_handOver_72 rfl rfl ?_
    refine ja_iald (zL_a2 hx (l := ly) (by omega)) rfl (by omega) (by decide) dX1_handOver_73 ?_
    refine ja_top (y := nI ((nup w k (w k - w k * ls / (sa + ls))) b)) (wtU_i hb) ?_
    refine ja_iload (i := 4) dX1_handOver_74 rfl ?_
    refine ja_iaddN dX1_handOver_76 ?_
    refine ja_iast (zL_a2 hx (l := ly) (by omega)) rfl (by omega) (by decide) dX1_handOver_77 ?_
    refine ja_num (wtU_s hb) ?_
    refine ja_vret rfl dX1_handOver_78 (Nat.zero_le _) (Nat.zero_le _) ?_
    exact ⟨rfl, rfl, rfl⟩

def zer (w : Nat → Nat) (k s : Nat) : Nat → Nat := if s = 0 then nup w k 0 else w
/-- the values behind k losers -/
def wcl (dv : Bool) (w : Nat → Nat) (ls sa : Nat → Nat) (t : Option Nat) : Nat → Nat → Nat
  | 0 => w
  | k + 1 => zer (if dv = true then hov (wcl dv w ls sa t k) k (ls k) (sa k + ls k) t else wcl dv w ls sa t k) k (sa k)

set_option maxRecDepth 100000 in
set_option maxHeartbeats 4000000 in
theorem c_closeEditNt (l : Launch) {Z : jZ} {D : jD} (hx : zX Z) {ly : Nat} (h1 : ly < 3) {b : Nat} {w0 ls sa : Nat → Nat} (h4 : D (30 + 10 * ly) 4 = bI true) {n : Int32} (h8 : D (30 + 10 * ly) 8 = n) (h37 : ∀ k, k < 10 → D (37 + 10 * ly) k = nI (ls k)) (h32 : ∀ k, k < 10 → D (32 + 10 * ly) k = nI (sa k)) (hls : ∀ k, k < 10 → ls k ≤ 256) (hsa : ∀ k, k < 10 → sa k ≤ 256) (hB : ∀ k, k < 10 → wcl true w0 ls sa none k k * ls k < 2 ^ 31 ∧ wcl true w0 ls sa none k k < 2 ^ 31) : ja_M l (mX1_closeEdit 0 0) [.ref (30 + 10 * ly), .int ((-1))] Z (wtU D ly w0) (ja_jd (some (.int n)) Z (fun D2 => D2 = wtU D ly (wcl true w0 ls sa none 10))) ja_x0 := by
  refine ja_Mof (lv := [some (.ref (30 + 10 * ly)), some (.int ((-1))), none]) (by decide +kernel) rfl rfl (Nat.le_of_ble_eq_true rfl) rfl ?_
  refine ja_iconst (v := nI 0) dX1_closeEdit_0 (by decide +kernel) ?_
  refine ja_istore_n (i := 2) dX1_closeEdit_1 rfl rfl (Nat.le_of_ble_eq_true rfl) ?_
  have lp2 : ∀ (f2 : Nat) (k : Nat) (w : Nat → Nat), (10 < k + f2) → (k ≤ 10) → (w = wcl true w0 ls sa none k) → ja_A l (mX1_closeEdit 0 0) ja_sn (ja_Qf (mX1_closeEdit 0 0) (ja_jd (some (.int n)) Z (fun D2 => D2 = wtU D ly (wcl true w0 ls sa none 10))) ja_x0) 2 [some (.ref (30 + 10 * ly)), some (.int ((-1))), some (.int (nI (k)))] [] Z (wtU D ly w) 0 0 := by
    intro f2
    induction f2 with
    | zero => intro k w hf hk hw; exfalso; omega
    | succ f2 ih2 =>
      intro k w hf hk hw
      refine ja_iload_n (i := 2) dX1_closeEdit_2 rfl rfl ?_
      refine ja_bipush (v := nI 10) dX1_closeEdit_3 (by decide +kernel) ?_
      refine ja_icmpN_ge (tgt := 43) dX1_closeEdit_5 (by decide) (by omega) (by omega) (fun c5 => ?_) (fun c5 => ?_)
      ·
        refine ja_aload_n (i := 0) dX1_closeEdit_43 rfl rfl ?_
        refine ja_getI fl_X1_43 (zL_o hx (l := ly) (by omega)) rfl dX1_closeEdit_44 ?_
        refine ja_top (y := n) (by rw [wtU_o (by omega)]; exact h8) ?_
        refine ja_iret rfl rfl dX1_closeEdit_47 (Nat.zero_le _) (Nat.zero_le _) ?_
        exact ⟨rfl, rfl, by rw [hw, show k = 10 by omega]⟩
      ·
        refine ja_aload_n (i := 0) dX1_closeEdit_8 rfl rfl ?_
        obtain ⟨hB1, hB2⟩ := hB k (by omega)
        rw [← hw] at hB1 hB2
        have hsk := hsa k (by omega)
        refine ja_getI fl_X1_24 (zL_o hx (l := ly) (by omega)) rfl dX1_closeEdit_9 ?_
        refine ja_top (y := bI (true)) (by rw [wtU_o (by omega)]; exact h4) ?_
        refine ja_ifB_eq (tgt := 21) dX1_closeEdit_12 (by decide) (fun c12 => absurd c12 (by decide)) (fun c12 => ?_)
        refine ja_aload_n (i := 0) dX1_closeEdit_15 rfl rfl ?_
        refine ja_iload_n (i := 2) dX1_closeEdit_16 rfl rfl ?_
        refine ja_iload_n (i := 1) dX1_closeEdit_17 rfl rfl ?_
        refine ja_cVd0 (st := []) (c_handOverN l hx h1 (D := D) (w := w) (k := k) (ls := ls k) (sa := sa k) (b := 0) (by omega) (h37 k (by omega)) (h32 k (by omega)) (hls k (by omega)) (hsa k (by omega)) hB1 hB2) rfl rfl (ce_X1_handOver 0 0) im_X1_handOver se_X1_handOver lk_X1_55 k_X1 (zL_o hx (l := ly) (by omega)) ⟨(Nat.le_of_ble_eq_true rfl), (Nat.le_of_ble_eq_true rfl)⟩ dX1_closeEdit_18 rfl rfl (Nat.le_of_ble_eq_true rfl) (Nat.zero_le _) (Nat.zero_le _) ?_
        intro D18 hD18
        subst hD18
        refine ja_aload_n (i := 0) dX1_closeEdit_21 rfl rfl ?_
        refine ja_getR fl_X1_15 (zL_o hx (l := ly) (by omega)) rfl (zL_p1 hx (l := ly) (by omega)) dX1_closeEdit_22 ?_
        refine ja_iload_n (i := 2) dX1_closeEdit_25 rfl rfl ?_
        refine ja_iald (zL_a1 hx (l := ly) (by omega)) rfl (by omega) (by decide) dX1_closeEdit_26 ?_
        refine ja_top (y := nI (sa k)) (by rw [wtU_o (by omega)]; exact h32 k (by omega)) ?_
        refine ja_ifN_ne (tgt := 37) dX1_closeEdit_27 (by decide) (by omega) (fun c27 => ?_) (fun c27 => ?_)
        ·
          refine ja_iincN dX1_closeEdit_37 rfl rfl (Nat.le_of_ble_eq_true rfl) ?_
          refine ja_goto (tgt := 2) dX1_closeEdit_40 (by decide) ?_
          exact ih2 (k + 1) _ (by omega) (by omega) (by rw [wcl, ← hw, zer]; simp only [c27, if_true, if_false, Bool.false_eq_true])
        ·
          refine ja_aload_n (i := 0) dX1_closeEdit_30 rfl rfl ?_
          refine ja_getR fl_X1_18 (zL_o hx (l := ly) (by omega)) rfl (zL_p2 hx (l := ly) (by omega)) dX1_closeEdit_31 ?_
          refine ja_iload_n (i := 2) dX1_closeEdit_34 rfl rfl ?_
          refine ja_iconst (v := nI 0) dX1_closeEdit_35 (by decide +kernel) ?_
          refine ja_iast (zL_a2 hx (l := ly) (by omega)) rfl (by omega) (by decide) dX1_closeEdit_36 ?_
          refine ja_num (wtU_s (x := 0) (by omega)) ?_
          refine ja_iincN dX1_closeEdit_37 rfl rfl (Nat.le_of_ble_eq_true rfl) ?_
          refine ja_goto (tgt := 2) dX1_closeEdit_40 (by decide) ?_
          exact ih2 (k + 1) _ (by omega) (by omega) (by rw [wcl, ← hw, zer]; simp only [c27, if_true, if_false, Bool.false_eq_true])
  exact lp2 11 0 w0 (by omega) (by omega) rfl

set_option maxRecDepth 100000 in
set_option maxHeartbeats 4000000 in
theorem c_closeEditNf (l : Launch) {Z : jZ} {D : jD} (hx : zX Z) {ly : Nat} (h1 : ly < 3) {b : Nat} {w0 ls sa : Nat → Nat} (h4 : D (30 + 10 * ly) 4 = bI false) {n : Int32} (h8 : D (30 + 10 * ly) 8 = n) (h37 : ∀ k, k < 10 → D (37 + 10 * ly) k = nI (ls k)) (h32 : ∀ k, k < 10 → D (32 + 10 * ly) k = nI (sa k)) (hls : ∀ k, k < 10 → ls k ≤ 256) (hsa : ∀ k, k < 10 → sa k ≤ 256) (hB : ∀ k, k < 10 → wcl false w0 ls sa none k k * ls k < 2 ^ 31 ∧ wcl false w0 ls sa none k k < 2 ^ 31) : ja_M l (mX1_closeEdit 0 0) [.ref (30 + 10 * ly), .int ((-1))] Z (wtU D ly w0) (ja_jd (some (.int n)) Z (fun D2 => D2 = wtU D ly (wcl false w0 ls sa none 10))) ja_x0 := by
  refine ja_Mof (lv := [some (.ref (30 + 10 * ly)), some (.int ((-1))), none]) (by decide +kernel) rfl rfl (Nat.le_of_ble_eq_true rfl) rfl ?_
  refine ja_iconst (v := nI 0) dX1_closeEdit_0 (by decide +kernel) ?_
  refine ja_istore_n (i := 2) dX1_closeEdit_1 rfl rfl (Nat.le_of_ble_eq_true rfl) ?_
  have lp2 : ∀ (f2 : Nat) (k : Nat) (w : Nat → Nat), (10 < k + f2) → (k ≤ 10) → (w = wcl false w0 ls sa none k) → ja_A l (mX1_closeEdit 0 0) ja_sn (ja_Qf (mX1_closeEdit 0 0) (ja_jd (some (.int n)) Z (fun D2 => D2 = wtU D ly (wcl false w0 ls sa none 10))) ja_x0) 2 [some (.ref (30 + 10 * ly)), some (.int ((-1))), some (.int (nI (k)))] [] Z (wtU D ly w) 0 0 := by
    intro f2
    induction f2 with
    | zero => intro k w hf hk hw; exfalso; omega
    | succ f2 ih2 =>
      intro k w hf hk hw
      refine ja_iload_n (i := 2) dX1_closeEdit_2 rfl rfl ?_
      refine ja_bipush (v := nI 10) dX1_closeEdit_3 (by decide +kernel) ?_
      refine ja_icmpN_ge (tgt := 43) dX1_closeEdit_5 (by decide) (by omega) (by omega) (fun c5 => ?_) (fun c5 => ?_)
      ·
        refine ja_aload_n (i := 0) dX1_closeEdit_43 rfl rfl ?_
        refine ja_getI fl_X1_43 (zL_o hx (l := ly) (by omega)) rfl dX1_closeEdit_44 ?_
        refine ja_top (y := n) (by rw [wtU_o (by omega)]; exact h8) ?_
        refine ja_iret rfl rfl dX1_closeEdit_47 (Nat.zero_le _) (Nat.zero_le _) ?_
        exact ⟨rfl, rfl, by rw [hw, show k = 10 by omega]⟩
      ·
        refine ja_aload_n (i := 0) dX1_closeEdit_8 rfl rfl ?_
        obtain ⟨hB1, hB2⟩ := hB k (by omega)
        rw [← hw] at hB1 hB2
        have hsk := hsa k (by omega)
        refine ja_getI fl_X1_24 (zL_o hx (l := ly) (by omega)) rfl dX1_closeEdit_9 ?_
        refine ja_top (y := bI (false)) (by rw [wtU_o (by omega)]; exact h4) ?_
        refine ja_ifB_eq (tgt := 21) dX1_closeEdit_12 (by decide) (fun c12 => ?_) (fun c12 => absurd c12 (by decide))
        refine ja_aload_n (i := 0) dX1_closeEdit_21 rfl rfl ?_
        refine ja_getR fl_X1_15 (zL_o hx (l := ly) (by omega)) rfl (zL_p1 hx (l := ly) (by omega)) dX1_closeEdit_22 ?_
        refine ja_iload_n (i := 2) dX1_closeEdit_25 rfl rfl ?_
        refine ja_iald (zL_a1 hx (l := ly) (by omega)) rfl (by omega) (by decide) dX1_closeEdit_26 ?_
        refine ja_top (y := nI (sa k)) (by rw [wtU_o (by omega)]; exact h32 k (by omega)) ?_
        refine ja_ifN_ne (tgt := 37) dX1_closeEdit_27 (by decide) (by omega) (fun c27 => ?_) (fun c27 => ?_)
        ·
          refine ja_iincN dX1_closeEdit_37 rfl rfl (Nat.le_of_ble_eq_true rfl) ?_
          refine ja_goto (tgt := 2) dX1_closeEdit_40 (by decide) ?_
          exact ih2 (k + 1) _ (by omega) (by omega) (by rw [wcl, ← hw, zer]; simp only [c27, if_true, if_false, Bool.false_eq_true])
        ·
          refine ja_aload_n (i := 0) dX1_closeEdit_30 rfl rfl ?_
          refine ja_getR fl_X1_18 (zL_o hx (l := ly) (by omega)) rfl (zL_p2 hx (l := ly) (by omega)) dX1_closeEdit_31 ?_
          refine ja_iload_n (i := 2) dX1_closeEdit_34 rfl rfl ?_
          refine ja_iconst (v := nI 0) dX1_closeEdit_35 (by decide +kernel) ?_
          refine ja_iast (zL_a2 hx (l := ly) (by omega)) rfl (by omega) (by decide) dX1_closeEdit_36 ?_
          refine ja_num (wtU_s (x := 0) (by omega)) ?_
          refine ja_iincN dX1_closeEdit_37 rfl rfl (Nat.le_of_ble_eq_true rfl) ?_
          refine ja_goto (tgt := 2) dX1_closeEdit_40 (by decide) ?_
          exact ih2 (k + 1) _ (by omega) (by omega) (by rw [wcl, ← hw, zer]; simp only [c27, if_true, if_false, Bool.false_eq_true])
  exact lp2 11 0 w0 (by omega) (by omega) rfl

set_option maxRecDepth 100000 in
set_option maxHeartbeats 4000000 in
theorem c_closeEditSt (l : Launch) {Z : jZ} {D : jD} (hx : zX Z) {ly : Nat} (h1 : ly < 3) {b : Nat} {w0 ls sa : Nat → Nat} (hb : b < 10) (h4 : D (30 + 10 * ly) 4 = bI true) {n : Int32} (h8 : D (30 + 10 * ly) 8 = n) (h37 : ∀ k, k < 10 → D (37 + 10 * ly) k = nI (ls k)) (h32 : ∀ k, k < 10 → D (32 + 10 * ly) k = nI (sa k)) (hls : ∀ k, k < 10 → ls k ≤ 256) (hsa : ∀ k, k < 10 → sa k ≤ 256) (hB : ∀ k, k < 10 → wcl true w0 ls sa (some b) k k * ls k < 2 ^ 31 ∧ wcl true w0 ls sa (some b) k k < 2 ^ 31) : ja_M l (mX1_closeEdit 0 0) [.ref (30 + 10 * ly), .int (nI (b))] Z (wtU D ly w0) (ja_jd (some (.int n)) Z (fun D2 => D2 = wtU D ly (wcl true w0 ls sa (some b) 10))) ja_x0 := by
  refine ja_Mof (lv := [some (.ref (30 + 10 * ly)), some (.int (nI (b))), none]) (by decide +kernel) rfl rfl (Nat.le_of_ble_eq_true rfl) rfl ?_
  refine ja_iconst (v := nI 0) dX1_closeEdit_0 (by decide +kernel) ?_
  refine ja_istore_n (i := 2) dX1_closeEdit_1 rfl rfl (Nat.le_of_ble_eq_true rfl) ?_
  have lp2 : ∀ (f2 : Nat) (k : Nat) (w : Nat → Nat), (10 < k + f2) → (k ≤ 10) → (w = wcl true w0 ls sa (some b) k) → ja_A l (mX1_closeEdit 0 0) ja_sn (ja_Qf (mX1_closeEdit 0 0) (ja_jd (some (.int n)) Z (fun D2 => D2 = wtU D ly (wcl true w0 ls sa (some b) 10))) ja_x0) 2 [some (.ref (30 + 10 * ly)), some (.int (nI (b))), some (.int (nI (k)))] [] Z (wtU D ly w) 0 0 := by
    intro f2
    induction f2 with
    | zero => intro k w hf hk hw; exfalso; omega
    | succ f2 ih2 =>
      intro k w hf hk hw
      refine ja_iload_n (i := 2) dX1_closeEdit_2 rfl rfl ?_
      refine ja_bipush (v := nI 10) dX1_closeEdit_3 (by decide +kernel) ?_
      refine ja_icmpN_ge (tgt := 43) dX1_closeEdit_5 (by decide) (by omega) (by omega) (fun c5 => ?_) (fun c5 => ?_)
      ·
        refine ja_aload_n (i := 0) dX1_closeEdit_43 rfl rfl ?_
        refine ja_getI fl_X1_43 (zL_o hx (l := ly) (by omega)) rfl dX1_closeEdit_44 ?_
        refine ja_top (y := n) (by rw [wtU_o (by omega)]; exact h8) ?_
        refine ja_iret rfl rfl dX1_closeEdit_47 (Nat.zero_le _) (Nat.zero_le _) ?_
        exact ⟨rfl, rfl, by rw [hw, show k = 10 by omega]⟩
      ·
        refine ja_aload_n (i := 0) dX1_closeEdit_8 rfl rfl ?_
        obtain ⟨hB1, hB2⟩ := hB k (by omega)
        rw [← hw] at hB1 hB2
        have hsk := hsa k (by omega)
        refine ja_getI fl_X1_24 (zL_o hx (l := ly) (by omega)) rfl dX1_closeEdit_9 ?_
        refine ja_top (y := bI (true)) (by rw [wtU_o (by omega)]; exact h4) ?_
        refine ja_ifB_eq (tgt := 21) dX1_closeEdit_12 (by decide) (fun c12 => absurd c12 (by decide)) (fun c12 => ?_)
        refine ja_aload_n (i := 0) dX1_closeEdit_15 rfl rfl ?_
        refine ja_iload_n (i := 2) dX1_closeEdit_16 rfl rfl ?_
        refine ja_iload_n (i := 1) dX1_closeEdit_17 rfl rfl ?_
        refine ja_cVd0 (st := []) (c_handOverS l hx h1 (D := D) (w := w) (k := k) (ls := ls k) (sa := sa k) (by omega) hb (h37 k (by omega)) (h32 k (by omega)) (hls k (by omega)) (hsa k (by omega)) hB1 hB2) rfl rfl (ce_X1_handOver 0 0) im_X1_handOver se_X1_handOver lk_X1_55 k_X1 (zL_o hx (l := ly) (by omega)) ⟨(Nat.le_of_ble_eq_true rfl), (Nat.le_of_ble_eq_true rfl)⟩ dX1_closeEdit_18 rfl rfl (Nat.le_of_ble_eq_true rfl) (Nat.zero_le _) (Nat.zero_le _) ?_
        intro D18 hD18
        subst hD18
        refine ja_aload_n (i := 0) dX1_closeEdit_21 rfl rfl ?_
        refine ja_getR fl_X1_15 (zL_o hx (l := ly) (by omega)) rfl (zL_p1 hx (l := ly) (by omega)) dX1_closeEdit_22 ?_
        refine ja_iload_n (i := 2) dX1_closeEdit_25 rfl rfl ?_
        refine ja_iald (zL_a1 hx (l := ly) (by omega)) rfl (by omega) (by decide) dX1_closeEdit_26 ?_
        refine ja_top (y := nI (sa k)) (by rw [wtU_o (by omega)]; exact h32 k (by omega)) ?_
        refine ja_ifN_ne (tgt := 37) dX1_closeEdit_27 (by decide) (by omega) (fun c27 => ?_) (fun c27 => ?_)
        ·
          refine ja_iincN dX1_closeEdit_37 rfl rfl (Nat.le_of_ble_eq_true rfl) ?_
          refine ja_goto (tgt := 2) dX1_closeEdit_40 (by decide) ?_
          exact ih2 (k + 1) _ (by omega) (by omega) (by rw [wcl, ← hw, zer]; simp only [c27, if_true, if_false, Bool.false_eq_true])
        ·
          refine ja_aload_n (i := 0) dX1_closeEdit_30 rfl rfl ?_
          refine ja_getR fl_X1_18 (zL_o hx (l := ly) (by omega)) rfl (zL_p2 hx (l := ly) (by omega)) dX1_closeEdit_31 ?_
          refine ja_iload_n (i := 2) dX1_closeEdit_34 rfl rfl ?_
          refine ja_iconst (v := nI 0) dX1_closeEdit_35 (by decide +kernel) ?_
          refine ja_iast (zL_a2 hx (l := ly) (by omega)) rfl (by omega) (by decide) dX1_closeEdit_36 ?_
          refine ja_num (wtU_s (x := 0) (by omega)) ?_
          refine ja_iincN dX1_closeEdit_37 rfl rfl (Nat.le_of_ble_eq_true rfl) ?_
          refine ja_goto (tgt := 2) dX1_closeEdit_40 (by decide) ?_
          exact ih2 (k + 1) _ (by omega) (by omega) (by rw [wcl, ← hw, zer]; simp only [c27, if_true, if_false, Bool.false_eq_true])
  exact lp2 11 0 w0 (by omega) (by omega) rfl

set_option maxRecDepth 100000 in
set_option maxHeartbeats 4000000 in
theorem c_closeEditSf (l : Launch) {Z : jZ} {D : jD} (hx : zX Z) {ly : Nat} (h1 : ly < 3) {b : Nat} {w0 ls sa : Nat → Nat} (hb : b < 10) (h4 : D (30 + 10 * ly) 4 = bI false) {n : Int32} (h8 : D (30 + 10 * ly) 8 = n) (h37 : ∀ k, k < 10 → D (37 + 10 * ly) k = nI (ls k)) (h32 : ∀ k, k < 10 → D (32 + 10 * ly) k = nI (sa k)) (hls : ∀ k, k < 10 → ls k ≤ 256) (hsa : ∀ k, k < 10 → sa k ≤ 256) (hB : ∀ k, k < 10 → wcl false w0 ls sa (some b) k k * ls k < 2 ^ 31 ∧ wcl false w0 ls sa (some b) k k < 2 ^ 31) : ja_M l (mX1_closeEdit 0 0) [.ref (30 + 10 * ly), .int (nI (b))] Z (wtU D ly w0) (ja_jd (some (.int n)) Z (fun D2 => D2 = wtU D ly (wcl false w0 ls sa (some b) 10))) ja_x0 := by
  refine ja_Mof (lv := [some (.ref (30 + 10 * ly)), some (.int (nI (b))), none]) (by decide +kernel) rfl rfl (Nat.le_of_ble_eq_true rfl) rfl ?_
  refine ja_iconst (v := nI 0) dX1_closeEdit_0 (by decide +kernel) ?_
  refine ja_istore_n (i := 2) dX1_closeEdit_1 rfl rfl (Nat.le_of_ble_eq_true rfl) ?_
  have lp2 : ∀ (f2 : Nat) (k : Nat) (w : Nat → Nat), (10 < k + f2) → (k ≤ 10) → (w = wcl false w0 ls sa (some b) k) → ja_A l (mX1_closeEdit 0 0) ja_sn (ja_Qf (mX1_closeEdit 0 0) (ja_jd (some (.int n)) Z (fun D2 => D2 = wtU D ly (wcl false w0 ls sa (some b) 10))) ja_x0) 2 [some (.ref (30 + 10 * ly)), some (.int (nI (b))), some (.int (nI (k)))] [] Z (wtU D ly w) 0 0 := by
    intro f2
    induction f2 with
    | zero => intro k w hf hk hw; exfalso; omega
    | succ f2 ih2 =>
      intro k w hf hk hw
      refine ja_iload_n (i := 2) dX1_closeEdit_2 rfl rfl ?_
      refine ja_bipush (v := nI 10) dX1_closeEdit_3 (by decide +kernel) ?_
      refine ja_icmpN_ge (tgt := 43) dX1_closeEdit_5 (by decide) (by omega) (by omega) (fun c5 => ?_) (fun c5 => ?_)
      ·
        refine ja_aload_n (i := 0) dX1_closeEdit_43 rfl rfl ?_
        refine ja_getI fl_X1_43 (zL_o hx (l := ly) (by omega)) rfl dX1_closeEdit_44 ?_
        refine ja_top (y := n) (by rw [wtU_o (by omega)]; exact h8) ?_
        refine ja_iret rfl rfl dX1_closeEdit_47 (Nat.zero_le _) (Nat.zero_le _) ?_
        exact ⟨rfl, rfl, by rw [hw, show k = 10 by omega]⟩
      ·
        refine ja_aload_n (i := 0) dX1_closeEdit_8 rfl rfl ?_
        obtain ⟨hB1, hB2⟩ := hB k (by omega)
        rw [← hw] at hB1 hB2
        have hsk := hsa k (by omega)
        refine ja_getI fl_X1_24 (zL_o hx (l := ly) (by omega)) rfl dX1_closeEdit_9 ?_
        refine ja_top (y := bI (false)) (by rw [wtU_o (by omega)]; exact h4) ?_
        refine ja_ifB_eq (tgt := 21) dX1_closeEdit_12 (by decide) (fun c12 => ?_) (fun c12 => absurd c12 (by decide))
        refine ja_aload_n (i := 0) dX1_closeEdit_21 rfl rfl ?_
        refine ja_getR fl_X1_15 (zL_o hx (l := ly) (by omega)) rfl (zL_p1 hx (l := ly) (by omega)) dX1_closeEdit_22 ?_
        refine ja_iload_n (i := 2) dX1_closeEdit_25 rfl rfl ?_
        refine ja_iald (zL_a1 hx (l := ly) (by omega)) rfl (by omega) (by decide) dX1_closeEdit_26 ?_
        refine ja_top (y := nI (sa k)) (by rw [wtU_o (by omega)]; exact h32 k (by omega)) ?_
        refine ja_ifN_ne (tgt := 37) dX1_closeEdit_27 (by decide) (by omega) (fun c27 => ?_) (fun c27 => ?_)
        ·
          refine ja_iincN dX1_closeEdit_37 rfl rfl (Nat.le_of_ble_eq_true rfl) ?_
          refine ja_goto (tgt := 2) dX1_closeEdit_40 (by decide) ?_
          exact ih2 (k + 1) _ (by omega) (by omega) (by rw [wcl, ← hw, zer]; simp only [c27, if_true, if_false, Bool.false_eq_true])
        ·
          refine ja_aload_n (i := 0) dX1_closeEdit_30 rfl rfl ?_
          refine ja_getR fl_X1_18 (zL_o hx (l := ly) (by omega)) rfl (zL_p2 hx (l := ly) (by omega)) dX1_closeEdit_31 ?_
          refine ja_iload_n (i := 2) dX1_closeEdit_34 rfl rfl ?_
          refine ja_iconst (v := nI 0) dX1_closeEdit_35 (by decide +kernel) ?_
          refine ja_iast (zL_a2 hx (l := ly) (by omega)) rfl (by omega) (by decide) dX1_closeEdit_36 ?_
          refine ja_num (wtU_s (x := 0) (by omega)) ?_
          refine ja_iincN dX1_closeEdit_37 rfl rfl (Nat.le_of_ble_eq_true rfl) ?_
          refine ja_goto (tgt := 2) dX1_closeEdit_40 (by decide) ?_
          exact ih2 (k + 1) _ (by omega) (by omega) (by rw [wcl, ← hw, zer]; simp only [c27, if_true, if_false, Bool.false_eq_true])
  exact lp2 11 0 w0 (by omega) (by omega) rfl
