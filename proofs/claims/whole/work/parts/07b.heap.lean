/-! MORE OF THE HEAP: arrays of other kinds, new cells, copies, the caught exception -/
section JG
variable {l : Launch} {M : jM} {sc : Nat × (Nat → Int32)} {Qf : jQ} {pc : Nat} {lv : List (Option Value)} {st : List Value} {Z : jZ} {D : jD} {c9 s9 : Nat}

theorem ja_zald {id n j : Nat} {x : Int32} (hS : Z.2.1 id = (11, n)) (hx : x = nI j) (hj : j < n) (hb : n < 2 ^ 31) (d : decode M.2.1 pc = .ok (.baload, 1)) (kk : ja_A l M sc Qf (pc + 1) lv (.int (D id j) :: st) Z D c9 s9) : ja_A l M sc Qf pc lv (.int x :: .ref id :: st) Z D c9 s9 := by
  intro p e s m args below meth c G tc ad0 L0 ad H locs ls C I hl hs
  have hm : id ∈ Z.1 := ja_live I.2.2.2.1 (ja_osh (ja_ost hs)) hS (by omega)
  obtain ⟨q0, hq0, hq⟩ := ja_wk (tc := tc) (ad := ad) (D := D) hm
  unfold ja_e at hq
  rw [ja_el_i hS (by omega) (by omega)] at hq
  subst hx
  refine va_zald (D := G) (cl := ja_cl) C.1.1 C.1.2.1 C.2.2.2.2.2.1.2.1 I.2.2.2.1.1 q0 1 hq rfl (vp_in_nI hj hb) d ?_
  rw [nI_clamp (by omega)]
  exact kk p e s m args below meth c G tc ad0 L0 ad H locs ls C I hl (ja_osc (ja_oki _) (ja_ost (ja_ost hs)))

theorem ja_cald {id n j : Nat} {x : Int32} (hS : Z.2.1 id = (12, n)) (hx : x = nI j) (hj : j < n) (hb : n < 2 ^ 31) (d : decode M.2.1 pc = .ok (.caload, 1)) (kk : ja_A l M sc Qf (pc + 1) lv (.int (D id j) :: st) Z D c9 s9) : ja_A l M sc Qf pc lv (.int x :: .ref id :: st) Z D c9 s9 := by
  intro p e s m args below meth c G tc ad0 L0 ad H locs ls C I hl hs
  have hm : id ∈ Z.1 := ja_live I.2.2.2.1 (ja_osh (ja_ost hs)) hS (by omega)
  obtain ⟨q0, hq0, hq⟩ := ja_wk (tc := tc) (ad := ad) (D := D) hm
  unfold ja_e at hq
  rw [ja_el_i hS (by omega) (by omega)] at hq
  subst hx
  refine va_cald (D := G) (cl := ja_cl) C.1.1 C.1.2.1 C.2.2.2.2.2.1.2.1 I.2.2.2.1.1 q0 2 hq rfl (vp_in_nI hj hb) d ?_
  rw [nI_clamp (by omega)]
  exact kk p e s m args below meth c G tc ad0 L0 ad H locs ls C I hl (ja_osc (ja_oki _) (ja_ost (ja_ost hs)))

theorem ja_zast {id n j : Nat} {x y : Int32} (hS : Z.2.1 id = (11, n)) (hx : x = nI j) (hj : j < n) (hb : n < 2 ^ 31) (hy : vp_nar .boolean y = y) (d : decode M.2.1 pc = .ok (.bastore, 1)) (kk : ja_A l M sc Qf (pc + 1) lv st Z (ja_up D id j y) c9 s9) : ja_A l M sc Qf pc lv (.int y :: .int x :: .ref id :: st) Z D c9 s9 := by
  intro p e s m args below meth c G tc ad0 L0 ad H locs ls C I hl hs
  have hm : id ∈ Z.1 := ja_live I.2.2.2.1 (ja_osh (ja_ost (ja_ost hs))) hS (by omega)
  obtain ⟨q0, hq0, hq⟩ := ja_wk (tc := tc) (ad := ad) (D := D) hm
  unfold ja_e at hq
  rw [ja_el_i hS (by omega) (by omega)] at hq
  subst hx
  refine va_zast (D := G) (cl := ja_cl) C.1.1 C.1.2.1 C.2.2.2.2.2.1.2.1 I.2.2.2.1.1 I.2.2.2.2.1 I.2.2.2.2.2 q0 1 hq rfl (vp_in_nI hj hb) d (fun H1 locs1 hP hD hS1 => ?_)
  rw [nI_clamp (by omega), hy] at hP hD
  have e1 : (ja_w tc ad Z D).set q0 (ad id, .inl (tc 11, n, .inl (upd (D id) j y))) = ja_w tc ad Z (ja_up D id j y) := by
    refine ja_wset I.2.2.2.1.2.1 hq0 rfl ?_ (fun a ha hne => ja_ecg rfl rfl (fun b => by simp [ja_up, hne]) (fun _ => rfl) (fun _ _ _ => rfl) (fun _ => rfl))
    unfold ja_e
    rw [ja_el_i hS (by omega) (by omega)]
    refine congrArg (fun z => (ad id, (Sum.inl (tc 11, n, Sum.inl z) : va_E))) (funext fun b => ?_)
    simp [ja_up, upd]
  rw [e1] at hP hD
  exact kk p e s m args below meth c G tc ad0 L0 ad H1 locs1 ls C (ja_Iput I rfl rfl I.2.2.2.1.2.2.2 hP hD hS1) hl (ja_ost (ja_ost (ja_ost hs)))

theorem ja_cast {id n j : Nat} {x y : Int32} (hS : Z.2.1 id = (12, n)) (hx : x = nI j) (hj : j < n) (hb : n < 2 ^ 31) (hy : vp_nar .char y = y) (d : decode M.2.1 pc = .ok (.castore, 1)) (kk : ja_A l M sc Qf (pc + 1) lv st Z (ja_up D id j y) c9 s9) : ja_A l M sc Qf pc lv (.int y :: .int x :: .ref id :: st) Z D c9 s9 := by
  intro p e s m args below meth c G tc ad0 L0 ad H locs ls C I hl hs
  have hm : id ∈ Z.1 := ja_live I.2.2.2.1 (ja_osh (ja_ost (ja_ost hs))) hS (by omega)
  obtain ⟨q0, hq0, hq⟩ := ja_wk (tc := tc) (ad := ad) (D := D) hm
  unfold ja_e at hq
  rw [ja_el_i hS (by omega) (by omega)] at hq
  subst hx
  refine va_cast (D := G) (cl := ja_cl) C.1.1 C.1.2.1 C.2.2.2.2.2.1.2.1 I.2.2.2.1.1 I.2.2.2.2.1 I.2.2.2.2.2 q0 2 hq rfl (vp_in_nI hj hb) d (fun H1 locs1 hP hD hS1 => ?_)
  rw [nI_clamp (by omega), hy] at hP hD
  have e1 : (ja_w tc ad Z D).set q0 (ad id, .inl (tc 12, n, .inl (upd (D id) j y))) = ja_w tc ad Z (ja_up D id j y) := by
    refine ja_wset I.2.2.2.1.2.1 hq0 rfl ?_ (fun a ha hne => ja_ecg rfl rfl (fun b => by simp [ja_up, hne]) (fun _ => rfl) (fun _ _ _ => rfl) (fun _ => rfl))
    unfold ja_e
    rw [ja_el_i hS (by omega) (by omega)]
    refine congrArg (fun z => (ad id, (Sum.inl (tc 12, n, Sum.inl z) : va_E))) (funext fun b => ?_)
    simp [ja_up, upd]
  rw [e1] at hP hD
  exact kk p e s m args below meth c G tc ad0 L0 ad H1 locs1 ls C (ja_Iput I rfl rfl I.2.2.2.1.2.2.2 hP hD hS1) hl (ja_ost (ja_ost (ja_ost hs)))

theorem ja_lald {id n j : Nat} {x : Int32} (hS : Z.2.1 id = (13, n)) (hx : x = nI j) (hj : j < n) (hb : n < 2 ^ 31) (d : decode M.2.1 pc = .ok (.laload, 1)) (kk : ja_A l M sc Qf (pc + 1) lv (.long (Z.2.2.2 id j).toInt64 :: st) Z D c9 s9) : ja_A l M sc Qf pc lv (.int x :: .ref id :: st) Z D c9 s9 := by
  intro p e s m args below meth c G tc ad0 L0 ad H locs ls C I hl hs
  have hm : id ∈ Z.1 := ja_live I.2.2.2.1 (ja_osh (ja_ost hs)) hS (by omega)
  obtain ⟨q0, hq0, hq⟩ := ja_wk (tc := tc) (ad := ad) (D := D) hm
  unfold ja_e at hq
  rw [ja_el_l hS] at hq
  subst hx
  refine va_lald (D := G) (cl := ja_cl) C.1.1 C.1.2.1 C.2.2.2.2.2.1.2.1 I.2.2.2.1.1 q0 3 hq rfl (vp_in_nI hj hb) d ?_
  rw [nI_clamp (by omega)]
  exact kk p e s m args below meth c G tc ad0 L0 ad H locs ls C I hl (ja_osc (ja_okl _) (ja_ost (ja_ost hs)))
theorem ja_dald {id n j : Nat} {x : Int32} (hS : Z.2.1 id = (14, n)) (hx : x = nI j) (hj : j < n) (hb : n < 2 ^ 31) (d : decode M.2.1 pc = .ok (.daload, 1)) (kk : ja_A l M sc Qf (pc + 1) lv (.double (Z.2.2.2 id j) :: st) Z D c9 s9) : ja_A l M sc Qf pc lv (.int x :: .ref id :: st) Z D c9 s9 := by
  intro p e s m args below meth c G tc ad0 L0 ad H locs ls C I hl hs
  have hm : id ∈ Z.1 := ja_live I.2.2.2.1 (ja_osh (ja_ost hs)) hS (by omega)
  obtain ⟨q0, hq0, hq⟩ := ja_wk (tc := tc) (ad := ad) (D := D) hm
  unfold ja_e at hq
  rw [ja_el_d hS] at hq
  subst hx
  refine va_dald (D := G) (cl := ja_cl) C.1.1 C.1.2.1 C.2.2.2.2.2.1.2.1 I.2.2.2.1.1 q0 4 hq rfl (vp_in_nI hj hb) d ?_
  rw [nI_clamp (by omega)]
  exact kk p e s m args below meth c G tc ad0 L0 ad H locs ls C I hl (ja_osc (ja_okd _) (ja_ost (ja_ost hs)))
theorem ja_last {id n j : Nat} {x : Int32} {y : Int64} (hS : Z.2.1 id = (13, n)) (hx : x = nI j) (hj : j < n) (hb : n < 2 ^ 31) (d : decode M.2.1 pc = .ok (.lastore, 1)) (kk : ja_A l M sc Qf (pc + 1) lv st (ja_ux Z id j y.toUInt64) D c9 s9) : ja_A l M sc Qf pc lv (.long y :: .int x :: .ref id :: st) Z D c9 s9 := by
  intro p e s m args below meth c G tc ad0 L0 ad H locs ls C I hl hs
  have hm : id ∈ Z.1 := ja_live I.2.2.2.1 (ja_osh (ja_ost (ja_ost hs))) hS (by omega)
  obtain ⟨q0, hq0, hq⟩ := ja_wk (tc := tc) (ad := ad) (D := D) hm
  unfold ja_e at hq
  rw [ja_el_l hS] at hq
  subst hx
  refine va_last (D := G) (cl := ja_cl) C.1.1 C.1.2.1 C.2.2.2.2.2.1.2.1 I.2.2.2.1.1 I.2.2.2.2.1 I.2.2.2.2.2 q0 3 hq rfl (vp_in_nI hj hb) d (fun H1 locs1 hP hD hS1 => ?_)
  rw [nI_clamp (by omega)] at hP hD
  have e1 : (ja_w tc ad Z D).set q0 (ad id, .inl (tc 13, n, .inr (.inl (vp_updL (fun j => (Z.2.2.2 id j).toInt64) j y)))) = ja_w tc ad (ja_ux Z id j y.toUInt64) D := by
    refine ja_wset I.2.2.2.1.2.1 hq0 rfl ?_ (fun a ha hne => ja_ecg rfl rfl (fun b => rfl) (fun _ => rfl) (fun _ _ _ => rfl) (fun _ => by simp [ja_ux, hne]))
    unfold ja_e
    rw [ja_el_l (Z := ja_ux Z id j y.toUInt64) hS]
    refine congrArg (fun z => (ad id, (Sum.inl (tc 13, n, Sum.inr (Sum.inl z)) : va_E))) (funext fun b => ?_)
    by_cases hbj : b = j <;> simp [ja_ux, vp_updL, hbj]
  rw [e1] at hP hD
  exact kk p e s m args below meth c G tc ad0 L0 ad H1 locs1 ls C (ja_Iput I rfl rfl I.2.2.2.1.2.2.2 hP hD hS1) (ja_Lz hl rfl) (ja_ost (ja_ost (ja_ost hs)))
theorem ja_dast {id n j : Nat} {x : Int32} {y : UInt64} (hS : Z.2.1 id = (14, n)) (hx : x = nI j) (hj : j < n) (hb : n < 2 ^ 31) (d : decode M.2.1 pc = .ok (.dastore, 1)) (kk : ja_A l M sc Qf (pc + 1) lv st (ja_ux Z id j y) D c9 s9) : ja_A l M sc Qf pc lv (.double y :: .int x :: .ref id :: st) Z D c9 s9 := by
  intro p e s m args below meth c G tc ad0 L0 ad H locs ls C I hl hs
  have hm : id ∈ Z.1 := ja_live I.2.2.2.1 (ja_osh (ja_ost (ja_ost hs))) hS (by omega)
  obtain ⟨q0, hq0, hq⟩ := ja_wk (tc := tc) (ad := ad) (D := D) hm
  unfold ja_e at hq
  rw [ja_el_d hS] at hq
  subst hx
  obtain ⟨q1, hq1⟩ : ∃ f, f = Z.2.2.2 id := ⟨_, rfl⟩
  refine va_dast (D := G) (cl := ja_cl) C.1.1 C.1.2.1 C.2.2.2.2.2.1.2.1 I.2.2.2.1.1 I.2.2.2.2.1 I.2.2.2.2.2 q0 4 hq rfl (vp_in_nI hj hb) d (fun H1 locs1 hP hD hS1 => ?_)
  rw [nI_clamp (by omega)] at hP hD
  have e1 : (ja_w tc ad Z D).set q0 (ad id, .inl (tc 14, n, .inr (.inr (.inr (.inl (vf_upd (Z.2.2.2 id) j y)))))) = ja_w tc ad (ja_ux Z id j y) D := by
    refine ja_wset I.2.2.2.1.2.1 hq0 rfl ?_ (fun a ha hne => ja_ecg rfl rfl (fun b => rfl) (fun _ => rfl) (fun _ _ _ => rfl) (fun _ => by simp [ja_ux, hne]))
    unfold ja_e
    rw [ja_el_d (Z := ja_ux Z id j y) hS]
    refine congrArg (fun z => (ad id, (Sum.inl (tc 14, n, Sum.inr (Sum.inr (Sum.inr (Sum.inl z)))) : va_E))) (funext fun b => ?_)
    by_cases hbj : b = j <;> simp [ja_ux, vf_upd, hbj]
  rw [e1] at hP hD
  exact kk p e s m args below meth c G tc ad0 L0 ad H1 locs1 ls C (ja_Iput I rfl rfl I.2.2.2.1.2.2.2 hP hD hS1) (ja_Lz hl rfl) (ja_ost (ja_ost (ja_ost hs)))
/-- kinds of arrays of references, with their row among the types -/
theorem ja_aald {id k n j i : Nat} {x : Int32} (hS : Z.2.1 id = (k, n)) (hk : k = 15 ∨ k = 16 ∨ k = 17 ∨ k = 18) (hx : x = nI j) (hj : j < n) (hb : n < 2 ^ 31) (hp : Z.2.2.1 id j = some i) (d : decode M.2.1 pc = .ok (.aaload, 1)) (kk : ja_A l M sc Qf (pc + 1) lv (.ref i :: st) Z D c9 s9) : ja_A l M sc Qf pc lv (.int x :: .ref id :: st) Z D c9 s9 := by
  intro p e s m args below meth c G tc ad0 L0 ad H locs ls C I hl hs
  have hm : id ∈ Z.1 := ja_live I.2.2.2.1 (ja_osh (ja_ost hs)) hS (by omega)
  obtain ⟨q0, hq0, hq⟩ := ja_wk (tc := tc) (ad := ad) (D := D) hm
  unfold ja_e at hq
  rw [ja_el_q hS (by omega)] at hq
  subst hx
  have hq2 : H[ad id]? = some (arrV (tc k) n (fun b => va_rf ((Z.2.2.1 id b).map ad))) := I.2.2.2.1.1 q0 _ hq
  have har : ∃ ty, ty.isReference = true ∧ ArrOfT s (tc k) ty := by
    have hK := C.2.2.2.2.2.1.2.1.2
    rcases hk with rfl | rfl | rfl | rfl
    · exact ⟨_, rfl, (hK 5 _ rfl).1⟩
    · exact ⟨_, rfl, (hK 6 _ rfl).1⟩
    · exact ⟨_, rfl, (hK 7 _ rfl).1⟩
    · exact ⟨_, rfl, (hK 8 _ rfl).1⟩
  obtain ⟨ty, hty, hat⟩ := har
  have hcl : (nI j).toNatClampNeg = j := nI_clamp (by omega)
  refine W.aald C.1.1 C.1.2.1 (v := .ref (ad i)) hq2 (hat n _) hty (by simp [arrV]) (by rw [hcl]; simp [arrV]; exact ⟨nI_pos' (by omega), hj⟩) (by rw [hcl]; simp [arrV, hj, hp, va_rf]) rfl rfl d ?_
  exact kk p e s m args below meth c G tc ad0 L0 ad H locs ls C I hl (ja_osc (ja_okr (I.2.2.2.1.2.2.2 id hm j i hp)) (ja_ost (ja_ost hs)))
theorem ja_aaldN {id k n j : Nat} {x : Int32} (hS : Z.2.1 id = (k, n)) (hk : k = 15 ∨ k = 16 ∨ k = 17 ∨ k = 18) (hx : x = nI j) (hj : j < n) (hb : n < 2 ^ 31) (hp : Z.2.2.1 id j = none) (d : decode M.2.1 pc = .ok (.aaload, 1)) (kk : ja_A l M sc Qf (pc + 1) lv (.null :: st) Z D c9 s9) : ja_A l M sc Qf pc lv (.int x :: .ref id :: st) Z D c9 s9 := by
  intro p e s m args below meth c G tc ad0 L0 ad H locs ls C I hl hs
  have hm : id ∈ Z.1 := ja_live I.2.2.2.1 (ja_osh (ja_ost hs)) hS (by omega)
  obtain ⟨q0, hq0, hq⟩ := ja_wk (tc := tc) (ad := ad) (D := D) hm
  unfold ja_e at hq
  rw [ja_el_q hS (by omega)] at hq
  subst hx
  have hq2 : H[ad id]? = some (arrV (tc k) n (fun b => va_rf ((Z.2.2.1 id b).map ad))) := I.2.2.2.1.1 q0 _ hq
  have har : ∃ ty, ty.isReference = true ∧ ArrOfT s (tc k) ty := by
    have hK := C.2.2.2.2.2.1.2.1.2
    rcases hk with rfl | rfl | rfl | rfl
    · exact ⟨_, rfl, (hK 5 _ rfl).1⟩
    · exact ⟨_, rfl, (hK 6 _ rfl).1⟩
    · exact ⟨_, rfl, (hK 7 _ rfl).1⟩
    · exact ⟨_, rfl, (hK 8 _ rfl).1⟩
  obtain ⟨ty, hty, hat⟩ := har
  have hcl : (nI j).toNatClampNeg = j := nI_clamp (by omega)
  refine W.aald C.1.1 C.1.2.1 (v := .null) hq2 (hat n _) hty (by simp [arrV]) (by rw [hcl]; simp [arrV]; exact ⟨nI_pos' (by omega), hj⟩) (by rw [hcl]; simp [arrV, hj, hp, va_rf]) rfl rfl d ?_
  exact kk p e s m args below meth c G tc ad0 L0 ad H locs ls C I hl (ja_osc ja_okn (ja_ost (ja_ost hs)))
theorem ja_alen {id k n t0 : Nat} {v : Int32} (hS : Z.2.1 id = (k, n)) (hk : 9 ≤ k ∧ k < 99) (ht : ∀ tc : Nat → ClassId, ∃ ty, (ja_tys tc)[t0]? = some (tc k, ty)) (hv : Int32.ofNat n = v) (d : decode M.2.1 pc = .ok (.arraylength, 1)) (kk : ja_A l M sc Qf (pc + 1) lv (.int v :: st) Z D c9 s9) : ja_A l M sc Qf pc lv (.ref id :: st) Z D c9 s9 := by
  intro p e s m args below meth c G tc ad0 L0 ad H locs ls C I hl hs
  have hm : id ∈ Z.1 := ja_live I.2.2.2.1 (ja_osh hs) hS hk.2
  obtain ⟨q0, hq0, hq⟩ := ja_wk (tc := tc) (ad := ad) (D := D) hm
  unfold ja_e ja_el at hq
  rw [hS, if_neg (by show ¬ k < 9; omega)] at hq
  obtain ⟨ty, ht⟩ := ht tc
  exact va_alen (D := G) (cl := ja_cl) C.1.1 C.1.2.1 C.2.2.2.2.2.1.2.1 I.2.2.2.1.1 q0 t0 hq ht hv d (kk p e s m args below meth c G tc ad0 L0 ad H locs ls C I hl (ja_osc (ja_oki _) (ja_ost hs)))
/-- the law's script -/
theorem ja_slen {L : Nat} {xs : Nat → Int32} (hsc : sc = (L + 1, xs)) (d : decode M.2.1 pc = .ok (.arraylength, 1)) (kk : ja_A l M sc Qf (pc + 1) lv (.int (nI L) :: st) Z D c9 s9) : ja_A l M sc Qf pc lv (.ref 900 :: st) Z D c9 s9 := by
  intro p e s m args below meth c G tc ad0 L0 ad H locs ls C I hl hs
  subst hsc
  rcases C.2.2.2.2.2.2 with h | ⟨h1, h2, h3⟩
  · cases h
  have e9 : ad 900 = ad0 900 := I.1 900 (Or.inr rfl)
  show W p l e M.2.2.2.2.1 s m args below meth c H locs c9 s9 _ (F0 m pc ls (.ref (ad 900) :: st.map (ja_cv ad)))
  rw [e9]
  exact va_slen C.1.1 C.1.2.1 h1 h2 h3 I.2.2.2.2.2 d (kk p e s m args below meth c G tc ad0 L0 ad H locs ls C I hl (ja_osc (ja_oki _) (ja_ost hs)))
theorem ja_sld {L j : Nat} {xs : Nat → Int32} {x : Int32} (hsc : sc = (L + 1, xs)) (hx : x = nI j) (hj : j < L) (hb : L < 2 ^ 31) (d : decode M.2.1 pc = .ok (.iaload, 1)) (kk : ja_A l M sc Qf (pc + 1) lv (.int (xs j) :: st) Z D c9 s9) : ja_A l M sc Qf pc lv (.int x :: .ref 900 :: st) Z D c9 s9 := by
  intro p e s m args below meth c G tc ad0 L0 ad H locs ls C I hl hs
  subst hsc
  subst hx
  rcases C.2.2.2.2.2.2 with h | ⟨h1, h2, h3⟩
  · cases h
  have e9 : ad 900 = ad0 900 := I.1 900 (Or.inr rfl)
  show W p l e M.2.2.2.2.1 s m args below meth c H locs c9 s9 _ (F0 m pc ls (.int (nI j) :: .ref (ad 900) :: st.map (ja_cv ad)))
  rw [e9]
  refine va_sld C.1.1 C.1.2.1 h1 h2 h3 I.2.2.2.2.2 (vp_in_nI hj hb) d ?_
  rw [nI_clamp (by omega)]
  exact kk p e s m args below meth c G tc ad0 L0 ad H locs ls C I hl (ja_osc (ja_oki _) (ja_ost (ja_ost hs)))
theorem ja_mabs {idx : Nat} {x : Int32} (hlk : Cond.methodLink M.1.cls idx Lib.Math.abs.name ∈ ja_T) (hst : Cond.static Lib.Math.abs.name ∈ ja_T) (hin : Cond.initialized "java/lang/Math" ∈ ja_T) (hco : Cond.code Lib.Math.abs.name Lib.Math.abs.code 1 (some .int) ∈ ja_T) (hf : 1 ≤ M.2.2.2.2.1.frames) (hlo : (st.map fun v => v.category).sum + 13 ≤ M.2.2.2.2.1.locals) (hc : c9 ≤ M.2.2.2.2.1.cells) (hs9 : s9 ≤ M.2.2.2.2.1.slots) (d : decode M.2.1 pc = .ok (.invokestatic idx, 3)) (kk : ja_A l M sc Qf (pc + 3) lv (.int (if 0 ≤ x then x else 0 - x) :: st) Z D c9 s9) : ja_A l M sc Qf pc lv (.int x :: st) Z D c9 s9 := by
  intro p e s m args below meth c G tc ad0 L0 ad H locs ls C I hl hs
  refine va_mabs C.1.1 C.1.2.1 (C.1.2.2.1.trans hl.1.1.symm) C.1.2.2.2.1 (C.1.2.2.2.2 _ hlk) (C.1.2.2.2.2 _ hst) (C.1.2.2.2.2 _ hin) (C.1.2.2.2.2 _ hco) hf ?_ hc hs9 d (kk p e s m args below meth c G tc ad0 L0 ad H locs ls C I hl (ja_osc (ja_oki _) (ja_ost hs)))
  rw [List.map_map]
  have : (st.map ((fun v : Value => v.category) ∘ ja_cv ad)) = st.map fun v => v.category := List.map_congr_left (fun v _ => ja_cvc ad v)
  rw [this]
  exact hlo
/-- System.arraycopy of whole numbers -/
def ja_cp (D : jD) (i0 sp i1 dp n : Nat) : jD := fun a b => if a = i1 then va_cpy (D i0) (D i1) sp dp n b else D a b
theorem ja_copy {idx i0 i1 n0 n1 sp dp n : Nat} {x y z : Int32} (hlk : Cond.methodLink M.1.cls idx arraycopyName ∈ ja_T) (hna : Cond.native arraycopyName ∈ ja_T) (hst : Cond.static arraycopyName ∈ ja_T) (hin : Cond.initialized "java/lang/System" ∈ ja_T) (hS0 : Z.2.1 i0 = (10, n0)) (hS1 : Z.2.1 i1 = (10, n1)) (hx : x = nI n) (hy : y = nI dp) (hz : z = nI sp) (h4 : sp + n ≤ n0) (h5 : dp + n ≤ n1) (h6 : n0 < 2 ^ 31) (h7 : n1 < 2 ^ 31)
    (hf : 1 ≤ M.2.2.2.2.1.frames) (hlo : (st.map fun v => v.category).sum + (nativeFrameWords "java/lang/System" "arraycopy" 5 + 11) ≤ M.2.2.2.2.1.locals) (d : decode M.2.1 pc = .ok (.invokestatic idx, 3)) (kk : ja_A l M sc Qf (pc + 3) lv st Z (ja_cp D i0 sp i1 dp n) c9 s9) : ja_A l M sc Qf pc lv (.int x :: .int y :: .ref i1 :: .int z :: .ref i0 :: st) Z D c9 s9 := by
  intro p e s m args below meth c G tc ad0 L0 ad H locs ls C I hl hs
  have hm0 : i0 ∈ Z.1 := ja_live I.2.2.2.1 (ja_osh (ja_ost (ja_ost (ja_ost (ja_ost hs))))) hS0 (by omega)
  have hm1 : i1 ∈ Z.1 := ja_live I.2.2.2.1 (ja_osh (ja_ost (ja_ost hs))) hS1 (by omega)
  obtain ⟨q0, hk0, hq0⟩ := ja_wk (tc := tc) (ad := ad) (D := D) hm0
  obtain ⟨q1, hk1, hq1⟩ := ja_wk (tc := tc) (ad := ad) (D := D) hm1
  unfold ja_e at hq0 hq1
  rw [ja_el_i hS0 (by omega) (by omega)] at hq0
  rw [ja_el_i hS1 (by omega) (by omega)] at hq1
  subst hx; subst hy; subst hz
  have c1 : (nI n).toNatClampNeg = n := nI_clamp (by omega)
  have c2 : (nI dp).toNatClampNeg = dp := nI_clamp (by omega)
  have c3 : (nI sp).toNatClampNeg = sp := nI_clamp (by omega)
  refine va_copyi (D := G) (cl := ja_cl) (tys := ja_tys tc) (ty := .int) C.1.1 C.1.2.1 (C.1.2.2.1.trans hl.1.1.symm) C.1.2.2.2.1 (C.1.2.2.2.2 _ hlk) (C.1.2.2.2.2 _ hna) (C.1.2.2.2.2 _ hst) (C.1.2.2.2.2 _ hin) C.2.2.2.2.2.1.2.1 I.2.2.2.1.1 I.2.2.2.2.1 I.2.2.2.2.2 q0 q1 0 0 hq0 hq1 rfl rfl rfl (nI_pos (by omega)) (nI_pos (by omega)) (nI_pos (by omega)) (by rw [c1, c3]; exact h4) (by rw [c1, c2]; exact h5) (fun i hi => rfl) hf ?_ d (fun H1 locs1 hP hD hS1' => ?_)
  · rw [List.map_map]
    have : (st.map ((fun v : Value => v.category) ∘ ja_cv ad)) = st.map fun v => v.category := List.map_congr_left (fun v _ => ja_cvc ad v)
    rw [this]
    exact hlo
  rw [c1, c2, c3] at hP hD
  have e1 : (ja_w tc ad Z D).set q1 (ad i1, .inl (tc 10, n1, .inl (va_cpy (D i0) (D i1) sp dp n))) = ja_w tc ad Z (ja_cp D i0 sp i1 dp n) := by
    refine ja_wset I.2.2.2.1.2.1 hk1 rfl ?_ (fun a ha hne => ja_ecg rfl rfl (fun b => by simp [ja_cp, hne]) (fun _ => rfl) (fun _ _ _ => rfl) (fun _ => rfl))
    unfold ja_e
    rw [ja_el_i hS1 (by omega) (by omega)]
    refine congrArg (fun z => (ad i1, (Sum.inl (tc 10, n1, Sum.inl z) : va_E))) (funext fun b => ?_)
    simp [ja_cp]
  rw [e1] at hP hD
  exact kk p e s m args below meth c G tc ad0 L0 ad H1 locs1 ls C (ja_Iput I rfl rfl I.2.2.2.1.2.2.2 hP hD hS1') hl (ja_ost (ja_ost (ja_ost (ja_ost (ja_ost hs)))))
/-- Object's constructor -/
theorem ja_obj {idx id : Nat} (hlk : Cond.methodLink M.1.cls idx objectInit ∈ ja_T) (hin : Cond.instanceMethod objectInit ∈ ja_T) (hco : Cond.code objectInit ⟨#[0xb1]⟩ 1 none ∈ ja_T) (hf : 1 ≤ M.2.2.2.2.1.frames) (hlo : (st.map fun v => v.category).sum + 12 ≤ M.2.2.2.2.1.locals) (d : decode M.2.1 pc = .ok (.invokespecial idx, 3)) (kk : ja_A l M sc Qf (pc + 3) lv st Z D c9 s9) : ja_A l M sc Qf pc lv (.ref id :: st) Z D c9 s9 := by
  intro p e s m args below meth c G tc ad0 L0 ad H locs ls C I hl hs
  refine W.objInit C.1.1 C.1.2.1 C.1.2.2.2.1 (C.1.2.2.2.2 _ hlk) (C.1.2.2.2.2 _ hin) (C.1.2.2.2.2 _ hco) rfl (hl.1.1.trans C.1.2.2.1.symm) rfl d hf ?_ (kk p e s m args below meth c G tc ad0 L0 ad H locs ls C I hl (ja_ost hs))
  have h2 : (((st.map (ja_cv ad)).map fun v => v.category)) = st.map fun v => v.category := by
    rw [List.map_map]
    exact List.map_congr_left (fun v _ => ja_cvc ad v)
  rw [h2]
  have h3 : ∀ X : List Value, (F0 m pc ls X).monitorRoom = 0 := fun X => rfl
  rw [h3]
  omega

end JG
