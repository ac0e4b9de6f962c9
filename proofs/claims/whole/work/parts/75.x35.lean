/-! ROWS: objects and arrays are made -/
set_option maxRecDepth 100000 in
theorem ac_int : Cond.arrayClass .int ∈ ja_T := ja_in1 (i := 67) rfl rfl
set_option maxRecDepth 100000 in
theorem ac_boolean : Cond.arrayClass .boolean ∈ ja_T := ja_in5 (i := 118) rfl rfl
set_option maxRecDepth 100000 in
theorem ac_char : Cond.arrayClass .char ∈ ja_T := ja_in5 (i := 119) rfl rfl
set_option maxRecDepth 100000 in
theorem ac_long : Cond.arrayClass .long ∈ ja_T := ja_in6 (i := 152) rfl rfl
set_option maxRecDepth 100000 in
theorem ac_double : Cond.arrayClass .double ∈ ja_T := ja_in6 (i := 153) rfl rfl
set_option maxRecDepth 100000 in
theorem in_X0 : Cond.instantiable RX0 3 ∈ ja_T := ja_in1 (i := 79) rfl rfl
set_option maxRecDepth 100000 in
theorem it_X0 : Cond.initialized RX0 ∈ ja_T := ja_in1 (i := 4) rfl rfl
set_option maxRecDepth 100000 in
theorem in_X1 : Cond.instantiable RX1 9 ∈ ja_T := ja_in1 (i := 107) rfl rfl
set_option maxRecDepth 100000 in
theorem it_X1 : Cond.initialized RX1 ∈ ja_T := ja_in1 (i := 6) rfl rfl
set_option maxRecDepth 100000 in
theorem in_X2 : Cond.instantiable RX2 1 ∈ ja_T := ja_in1 (i := 98) rfl rfl
set_option maxRecDepth 100000 in
theorem it_X2 : Cond.initialized RX2 ∈ ja_T := ja_in1 (i := 5) rfl rfl
set_option maxRecDepth 100000 in
theorem in_X3 : Cond.instantiable RX3 6 ∈ ja_T := ja_in1 (i := 39) rfl rfl
set_option maxRecDepth 100000 in
theorem it_X3 : Cond.initialized RX3 ∈ ja_T := ja_in1 (i := 2) rfl rfl
set_option maxRecDepth 100000 in
theorem in_X4 : Cond.instantiable RX4 4 ∈ ja_T := ja_in3 (i := 42) rfl rfl
set_option maxRecDepth 100000 in
theorem it_X4 : Cond.initialized RX4 ∈ ja_T := ja_in1 (i := 20) rfl rfl
set_option maxRecDepth 100000 in
theorem in_X5 : Cond.instantiable RX5 1 ∈ ja_T := ja_in1 (i := 69) rfl rfl
set_option maxRecDepth 100000 in
theorem it_X5 : Cond.initialized RX5 ∈ ja_T := ja_in1 (i := 3) rfl rfl
set_option maxRecDepth 100000 in
theorem in_X6 : Cond.instantiable RX6 8 ∈ ja_T := ja_in3 (i := 226) rfl rfl
set_option maxRecDepth 100000 in
theorem it_X6 : Cond.initialized RX6 ∈ ja_T := ja_in1 (i := 22) rfl rfl
set_option maxRecDepth 100000 in
theorem in_X7 : Cond.instantiable RX7 13 ∈ ja_T := ja_in1 (i := 25) rfl rfl
set_option maxRecDepth 100000 in
theorem it_X7 : Cond.initialized RX7 ∈ ja_T := ja_in1 (i := 1) rfl rfl
set_option maxRecDepth 100000 in
theorem in_X8 : Cond.instantiable RX8 28 ∈ ja_T := ja_in5 (i := 28) rfl rfl
set_option maxRecDepth 100000 in
theorem it_X8 : Cond.initialized RX8 ∈ ja_T := ja_in1 (i := 7) rfl rfl
def ja_a1 (ad : Nat → Nat) (id q : Nat) : Nat → Nat := fun i => if i = id then q else ad i
theorem ja_a1o {ad : Nat → Nat} {id q i : Nat} (h : i ≠ id) : ja_a1 ad id q i = ad i := if_neg h
theorem ja_wnew {tc : Nat → ClassId} {ad : Nat → Nat} {Z : jZ} {D : jD} {id k n q : Nat} (R : ∀ i ∈ Z.1, ∀ j k, Z.2.2.1 i j = some k → k ∈ Z.1) (hid : id ∉ Z.1) : ja_w tc (ja_a1 ad id q) (ja_zn Z id k n) (ja_dn D id) = ja_w tc ad Z D ++ [ja_e tc (ja_a1 ad id q) (ja_zn Z id k n) (ja_dn D id) id] := by
  unfold ja_w
  show (Z.1 ++ [id]).map _ = _
  rw [List.map_append]
  refine congrArg (fun z => z ++ [ja_e tc (ja_a1 ad id q) (ja_zn Z id k n) (ja_dn D id) id]) (List.map_congr_left fun j hj => ?_)
  have hne : j ≠ id := fun e => hid (e ▸ hj)
  exact ja_ecg (ja_a1o hne) (by simp [ja_zn, hne]) (fun b => by simp [ja_dn, hne]) (fun b => by simp [ja_zn, hne]) (fun b k hk => ja_a1o (fun e => hid (e ▸ R j hj b k hk))) (fun b => by simp [ja_zn, hne])
theorem ja_Inew {s : State} {G : va_G} {tc : Nat → ClassId} {ad0 : Nat → Nat} {L0 : List Nat} {ad : Nat → Nat} {Z : jZ} {D : jD} {H H1 : Heap} {locs : List Loc} (I : ja_I s G tc ad0 L0 ad Z D H locs) {id k n q : Nat} {el : va_E} (hid : id ∉ Z.1) (h9 : id ≠ 900) (hel : ja_el tc (ja_a1 ad id q) (ja_zn Z id k n) (ja_dn D id) id = el)
    (hP : va_P G ja_cl (ja_w tc ad Z D ++ [(q, el)]) H1) (hD : va_D (ja_Ar ad0 L0 s.heap.size) (ja_w tc ad Z D ++ [(q, el)])) (hS : va_S (ja_Ar ad0 L0 s.heap.size) s.heap H1 locs) : ja_I s G tc ad0 L0 (ja_a1 ad id q) (ja_zn Z id k n) (ja_dn D id) H1 locs := by
  obtain ⟨i1, i2, i3, ⟨r1, r2, r3, r4⟩, i5, i6⟩ := I
  have hw : ja_w tc (ja_a1 ad id q) (ja_zn Z id k n) (ja_dn D id) = ja_w tc ad Z D ++ [(q, el)] := by
    rw [ja_wnew r4 hid]
    unfold ja_e
    rw [hel, ja_a1, if_pos rfl]
  have hL : id ∉ L0 := fun h => hid (i2 id h)
  refine ⟨fun i hi => ?_, fun i hi => List.mem_append_left _ (i2 i hi), fun i hi h0 => ?_, ⟨by rw [hw]; exact hP, ?_, ⟨?_, ?_⟩, ?_⟩, by rw [hw]; exact hD, hS⟩
  · have : i ≠ id := by
      rintro rfl
      rcases hi with h | h
      · exact hL h
      · exact h9 h
    rw [ja_a1o this]; exact i1 i hi
  · rcases List.mem_append.mp hi with h | h
    · have : i ≠ id := fun e => hid (e ▸ h)
      rw [ja_a1o this]; exact i3 i h h0
    · have e : i = id := by simpa using h
      subst e
      rw [ja_a1, if_pos rfl]
      have hlast : (ja_w tc ad Z D ++ [(q, el)])[(ja_w tc ad Z D).length]? = some (q, el) := by simp
      rcases hD.2 _ _ hlast with ⟨j, hj, hq⟩ | hq
      · exfalso
        obtain ⟨k0, -, hk0⟩ := ja_wk (tc := tc) (ad := ad) (D := D) (i2 j hj)
        have hlt := (List.getElem?_eq_some_iff.mp hk0).1
        have := hD.1 k0 _ _ _ (by rw [List.getElem?_append_left hlt]; exact hk0) hlast (by show ad j = q; rw [i1 j (Or.inl hj)]; exact hq)
        omega
      · exact hq
  · show (Z.1 ++ [id]).Nodup
    rw [List.nodup_append]
    exact ⟨r2, by simp, fun a ha b hb => by
      have : b = id := by simpa using hb
      subst this
      exact fun e => hid (e ▸ ha)⟩
  · show 900 ∉ Z.1 ++ [id]
    simp only [List.mem_append, List.mem_singleton, not_or]
    exact ⟨r3.1, fun e => h9 e.symm⟩
  · show (if 900 = id then (k, n) else Z.2.1 900) = (99, 0)
    rw [if_neg (fun e => h9 e.symm)]; exact r3.2
  · intro i hi j k2 hk
    have hk : (if i = id then none else Z.2.2.1 i j) = some k2 := hk
    by_cases e : i = id
    · rw [if_pos e] at hk; cases hk
    · rw [if_neg e] at hk
      rcases List.mem_append.mp hi with h | h
      · exact List.mem_append_left _ (r4 i h j k2 hk)
      · exact absurd (by simpa using h) e
section JNW
variable {l : Launch} {M : jM} {sc : Nat × (Nat → Int32)} {Qf : jQ} {pc : Nat} {lv : List (Option Value)} {st : List Value} {Z : jZ} {D : jD} {c9 s9 : Nat}
/-- behind the making: the machine goes on -/
theorem ja_gon {id k n q : Nat} (hid : id ∉ Z.1) (h9 : id ≠ 900) {p : Program} {e : Env} {s : State} {m : MethodId} {args : Array Value} {below : List Frame} {meth : Method} {c : Code} {G : va_G} {tc : Nat → ClassId} {ad0 : Nat → Nat} {L0 : List Nat} {ad : Nat → Nat} {locs : List Loc} {ls : Array Slot}
    (C : ja_C l M sc p s m args meth c G tc ad0 L0) (hl : ja_L ad M.2.2.1 ls lv Z) (hs : ja_oks Z st) {H1 : Heap} (I2 : ja_I s G tc ad0 L0 (ja_a1 ad id q) (ja_zn Z id k n) (ja_dn D id) H1 locs) (kk : ja_A l M sc Qf pc lv (.ref id :: st) (ja_zn Z id k n) (ja_dn D id) c9 s9) :
    W p l e M.2.2.2.2.1 s m args below meth c H1 locs c9 s9 (Qf G tc ad0 L0 below args s) (F0 m pc ls (.ref q :: st.map (ja_cv ad))) := by
  have ho : ∀ i, i ∈ Z.1 ∨ i = 900 → ja_a1 ad id q i = ad i := fun i hi => ja_a1o (by
    rintro rfl
    rcases hi with h | h
    · exact hid h
    · exact h9 h)
  have hz : ∀ i ∈ Z.1, i ∈ (ja_zn Z id k n).1 := fun i hi => List.mem_append_left _ hi
  have := kk p e s m args below meth c G tc ad0 L0 (ja_a1 ad id q) H1 locs ls C I2 (ja_Lc hl ho hz) (ja_osc (ja_okr (List.mem_append_right _ (by simp))) (ja_oks_mono hz hs))
  have e2 : (Value.ref id :: st).map (ja_cv (ja_a1 ad id q)) = .ref q :: st.map (ja_cv ad) := by
    rw [List.map_cons, ja_cvs hs ho, ja_cvr, ja_a1, if_pos rfl]
  rw [e2] at this
  exact this
theorem ja_new {idx ci id : Nat} {C : String} {T : u_T} {N : Nat} (K : ja_k ci C T N) (hcl : Cond.classLink M.1.cls idx C ∈ ja_T) (hinst : Cond.instantiable C N ∈ ja_T) (hini : Cond.initialized C ∈ ja_T) (hid : id ∉ Z.1) (h9 : id ≠ 900) (hc : c9 + 1 ≤ M.2.2.2.2.1.cells) (hs9 : s9 + N ≤ M.2.2.2.2.1.slots) (d : decode M.2.1 pc = .ok (.new idx, 3))
    (kk : ja_A l M sc Qf (pc + 3) lv (.ref id :: st) (ja_zn Z id ci N) (ja_dn D id) (c9 + 1) (s9 + N)) : ja_A l M sc Qf pc lv st Z D c9 s9 := by
  intro p e s m args below meth c G tc ad0 L0 ad H locs ls Cc I hl hs
  obtain ⟨k1, k2, k3, k4, k5, k6, k7, k8⟩ := K
  refine va_new (D := G) (cl := ja_cl) (ci := ci) (fs := (List.range N).map (fun j => if (ja_ty ci j).isReference then .null else .int 0)) Cc.1.1 Cc.1.2.1 Cc.1.2.2.2.2 k2 (ja_ty ci) k5 Cc.1.2.2.2.1 (Cc.1.2.2.2.2 _ hcl) (Cc.1.2.2.2.2 _ hinst) (Cc.1.2.2.2.2 _ hini) Cc.2.2.2.2.2.1.2.1 I.2.2.2.1.1 I.2.2.2.2.1 I.2.2.2.2.2 (fun q hq => Or.inr hq) k1 (fun j hj => ?_) hc hs9 d (fun q H1 hP hD hS => ?_)
  · rw [k7 j hj]
    unfold vp_V
    rw [List.getD_eq_getElem?_getD, List.getElem?_map, List.getElem?_range hj]
    rfl
  · refine ja_gon hid h9 Cc hl hs (ja_Inew I hid h9 ?_ hP hD hS) kk
    rw [ja_el_o (k := ci) (n := N) (by show (if id = id then (ci, N) else _) = _; rw [if_pos rfl]) k3]
    refine congrArg (fun z => (Sum.inr (ci, z) : va_E)) (List.map_congr_left fun j _ => ?_)
    unfold ja_fv
    show (if _ then va_rf ((if id = id then none else _ : Option Nat).map _) else .int (if id = id then 0 else _)) = _
    rw [if_pos rfl, if_pos rfl]
    rfl
theorem ja_nameT {U : State} {G : va_G} {tc : Nat → ClassId} (hK : va_K G ja_cl (ja_tys tc) U) {i k : Nat} {ty : FieldType} {cA : ClassId} (hi : (ja_tys tc)[i]? = some (tc k, ty)) (h2 : va_RA U cA ty) : cA = tc k := by
  have h1 := (hK.2 i _ hi).2
  cases ty with
  | object C =>
    obtain ⟨-, -, -, -, -, a1⟩ := h1
    obtain ⟨-, -, -, -, -, a2⟩ := h2
    exact Option.some.inj (a2.symm.trans a1)
  | _ => exact Option.some.inj (Eq.trans (Eq.symm h2) h1)
/-- newarray of ints, booleans, chars -/
theorem ja_newa {id n t0 k : Nat} {x : Int32} {at0 : ArrayType} (hx : x = nI n) (hn : n < 100000) (hk : k = 10 + t0) (h3 : t0 < 3) (hty : (ja_tys (fun i => i))[t0]? = some (k, newarray.typeOf at0)) (ha : Cond.arrayClass (newarray.typeOf at0) ∈ ja_T) (hdv : defaultValue (newarray.typeOf at0) = .int 0) (hcb : componentBytes (newarray.typeOf at0) ≤ 8) (hid : id ∉ Z.1) (h9 : id ≠ 900) (hc : c9 + 1 ≤ M.2.2.2.2.1.cells) (hs9 : s9 + n ≤ M.2.2.2.2.1.slots) (d : decode M.2.1 pc = .ok (.newarray at0, 2))
    (kk : ja_A l M sc Qf (pc + 2) lv (.ref id :: st) (ja_zn Z id k n) (ja_dn D id) (c9 + 1) (s9 + n)) : ja_A l M sc Qf pc lv (.int x :: st) Z D c9 s9 := by
  intro p e s m args below meth c G tc ad0 L0 ad H locs ls Cc I hl hs
  subst hx
  have hbt : n * componentBytes (newarray.typeOf at0) ≤ 100000 * 8 := Nat.mul_le_mul (by omega) hcb
  refine va_newa (D := G) (cl := ja_cl) (N' := n) (a0 := (n, .inl (fun _ => 0))) Cc.1.1 Cc.1.2.1 (Cc.1.2.2.2.2 _ ha) rfl Cc.2.2.2.2.2.1.2.1 I.2.2.2.1.1 I.2.2.2.2.1 I.2.2.2.2.2 (fun q hq => Or.inr hq) (fun cA => by rw [hdv]; rfl) (nI_pos (by omega)) (nI_clamp (by omega)) (by omega) hc hs9 d (fun q cA H1 hK hP hD hS => ?_)
  have hi : (ja_tys tc)[t0]? = some (tc k, newarray.typeOf at0) := by
    subst hk
    rcases (show t0 = 0 ∨ t0 = 1 ∨ t0 = 2 by omega) with rfl | rfl | rfl
    · have e : (FieldType.int) = newarray.typeOf at0 := congrArg Prod.snd (Option.some.inj hty)
      rw [← e]; rfl
    · have e : (FieldType.boolean) = newarray.typeOf at0 := congrArg Prod.snd (Option.some.inj hty)
      rw [← e]; rfl
    · have e : (FieldType.char) = newarray.typeOf at0 := congrArg Prod.snd (Option.some.inj hty)
      rw [← e]; rfl
  have hcA : cA = tc k := ja_nameT Cc.2.2.2.2.2.1.2.1 hi (hK.2 9 _ rfl).2
  subst hcA
  refine ja_gon hid h9 Cc hl (ja_ost hs) (ja_Inew I hid h9 ?_ hP hD hS) kk
  rw [ja_el_i (k := k) (n := n) (by show (if id = id then (k, n) else _) = _; rw [if_pos rfl]) (by omega) (by omega)]
  refine congrArg (fun z => (Sum.inl (tc k, n, Sum.inl z) : va_E)) (funext fun j => ?_)
  show (if id = id then 0 else D id j) = 0
  rw [if_pos rfl]
/-- anewarray of layers, rules, versions -/
theorem ja_newq {idx id n k : Nat} {x : Int32} {C : String} (hx : x = nI n) (hn : n < 100000) (hC : (k = 15 ∧ C = RX1) ∨ (k = 16 ∧ C = RX4) ∨ (k = 17 ∧ C = RX6)) (hcl : Cond.classLink M.1.cls idx C ∈ ja_T) (hid : id ∉ Z.1) (h9 : id ≠ 900) (hc : c9 + 1 ≤ M.2.2.2.2.1.cells) (hs9 : s9 + n ≤ M.2.2.2.2.1.slots) (d : decode M.2.1 pc = .ok (.anewarray idx, 3))
    (kk : ja_A l M sc Qf (pc + 3) lv (.ref id :: st) (ja_zn Z id k n) (ja_dn D id) (c9 + 1) (s9 + n)) : ja_A l M sc Qf pc lv (.int x :: st) Z D c9 s9 := by
  intro p e s m args below meth c G tc ad0 L0 ad H locs ls Cc I hl hs
  subst hx
  have hAO : va_AO C s := by
    have := Cc.2.2.2.2.2.1.2.2.2.2.1
    rcases hC with ⟨-, rfl⟩ | ⟨-, rfl⟩ | ⟨-, rfl⟩
    · exact this.1
    · exact this.2.1
    · exact this.2.2.1
  refine va_newq (D := G) (cl := ja_cl) (N' := n) Cc.1.1 Cc.1.2.1 Cc.1.2.2.2.1 (Cc.1.2.2.2.2 _ hcl) hAO Cc.2.2.2.2.2.1.2.1 I.2.2.2.1.1 I.2.2.2.2.1 I.2.2.2.2.2 (fun q hq => Or.inr hq) (nI_pos (by omega)) (nI_clamp (by omega)) (by omega) hc hs9 d (fun q cA H1 hK hP hD hS => ?_)
  have hcA : cA = tc k := by
    rcases hC with ⟨rfl, rfl⟩ | ⟨rfl, rfl⟩ | ⟨rfl, rfl⟩
    · exact ja_nameT Cc.2.2.2.2.2.1.2.1 (i := 5) rfl (hK.2 9 _ rfl).2
    · exact ja_nameT Cc.2.2.2.2.2.1.2.1 (i := 6) rfl (hK.2 9 _ rfl).2
    · exact ja_nameT Cc.2.2.2.2.2.1.2.1 (i := 7) rfl (hK.2 9 _ rfl).2
  subst hcA
  refine ja_gon hid h9 Cc hl (ja_ost hs) (ja_Inew I hid h9 ?_ hP hD hS) kk
  rw [ja_el_q (k := k) (n := n) (by show (if id = id then (k, n) else _) = _; rw [if_pos rfl]) (by omega)]
  refine congrArg (fun z => (Sum.inl (tc k, n, Sum.inr (Sum.inr (Sum.inr (Sum.inr z)))) : va_E)) (funext fun j => ?_)
  show (if id = id then none else Z.2.2.1 id j : Option Nat).map _ = none
  rw [if_pos rfl]
  rfl
/-- putfield of a final number, in the constructor -/
theorem ja_putFI {idx ci k id : Nat} {x : Int32} (hnm : M.1.name = "<init>") (hcl : ja_cl[ci]?.map (fun r => r.1) = some M.1.cls) (F : ja_f M.1.cls idx ci k true) (hS : Z.2.1 id = (ci, ja_nf ci)) (hi : (ja_ty ci k).isReference = false) (hn : narrow (ja_ty ci k) (.int x) = .int x) (hf : fits (ja_ty ci k) (.int x) = true) (d : decode M.2.1 pc = .ok (.putfield idx, 3)) (kk : ja_A l M sc Qf (pc + 3) lv st Z (ja_up D id k x) c9 s9) : ja_A l M sc Qf pc lv (.int x :: .ref id :: st) Z D c9 s9 := by
  intro p e s m args below meth c G tc ad0 L0 ad H locs ls C I hl hs
  obtain ⟨K, T, N, ⟨k1, k2, k3, k4, k5, k6, k7, k8⟩, hk, hlk, hfin⟩ := F
  have hm : id ∈ Z.1 := ja_live I.2.2.2.1 (ja_osh (ja_ost hs)) hS (by omega)
  obtain ⟨q0, hq0, hq⟩ := ja_wk (tc := tc) (ad := ad) (D := D) hm
  unfold ja_e at hq
  rw [ja_el_o hS k3] at hq
  have hKc : K = M.1.cls := by
    rw [k1] at hcl
    exact Option.some.inj hcl
  refine va_putF (D := G) (cl := ja_cl) (ty := ja_ty ci k) (v := .int x) C.1.1 C.1.2.1 C.1.2.2.2.2 k2 (ja_ty ci) k5 k6 C.1.2.2.2.1 C.2.2.2.2.2.1.2.1 I.2.2.2.1.1 I.2.2.2.2.1 I.2.2.2.2.2 q0 hq k1 k hk (C.1.2.2.2.2 _ hlk) (fun _ h => h) hfin (C.2.2.2.1.trans hnm) ((k8 k hk).trans hKc) (k5 k hk) hn hf (by rw [k4]; simpa using hk) d (fun H1 locs1 hP hD hS1 => ?_)
  have e1 : (ja_w tc ad Z D).set q0 (ad id, .inr (ci, ((List.range (ja_nf ci)).map (ja_fv ad Z D id ci)).set k (.int x))) = ja_w tc ad Z (ja_up D id k x) := by
    refine ja_wset I.2.2.2.1.2.1 hq0 rfl ?_ (fun j hj hne => ja_ecg rfl rfl (fun b => by simp [ja_up, hne]) (fun _ => rfl) (fun _ _ _ => rfl) (fun _ => rfl))
    unfold ja_e
    rw [ja_el_o hS k3]
    refine congrArg (fun z => (ad id, (Sum.inr (ci, z) : va_E))) (List.ext_getElem? fun i => ?_)
    rw [List.getElem?_set, List.getElem?_map, List.getElem?_map]
    by_cases ei : k = i
    · subst ei
      rw [List.getElem?_range (by rw [k4]; exact hk), if_pos rfl, if_pos (by rw [k4]; simpa using hk)]
      simp [ja_fv, hi, ja_up]
    · rw [if_neg ei]
      cases hr : (List.range (ja_nf ci))[i]? with
      | none => rfl
      | some b =>
        have : b = i := by
          have := List.getElem?_eq_some_iff.mp hr
          simpa using this.2.symm
        subst this
        have e3 : ¬ b = k := fun q => ei q.symm
        simp [ja_fv, ja_up, e3]
  rw [e1] at hP hD
  exact kk p e s m args below meth c G tc ad0 L0 ad H1 locs1 ls C (ja_Iput I rfl rfl I.2.2.2.1.2.2.2 hP hD hS1) hl (ja_ost (ja_ost hs))
/-- putfield of a final reference, in the constructor -/
theorem ja_putFR {idx ci k id j : Nat} (hnm : M.1.name = "<init>") (hcl : ja_cl[ci]?.map (fun r => r.1) = some M.1.cls) (F : ja_f M.1.cls idx ci k true) (hS : Z.2.1 id = (ci, ja_nf ci)) (hi : (ja_ty ci k).isReference = true) (h9 : j ≠ 900) (hn : ∀ a, narrow (ja_ty ci k) (.ref a) = .ref a) (hf : ∀ a, fits (ja_ty ci k) (.ref a) = true) (d : decode M.2.1 pc = .ok (.putfield idx, 3)) (kk : ja_A l M sc Qf (pc + 3) lv st (ja_uq Z id k (some j)) D c9 s9) : ja_A l M sc Qf pc lv (.ref j :: .ref id :: st) Z D c9 s9 := by
  intro p e s m args below meth c G tc ad0 L0 ad H locs ls C I hl hs
  obtain ⟨K, T, N, ⟨k1, k2, k3, k4, k5, k6, k7, k8⟩, hk, hlk, hfin⟩ := F
  have hm : id ∈ Z.1 := ja_live I.2.2.2.1 (ja_osh (ja_ost hs)) hS (by omega)
  have hj : j ∈ Z.1 := ((ja_osh hs) j rfl).resolve_right h9
  obtain ⟨q0, hq0, hq⟩ := ja_wk (tc := tc) (ad := ad) (D := D) hm
  unfold ja_e at hq
  rw [ja_el_o hS k3] at hq
  have hKc : K = M.1.cls := by
    rw [k1] at hcl
    exact Option.some.inj hcl
  refine va_putF (D := G) (cl := ja_cl) (ty := ja_ty ci k) (v := .ref (ad j)) C.1.1 C.1.2.1 C.1.2.2.2.2 k2 (ja_ty ci) k5 k6 C.1.2.2.2.1 C.2.2.2.2.2.1.2.1 I.2.2.2.1.1 I.2.2.2.2.1 I.2.2.2.2.2 q0 hq k1 k hk (C.1.2.2.2.2 _ hlk) (fun _ h => h) hfin (C.2.2.2.1.trans hnm) ((k8 k hk).trans hKc) (k5 k hk) (hn _) (hf _) (by rw [k4]; simpa using hk) d (fun H1 locs1 hP hD hS1 => ?_)
  have e1 : (ja_w tc ad Z D).set q0 (ad id, .inr (ci, ((List.range (ja_nf ci)).map (ja_fv ad Z D id ci)).set k (.ref (ad j)))) = ja_w tc ad (ja_uq Z id k (some j)) D := by
    refine ja_wset I.2.2.2.1.2.1 hq0 rfl ?_ (fun i hi9 hne => ja_ecg rfl rfl (fun b => rfl) (fun b => by simp [ja_uq, hne]) (fun _ _ _ => rfl) (fun _ => rfl))
    unfold ja_e
    rw [ja_el_o (Z := ja_uq Z id k (some j)) hS k3]
    refine congrArg (fun z => (ad id, (Sum.inr (ci, z) : va_E))) (List.ext_getElem? fun i => ?_)
    rw [List.getElem?_set, List.getElem?_map, List.getElem?_map]
    by_cases ei : k = i
    · subst ei
      rw [List.getElem?_range (by rw [k4]; exact hk), if_pos rfl, if_pos (by rw [k4]; simpa using hk)]
      simp [ja_fv, hi, ja_uq, va_rf]
    · rw [if_neg ei]
      cases hr : (List.range (ja_nf ci))[i]? with
      | none => rfl
      | some b =>
        have : b = i := by
          have := List.getElem?_eq_some_iff.mp hr
          simpa using this.2.symm
        subst this
        have e3 : ¬ b = k := fun q => ei q.symm
        simp [ja_fv, ja_uq, e3]
  rw [e1] at hP hD
  refine kk p e s m args below meth c G tc ad0 L0 ad H1 locs1 ls C (ja_Iput (Z2 := ja_uq Z id k (some j)) I rfl rfl (fun i hi9 b k2 hk2 => ?_) hP hD hS1) (ja_Lz hl rfl) (ja_oks_mono (fun _ h => h) (ja_ost (ja_ost hs)))
  have hk2 : (if i = id ∧ b = k then some j else Z.2.2.1 i b) = some k2 := hk2
  by_cases e9 : i = id ∧ b = k
  · rw [if_pos e9] at hk2; cases hk2; exact hj
  · rw [if_neg e9] at hk2; exact I.2.2.2.1.2.2.2 i hi9 b k2 hk2
/-- aastore of an object -/
theorem ja_astq {id n j i k t0 ci : Nat} {x : Int32} {r : vw_C} (hS : Z.2.1 id = (k, n)) (hk : k = 10 + t0) (hk2 : k = 15 ∨ k = 16 ∨ k = 17) (ht : ∀ tc, (ja_tys tc)[t0]? = some (tc k, .object r.1)) (hr : ja_cl[ci]? = some r) (hSi : Z.2.1 i = (ci, ja_nf ci)) (hci : ci < 9) (h9 : i ≠ 900) (hx : x = nI j) (hj : j < n) (hb : n < 2 ^ 31) (d : decode M.2.1 pc = .ok (.aastore, 1))
    (kk : ja_A l M sc Qf (pc + 1) lv st (ja_uq Z id j (some i)) D c9 s9) : ja_A l M sc Qf pc lv (.ref i :: .int x :: .ref id :: st) Z D c9 s9 := by
  intro p e s m args below meth c G tc ad0 L0 ad H locs ls C I hl hs
  have hm : id ∈ Z.1 := ja_live I.2.2.2.1 (ja_osh (ja_ost (ja_ost hs))) hS (by omega)
  have hmi : i ∈ Z.1 := ((ja_osh hs) i rfl).resolve_right h9
  obtain ⟨q0, hq0, hq⟩ := ja_wk (tc := tc) (ad := ad) (D := D) hm
  obtain ⟨q1, hq1, hqi⟩ := ja_wk (tc := tc) (ad := ad) (D := D) hmi
  unfold ja_e at hq hqi
  rw [ja_el_q hS (by omega)] at hq
  rw [ja_el_o hSi hci] at hqi
  subst hx
  refine va_astq (D := G) (cl := ja_cl) C.1.1 C.1.2.1 C.2.2.2.2.2.1.2.1 I.2.2.2.1.1 I.2.2.2.2.1 I.2.2.2.2.2 q0 t0 q1 ci hq (ht tc) hqi hr (vp_in_nI hj hb) d (fun H1 locs1 hP hD hS1 => ?_)
  rw [nI_clamp (by omega)] at hP hD
  have e1 : (ja_w tc ad Z D).set q0 (ad id, .inl (tc k, n, .inr (.inr (.inr (.inr (va_up (fun j => (Z.2.2.1 id j).map ad) j (some (ad i)))))))) = ja_w tc ad (ja_uq Z id j (some i)) D := by
    refine ja_wset I.2.2.2.1.2.1 hq0 rfl ?_ (fun a ha hne => ja_ecg rfl rfl (fun b => rfl) (fun b => by simp [ja_uq, hne]) (fun _ _ _ => rfl) (fun _ => rfl))
    unfold ja_e
    rw [ja_el_q (Z := ja_uq Z id j (some i)) hS (by omega)]
    refine congrArg (fun z => (ad id, (Sum.inl (tc k, n, Sum.inr (Sum.inr (Sum.inr (Sum.inr z)))) : va_E))) (funext fun b => ?_)
    by_cases eb : b = j
    · simp [ja_uq, va_up, eb]
    · simp [ja_uq, va_up, eb]
  rw [e1] at hP hD
  refine kk p e s m args below meth c G tc ad0 L0 ad H1 locs1 ls C (ja_Iput (Z2 := ja_uq Z id j (some i)) I rfl rfl (fun a ha b k2 hk9 => ?_) hP hD hS1) (ja_Lz hl rfl) (ja_oks_mono (fun _ h => h) (ja_ost (ja_ost (ja_ost hs))))
  have hk9 : (if a = id ∧ b = j then some i else Z.2.2.1 a b) = some k2 := hk9
  by_cases e9 : a = id ∧ b = j
  · rw [if_pos e9] at hk9; cases hk9; exact hmi
  · rw [if_neg e9] at hk9; exact I.2.2.2.1.2.2.2 a ha b k2 hk9
end JNW
