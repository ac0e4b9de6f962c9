/-! A METHOD'S ENTRY AND ITS ENDS -/
theorem ja_lva {ad : Nat → Nat} : ∀ (av : List Value) (k : Nat) (r : Nat), (∀ v ∈ av, v.category = 1) → ja_prs ad k (av.map some ++ List.replicate r none) = lv_args k (av.map (ja_cv ad))
  | [], k, r, h => by
    show ja_prs ad k (List.replicate r none) = []
    induction r generalizing k with
    | zero => rfl
    | succ r ih => rw [List.replicate_succ, ja_prs]; exact ih (k + 1)
  | v :: t, k, r, h => by
    show ja_prs ad k (some v :: (t.map some ++ List.replicate r none)) = lv_args k (ja_cv ad v :: t.map (ja_cv ad))
    rw [ja_prs, lv_args, if_neg (by rw [ja_cvc, h v List.mem_cons_self]; decide), ja_lva t (k + 1) r (fun w hw => h w (List.mem_cons_of_mem _ hw))]
theorem ja_sll {ad : Nat → Nat} : ∀ (av : List Value), (∀ v ∈ av, v.category = 1) → (lg_sl (av.map (ja_cv ad))).length = av.length
  | [], h => rfl
  | v :: t, h => by
    have h1 : ¬ (ja_cv ad v).category = 2 := by rw [ja_cvc, h v List.mem_cons_self]; decide
    have ih := ja_sll (ad := ad) t (fun w hw => h w (List.mem_cons_of_mem _ hw))
    unfold lg_sl at ih ⊢
    simp only [List.map_cons, List.flatMap_cons, if_neg h1, List.length_append, List.length_cons, List.length_nil]
    omega
/-- the locals at the entry -/
def ja_lv (av : List Value) (nL : Nat) : List (Option Value) := av.map some ++ List.replicate (nL - av.length) none
theorem ja_Le {ad : Nat → Nat} {av : List Value} {nL : Nat} {Z : jZ} (hcat : ∀ v ∈ av, v.category = 1) (hlen : av.length ≤ nL) (ho : ja_oks Z av) : ja_L ad nL ((lg_sl (av.map (ja_cv ad)) ++ List.replicate (nL - (lg_sl (av.map (ja_cv ad))).length) Slot.unset).toArray) (ja_lv av nL) Z := by
  refine ⟨?_, fun v hv => ?_, ?_⟩
  · unfold ja_lv
    rw [ja_lva av 0 _ hcat]
    exact lv_entry _ (by rw [ja_sll av hcat]; exact hlen)
  · unfold ja_lv at hv
    rcases List.mem_append.mp hv with h | h
    · obtain ⟨w, hw, e⟩ := List.mem_map.mp h
      cases e
      exact ho v hw
    · have := List.eq_of_mem_replicate h
      cases this
  · unfold ja_lv
    simp
    omega
theorem ja_Mof {l : Launch} {M : jM} {av : List Value} {Z : jZ} {D : jD} {kr : Option Value → jZ → jD → Prop} {kx : String → jZ → jD → Prop} {lv : List (Option Value)} (hy : plainName M.1.cls = true) (hh : M.2.2.2.2.2 = []) (hcat : av.all (fun v => v.category == 1) = true) (hlen : av.length ≤ M.2.2.1) (hlv : ja_lv av M.2.2.1 = lv)
    (k : ja_A l M ja_sn (ja_Qf M kr kx) 0 lv [] Z D 0 0) : ja_M l M av Z D kr kx := by
  subst hlv
  intro G tc ad sz
  refine vx_ofW (cc := M.2.1) (maxL := M.2.2.1) (ret := M.2.2.2.1) (ws' := ja_T) hy (by unfold ja_ws; rw [hh]) ?_
  intro p e s m args below meth c s₁ B hml hex hv
  obtain ⟨rfl, hsz, hok, hR, hD0, hV⟩ := hv
  subst hsz
  have hts := atoms_spec (ws := ja_ws M) B.pre
  have hown : s.vm.findClass M.1.cls = some m.cls := findClass_of_methodNamed B.named
  have htab : c.exceptionTable.toList = tableOf M.2.2.2.2.2 := by
    rw [hh]
    cases hx : c.exceptionTable.toList with
    | nil => rfl
    | cons a t => exact (hex a (by rw [hx]; exact List.mem_cons_self)).elim
  have hcat' : ∀ v ∈ av, v.category = 1 := fun v hv => by simpa using List.all_eq_true.mp hcat v hv
  have C : ja_C l M ja_sn p s m (av.map (ja_cv ad)).toArray meth c G tc ad Z.1 := ⟨⟨B.exec, B.bytes, hml, hown, fun w h => hts w (List.mem_cons_of_mem _ h)⟩, B.returns, B.notSynchronized, (name_of_methodNamed B.named B.method).1, htab, hV, Or.inl rfl⟩
  have hDD : va_D (ja_Ar ad Z.1 s.heap.size) (ja_w tc ad Z D) := ⟨hD0.1, fun k q hk => by
    unfold ja_w at hk
    rw [List.getElem?_map] at hk
    cases hz : Z.1[k]? with
    | none => rw [hz] at hk; cases hk
    | some i =>
      rw [hz] at hk
      cases hk
      exact Or.inl ⟨i, List.mem_of_getElem? hz, rfl⟩⟩
  have I : ja_I s G tc ad Z.1 ad Z D s.heap [] := ⟨fun _ _ => rfl, fun _ h => h, fun i h1 h2 => absurd h1 h2, hR, hDD, va_S.rf⟩
  rw [lg_entry_eq]
  exact k p e s m _ below meth c G tc ad Z.1 ad s.heap [] _ C I (ja_Le hcat' hlen hok) ja_osn
theorem ja_MofH {l : Launch} {M : jM} {av : List Value} {Z : jZ} {D : jD} {kr : Option Value → jZ → jD → Prop} {kx : String → jZ → jD → Prop} {lv : List (Option Value)} {h1 : Nat × Nat × Nat × Nat} {hr : List (Nat × Nat × Nat × Nat)} (hy : plainName M.1.cls = true) (hh : M.2.2.2.2.2 = h1 :: hr) (hcat : av.all (fun v => v.category == 1) = true) (hlen : av.length ≤ M.2.2.1) (hlv : ja_lv av M.2.2.1 = lv)
    (k : ja_A l M ja_sn (ja_Qf M kr kx) 0 lv [] Z D 0 0) : ja_M l M av Z D kr kx := by
  subst hlv
  intro G tc ad sz
  have hws : ja_ws M = Cond.codeWith M.1 M.2.1 M.2.2.1 M.2.2.2.1 (h1 :: hr) :: ja_T := by unfold ja_ws; rw [hh]
  refine vx_ofWH (cc := M.2.1) (maxL := M.2.2.1) (ret := M.2.2.2.1) (ws' := ja_T) hy hws ?_
  intro p e s m args below meth c s₁ B hml hv
  obtain ⟨rfl, hsz, hok, hR, hD0, hV⟩ := hv
  subst hsz
  have hts := atoms_spec (ws := ja_ws M) B.pre
  have hown : s.vm.findClass M.1.cls = some m.cls := findClass_of_methodNamed B.named
  have htab : c.exceptionTable.toList = tableOf M.2.2.2.2.2 := by
    rw [hh]
    exact vx_table (x := M.1) B (hts _ (by rw [hws]; exact List.mem_cons_self))
  have hcat' : ∀ v ∈ av, v.category = 1 := fun v hv => by simpa using List.all_eq_true.mp hcat v hv
  have C : ja_C l M ja_sn p s m (av.map (ja_cv ad)).toArray meth c G tc ad Z.1 := ⟨⟨B.exec, B.bytes, hml, hown, fun w h => hts w (by rw [hws]; exact List.mem_cons_of_mem _ h)⟩, B.returns, B.notSynchronized, (name_of_methodNamed B.named B.method).1, htab, hV, Or.inl rfl⟩
  have hDD : va_D (ja_Ar ad Z.1 s.heap.size) (ja_w tc ad Z D) := ⟨hD0.1, fun k q hk => by
    unfold ja_w at hk
    rw [List.getElem?_map] at hk
    cases hz : Z.1[k]? with
    | none => rw [hz] at hk; cases hk
    | some i =>
      rw [hz] at hk
      cases hk
      exact Or.inl ⟨i, List.mem_of_getElem? hz, rfl⟩⟩
  have I : ja_I s G tc ad Z.1 ad Z D s.heap [] := ⟨fun _ _ => rfl, fun _ h => h, fun i h1 h2 => absurd h1 h2, hR, hDD, va_S.rf⟩
  rw [lg_entry_eq]
  exact k p e s m _ below meth c G tc ad Z.1 ad s.heap [] _ C I (ja_Le hcat' hlen hok) ja_osn
section JE
variable {l : Launch} {M : jM} {sc : Nat × (Nat → Int32)} {pc : Nat} {lv : List (Option Value)} {st : List Value} {Z : jZ} {D : jD} {c9 s9 : Nat} {kr : Option Value → jZ → jD → Prop} {kx : String → jZ → jD → Prop}
theorem ja_end {s : State} {t : State} {args : Array Value} {G : va_G} {tc : Nat → ClassId} {ad0 : Nat → Nat} {L0 : List Nat} {ad : Nat → Nat} {H : Heap} {locs : List Loc} {v : Option Value} (I : ja_I s G tc ad0 L0 ad Z D H locs) (hk : kr v Z D) (ho : ∀ x, v = some x → ja_ok Z x) (ht : t.heap = H) : ja_Qc G tc ad0 L0 s.heap.size kr args s (.returned (v.map (ja_cv ad))) t := by
  obtain ⟨i1, i2, i3, i4, i5, i6⟩ := I
  exact ⟨⟨v, Z, D, ad, rfl, hk, ho, i1, i2, i3, by rw [ht]; exact i4, i5⟩, i6.F ht⟩
theorem ja_iret {x : Int32} {ty : FieldType} (hr : M.2.2.2.1 = some ty) (hn : narrow ty (.int x) = .int x) (d : decode M.2.1 pc = .ok (.ireturn, 1)) (hc : c9 ≤ M.2.2.2.2.1.cells) (hs9 : s9 ≤ M.2.2.2.2.1.slots) (hk : kr (some (.int x)) Z D) : ja_A l M sc (ja_Qf M kr kx) pc lv [.int x] Z D c9 s9 := by
  intro p e s m args below meth c G tc ad0 L0 ad H locs ls C I hl hs
  refine W.widen hc hs9 (vx_ret (W.zret C.1.1 C.1.2.1 (C.2.1.trans hr) hn (fun t ht hW => ja_end (v := some (.int x)) I hk (fun y e => ?_) ht) I.2.2.2.2.2.2.2 d C.2.2.1))
  cases e
  exact ja_oki x
theorem ja_aret {i : Nat} {ty : FieldType} (hr : M.2.2.2.1 = some ty) (hrt : (∃ n, ty = .object n) ∨ ∃ t, ty = .array t) (d : decode M.2.1 pc = .ok (.areturn, 1)) (hc : c9 ≤ M.2.2.2.2.1.cells) (hs9 : s9 ≤ M.2.2.2.2.1.slots) (hk : kr (some (.ref i)) Z D) : ja_A l M sc (ja_Qf M kr kx) pc lv [.ref i] Z D c9 s9 := by
  intro p e s m args below meth c G tc ad0 L0 ad H locs ls C I hl hs
  refine W.widen hc hs9 (vx_ret (W.aret C.1.1 C.1.2.1 (C.2.1.trans hr) hrt (Or.inr ⟨ad i, rfl⟩) (fun t ht hW => ja_end (v := some (.ref i)) I hk (fun y e => ?_) ht) I.2.2.2.2.2.2.2 d C.2.2.1))
  cases e
  exact ja_osh hs
theorem ja_vret (hr : M.2.2.2.1 = none) (d : decode M.2.1 pc = .ok (.return_, 1)) (hc : c9 ≤ M.2.2.2.2.1.cells) (hs9 : s9 ≤ M.2.2.2.2.1.slots) (hk : kr none Z D) : ja_A l M sc (ja_Qf M kr kx) pc lv [] Z D c9 s9 := by
  intro p e s m args below meth c G tc ad0 L0 ad H locs ls C I hl hs
  exact W.widen hc hs9 (vx_ret (W.vret C.1.1 C.1.2.1 (C.2.1.trans hr) (fun t ht hW => ja_end (v := none) I hk (fun y e => by cases e) ht) I.2.2.2.2.2.2.2 d C.2.2.1))
theorem ja_lret {x : Int64} (hr : M.2.2.2.1 = some .long) (d : decode M.2.1 pc = .ok (.lreturn, 1)) (hc : c9 ≤ M.2.2.2.2.1.cells) (hs9 : s9 ≤ M.2.2.2.2.1.slots) (hk : kr (some (.long x)) Z D) : ja_A l M sc (ja_Qf M kr kx) pc lv [.long x] Z D c9 s9 := by
  intro p e s m args below meth c G tc ad0 L0 ad H locs ls C I hl hs
  refine W.widen hc hs9 (vx_ret (W.lret C.1.1 C.1.2.1 (C.2.1.trans hr) (fun t ht hW => ja_end (v := some (.long x)) I hk (fun y e => ?_) ht) I.2.2.2.2.2.2.2 d C.2.2.1))
  cases e
  exact ja_okl x
theorem ja_fret {x : UInt32} (hr : M.2.2.2.1 = some .float) (d : decode M.2.1 pc = .ok (.freturn, 1)) (hc : c9 ≤ M.2.2.2.2.1.cells) (hs9 : s9 ≤ M.2.2.2.2.1.slots) (hk : kr (some (.float x)) Z D) : ja_A l M sc (ja_Qf M kr kx) pc lv [.float x] Z D c9 s9 := by
  intro p e s m args below meth c G tc ad0 L0 ad H locs ls C I hl hs
  have hlk := C.2.2.1
  refine W.widen hc hs9 (vx_ret (W.fret C.1.1 C.1.2.1 (C.2.1.trans hr) (fun t ht hW => ja_end (v := some (.float x)) I hk (fun y e => ?_) ht) I.2.2.2.2.2.2.2 d hlk))
  cases e
  exact ja_okf x
theorem ja_dret {x : UInt64} (hr : M.2.2.2.1 = some .double) (d : decode M.2.1 pc = .ok (.dreturn, 1)) (hc : c9 ≤ M.2.2.2.2.1.cells) (hs9 : s9 ≤ M.2.2.2.2.1.slots) (hk : kr (some (.double x)) Z D) : ja_A l M sc (ja_Qf M kr kx) pc lv [.double x] Z D c9 s9 := by
  intro p e s m args below meth c G tc ad0 L0 ad H locs ls C I hl hs
  have hlk := C.2.2.1
  refine W.widen hc hs9 (vx_ret (W.dret C.1.1 C.1.2.1 (C.2.1.trans hr) (fun t ht hW => ja_end (v := some (.double x)) I hk (fun y e => ?_) ht) I.2.2.2.2.2.2.2 d hlk))
  cases e
  exact ja_okd x
/-- an exception that goes on to the caller -/
theorem ja_out {E : String} (hh : M.2.2.2.2.2 = []) (hc : c9 ≤ M.2.2.2.2.1.cells) (hs9 : s9 ≤ M.2.2.2.2.1.slots) (hk : kx E Z D) : ja_X l M sc (ja_Qf M kr kx) pc lv st E Z D c9 s9 := by
  intro p e s m args below meth c G tc ad0 L0 ad H locs ls C I hl hs ce q hcell hv hcl
  refine vx_out (E := E) (ce := ce) (fun x hx => ?_) C.2.2.1 hcell hv hcl (fun t ht hA => ?_) I.2.2.2.2.2.2.2 hc hs9
  · rw [C.2.2.2.2.1, hh] at hx
    cases hx
  · obtain ⟨i1, i2, i3, i4, i5, i6⟩ := I
    exact ⟨⟨Z, D, ad, hk, i1, i2, i3, by rw [ht]; exact i4, i5⟩, i6.F ht⟩
/-- a throw site's facts -/
def ja_ts (own : String) (ik is ic : Nat) (E text : String) : Prop := Cond.classLink own ik E ∈ ja_T ∧ Cond.initialized E ∈ ja_T ∧ (own, is, text) ∈ ja_str ∧ Bundle.fit E = true ∧ (∀ w ∈ vx_atS own ic E ["java/lang/RuntimeException", "java/lang/Exception"], w ∈ ja_T ∨ w ∈ ja_B)
theorem ja_throw {E text : String} {ik is ic : Nat} (hT : ja_ts M.1.cls ik is ic E text) (hh : M.2.2.2.2.2 = []) (d0 : decode M.2.1 pc = .ok (.new ik, 3)) (d3 : decode M.2.1 (pc + 3) = .ok (.dup, 1)) (d4 : decode M.2.1 (pc + 4) = .ok (.ldc is, 2)) (d6 : decode M.2.1 (pc + 6) = .ok (.invokespecial ic, 3)) (d9 : decode M.2.1 (pc + 9) = .ok (.athrow, 1))
    (hf : 5 < M.2.2.2.2.1.frames) (hlo : (st.map fun v => v.category).sum + 82 ≤ M.2.2.2.2.1.locals) (hc : c9 + 1 ≤ M.2.2.2.2.1.cells) (hs9 : s9 + 6 ≤ M.2.2.2.2.1.slots) (hk : kx E Z D) : ja_A l M sc (ja_Qf M kr kx) pc lv st Z D c9 s9 := by
  intro p e s m args below meth c G tc ad0 L0 ad H locs ls C I hl hs
  obtain ⟨t1, t2, t3, t4, t5⟩ := hT
  have hV := C.2.2.2.2.2.1
  obtain ⟨sa, hsa⟩ := hV.2.2.2.1 _ t3
  refine vx_throwS (l := l) (sa := sa) (text := text) (own := M.1.cls) (cls := E) (names := ["java/lang/RuntimeException", "java/lang/Exception"]) (A := ja_Ar ad0 L0 s.heap.size) C.1.1 C.1.2.1 hV.1 C.1.2.2.2.1 t4 (fun n hn => ?_) (C.1.2.2.2.2 _ t1) (C.1.2.2.2.2 _ t2) hsa (fun w hw => ?_) (fun w hw => ?_) hV.2.2.2.2.2.1 hV.2.2.2.2.2.2.1 I.2.2.2.2.2 (hl.1.1.trans C.1.2.2.1.symm) d0 d3 d4 d6 d9 (fun x hx => ?_) hf ?_ hc hs9 C.2.2.1 (fun t hA hz hq => ?_) I.2.2.2.2.2.2.2 hc hs9
  · simp only [List.mem_cons, List.not_mem_nil, or_false] at hn
    rcases hn with rfl | rfl <;> decide +kernel
  · rcases t5 w hw with h | h
    · exact C.1.2.2.2.2 _ h
    · exact va_Nw.use (ja_Bot h) (hV.2.2.2.2.2.2.2.1 w h)
  · unfold vx_ot
    rcases List.mem_cons.mp hw with rfl | hw
    · rw [(List.mem_filter.mp t1).2, Bool.or_true]
    rcases List.mem_cons.mp hw with rfl | hw
    · rw [(List.mem_filter.mp t2).2, Bool.or_true]
    rcases t5 w hw with h | h
    · rw [(List.mem_filter.mp h).2, Bool.or_true]
    · rw [ja_Bot h, Bool.true_or]
  · rw [C.2.2.2.2.1, hh] at hx
    cases hx
  · rw [List.map_map]
    have : (st.map ((fun v : Value => v.category) ∘ ja_cv ad)) = st.map fun v => v.category := List.map_congr_left (fun v _ => ja_cvc ad v)
    rw [this]
    exact hlo
  · obtain ⟨i1, i2, i3, ⟨r1, r2⟩, i5, i6⟩ := I
    have hP : va_P G ja_cl (ja_w tc ad Z D) t.heap := r1.kept (fun k q hk => hq _ ((r1 k q hk).lt))
    exact ⟨⟨Z, D, ad, hk, i1, i2, i3, ⟨hP, r2⟩, i5⟩, Nat.le_trans i6.1 hz, fun q h1 h2 => (hq q (Nat.lt_of_lt_of_le h1 i6.1)).trans (i6.2.1 q h1 h2)⟩
theorem ja_throwW {E text : String} {ik is ic : Nat} (hT : ja_ts M.1.cls ik is ic E text) (hh : M.2.2.2.2.2 = []) (d0 : decode M.2.1 pc = .ok (.new ik, 3)) (d3 : decode M.2.1 (pc + 3) = .ok (.dup, 1)) (d4 : decode M.2.1 (pc + 4) = .ok (.ldc_w is, 3)) (d6 : decode M.2.1 (pc + 7) = .ok (.invokespecial ic, 3)) (d9 : decode M.2.1 (pc + 10) = .ok (.athrow, 1))
    (hf : 5 < M.2.2.2.2.1.frames) (hlo : (st.map fun v => v.category).sum + 82 ≤ M.2.2.2.2.1.locals) (hc : c9 + 1 ≤ M.2.2.2.2.1.cells) (hs9 : s9 + 6 ≤ M.2.2.2.2.1.slots) (hk : kx E Z D) : ja_A l M sc (ja_Qf M kr kx) pc lv st Z D c9 s9 := by
  intro p e s m args below meth c G tc ad0 L0 ad H locs ls C I hl hs
  obtain ⟨t1, t2, t3, t4, t5⟩ := hT
  have hV := C.2.2.2.2.2.1
  obtain ⟨sa, hsa⟩ := hV.2.2.2.1 _ t3
  refine vx_throwSW (l := l) (sa := sa) (text := text) (own := M.1.cls) (cls := E) (names := ["java/lang/RuntimeException", "java/lang/Exception"]) (A := ja_Ar ad0 L0 s.heap.size) C.1.1 C.1.2.1 hV.1 C.1.2.2.2.1 t4 (fun n hn => ?_) (C.1.2.2.2.2 _ t1) (C.1.2.2.2.2 _ t2) hsa (fun w hw => ?_) (fun w hw => ?_) hV.2.2.2.2.2.1 hV.2.2.2.2.2.2.1 I.2.2.2.2.2 (hl.1.1.trans C.1.2.2.1.symm) d0 d3 d4 d6 d9 (fun x hx => ?_) hf ?_ hc hs9 C.2.2.1 (fun t hA hz hq => ?_) I.2.2.2.2.2.2.2 hc hs9
  · simp only [List.mem_cons, List.not_mem_nil, or_false] at hn
    rcases hn with rfl | rfl <;> decide +kernel
  · rcases t5 w hw with h | h
    · exact C.1.2.2.2.2 _ h
    · exact va_Nw.use (ja_Bot h) (hV.2.2.2.2.2.2.2.1 w h)
  · unfold vx_ot
    rcases List.mem_cons.mp hw with rfl | hw
    · rw [(List.mem_filter.mp t1).2, Bool.or_true]
    rcases List.mem_cons.mp hw with rfl | hw
    · rw [(List.mem_filter.mp t2).2, Bool.or_true]
    rcases t5 w hw with h | h
    · rw [(List.mem_filter.mp h).2, Bool.or_true]
    · rw [ja_Bot h, Bool.true_or]
  · rw [C.2.2.2.2.1, hh] at hx
    cases hx
  · rw [List.map_map]
    have : (st.map ((fun v : Value => v.category) ∘ ja_cv ad)) = st.map fun v => v.category := List.map_congr_left (fun v _ => ja_cvc ad v)
    rw [this]
    exact hlo
  · obtain ⟨i1, i2, i3, ⟨r1, r2⟩, i5, i6⟩ := I
    have hP : va_P G ja_cl (ja_w tc ad Z D) t.heap := r1.kept (fun k q hk => hq _ ((r1 k q hk).lt))
    exact ⟨⟨Z, D, ad, hk, i1, i2, i3, ⟨hP, r2⟩, i5⟩, Nat.le_trans i6.1 hz, fun q h1 h2 => (hq q (Nat.lt_of_lt_of_le h1 i6.1)).trans (i6.2.1 q h1 h2)⟩
end JE
