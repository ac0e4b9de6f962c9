/-! CONTRACTS AND CALLS over the abstract picture -/
theorem ja_Bk {w : Cond} (h : w ∈ ja_B) : (∃ C T, w = .castable C T) ∨ ∃ x, w = .declares x := by
  have h2 := (List.mem_filter.mp h).2
  unfold ja_bk at h2
  split at h2
  · exact Or.inl ⟨_, _, rfl⟩
  · exact Or.inr ⟨_, rfl⟩
  · cases h2
theorem ja_Bot {w : Cond} (h : w ∈ ja_B) : w.onTables = true := by
  rcases ja_Bk h with ⟨C, T, rfl⟩ | ⟨x, rfl⟩ <;> rfl
/-- what the tables give, moved to a warmer state with another heap -/
theorem ja_Vm {l : Launch} {G : va_G} {tc : Nat → ClassId} {A A1 : Nat → Prop} {s U : State} {H : Heap} (hW : s.WarmedH U.vm) (h : ja_V l G tc A s s.heap) (hq : ∀ a : Nat, a < s.heap.size → ¬ A a → H[a]? = s.heap[a]?) (hA : ∀ q, A1 q → A q) : ja_V l G tc A1 U H := by
  obtain ⟨h1, h2, h3, h4, ⟨h5, h6, h7, h8⟩, h9, h10, h11, h12⟩ := h
  refine ⟨h1, va_K.moved hW.alike h2, fun q hq => va_Nw.warmM hW (h3 q hq), fun q hq => ?_, ⟨va_AO.moved hW.alike h5, va_AO.moved hW.alike h6, va_AO.moved hW.alike h7, va_AOA.moved hW.alike h8⟩, vx_Zq.narrow (vx_Zq.moved hW.alike (h9.kept hq)) hA, vx_Zq.narrow (vx_Zq.moved hW.alike (h10.kept hq)) hA, fun w hw => ?_, fun E hE F hF hne => va_Nc.moved hW.alike (h12 E hE F hF hne)⟩
  · obtain ⟨a, ha⟩ := h4 q hq
    exact ⟨a, vk_R.warm hW ha⟩
  · have hz := h11 w hw
    rcases ja_Bk hw with ⟨C, T, rfl⟩ | ⟨x, rfl⟩
    · exact va_Nw.warmC hW hz
    · exact va_Nw.warmD hW hz
theorem ja_Vs {l : Launch} {G : va_G} {tc : Nat → ClassId} {A : Nat → Prop} {u U : State} {H : Heap} (hv : U.vm = u.vm) (h : ja_V l G tc A u H) : ja_V l G tc A U H := by
  obtain ⟨h1, h2, h3, h4, ⟨h5, h6, h7, h8⟩, h9, h10, h11, h12⟩ := h
  have ha : u.vm.Alike U.vm := by rw [hv]; exact Vm.Alike.refl _
  refine ⟨h1, va_K.moved ha h2, fun q hq => va_Nw.same rfl hv.symm (h3 q hq), fun q hq => ?_, ⟨va_AO.moved ha h5, va_AO.moved ha h6, va_AO.moved ha h7, va_AOA.moved ha h8⟩, vx_Zq.moved ha h9, vx_Zq.moved ha h10, fun w hw => va_Nw.same (ja_Bot hw) hv.symm (h11 w hw), fun E hE F hF hne => va_Nc.moved ha (h12 E hE F hF hne)⟩
  obtain ⟨a, ha⟩ := h4 q hq
  exact ⟨a, vk_R.same hv ha⟩
theorem ja_prs_cg {ad ad2 : Nat → Nat} : ∀ (lv : List (Option Value)) (k : Nat), (∀ v, some v ∈ lv → ja_cv ad2 v = ja_cv ad v) → ja_prs ad2 k lv = ja_prs ad k lv
  | [], k, h => rfl
  | none :: t, k, h => by rw [ja_prs, ja_prs]; exact ja_prs_cg t (k + 1) (fun v hv => h v (List.mem_cons_of_mem _ hv))
  | some w :: t, k, h => by rw [ja_prs, ja_prs, h w List.mem_cons_self, ja_prs_cg t (k + 1) (fun v hv => h v (List.mem_cons_of_mem _ hv))]
theorem ja_Lc {ad ad2 : Nat → Nat} {nL : Nat} {ls : Array Slot} {lv : List (Option Value)} {Z Z2 : jZ} (h : ja_L ad nL ls lv Z) (e : ∀ i, i ∈ Z.1 ∨ i = 900 → ad2 i = ad i) (hz : ∀ i ∈ Z.1, i ∈ Z2.1) : ja_L ad2 nL ls lv Z2 := by
  refine ⟨?_, fun v hv => ja_ok_mono hz (h.2.1 v hv), h.2.2⟩
  rw [ja_prs_cg lv 0 (fun v hv => ja_cvn (h.2.1 v hv) e)]
  exact h.1
theorem ja_Asub {s : State} {G : va_G} {tc : Nat → ClassId} {ad0 : Nat → Nat} {L0 : List Nat} {ad : Nat → Nat} {Z : jZ} {D : jD} {H : Heap} {locs : List Loc} (I : ja_I s G tc ad0 L0 ad Z D H locs) : ∀ q, ja_Ar ad Z.1 H.size q → ja_Ar ad0 L0 s.heap.size q := by
  rintro q (⟨i, hi, rfl⟩ | hq)
  · by_cases h0 : i ∈ L0
    · exact Or.inl ⟨i, h0, (I.1 i (Or.inl h0)).symm⟩
    · exact Or.inr (I.2.2.1 i hi h0)
  · exact Or.inr (Nat.le_trans I.2.2.2.2.2.1 hq)
/-- behind a call -/
theorem ja_Icall {s t T' : State} {G : va_G} {tc : Nat → ClassId} {ad0 : Nat → Nat} {L0 : List Nat} {ad ad2 : Nat → Nat} {Z Z2 : jZ} {D D2 : jD} {H : Heap} {locs locs1 : List Loc} (I : ja_I s G tc ad0 L0 ad Z D H locs) (N : ja_N G tc ad Z.1 H.size ad2 Z2 D2 t) (e1 : T'.heap = t.heap) (hS : va_S (ja_Ar ad0 L0 s.heap.size) s.heap T'.heap locs1) : ja_I s G tc ad0 L0 ad2 Z2 D2 T'.heap locs1 := by
  obtain ⟨n1, n2, n3, n4, n5⟩ := N
  refine ⟨fun i hi => ?_, fun i hi => n2 i (I.2.1 i hi), fun i hi h0 => ?_, by rw [e1]; exact n4, ⟨n5.1, fun k q hk => ja_Asub I _ (n5.2 k q hk)⟩, hS⟩
  · rw [n1 i (hi.elim (fun h => Or.inl (I.2.1 i h)) Or.inr)]
    exact I.1 i hi
  · by_cases hz : i ∈ Z.1
    · rw [n1 i (Or.inl hz)]
      exact I.2.2.1 i hz h0
    · exact Nat.le_trans I.2.2.2.2.2.1 (n3 i hi hz)
section JC
variable {l : Launch} {M : jM} {sc : Nat × (Nat → Int32)} {Qf : jQ} {pc : Nat} {lv : List (Option Value)} {st : List Value} {Z : jZ} {D : jD} {c9 s9 : Nat}
theorem ja_run {p : Program} {e : Env} {s : State} {m : MethodId} {args : Array Value} {below : List Frame} {meth : Method} {c : Code} {G : va_G} {tc : Nat → ClassId} {ad0 : Nat → Nat} {L0 : List Nat} {ad : Nat → Nat} {H : Heap} {locs : List Loc} {ls : Array Slot} {mc ms : Nat} {st0 : List Value} {kr : Option Value → jZ → jD → Prop} {kx : String → jZ → jD → Prop}
    (C : ja_C l M sc p s m args meth c G tc ad0 L0) (I : ja_I s G tc ad0 L0 ad Z D H locs) (hl : ja_L ad M.2.2.1 ls lv Z) (hs : ja_oks Z st) {Qa : State → Outcome → State → Prop} (hQa : Qa = ja_Qc G tc ad Z.1 H.size kr #[])
    (hr : vx_Run p l e M.2.2.2.2.1 s m args below meth c H locs c9 s9 mc ms (F0 m pc ls st0) (st.map (ja_cv ad)) Qa (ja_XC G tc ad Z.1 H.size kx) (ja_Ar ad Z.1 H.size))
    (kk : ∀ v Z2 D2, kr v Z2 D2 → ja_A l M sc Qf (pc + 3) lv (v.toList ++ st) Z2 D2 (c9 + mc) (s9 + ms)) (ke : ∀ E Z2 D2, kx E Z2 D2 → ja_X l M sc Qf pc lv st E Z2 D2 (c9 + mc) (s9 + ms)) :
    W p l e M.2.2.2.2.1 s m args below meth c H locs c9 s9 (Qf G tc ad0 L0 below args s) (F0 m pc ls st0) := by
  subst hQa
  intro T hT X
  rcases hr T hT X with ⟨v0, st₀, t, T', L, h0, X', hL, e1, e2, ⟨⟨v, Z2, D2, ad2, hv, hk, hok, hN⟩, hF⟩, sg⟩ | ⟨q, st₀, t, T', L, E, ce, h0, X', hL, e1, e2, ⟨⟨Z2, D2, ad2, hk, hN⟩, hF⟩, hce, hcv, hcl, sg⟩
  · obtain ⟨k1, k2, k3⟩ := vx_keep h0 e1 I.2.2.2.2.2 (fun q _ h => ja_Asub I q h) (fun q h => ja_Asub I q h) hL hF
    have I2 := ja_Icall I hN e1 k3
    have hs2 : ja_oks Z2 (v.toList ++ st) := fun w hw => by
      rcases List.mem_append.mp hw with h | h
      · cases v with
        | none => cases h
        | some x =>
          have : w = x := by simpa using h
          exact this ▸ hok x rfl
      · exact ja_ok_mono hN.2.1 (hs w h)
    obtain ⟨t2, a1, b1⟩ := kk v Z2 D2 hk p e s m args below meth c G tc ad0 L0 ad2 T'.heap (locs ++ L) ls C I2 (ja_Lc hl hN.1 hN.2.1) hs2 T' rfl X'
    have hv0 : v0 = v.map (ja_cv ad2) := by cases hv; rfl
    have hst : (v.toList ++ st).map (ja_cv ad2) = v0.toList ++ st.map (ja_cv ad) := by
      rw [List.map_append, ja_cvs hs hN.1, hv0]
      cases v <;> rfl
    rw [hst] at a1
    exact ⟨t2, sg t2 a1, b1⟩
  · obtain ⟨k1, k2, k3⟩ := vx_keep h0 e1 I.2.2.2.2.2 (fun q _ h => ja_Asub I q h) (fun q h => ja_Asub I q h) hL hF
    have I2 := ja_Icall I hN e1 k3
    obtain ⟨t2, a1, b1⟩ := ke E Z2 D2 hk p e s m args below meth c G tc ad0 L0 ad2 T'.heap (locs ++ L) ls C I2 (ja_Lc hl hN.1 hN.2.1) (ja_oks_mono hN.2.1 hs) ce q (by rw [e1]; exact hce) hcv hcl T' rfl X'
    rw [ja_cvs hs hN.1] at a1
    exact ⟨t2, sg.trans a1, b1⟩
theorem ja_pre {p : Program} {s : State} {m : MethodId} {args : Array Value} {meth : Method} {c : Code} {G : va_G} {tc : Nat → ClassId} {ad0 : Nat → Nat} {L0 : List Nat} {ad : Nat → Nat} {H : Heap} {locs : List Loc} {av : List Value} (C : ja_C l M sc p s m args meth c G tc ad0 L0) (I : ja_I s G tc ad0 L0 ad Z D H locs) (ho : ja_oks Z av) :
    FrameBlind (ja_Pc l G tc ad av Z D H.size) ∧ ∀ U : State, U.heap = H → s.WarmedH U.vm → ja_Pc l G tc ad av Z D H.size (av.map (ja_cv ad)).toArray U := by
  refine ⟨fun a U g mk h => ?_, fun U hU hW => ⟨rfl, by rw [hU], ho, by rw [hU]; exact I.2.2.2.1, ⟨I.2.2.2.2.1.1, fun _ _ _ => trivial⟩, by rw [hU]; exact ja_Vm hW C.2.2.2.2.2.1 I.2.2.2.2.2.2.1 (ja_Asub I)⟩⟩
  obtain ⟨q1, q2, q3, q4, q5, q6⟩ := h
  exact ⟨q1, q2, q3, q4, q5, ja_Vs (u := U) (U := U.calling g mk a) rfl q6⟩
theorem ja_gw (M2 : jM) (hh : M2.2.2.2.2.2 = []) (hc : Cond.code M2.1 M2.2.1 M2.2.2.1 M2.2.2.2.1 ∈ ja_T) : ja_ws M2 = Cond.code M2.1 M2.2.1 M2.2.2.1 M2.2.2.2.1 :: ja_T ∧ GoodIn ja_T (ja_ws M2) := by
  have e : ja_ws M2 = Cond.code M2.1 M2.2.1 M2.2.2.1 M2.2.2.2.1 :: ja_T := by unfold ja_ws; rw [hh]
  refine ⟨e, fun w hw => ?_⟩
  rw [e] at hw
  rcases List.mem_cons.mp hw with rfl | hw
  · exact ⟨hc, ja_gT _ hc⟩
  · exact ⟨hw, ja_gT w hw⟩
/-- room for a callee -/
def ja_rm (M M2 : jM) : Prop := M2.2.2.2.2.1.frames + 1 ≤ M.2.2.2.2.1.frames ∧ 8 + (M2.2.2.1 + 11) + M2.2.2.2.2.1.locals ≤ M.2.2.2.2.1.locals
/-- a callee's own facts: n parameters -/
def ja_ce (M2 : jM) (n : Nat) : Prop := M2.2.2.2.2.2 = [] ∧ Cond.code M2.1 M2.2.1 M2.2.2.1 M2.2.2.2.1 ∈ ja_T ∧ Cond.initialized M2.1.cls ∈ ja_T ∧ (M2.1.cls ≠ "java/lang/invoke/MethodHandle" ∧ M2.1.cls ≠ "java/lang/invoke/VarHandle" ∧ (parseMethodDescriptor M2.1.desc).map (fun d => d.parameters.length) = some n)
theorem ja_callS {M2 : jM} {idx n : Nat} {av stk : List Value} {kr : Option Value → jZ → jD → Prop} {kx : String → jZ → jD → Prop} (hM : ja_M l M2 av Z D kr kx) (K : ja_ce M2 n) (hst : Cond.static M2.1 ∈ ja_T) (hlk : Cond.methodLink M.1.cls idx M2.1 ∈ ja_T) (hR : ja_rm M M2) (d : decode M.2.1 pc = .ok (.invokestatic idx, 3))
    (hstk : stk = av.reverse ++ st) (hn : av.length = n) (hw : (st.map fun v => v.category).sum ≤ 8) (hc : c9 + M2.2.2.2.2.1.cells ≤ M.2.2.2.2.1.cells) (hs9 : s9 + M2.2.2.2.2.1.slots ≤ M.2.2.2.2.1.slots)
    (ke : ∀ E Z2 D2, kx E Z2 D2 → ja_X l M sc Qf pc lv st E Z2 D2 (c9 + M2.2.2.2.2.1.cells) (s9 + M2.2.2.2.2.1.slots)) (kk : ∀ v Z2 D2, kr v Z2 D2 → ja_A l M sc Qf (pc + 3) lv (v.toList ++ st) Z2 D2 (c9 + M2.2.2.2.2.1.cells) (s9 + M2.2.2.2.2.1.slots)) : ja_A l M sc Qf pc lv stk Z D c9 s9 := by
  subst hstk
  intro p e s m args below meth c G tc ad0 L0 ad H locs ls C I hl hs
  obtain ⟨g1, g2⟩ := ja_gw M2 K.1 K.2.1
  have ho : ja_oks Z av := fun v hv => hs v (List.mem_append_left _ (List.mem_reverse.mpr hv))
  have hT : GoodIn ja_T (va_wsS M.1.cls idx M2.1 (ja_ws M2)) := fun w hw => by
    rcases List.mem_append.mp hw with h | h
    · simp only [List.mem_cons, List.not_mem_nil, or_false] at h
      rcases h with rfl | rfl | rfl
      · exact ⟨hlk, ja_gT _ hlk⟩
      · exact ⟨hst, ja_gT _ hst⟩
      · exact ⟨K.2.2.1, ja_gT _ K.2.2.1⟩
    · exact g2 w h
  refine ja_run C I hl (fun v hv => hs v (List.mem_append_right _ hv)) rfl (vx_runS (As := av.map (ja_cv ad)) (rest := st.map (ja_cv ad)) C.1 (hM G tc ad H.size) (va_cwS n C.1.2.2.2.2 hT g1 rfl rfl K.2.2.2 hR) (ja_pre C I ho) rfl (by simpa using hn) (hl.1.1) ?_ (lv_room ?_) d ⟨hc, hs9⟩) kk ke
  · show (av.reverse ++ st).map (ja_cv ad) = _
    rw [List.map_append, List.map_reverse]
  · rw [List.map_map]
    simpa [Function.comp_def, ja_cvc] using hw
theorem ja_callSN {M2 : jM} {idx n : Nat} {host : String} {av stk : List Value} {kr : Option Value → jZ → jD → Prop} {kx : String → jZ → jD → Prop} (hM : ja_M l M2 av Z D kr kx) (K : ja_ce M2 n) (hst : Cond.static M2.1 ∈ ja_T) (hlk : (M.1.cls, idx, M2.1, host) ∈ ja_nest) (hR : ja_rm M M2) (d : decode M.2.1 pc = .ok (.invokestatic idx, 3))
    (hstk : stk = av.reverse ++ st) (hn : av.length = n) (hw : (st.map fun v => v.category).sum ≤ 8) (hc : c9 + M2.2.2.2.2.1.cells ≤ M.2.2.2.2.1.cells) (hs9 : s9 + M2.2.2.2.2.1.slots ≤ M.2.2.2.2.1.slots)
    (ke : ∀ E Z2 D2, kx E Z2 D2 → ja_X l M sc Qf pc lv st E Z2 D2 (c9 + M2.2.2.2.2.1.cells) (s9 + M2.2.2.2.2.1.slots)) (kk : ∀ v Z2 D2, kr v Z2 D2 → ja_A l M sc Qf (pc + 3) lv (v.toList ++ st) Z2 D2 (c9 + M2.2.2.2.2.1.cells) (s9 + M2.2.2.2.2.1.slots)) : ja_A l M sc Qf pc lv stk Z D c9 s9 := by
  subst hstk
  intro p e s m args below meth c G tc ad0 L0 ad H locs ls C I hl hs
  obtain ⟨g1, g2⟩ := ja_gw M2 K.1 K.2.1
  have ho : ja_oks Z av := fun v hv => hs v (List.mem_append_left _ (List.mem_reverse.mpr hv))
  refine ja_run C I hl (fun v hv => hs v (List.mem_append_right _ hv)) rfl (vx_runSN (As := av.map (ja_cv ad)) (rest := st.map (ja_cv ad)) C.1 (hM G tc ad H.size) ⟨va_cnB n C.1.2.2.2.2 g2 g1 rfl rfl (C.2.2.2.2.2.1.2.2.1 _ hlk) (C.1.2.2.2.2 _ K.2.2.1) K.2.2.2 hR, C.1.2.2.2.2 _ hst, trivial⟩ (ja_pre C I ho) rfl (by simpa using hn) (hl.1.1) ?_ (lv_room ?_) d ⟨hc, hs9⟩) kk ke
  · show (av.reverse ++ st).map (ja_cv ad) = _
    rw [List.map_append, List.map_reverse]
  · rw [List.map_map]
    simpa [Function.comp_def, ja_cvc] using hw
theorem ja_callV {M2 : jM} {idx n id ci : Nat} {T : u_T} {N : Nat} {av stk : List Value} {kr : Option Value → jZ → jD → Prop} {kx : String → jZ → jD → Prop} (hM : ja_M l M2 (.ref id :: av) Z D kr kx) (K : ja_ce M2 n) (hin : Cond.instanceMethod M2.1 ∈ ja_T) (hse : Cond.selects M2.1.cls M2.1 M2.1 ∈ ja_T) (hlk : Cond.methodLink M.1.cls idx M2.1 ∈ ja_T) (hk : ja_k ci M2.1.cls T N) (hS : Z.2.1 id = (ci, ja_nf ci)) (hR : ja_rm M M2) (d : decode M.2.1 pc = .ok (.invokevirtual idx, 3))
    (hstk : stk = av.reverse ++ .ref id :: st) (hn : av.length = n) (hw : (st.map fun v => v.category).sum ≤ 8) (hc : c9 + M2.2.2.2.2.1.cells ≤ M.2.2.2.2.1.cells) (hs9 : s9 + M2.2.2.2.2.1.slots ≤ M.2.2.2.2.1.slots)
    (ke : ∀ E Z2 D2, kx E Z2 D2 → ja_X l M sc Qf pc lv st E Z2 D2 (c9 + M2.2.2.2.2.1.cells) (s9 + M2.2.2.2.2.1.slots)) (kk : ∀ v Z2 D2, kr v Z2 D2 → ja_A l M sc Qf (pc + 3) lv (v.toList ++ st) Z2 D2 (c9 + M2.2.2.2.2.1.cells) (s9 + M2.2.2.2.2.1.slots)) : ja_A l M sc Qf pc lv stk Z D c9 s9 := by
  subst hstk
  intro p e s m args below meth c G tc ad0 L0 ad H locs ls C I hl hs
  obtain ⟨g1, g2⟩ := ja_gw M2 K.1 K.2.1
  have hid : ja_ok Z (.ref id) := hs _ (List.mem_append_right _ List.mem_cons_self)
  have ho : ja_oks Z (.ref id :: av) := ja_osc hid (fun v hv => hs v (List.mem_append_left _ (List.mem_reverse.mpr hv)))
  have hm : id ∈ Z.1 := ja_live I.2.2.2.1 hid hS (by have := hk.2.2.1; omega)
  obtain ⟨q0, -, hq⟩ := ja_wk (tc := tc) (ad := ad) (D := D) hm
  unfold ja_e at hq
  rw [ja_el_o hS hk.2.2.1] at hq
  have hT : GoodIn ja_T (wsV M.1.cls idx M2.1.cls M2.1 (ja_ws M2)) := fun w hw => by
    rcases List.mem_append.mp hw with h | h
    · simp only [List.mem_cons, List.not_mem_nil, or_false] at h
      rcases h with rfl | rfl | rfl | rfl
      · exact ⟨hlk, ja_gT _ hlk⟩
      · exact ⟨hin, ja_gT _ hin⟩
      · exact ⟨hse, ja_gT _ hse⟩
      · exact ⟨K.2.2.1, ja_gT _ K.2.2.1⟩
    · exact g2 w h
  have hpre := ja_pre C I ho
  refine ja_run C I hl (fun v hv => hs v (List.mem_append_right _ (List.mem_cons_of_mem _ hv))) rfl (vx_runV (b := ad id) (C := M2.1.cls) (As := av.map (ja_cv ad)) (rest := st.map (ja_cv ad)) C.1 (hM G tc ad H.size) (cwV n C.1.2.2.2.2 hT g1 rfl rfl ⟨rfl, K.2.2.2⟩ hR) ⟨hpre.1, va_recv C.2.2.2.2.2.1.2.1 I.2.2.2.1.1 hk.1 hq, hpre.2⟩ rfl (by simpa using hn) (hl.1.1) ?_ (lv_room ?_) d ⟨hc, hs9⟩) kk ke
  · show (av.reverse ++ .ref id :: st).map (ja_cv ad) = _
    rw [List.map_append, List.map_reverse]
    rfl
  · rw [List.map_map]
    simpa [Function.comp_def, ja_cvc] using hw
/-- a constructor of a class -/
theorem ja_callI {M2 : jM} {idx n id : Nat} {av stk : List Value} {kr : Option Value → jZ → jD → Prop} {kx : String → jZ → jD → Prop} (hM : ja_M l M2 (.ref id :: av) Z D kr kx) (K : ja_ce M2 n) (hin : Cond.instanceMethod M2.1 ∈ ja_T) (hnm : M2.1.name = "<init>") (hlk : Cond.methodLink M.1.cls idx M2.1 ∈ ja_T) (hR : ja_rm M M2) (hrt : M2.2.2.2.1 = none) (d : decode M.2.1 pc = .ok (.invokespecial idx, 3))
    (hstk : stk = av.reverse ++ .ref id :: st) (hn : av.length = n) (hw : (st.map fun v => v.category).sum ≤ 8) (hc : c9 + M2.2.2.2.2.1.cells ≤ M.2.2.2.2.1.cells) (hs9 : s9 + M2.2.2.2.2.1.slots ≤ M.2.2.2.2.1.slots)
    (ke : ∀ E Z2 D2, kx E Z2 D2 → ja_X l M sc Qf pc lv st E Z2 D2 (c9 + M2.2.2.2.2.1.cells) (s9 + M2.2.2.2.2.1.slots)) (kk : ∀ v Z2 D2, kr v Z2 D2 → ja_A l M sc Qf (pc + 3) lv (v.toList ++ st) Z2 D2 (c9 + M2.2.2.2.2.1.cells) (s9 + M2.2.2.2.2.1.slots)) : ja_A l M sc Qf pc lv stk Z D c9 s9 := by
  subst hstk
  intro p e s m args below meth c G tc ad0 L0 ad H locs ls C I hl hs
  obtain ⟨g1, g2⟩ := ja_gw M2 K.1 K.2.1
  rw [hrt] at g1
  have hid : ja_ok Z (.ref id) := hs _ (List.mem_append_right _ List.mem_cons_self)
  have ho : ja_oks Z (.ref id :: av) := ja_osc hid (fun v hv => hs v (List.mem_append_left _ (List.mem_reverse.mpr hv)))
  refine ja_run C I hl (fun v hv => hs v (List.mem_append_right _ (List.mem_cons_of_mem _ hv))) rfl (vx_runI (b := ad id) (As := av.map (ja_cv ad)) (rest := st.map (ja_cv ad)) C.1 (hM G tc ad H.size) (cwI n C.1.2.2.2.2 g2 g1 rfl rfl (C.1.2.2.2.2 _ K.2.2.1) (C.1.2.2.2.2 _ hlk) (C.1.2.2.2.2 _ hin) hnm K.2.2.2 hR) (ja_pre C I ho) rfl (by simpa using hn) (hl.1.1) ?_ (lv_room ?_) d ⟨hc, hs9⟩) kk ke
  · show (av.reverse ++ .ref id :: st).map (ja_cv ad) = _
    rw [List.map_append, List.map_reverse]
    rfl
  · rw [List.map_map]
    simpa [Function.comp_def, ja_cvc] using hw
theorem ja_callIN {M2 : jM} {idx n id : Nat} {host : String} {av stk : List Value} {kr : Option Value → jZ → jD → Prop} {kx : String → jZ → jD → Prop} (hM : ja_M l M2 (.ref id :: av) Z D kr kx) (K : ja_ce M2 n) (hin : Cond.instanceMethod M2.1 ∈ ja_T) (hnm : M2.1.name = "<init>") (hlk : (M.1.cls, idx, M2.1, host) ∈ ja_nest) (hR : ja_rm M M2) (hrt : M2.2.2.2.1 = none) (d : decode M.2.1 pc = .ok (.invokespecial idx, 3))
    (hstk : stk = av.reverse ++ .ref id :: st) (hn : av.length = n) (hw : (st.map fun v => v.category).sum ≤ 8) (hc : c9 + M2.2.2.2.2.1.cells ≤ M.2.2.2.2.1.cells) (hs9 : s9 + M2.2.2.2.2.1.slots ≤ M.2.2.2.2.1.slots)
    (ke : ∀ E Z2 D2, kx E Z2 D2 → ja_X l M sc Qf pc lv st E Z2 D2 (c9 + M2.2.2.2.2.1.cells) (s9 + M2.2.2.2.2.1.slots)) (kk : ∀ v Z2 D2, kr v Z2 D2 → ja_A l M sc Qf (pc + 3) lv (v.toList ++ st) Z2 D2 (c9 + M2.2.2.2.2.1.cells) (s9 + M2.2.2.2.2.1.slots)) : ja_A l M sc Qf pc lv stk Z D c9 s9 := by
  subst hstk
  intro p e s m args below meth c G tc ad0 L0 ad H locs ls C I hl hs
  obtain ⟨g1, g2⟩ := ja_gw M2 K.1 K.2.1
  rw [hrt] at g1
  have hid : ja_ok Z (.ref id) := hs _ (List.mem_append_right _ List.mem_cons_self)
  have ho : ja_oks Z (.ref id :: av) := ja_osc hid (fun v hv => hs v (List.mem_append_left _ (List.mem_reverse.mpr hv)))
  refine ja_run C I hl (fun v hv => hs v (List.mem_append_right _ (List.mem_cons_of_mem _ hv))) rfl (vx_runIN (b := ad id) (As := av.map (ja_cv ad)) (rest := st.map (ja_cv ad)) C.1 (hM G tc ad H.size) ⟨va_cnB n C.1.2.2.2.2 g2 g1 rfl rfl (C.2.2.2.2.2.1.2.2.1 _ hlk) (C.1.2.2.2.2 _ K.2.2.1) K.2.2.2 hR, hnm, C.1.2.2.2.2 _ hin⟩ (ja_pre C I ho) rfl (by simpa using hn) (hl.1.1) ?_ (lv_room ?_) d ⟨hc, hs9⟩) kk ke
  · show (av.reverse ++ .ref id :: st).map (ja_cv ad) = _
    rw [List.map_append, List.map_reverse]
    rfl
  · rw [List.map_map]
    simpa [Function.comp_def, ja_cvc] using hw
end JC
