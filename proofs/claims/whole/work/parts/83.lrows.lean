/-! ROWS FOR THE LAW: a caught exception, a call of a method that catches, arrays of long and double (by wip/whole/x42.py) -/
theorem ja_lset0 {ad : Nat → Nat} {nL : Nat} {ls : Array Slot} {lv : List (Option Value)} {Z : jZ} (h : ja_L ad nL ls lv Z) {i : Nat} {V : Value} (hc : ja_nc lv i = true) {ls' : Array Slot}
    (h' : lv_has ls' nL ((i, V) :: (ja_prs ad 0 lv).filter (fun q => !(q.1 == i) && !(q.1 + 1 == i && q.2.category == 2)))) : ja_L ad nL ls' (lv.set i none) Z := by
  refine ⟨⟨h'.1, h'.2.1, fun q hq => h'.2.2 q ?_⟩, fun w hw => ?_, by simpa using h.2.2⟩
  · obtain ⟨j, w, h1, h2, h3⟩ := (ja_prs_mem _ 0 q).mp hq
    rw [List.getElem?_set] at h2
    by_cases e : i = j
    · subst e
      rw [if_pos rfl] at h2
      split at h2 <;> cases h2
    · rw [if_neg e] at h2
      refine List.mem_cons_of_mem _ (List.mem_filter.mpr ⟨(ja_prs_mem lv 0 q).mpr ⟨j, w, h1, h2, h3⟩, ?_⟩)
      have hq1 : q.1 = j := by omega
      rw [h3, ja_cvc, hq1]
      by_cases e2 : j + 1 = i
      · have := ja_ncs hc e2 h2
        have e3 : ¬ j = i := fun q => e q.symm
        simp [this, e3]
      · have e3 : ¬ j = i := fun q => e q.symm
        simp [e2, e3]
  · obtain ⟨j, hj⟩ := List.getElem?_of_mem hw
    rw [List.getElem?_set] at hj
    by_cases e : i = j
    · subst e
      rw [if_pos rfl] at hj
      split at hj <;> cases hj
    · rw [if_neg e] at hj
      exact h.2.1 w (List.mem_of_getElem? hj)
section JLR
variable {l : Launch} {M : jM} {sc : Nat × (Nat → Int32)} {Qf : jQ} {pc : Nat} {lv : List (Option Value)} {st : List Value} {Z : jZ} {D : jD} {c9 s9 : Nat}
def ja_en (q : Nat × Nat × Nat × Nat) : ExceptionTableEntry := ⟨q.1, q.2.1, q.2.2.1, q.2.2.2⟩
/-- the rows ahead pass E -/
def ja_pass (own : String) (E : String) (hp : List (Nat × Nat × Nat × Nat)) : Prop := ∀ z ∈ hp, z.2.2.2 ≠ 0 ∧ ∃ nm : String, Cond.classLink own z.2.2.2 nm ∈ ja_T ∧ nm ∈ ja_xs ∧ E ≠ nm
theorem ja_catch {E : String} {hp hs : List (Nat × Nat × Nat × Nat)} {h1 : Nat × Nat × Nat × Nat} (hh : M.2.2.2.2.2 = hp ++ h1 :: hs) (hE : E ∈ ja_xs) (hpass : ja_pass M.1.cls E hp) (hx : covers (ja_en h1) pc = true) (h0 : h1.2.2.2 ≠ 0) (hlink : Cond.classLink M.1.cls h1.2.2.2 E ∈ ja_T) (hcast : Cond.castable E E ∈ ja_B)
    (kk : ∀ q : Nat, ∀ p e s m args below meth c G tc ad0 L0 ad H locs ls, ja_C l M sc p s m args meth c G tc ad0 L0 → ja_I s G tc ad0 L0 ad Z D H locs → ja_L ad M.2.2.1 ls lv Z → W p l e M.2.2.2.2.1 s m args below meth c H locs c9 s9 (Qf G tc ad0 L0 below args s) (F0 m h1.2.2.1 ls [.ref q])) : ja_X l M sc Qf pc lv st E Z D c9 s9 := by
  intro p e s m args below meth c G tc ad0 L0 ad H locs ls C I hl hs2 ce q hcell hv hcl
  have htab := C.2.2.2.2.1
  rw [hh] at htab
  have htab2 : c.exceptionTable.toList = hp.map ja_en ++ ja_en h1 :: hs.map ja_en := by rw [htab]; unfold tableOf; rw [List.map_append]; rfl
  refine vx_catch (own := M.1.cls) (name := E) (E := E) (ce := ce) C.1.2.2.2.1 (hp.map ja_en) (ja_en h1) (hs.map ja_en) htab2 (fun z hz => ?_) hx h0 (C.1.2.2.2.2 _ hlink) (va_Nw.use (ja_Bot hcast) (C.2.2.2.2.2.1.2.2.2.2.2.2.2.1 _ hcast)) hcell hv hcl (kk q p e s m args below meth c G tc ad0 L0 ad H locs ls C I hl)
  obtain ⟨w, hw, rfl⟩ := List.mem_map.mp hz
  obtain ⟨a1, nm, a2, a3, a4⟩ := hpass w hw
  exact Or.inr ⟨a1, nm, C.1.2.2.2.2 _ a2, C.2.2.2.2.2.1.2.2.2.2.2.2.2.2 E hE nm a3 a4⟩
/-- catch and astore: the local is forgotten -/
theorem ja_catch_n {E : String} {hp hs : List (Nat × Nat × Nat × Nat)} {h1 : Nat × Nat × Nat × Nat} {n : Fin 4} {i : Nat} (hh : M.2.2.2.2.2 = hp ++ h1 :: hs) (hE : E ∈ ja_xs) (hpass : ja_pass M.1.cls E hp) (hx : covers (ja_en h1) pc = true) (h0 : h1.2.2.2 ≠ 0) (hlink : Cond.classLink M.1.cls h1.2.2.2 E ∈ ja_T) (hcast : Cond.castable E E ∈ ja_B)
    (d : decode M.2.1 h1.2.2.1 = .ok (.astore_n n, 1)) (hi : (n : Nat) = i) (hn : ja_nc lv i = true) (hb : i < lv.length) (kk : ja_A l M sc Qf (h1.2.2.1 + 1) (lv.set i none) [] Z D c9 s9) : ja_X l M sc Qf pc lv st E Z D c9 s9 := by
  refine ja_catch hh hE hpass hx h0 hlink hcast (fun q p e s m args below meth c G tc ad0 L0 ad H locs ls C I hl => ?_)
  exact lv_astore_n C.1.1 C.1.2.1 d hi hl.1 (by rw [← hl.2.2]; exact hb) rfl (fun ls2 h2 => kk p e s m args below meth c G tc ad0 L0 ad H locs ls2 C I (ja_lset0 hl hn h2) ja_osn)
theorem ja_catch_i {E : String} {hp hs : List (Nat × Nat × Nat × Nat)} {h1 : Nat × Nat × Nat × Nat} {i : Nat} (hh : M.2.2.2.2.2 = hp ++ h1 :: hs) (hE : E ∈ ja_xs) (hpass : ja_pass M.1.cls E hp) (hx : covers (ja_en h1) pc = true) (h0 : h1.2.2.2 ≠ 0) (hlink : Cond.classLink M.1.cls h1.2.2.2 E ∈ ja_T) (hcast : Cond.castable E E ∈ ja_B)
    (d : decode M.2.1 h1.2.2.1 = .ok (.astore i, 2)) (hn : ja_nc lv i = true) (hb : i < lv.length) (kk : ja_A l M sc Qf (h1.2.2.1 + 2) (lv.set i none) [] Z D c9 s9) : ja_X l M sc Qf pc lv st E Z D c9 s9 := by
  refine ja_catch hh hE hpass hx h0 hlink hcast (fun q p e s m args below meth c G tc ad0 L0 ad H locs ls C I hl => ?_)
  exact lv_astore C.1.1 C.1.2.1 d hl.1 (by rw [← hl.2.2]; exact hb) rfl (fun ls2 h2 => kk p e s m args below meth c G tc ad0 L0 ad H locs ls2 C I (ja_lset0 hl hn h2) ja_osn)
/-- a callee with an exception table -/
def ja_ch (M2 : jM) (n : Nat) : Prop := (∃ h1 hr, M2.2.2.2.2.2 = h1 :: hr) ∧ Cond.codeWith M2.1 M2.2.1 M2.2.2.1 M2.2.2.2.1 M2.2.2.2.2.2 ∈ ja_T ∧ Cond.initialized M2.1.cls ∈ ja_T ∧ (M2.1.cls ≠ "java/lang/invoke/MethodHandle" ∧ M2.1.cls ≠ "java/lang/invoke/VarHandle" ∧ (parseMethodDescriptor M2.1.desc).map (fun d => d.parameters.length) = some n)
theorem ja_gwh (M2 : jM) (hh : ∃ h1 hr, M2.2.2.2.2.2 = h1 :: hr) (hc : Cond.codeWith M2.1 M2.2.1 M2.2.2.1 M2.2.2.2.1 M2.2.2.2.2.2 ∈ ja_T) : ja_ws M2 = Cond.codeWith M2.1 M2.2.1 M2.2.2.1 M2.2.2.2.1 M2.2.2.2.2.2 :: ja_T ∧ GoodIn ja_T (ja_ws M2) := by
  have e : ja_ws M2 = Cond.codeWith M2.1 M2.2.1 M2.2.2.1 M2.2.2.2.1 M2.2.2.2.2.2 :: ja_T := by
    obtain ⟨h1, hr, hh⟩ := hh
    unfold ja_ws; rw [hh]
  refine ⟨e, fun w hw => ?_⟩
  rw [e] at hw
  rcases List.mem_cons.mp hw with rfl | hw
  · exact ⟨hc, ja_gT _ hc⟩
  · exact ⟨hw, ja_gT w hw⟩
theorem ja_callSW {M2 : jM} {idx n : Nat} {av stk : List Value} {kr : Option Value → jZ → jD → Prop} {kx : String → jZ → jD → Prop} (hM : ja_M l M2 av Z D kr kx) (K : ja_ch M2 n) (hst : Cond.static M2.1 ∈ ja_T) (hlk : Cond.methodLink M.1.cls idx M2.1 ∈ ja_T) (hR : ja_rm M M2) (d : decode M.2.1 pc = .ok (.invokestatic idx, 3))
    (hstk : stk = av.reverse ++ st) (hn : av.length = n) (hw : (st.map fun v => v.category).sum ≤ 8) (hc : c9 + M2.2.2.2.2.1.cells ≤ M.2.2.2.2.1.cells) (hs9 : s9 + M2.2.2.2.2.1.slots ≤ M.2.2.2.2.1.slots)
    (ke : ∀ E Z2 D2, kx E Z2 D2 → ja_X l M sc Qf pc lv st E Z2 D2 (c9 + M2.2.2.2.2.1.cells) (s9 + M2.2.2.2.2.1.slots)) (kk : ∀ v Z2 D2, kr v Z2 D2 → ja_A l M sc Qf (pc + 3) lv (v.toList ++ st) Z2 D2 (c9 + M2.2.2.2.2.1.cells) (s9 + M2.2.2.2.2.1.slots)) : ja_A l M sc Qf pc lv stk Z D c9 s9 := by
  subst hstk
  intro p e s m args below meth c G tc ad0 L0 ad H locs ls C I hl hs
  obtain ⟨g1, g2⟩ := ja_gwh M2 K.1 K.2.1
  have ho : ja_oks Z av := fun v hv => hs v (List.mem_append_left _ (List.mem_reverse.mpr hv))
  have hT : GoodIn ja_T (va_wsS M.1.cls idx M2.1 (ja_ws M2)) := fun w hw => by
    rcases List.mem_append.mp hw with h | h
    · simp only [List.mem_cons, List.not_mem_nil, or_false] at h
      rcases h with rfl | rfl | rfl
      · exact ⟨hlk, ja_gT _ hlk⟩
      · exact ⟨hst, ja_gT _ hst⟩
      · exact ⟨K.2.2.1, ja_gT _ K.2.2.1⟩
    · exact g2 w h
  refine ja_run C I hl (fun v hv => hs v (List.mem_append_right _ hv)) rfl (vx_runSX (hh := M2.2.2.2.2.2) (As := av.map (ja_cv ad)) (rest := st.map (ja_cv ad)) C.1 (hM G tc ad H.size) (vx_cwSW n C.1.2.2.2.2 hT g1 rfl rfl K.2.2.2 hR) (ja_pre C I ho) rfl (by simpa using hn) (hl.1.1) ?_ (lv_room ?_) d ⟨hc, hs9⟩) kk ke
  · show (av.reverse ++ st).map (ja_cv ad) = _
    rw [List.map_append, List.map_reverse]
  · rw [List.map_map]
    simpa [Function.comp_def, ja_cvc] using hw
/-- newarray of longs -/
theorem ja_newal {id n : Nat} {x : Int32} (hx : x = nI n) (hn : n < 100000) (hid : id ∉ Z.1) (h9 : id ≠ 900) (hc : c9 + 1 ≤ M.2.2.2.2.1.cells) (hs9 : s9 + n ≤ M.2.2.2.2.1.slots) (d : decode M.2.1 pc = .ok (.newarray .long, 2))
    (kk : ja_A l M sc Qf (pc + 2) lv (.ref id :: st) (ja_zn Z id 13 n) (ja_dn D id) (c9 + 1) (s9 + n)) : ja_A l M sc Qf pc lv (.int x :: st) Z D c9 s9 := by
  intro p e s m args below meth c G tc ad0 L0 ad H locs ls Cc I hl hs
  subst hx
  have hbt : n * componentBytes (newarray.typeOf .long) ≤ 100000 * 8 := Nat.mul_le_mul (by omega) (by decide)
  refine va_newa (D := G) (cl := ja_cl) (atype := .long) (N' := n) (a0 := (n, .inr (.inl (fun _ => 0)))) Cc.1.1 Cc.1.2.1 (Cc.1.2.2.2.2 _ ac_long) rfl Cc.2.2.2.2.2.1.2.1 I.2.2.2.1.1 I.2.2.2.2.1 I.2.2.2.2.2 (fun q hq => Or.inr hq) (fun cA => rfl) (nI_pos (by omega)) (nI_clamp (by omega)) (by omega) hc hs9 d (fun q cA H1 hK hP hD hS => ?_)
  have hcA : cA = tc 13 := ja_nameT Cc.2.2.2.2.2.1.2.1 (i := 3) (k := 13) (ty := .long) rfl (hK.2 9 _ rfl).2
  subst hcA
  refine ja_gon hid h9 Cc hl (ja_ost hs) (ja_Inew I hid h9 ?_ hP hD hS) kk
  rw [ja_el_l (n := n) (by show (if id = id then (13, n) else _) = _; rw [if_pos rfl])]
  refine congrArg (fun z => (Sum.inl (tc 13, n, Sum.inr (Sum.inl z)) : va_E)) (funext fun j => ?_)
  show (if id = id then (0 : UInt64) else Z.2.2.2 id j).toInt64 = 0
  rw [if_pos rfl]; rfl
/-- newarray of doubles -/
theorem ja_newad {id n : Nat} {x : Int32} (hx : x = nI n) (hn : n < 100000) (hid : id ∉ Z.1) (h9 : id ≠ 900) (hc : c9 + 1 ≤ M.2.2.2.2.1.cells) (hs9 : s9 + n ≤ M.2.2.2.2.1.slots) (d : decode M.2.1 pc = .ok (.newarray .double, 2))
    (kk : ja_A l M sc Qf (pc + 2) lv (.ref id :: st) (ja_zn Z id 14 n) (ja_dn D id) (c9 + 1) (s9 + n)) : ja_A l M sc Qf pc lv (.int x :: st) Z D c9 s9 := by
  intro p e s m args below meth c G tc ad0 L0 ad H locs ls Cc I hl hs
  subst hx
  have hbt : n * componentBytes (newarray.typeOf .double) ≤ 100000 * 8 := Nat.mul_le_mul (by omega) (by decide)
  refine va_newa (D := G) (cl := ja_cl) (atype := .double) (N' := n) (a0 := (n, .inr (.inr (.inr (.inl (fun _ => 0)))))) Cc.1.1 Cc.1.2.1 (Cc.1.2.2.2.2 _ ac_double) rfl Cc.2.2.2.2.2.1.2.1 I.2.2.2.1.1 I.2.2.2.2.1 I.2.2.2.2.2 (fun q hq => Or.inr hq) (fun cA => rfl) (nI_pos (by omega)) (nI_clamp (by omega)) (by omega) hc hs9 d (fun q cA H1 hK hP hD hS => ?_)
  have hcA : cA = tc 14 := ja_nameT Cc.2.2.2.2.2.1.2.1 (i := 4) (k := 14) (ty := .double) rfl (hK.2 9 _ rfl).2
  subst hcA
  refine ja_gon hid h9 Cc hl (ja_ost hs) (ja_Inew I hid h9 ?_ hP hD hS) kk
  rw [ja_el_d (n := n) (by show (if id = id then (14, n) else _) = _; rw [if_pos rfl])]
  refine congrArg (fun z => (Sum.inl (tc 14, n, Sum.inr (Sum.inr (Sum.inr (Sum.inl z)))) : va_E)) (funext fun j => ?_)
  show (if id = id then (0 : UInt64) else Z.2.2.2 id j) = 0
  rw [if_pos rfl]
end JLR
theorem cst_0 : Cond.castable "java/lang/IllegalArgumentException" "java/lang/IllegalArgumentException" ∈ ja_B := List.mem_filter.mpr ⟨List.mem_of_getElem? (i := 371) (by decide +kernel), rfl⟩
theorem cst_1 : Cond.castable "java/lang/IllegalStateException" "java/lang/IllegalStateException" ∈ ja_B := List.mem_filter.mpr ⟨List.mem_of_getElem? (i := 387) (by decide +kernel), rfl⟩
theorem cst_2 : Cond.castable "java/lang/IndexOutOfBoundsException" "java/lang/IndexOutOfBoundsException" ∈ ja_B := List.mem_filter.mpr ⟨List.mem_of_getElem? (i := 260) (by decide +kernel), rfl⟩
theorem cst_3 : Cond.castable "java/lang/UnsupportedOperationException" "java/lang/UnsupportedOperationException" ∈ ja_B := List.mem_filter.mpr ⟨List.mem_of_getElem? (i := 512) (by decide +kernel), rfl⟩
theorem cst_4 : Cond.castable "java/util/NoSuchElementException" "java/util/NoSuchElementException" ∈ ja_B := List.mem_filter.mpr ⟨List.mem_of_getElem? (i := 407) (by decide +kernel), rfl⟩
theorem cst_5 : Cond.castable "java/lang/ArithmeticException" "java/lang/ArithmeticException" ∈ ja_B := List.mem_filter.mpr ⟨List.mem_of_getElem? (i := 1027) (by decide +kernel), rfl⟩
theorem ini_L : Cond.initialized RL ∈ ja_T := ja_in1 (i := 0) rfl rfl
theorem cnh_L_begin : yL_begin.cls ≠ "java/lang/invoke/MethodHandle" ∧ yL_begin.cls ≠ "java/lang/invoke/VarHandle" ∧ (parseMethodDescriptor yL_begin.desc).map (fun d => d.parameters.length) = some 3 := by decide +kernel
theorem ch_L_begin (c9 s9 : Nat) : ja_ch (mL_begin c9 s9) 3 := ⟨⟨_, _, rfl⟩, ja_in2 (i := 73) rfl rfl, ini_L, cnh_L_begin⟩
theorem cnh_L_paint : yL_paint.cls ≠ "java/lang/invoke/MethodHandle" ∧ yL_paint.cls ≠ "java/lang/invoke/VarHandle" ∧ (parseMethodDescriptor yL_paint.desc).map (fun d => d.parameters.length) = some 8 := by decide +kernel
theorem ch_L_paint (c9 s9 : Nat) : ja_ch (mL_paint c9 s9) 8 := ⟨⟨_, _, rfl⟩, ja_in2 (i := 141) rfl rfl, ini_L, cnh_L_paint⟩
theorem cnh_L_split : yL_split.cls ≠ "java/lang/invoke/MethodHandle" ∧ yL_split.cls ≠ "java/lang/invoke/VarHandle" ∧ (parseMethodDescriptor yL_split.desc).map (fun d => d.parameters.length) = some 7 := by decide +kernel
theorem ch_L_split (c9 s9 : Nat) : ja_ch (mL_split c9 s9) 7 := ⟨⟨_, _, rfl⟩, ja_in2 (i := 210) rfl rfl, ini_L, cnh_L_split⟩
theorem cnh_L_merge : yL_merge.cls ≠ "java/lang/invoke/MethodHandle" ∧ yL_merge.cls ≠ "java/lang/invoke/VarHandle" ∧ (parseMethodDescriptor yL_merge.desc).map (fun d => d.parameters.length) = some 5 := by decide +kernel
theorem ch_L_merge (c9 s9 : Nat) : ja_ch (mL_merge c9 s9) 5 := ⟨⟨_, _, rfl⟩, ja_in2 (i := 239) rfl rfl, ini_L, cnh_L_merge⟩
theorem cnh_L_setValue : yL_setValue.cls ≠ "java/lang/invoke/MethodHandle" ∧ yL_setValue.cls ≠ "java/lang/invoke/VarHandle" ∧ (parseMethodDescriptor yL_setValue.desc).map (fun d => d.parameters.length) = some 5 := by decide +kernel
theorem ch_L_setValue (c9 s9 : Nat) : ja_ch (mL_setValue c9 s9) 5 := ⟨⟨_, _, rfl⟩, ja_in3 (i := 6) rfl rfl, ini_L, cnh_L_setValue⟩
theorem cnh_L_setDivides : yL_setDivides.cls ≠ "java/lang/invoke/MethodHandle" ∧ yL_setDivides.cls ≠ "java/lang/invoke/VarHandle" ∧ (parseMethodDescriptor yL_setDivides.desc).map (fun d => d.parameters.length) = some 4 := by decide +kernel
theorem ch_L_setDivides (c9 s9 : Nat) : ja_ch (mL_setDivides c9 s9) 4 := ⟨⟨_, _, rfl⟩, ja_in3 (i := 15) rfl rfl, ini_L, cnh_L_setDivides⟩
theorem cnh_L_sign : yL_sign.cls ≠ "java/lang/invoke/MethodHandle" ∧ yL_sign.cls ≠ "java/lang/invoke/VarHandle" ∧ (parseMethodDescriptor yL_sign.desc).map (fun d => d.parameters.length) = some 3 := by decide +kernel
theorem ch_L_sign (c9 s9 : Nat) : ja_ch (mL_sign c9 s9) 3 := ⟨⟨_, _, rfl⟩, ja_in3 (i := 22) rfl rfl, ini_L, cnh_L_sign⟩
theorem cnh_L_keep : yL_keep.cls ≠ "java/lang/invoke/MethodHandle" ∧ yL_keep.cls ≠ "java/lang/invoke/VarHandle" ∧ (parseMethodDescriptor yL_keep.desc).map (fun d => d.parameters.length) = some 2 := by decide +kernel
theorem ch_L_keep (c9 s9 : Nat) : ja_ch (mL_keep c9 s9) 2 := ⟨⟨_, _, rfl⟩, ja_in3 (i := 30) rfl rfl, ini_L, cnh_L_keep⟩
theorem cnh_L_drop : yL_drop.cls ≠ "java/lang/invoke/MethodHandle" ∧ yL_drop.cls ≠ "java/lang/invoke/VarHandle" ∧ (parseMethodDescriptor yL_drop.desc).map (fun d => d.parameters.length) = some 2 := by decide +kernel
theorem ch_L_drop (c9 s9 : Nat) : ja_ch (mL_drop c9 s9) 2 := ⟨⟨_, _, rfl⟩, ja_in3 (i := 56) rfl rfl, ini_L, cnh_L_drop⟩
theorem cnh_L_addRule : yL_addRule.cls ≠ "java/lang/invoke/MethodHandle" ∧ yL_addRule.cls ≠ "java/lang/invoke/VarHandle" ∧ (parseMethodDescriptor yL_addRule.desc).map (fun d => d.parameters.length) = some 5 := by decide +kernel
theorem ch_L_addRule (c9 s9 : Nat) : ja_ch (mL_addRule c9 s9) 5 := ⟨⟨_, _, rfl⟩, ja_in3 (i := 67) rfl rfl, ini_L, cnh_L_addRule⟩
theorem cnh_L_broken : yL_broken.cls ≠ "java/lang/invoke/MethodHandle" ∧ yL_broken.cls ≠ "java/lang/invoke/VarHandle" ∧ (parseMethodDescriptor yL_broken.desc).map (fun d => d.parameters.length) = some 3 := by decide +kernel
theorem ch_L_broken (c9 s9 : Nat) : ja_ch (mL_broken c9 s9) 3 := ⟨⟨_, _, rfl⟩, ja_in3 (i := 98) rfl rfl, ini_L, cnh_L_broken⟩
theorem cnh_L_leastBroken : yL_leastBroken.cls ≠ "java/lang/invoke/MethodHandle" ∧ yL_leastBroken.cls ≠ "java/lang/invoke/VarHandle" ∧ (parseMethodDescriptor yL_leastBroken.desc).map (fun d => d.parameters.length) = some 2 := by decide +kernel
theorem ch_L_leastBroken (c9 s9 : Nat) : ja_ch (mL_leastBroken c9 s9) 2 := ⟨⟨_, _, rfl⟩, ja_in3 (i := 105) rfl rfl, ini_L, cnh_L_leastBroken⟩
theorem cnh_L_areaAt : yL_areaAt.cls ≠ "java/lang/invoke/MethodHandle" ∧ yL_areaAt.cls ≠ "java/lang/invoke/VarHandle" ∧ (parseMethodDescriptor yL_areaAt.desc).map (fun d => d.parameters.length) = some 4 := by decide +kernel
theorem ch_L_areaAt (c9 s9 : Nat) : ja_ch (mL_areaAt c9 s9) 4 := ⟨⟨_, _, rfl⟩, ja_in3 (i := 113) rfl rfl, ini_L, cnh_L_areaAt⟩
theorem cnh_L_areaThen : yL_areaThen.cls ≠ "java/lang/invoke/MethodHandle" ∧ yL_areaThen.cls ≠ "java/lang/invoke/VarHandle" ∧ (parseMethodDescriptor yL_areaThen.desc).map (fun d => d.parameters.length) = some 5 := by decide +kernel
theorem ch_L_areaThen (c9 s9 : Nat) : ja_ch (mL_areaThen c9 s9) 5 := ⟨⟨_, _, rfl⟩, ja_in3 (i := 124) rfl rfl, ini_L, cnh_L_areaThen⟩
theorem cnh_L_authorOf : yL_authorOf.cls ≠ "java/lang/invoke/MethodHandle" ∧ yL_authorOf.cls ≠ "java/lang/invoke/VarHandle" ∧ (parseMethodDescriptor yL_authorOf.desc).map (fun d => d.parameters.length) = some 5 := by decide +kernel
theorem ch_L_authorOf (c9 s9 : Nat) : ja_ch (mL_authorOf c9 s9) 5 := ⟨⟨_, _, rfl⟩, ja_in3 (i := 137) rfl rfl, ini_L, cnh_L_authorOf⟩
theorem cnh_L_size : yL_size.cls ≠ "java/lang/invoke/MethodHandle" ∧ yL_size.cls ≠ "java/lang/invoke/VarHandle" ∧ (parseMethodDescriptor yL_size.desc).map (fun d => d.parameters.length) = some 4 := by decide +kernel
theorem ch_L_size (c9 s9 : Nat) : ja_ch (mL_size c9 s9) 4 := ⟨⟨_, _, rfl⟩, ja_in3 (i := 145) rfl rfl, ini_L, cnh_L_size⟩
theorem cnh_L_value : yL_value.cls ≠ "java/lang/invoke/MethodHandle" ∧ yL_value.cls ≠ "java/lang/invoke/VarHandle" ∧ (parseMethodDescriptor yL_value.desc).map (fun d => d.parameters.length) = some 4 := by decide +kernel
theorem ch_L_value (c9 s9 : Nat) : ja_ch (mL_value c9 s9) 4 := ⟨⟨_, _, rfl⟩, ja_in3 (i := 152) rfl rfl, ini_L, cnh_L_value⟩
theorem cnh_L_rim : yL_rim.cls ≠ "java/lang/invoke/MethodHandle" ∧ yL_rim.cls ≠ "java/lang/invoke/VarHandle" ∧ (parseMethodDescriptor yL_rim.desc).map (fun d => d.parameters.length) = some 4 := by decide +kernel
theorem ch_L_rim (c9 s9 : Nat) : ja_ch (mL_rim c9 s9) 4 := ⟨⟨_, _, rfl⟩, ja_in3 (i := 159) rfl rfl, ini_L, cnh_L_rim⟩
theorem cnh_L_border : yL_border.cls ≠ "java/lang/invoke/MethodHandle" ∧ yL_border.cls ≠ "java/lang/invoke/VarHandle" ∧ (parseMethodDescriptor yL_border.desc).map (fun d => d.parameters.length) = some 5 := by decide +kernel
theorem ch_L_border (c9 s9 : Nat) : ja_ch (mL_border c9 s9) 5 := ⟨⟨_, _, rfl⟩, ja_in3 (i := 171) rfl rfl, ini_L, cnh_L_border⟩
theorem cnh_L_distance : yL_distance.cls ≠ "java/lang/invoke/MethodHandle" ∧ yL_distance.cls ≠ "java/lang/invoke/VarHandle" ∧ (parseMethodDescriptor yL_distance.desc).map (fun d => d.parameters.length) = some 5 := by decide +kernel
theorem ch_L_distance (c9 s9 : Nat) : ja_ch (mL_distance c9 s9) 5 := ⟨⟨_, _, rfl⟩, ja_in3 (i := 179) rfl rfl, ini_L, cnh_L_distance⟩
theorem cnh_L_nearest : yL_nearest.cls ≠ "java/lang/invoke/MethodHandle" ∧ yL_nearest.cls ≠ "java/lang/invoke/VarHandle" ∧ (parseMethodDescriptor yL_nearest.desc).map (fun d => d.parameters.length) = some 4 := by decide +kernel
theorem ch_L_nearest (c9 s9 : Nat) : ja_ch (mL_nearest c9 s9) 4 := ⟨⟨_, _, rfl⟩, ja_in3 (i := 200) rfl rfl, ini_L, cnh_L_nearest⟩
theorem cnh_L_belt : yL_belt.cls ≠ "java/lang/invoke/MethodHandle" ∧ yL_belt.cls ≠ "java/lang/invoke/VarHandle" ∧ (parseMethodDescriptor yL_belt.desc).map (fun d => d.parameters.length) = some 5 := by decide +kernel
theorem ch_L_belt (c9 s9 : Nat) : ja_ch (mL_belt c9 s9) 5 := ⟨⟨_, _, rfl⟩, ja_in3 (i := 208) rfl rfl, ini_L, cnh_L_belt⟩
theorem cnh_L_checkOut : yL_checkOut.cls ≠ "java/lang/invoke/MethodHandle" ∧ yL_checkOut.cls ≠ "java/lang/invoke/VarHandle" ∧ (parseMethodDescriptor yL_checkOut.desc).map (fun d => d.parameters.length) = some 7 := by decide +kernel
theorem ch_L_checkOut (c9 s9 : Nat) : ja_ch (mL_checkOut c9 s9) 7 := ⟨⟨_, _, rfl⟩, ja_in3 (i := 220) rfl rfl, ini_L, cnh_L_checkOut⟩
theorem cnh_L_change : yL_change.cls ≠ "java/lang/invoke/MethodHandle" ∧ yL_change.cls ≠ "java/lang/invoke/VarHandle" ∧ (parseMethodDescriptor yL_change.desc).map (fun d => d.parameters.length) = some 5 := by decide +kernel
theorem ch_L_change (c9 s9 : Nat) : ja_ch (mL_change c9 s9) 5 := ⟨⟨_, _, rfl⟩, ja_in4 (i := 26) rfl rfl, ini_L, cnh_L_change⟩
theorem cnh_L_conflicts : yL_conflicts.cls ≠ "java/lang/invoke/MethodHandle" ∧ yL_conflicts.cls ≠ "java/lang/invoke/VarHandle" ∧ (parseMethodDescriptor yL_conflicts.desc).map (fun d => d.parameters.length) = some 3 := by decide +kernel
theorem ch_L_conflicts (c9 s9 : Nat) : ja_ch (mL_conflicts c9 s9) 3 := ⟨⟨_, _, rfl⟩, ja_in4 (i := 43) rfl rfl, ini_L, cnh_L_conflicts⟩
theorem cnh_L_clashes : yL_clashes.cls ≠ "java/lang/invoke/MethodHandle" ∧ yL_clashes.cls ≠ "java/lang/invoke/VarHandle" ∧ (parseMethodDescriptor yL_clashes.desc).map (fun d => d.parameters.length) = some 3 := by decide +kernel
theorem ch_L_clashes (c9 s9 : Nat) : ja_ch (mL_clashes c9 s9) 3 := ⟨⟨_, _, rfl⟩, ja_in4 (i := 63) rfl rfl, ini_L, cnh_L_clashes⟩
theorem cnh_L_reconcile : yL_reconcile.cls ≠ "java/lang/invoke/MethodHandle" ∧ yL_reconcile.cls ≠ "java/lang/invoke/VarHandle" ∧ (parseMethodDescriptor yL_reconcile.desc).map (fun d => d.parameters.length) = some 4 := by decide +kernel
theorem ch_L_reconcile (c9 s9 : Nat) : ja_ch (mL_reconcile c9 s9) 4 := ⟨⟨_, _, rfl⟩, ja_in4 (i := 70) rfl rfl, ini_L, cnh_L_reconcile⟩
theorem cnh_L_pieces : yL_pieces.cls ≠ "java/lang/invoke/MethodHandle" ∧ yL_pieces.cls ≠ "java/lang/invoke/VarHandle" ∧ (parseMethodDescriptor yL_pieces.desc).map (fun d => d.parameters.length) = some 4 := by decide +kernel
theorem ch_L_pieces (c9 s9 : Nat) : ja_ch (mL_pieces c9 s9) 4 := ⟨⟨_, _, rfl⟩, ja_in4 (i := 82) rfl rfl, ini_L, cnh_L_pieces⟩
theorem cnh_L_pieceSize : yL_pieceSize.cls ≠ "java/lang/invoke/MethodHandle" ∧ yL_pieceSize.cls ≠ "java/lang/invoke/VarHandle" ∧ (parseMethodDescriptor yL_pieceSize.desc).map (fun d => d.parameters.length) = some 5 := by decide +kernel
theorem ch_L_pieceSize (c9 s9 : Nat) : ja_ch (mL_pieceSize c9 s9) 5 := ⟨⟨_, _, rfl⟩, ja_in4 (i := 89) rfl rfl, ini_L, cnh_L_pieceSize⟩
theorem cnh_L_parent : yL_parent.cls ≠ "java/lang/invoke/MethodHandle" ∧ yL_parent.cls ≠ "java/lang/invoke/VarHandle" ∧ (parseMethodDescriptor yL_parent.desc).map (fun d => d.parameters.length) = some 6 := by decide +kernel
theorem ch_L_parent (c9 s9 : Nat) : ja_ch (mL_parent c9 s9) 6 := ⟨⟨_, _, rfl⟩, ja_in4 (i := 101) rfl rfl, ini_L, cnh_L_parent⟩
theorem cnh_L_match : yL_match.cls ≠ "java/lang/invoke/MethodHandle" ∧ yL_match.cls ≠ "java/lang/invoke/VarHandle" ∧ (parseMethodDescriptor yL_match.desc).map (fun d => d.parameters.length) = some 5 := by decide +kernel
theorem ch_L_match (c9 s9 : Nat) : ja_ch (mL_match c9 s9) 5 := ⟨⟨_, _, rfl⟩, ja_in4 (i := 108) rfl rfl, ini_L, cnh_L_match⟩
theorem cnh_L_matchKind : yL_matchKind.cls ≠ "java/lang/invoke/MethodHandle" ∧ yL_matchKind.cls ≠ "java/lang/invoke/VarHandle" ∧ (parseMethodDescriptor yL_matchKind.desc).map (fun d => d.parameters.length) = some 5 := by decide +kernel
theorem ch_L_matchKind (c9 s9 : Nat) : ja_ch (mL_matchKind c9 s9) 5 := ⟨⟨_, _, rfl⟩, ja_in4 (i := 122) rfl rfl, ini_L, cnh_L_matchKind⟩
theorem cnh_L_coarse : yL_coarse.cls ≠ "java/lang/invoke/MethodHandle" ∧ yL_coarse.cls ≠ "java/lang/invoke/VarHandle" ∧ (parseMethodDescriptor yL_coarse.desc).map (fun d => d.parameters.length) = some 5 := by decide +kernel
theorem ch_L_coarse (c9 s9 : Nat) : ja_ch (mL_coarse c9 s9) 5 := ⟨⟨_, _, rfl⟩, ja_in4 (i := 129) rfl rfl, ini_L, cnh_L_coarse⟩
theorem cnh_L_coarseAreas : yL_coarseAreas.cls ≠ "java/lang/invoke/MethodHandle" ∧ yL_coarseAreas.cls ≠ "java/lang/invoke/VarHandle" ∧ (parseMethodDescriptor yL_coarseAreas.desc).map (fun d => d.parameters.length) = some 4 := by decide +kernel
theorem ch_L_coarseAreas (c9 s9 : Nat) : ja_ch (mL_coarseAreas c9 s9) 4 := ⟨⟨_, _, rfl⟩, ja_in4 (i := 167) rfl rfl, ini_L, cnh_L_coarseAreas⟩
theorem cnh_L_name : yL_name.cls ≠ "java/lang/invoke/MethodHandle" ∧ yL_name.cls ≠ "java/lang/invoke/VarHandle" ∧ (parseMethodDescriptor yL_name.desc).map (fun d => d.parameters.length) = some 5 := by decide +kernel
theorem ch_L_name (c9 s9 : Nat) : ja_ch (mL_name c9 s9) 5 := ⟨⟨_, _, rfl⟩, ja_in4 (i := 178) rfl rfl, ini_L, cnh_L_name⟩
theorem cnh_L_placeOf : yL_placeOf.cls ≠ "java/lang/invoke/MethodHandle" ∧ yL_placeOf.cls ≠ "java/lang/invoke/VarHandle" ∧ (parseMethodDescriptor yL_placeOf.desc).map (fun d => d.parameters.length) = some 4 := by decide +kernel
theorem ch_L_placeOf (c9 s9 : Nat) : ja_ch (mL_placeOf c9 s9) 4 := ⟨⟨_, _, rfl⟩, ja_in4 (i := 186) rfl rfl, ini_L, cnh_L_placeOf⟩
theorem cnh_L_values : yL_values.cls ≠ "java/lang/invoke/MethodHandle" ∧ yL_values.cls ≠ "java/lang/invoke/VarHandle" ∧ (parseMethodDescriptor yL_values.desc).map (fun d => d.parameters.length) = some 3 := by decide +kernel
theorem ch_L_values (c9 s9 : Nat) : ja_ch (mL_values c9 s9) 3 := ⟨⟨_, _, rfl⟩, ja_in4 (i := 230) rfl rfl, ini_L, cnh_L_values⟩
theorem cnh_L_covered : yL_covered.cls ≠ "java/lang/invoke/MethodHandle" ∧ yL_covered.cls ≠ "java/lang/invoke/VarHandle" ∧ (parseMethodDescriptor yL_covered.desc).map (fun d => d.parameters.length) = some 3 := by decide +kernel
theorem ch_L_covered (c9 s9 : Nat) : ja_ch (mL_covered c9 s9) 3 := ⟨⟨_, _, rfl⟩, ja_in4 (i := 237) rfl rfl, ini_L, cnh_L_covered⟩
theorem cnh_L_meanPiece : yL_meanPiece.cls ≠ "java/lang/invoke/MethodHandle" ∧ yL_meanPiece.cls ≠ "java/lang/invoke/VarHandle" ∧ (parseMethodDescriptor yL_meanPiece.desc).map (fun d => d.parameters.length) = some 4 := by decide +kernel
theorem ch_L_meanPiece (c9 s9 : Nat) : ja_ch (mL_meanPiece c9 s9) 4 := ⟨⟨_, _, rfl⟩, ja_in5 (i := 5) rfl rfl, ini_L, cnh_L_meanPiece⟩
