/-! THE ABSTRACT PICTURE. Objects have ids (numbers); a state is a shape Z (the ids that live; what each is: class or array kind, and length; where its references lead; its 64-bit cells) and the whole numbers D. ja_A: the machine, from this place on, whatever the addresses are. -/
abbrev jZ : Type := List Nat × (Nat → Nat × Nat) × (Nat → Nat → Option Nat) × (Nat → Nat → UInt64)
abbrev jD : Type := Nat → Nat → Int32
abbrev jM : Type := MethodName × ByteArray × Nat × Option FieldType × Room × List (Nat × Nat × Nat × Nat)
abbrev jQ : Type := va_G → (Nat → ClassId) → (Nat → Nat) → List Nat → List Frame → Array Value → State → State → Prop
abbrev ja_cl : List vw_C := [(RX0, TX0, 3), (RX1, TX1, 9), (RX2, TX2, 1), (RX3, TX3, 6), (RX4, TX4, 4), (RX5, TX5, 1), (RX6, TX6, 8), (RX7, TX7, 13), (RX8, TX8, 28)]
def ja_T : List Cond := lw_tbl.filter goodWord
theorem ja_inT {w : Cond} {i : Nat} (h : lw_tbl[i]? = some w) (hg : goodWord w = true) : w ∈ ja_T := List.mem_filter.mpr ⟨List.mem_of_getElem? h, hg⟩
theorem ja_gT : ∀ w ∈ ja_T, (w.onTables && w.keeps) = true ∨ ∃ ty, w = .arrayClass ty := fun _ h => good_of_word (List.mem_filter.mp h).2
def ja_cv (ad : Nat → Nat) (v : Value) : Value := match v with
  | .ref i => .ref (ad i)
  | w => w
def ja_ty (ci : Nat) : Nat → FieldType := match ci with
  | 0 => tyX0
  | 1 => tyX1
  | 2 => tyX2
  | 3 => tyX3
  | 4 => tyX4
  | 5 => tyX5
  | 6 => tyX6
  | 7 => tyX7
  | _ => tyX8
def ja_nf (ci : Nat) : Nat := match ci with
  | 0 => 3
  | 1 => 9
  | 2 => 1
  | 3 => 6
  | 4 => 4
  | 5 => 1
  | 6 => 8
  | 7 => 13
  | _ => 28
/-- kinds of arrays: 10 int, 11 boolean, 12 char, 13 long, 14 double, 15 Layer, 16 Rule, 17 Version, 18 int[] -/
abbrev ja_tys (tc : Nat → ClassId) : List (ClassId × FieldType) := [(tc 10, .int), (tc 11, .boolean), (tc 12, .char), (tc 13, .long), (tc 14, .double), (tc 15, .object RX1), (tc 16, .object RX4), (tc 17, .object RX6), (tc 18, .array .int)]
def ja_fv (ad : Nat → Nat) (Z : jZ) (D : jD) (id ci j : Nat) : Value := if (ja_ty ci j).isReference then va_rf ((Z.2.2.1 id j).map ad) else .int (D id j)
def ja_ac (ad : Nat → Nat) (Z : jZ) (D : jD) (id k : Nat) : (Nat → Int32) ⊕ (Nat → Int64) ⊕ (Nat → UInt32) ⊕ (Nat → UInt64) ⊕ (Nat → Option Nat) :=
  if k < 13 then .inl (D id) else if k = 13 then .inr (.inl (fun j => (Z.2.2.2 id j).toInt64)) else if k = 14 then .inr (.inr (.inr (.inl (Z.2.2.2 id)))) else .inr (.inr (.inr (.inr (fun j => (Z.2.2.1 id j).map ad))))
def ja_el (tc : Nat → ClassId) (ad : Nat → Nat) (Z : jZ) (D : jD) (id : Nat) : va_E :=
  if (Z.2.1 id).1 < 9 then .inr ((Z.2.1 id).1, (List.range (Z.2.1 id).2).map (ja_fv ad Z D id (Z.2.1 id).1)) else .inl (tc (Z.2.1 id).1, (Z.2.1 id).2, ja_ac ad Z D id (Z.2.1 id).1)
def ja_e (tc : Nat → ClassId) (ad : Nat → Nat) (Z : jZ) (D : jD) (id : Nat) : Nat × va_E := (ad id, ja_el tc ad Z D id)
def ja_w (tc : Nat → ClassId) (ad : Nat → Nat) (Z : jZ) (D : jD) : va_W := Z.1.map (ja_e tc ad Z D)
def ja_R (G : va_G) (tc : Nat → ClassId) (ad : Nat → Nat) (Z : jZ) (D : jD) (H : Heap) : Prop :=
  va_P G ja_cl (ja_w tc ad Z D) H ∧ Z.1.Nodup ∧ (900 ∉ Z.1 ∧ Z.2.1 900 = (99, 0)) ∧ ∀ id ∈ Z.1, ∀ j k, Z.2.2.1 id j = some k → k ∈ Z.1
def ja_Ar (ad0 : Nat → Nat) (L0 : List Nat) (sz : Nat) : Nat → Prop := fun q => (∃ i ∈ L0, ad0 i = q) ∨ sz ≤ q
def ja_ok (Z : jZ) (v : Value) : Prop := ∀ i, v = .ref i → i ∈ Z.1 ∨ i = 900
def ja_oks (Z : jZ) (st : List Value) : Prop := ∀ v ∈ st, ja_ok Z v
def ja_I (s : State) (G : va_G) (tc : Nat → ClassId) (ad0 : Nat → Nat) (L0 : List Nat) (ad : Nat → Nat) (Z : jZ) (D : jD) (H : Heap) (locs : List Loc) : Prop :=
  (∀ i, i ∈ L0 ∨ i = 900 → ad i = ad0 i) ∧ (∀ i ∈ L0, i ∈ Z.1) ∧ (∀ i ∈ Z.1, i ∉ L0 → s.heap.size ≤ ad i) ∧ ja_R G tc ad Z D H ∧ va_D (ja_Ar ad0 L0 s.heap.size) (ja_w tc ad Z D) ∧ va_S (ja_Ar ad0 L0 s.heap.size) s.heap H locs
def ja_prs (ad : Nat → Nat) : Nat → List (Option Value) → List (Nat × Value)
  | _, [] => []
  | i, none :: t => ja_prs ad (i + 1) t
  | i, some v :: t => (i, ja_cv ad v) :: ja_prs ad (i + 1) t
def ja_L (ad : Nat → Nat) (nL : Nat) (ls : Array Slot) (lv : List (Option Value)) (Z : jZ) : Prop := lv_has ls nL (ja_prs ad 0 lv) ∧ (∀ v, some v ∈ lv → ja_ok Z v) ∧ lv.length = nL
def ja_xs : List String := ["java/lang/IllegalArgumentException", "java/lang/IllegalStateException", "java/lang/IndexOutOfBoundsException", "java/lang/UnsupportedOperationException", "java/util/NoSuchElementException", "java/lang/ArithmeticException"]
def ja_nest : List (String × Nat × MethodName × String) := lw_tbl.filterMap (fun w => match w with | .methodLinkNest a i y h => some (a, i, y, h) | _ => none)
def ja_str : List (String × Nat × String) := lw_tbl.filterMap (fun w => match w with | .stringRef a i x => some (a, i, x) | _ => none)
def ja_bk (w : Cond) : Bool := match w with
  | .castable .. => true
  | .declares .. => true
  | _ => false
def ja_B : List Cond := lw_tbl.filter ja_bk
/-- what the tables and the JDK's two statics give, beside the good words -/
def ja_V (l : Launch) (G : va_G) (tc : Nat → ClassId) (A : Nat → Prop) (U : State) (H : Heap) : Prop :=
  l.stackTraces = false ∧ va_K G ja_cl (ja_tys tc) U ∧ (∀ q ∈ ja_nest, va_Nw (.methodLinkNest q.1 q.2.1 q.2.2.1 q.2.2.2) U) ∧ (∀ q ∈ ja_str, ∃ a, vk_R q.1 q.2.1 q.2.2 a U) ∧
  (va_AO RX1 U ∧ va_AO RX4 U ∧ va_AO RX6 U ∧ va_AOA .int U) ∧ vx_Zq Bundle.tN "UNASSIGNED_STACK" Bundle.steD A U H ∧ vx_Zq Bundle.tN "SUPPRESSED_SENTINEL" Bundle.listD A U H ∧
  (∀ w ∈ ja_B, va_Nw w U) ∧ (∀ E ∈ ja_xs, ∀ F ∈ ja_xs, E ≠ F → va_Nc E F U)
def ja_sc (sc : Nat × (Nat → Int32)) (ad0 : Nat → Nat) (A : Nat → Prop) (s : State) : Prop := sc.1 = 0 ∨ (va_X (ad0 900) (sc.1 - 1) sc.2 s s.heap ∧ ad0 900 < s.heap.size ∧ ¬ A (ad0 900))
def ja_C (l : Launch) (M : jM) (sc : Nat × (Nat → Int32)) (p : Program) (s : State) (m : MethodId) (args : Array Value) (meth : Method) (c : Code) (G : va_G) (tc : Nat → ClassId) (ad0 : Nat → Nat) (L0 : List Nat) : Prop :=
  CallFix p m c M.2.1 M.2.2.1 s args ja_T M.1.cls ∧ meth.sig.returnType = M.2.2.2.1 ∧ meth.locks = false ∧ meth.name = M.1.name ∧ c.exceptionTable.toList = tableOf M.2.2.2.2.2 ∧ ja_V l G tc (ja_Ar ad0 L0 s.heap.size) s s.heap ∧ ja_sc sc ad0 (ja_Ar ad0 L0 s.heap.size) s
def ja_A (l : Launch) (M : jM) (sc : Nat × (Nat → Int32)) (Qf : jQ) (pc : Nat) (lv : List (Option Value)) (st : List Value) (Z : jZ) (D : jD) (c9 s9 : Nat) : Prop :=
  ∀ p e s m args below meth c G tc ad0 L0 ad H locs ls, ja_C l M sc p s m args meth c G tc ad0 L0 → ja_I s G tc ad0 L0 ad Z D H locs → ja_L ad M.2.2.1 ls lv Z → ja_oks Z st →
    W p l e M.2.2.2.2.1 s m args below meth c H locs c9 s9 (Qf G tc ad0 L0 below args s) (F0 m pc ls (st.map (ja_cv ad)))
def ja_X (l : Launch) (M : jM) (sc : Nat × (Nat → Int32)) (Qf : jQ) (pc : Nat) (lv : List (Option Value)) (st : List Value) (E : String) (Z : jZ) (D : jD) (c9 s9 : Nat) : Prop :=
  ∀ p e s m args below meth c G tc ad0 L0 ad H locs ls, ja_C l M sc p s m args meth c G tc ad0 L0 → ja_I s G tc ad0 L0 ad Z D H locs → ja_L ad M.2.2.1 ls lv Z → ja_oks Z st →
    ∀ (ce : Cell) (q : Addr), H[q]? = some ce → ce.vm = .none → s.vm.findClass E = some ce.cls → vx_W p l e M.2.2.2.2.1 s m args below meth c H locs c9 s9 (Qf G tc ad0 L0 below args s) (F0 m pc ls (st.map (ja_cv ad))) q
/-- a contract: the method on av in Z, D: it returns, and kr holds of answer and state, or it throws E, and kx holds -/
def ja_ws (M : jM) : List Cond := (match M.2.2.2.2.2 with
  | [] => .code M.1 M.2.1 M.2.2.1 M.2.2.2.1
  | hh => .codeWith M.1 M.2.1 M.2.2.1 M.2.2.2.1 hh) :: ja_T
def ja_Pc (l : Launch) (G : va_G) (tc : Nat → ClassId) (ad : Nat → Nat) (av : List Value) (Z : jZ) (D : jD) (sz : Nat) : Array Value → State → Prop := fun v U =>
  v = (av.map (ja_cv ad)).toArray ∧ U.heap.size = sz ∧ ja_oks Z av ∧ ja_R G tc ad Z D U.heap ∧ va_D (fun _ => True) (ja_w tc ad Z D) ∧ ja_V l G tc (ja_Ar ad Z.1 sz) U U.heap
def ja_N (G : va_G) (tc : Nat → ClassId) (ad : Nat → Nat) (L0 : List Nat) (sz : Nat) (ad2 : Nat → Nat) (Z2 : jZ) (D2 : jD) (t : State) : Prop :=
  (∀ i, i ∈ L0 ∨ i = 900 → ad2 i = ad i) ∧ (∀ i ∈ L0, i ∈ Z2.1) ∧ (∀ i ∈ Z2.1, i ∉ L0 → sz ≤ ad2 i) ∧ ja_R G tc ad2 Z2 D2 t.heap ∧ va_D (ja_Ar ad L0 sz) (ja_w tc ad2 Z2 D2)
def ja_Qc (G : va_G) (tc : Nat → ClassId) (ad : Nat → Nat) (L0 : List Nat) (sz : Nat) (kr : Option Value → jZ → jD → Prop) : Array Value → State → Outcome → State → Prop := fun _ st o t =>
  (∃ v Z2 D2 ad2, o = .returned (v.map (ja_cv ad2)) ∧ kr v Z2 D2 ∧ (∀ x, v = some x → ja_ok Z2 x) ∧ ja_N G tc ad L0 sz ad2 Z2 D2 t) ∧ va_F (ja_Ar ad L0 sz) st t
def ja_XC (G : va_G) (tc : Nat → ClassId) (ad : Nat → Nat) (L0 : List Nat) (sz : Nat) (kx : String → jZ → jD → Prop) : String → State → State → Prop := fun E st t =>
  (∃ Z2 D2 ad2, kx E Z2 D2 ∧ ja_N G tc ad L0 sz ad2 Z2 D2 t) ∧ va_F (ja_Ar ad L0 sz) st t
def ja_M (l : Launch) (M : jM) (av : List Value) (Z : jZ) (D : jD) (kr : Option Value → jZ → jD → Prop) (kx : String → jZ → jD → Prop) : Prop :=
  ∀ G tc ad sz, vx_Met l M.1 (ja_ws M) M.2.2.2.2.1 (ja_Pc l G tc ad av Z D sz) (ja_Qc G tc ad Z.1 sz kr) (ja_XC G tc ad Z.1 sz kx) M.2.2.2.2.1.cells M.2.2.2.2.1.slots (ja_Ar ad Z.1 sz)
/-- the end of a method's body -/
def ja_Qf (M : jM) (kr : Option Value → jZ → jD → Prop) (kx : String → jZ → jD → Prop) : jQ := fun G tc ad0 L0 below args s =>
  vx_MQ below (ja_Qc G tc ad0 L0 s.heap.size kr) (ja_XC G tc ad0 L0 s.heap.size kx) args s M.2.2.2.2.1.cells M.2.2.2.2.1.slots (ja_Ar ad0 L0 s.heap.size)
def ja_sn : Nat × (Nat → Int32) := (0, fun _ => 0)
-- small facts
theorem ja_cvi (ad : Nat → Nat) (x : Int32) : ja_cv ad (.int x) = .int x := rfl
theorem ja_cvr (ad : Nat → Nat) (i : Nat) : ja_cv ad (.ref i) = .ref (ad i) := rfl
theorem ja_cvc (ad : Nat → Nat) (v : Value) : (ja_cv ad v).category = v.category := by cases v <;> rfl
theorem ja_cvn {ad ad2 : Nat → Nat} {Z : jZ} {v : Value} (h : ja_ok Z v) (e : ∀ i, i ∈ Z.1 ∨ i = 900 → ad2 i = ad i) : ja_cv ad2 v = ja_cv ad v := by
  cases v with
  | ref i => exact congrArg Value.ref (e i (h i rfl))
  | _ => rfl
theorem ja_oki {Z : jZ} (x : Int32) : ja_ok Z (.int x) := fun i h => by cases h
theorem ja_okl {Z : jZ} (x : Int64) : ja_ok Z (.long x) := fun i h => by cases h
theorem ja_okf {Z : jZ} (x : UInt32) : ja_ok Z (.float x) := fun i h => by cases h
theorem ja_okd {Z : jZ} (x : UInt64) : ja_ok Z (.double x) := fun i h => by cases h
theorem ja_okn {Z : jZ} : ja_ok Z .null := fun i h => by cases h
theorem ja_okr {Z : jZ} {i : Nat} (h : i ∈ Z.1) : ja_ok Z (.ref i) := fun j e => by cases e; exact Or.inl h
theorem ja_ok9 {Z : jZ} : ja_ok Z (.ref 900) := fun j e => by cases e; exact Or.inr rfl
theorem ja_osc {Z : jZ} {v : Value} {st : List Value} (h : ja_ok Z v) (hs : ja_oks Z st) : ja_oks Z (v :: st) := fun w hw => by
  rcases List.mem_cons.mp hw with rfl | hw
  · exact h
  · exact hs w hw
theorem ja_ost {Z : jZ} {v : Value} {st : List Value} (hs : ja_oks Z (v :: st)) : ja_oks Z st := fun w hw => hs w (List.mem_cons_of_mem _ hw)
theorem ja_osh {Z : jZ} {v : Value} {st : List Value} (hs : ja_oks Z (v :: st)) : ja_ok Z v := hs v List.mem_cons_self
theorem ja_osn {Z : jZ} : ja_oks Z [] := fun w hw => by cases hw
theorem ja_ok_mono {Z Z2 : jZ} (h : ∀ i ∈ Z.1, i ∈ Z2.1) {v : Value} (hv : ja_ok Z v) : ja_ok Z2 v := fun i e => (hv i e).elim (fun q => Or.inl (h i q)) Or.inr
theorem ja_oks_mono {Z Z2 : jZ} (h : ∀ i ∈ Z.1, i ∈ Z2.1) {st : List Value} (hv : ja_oks Z st) : ja_oks Z2 st := fun v hw => ja_ok_mono h (hv v hw)
theorem ja_cvs {ad ad2 : Nat → Nat} {Z : jZ} {st : List Value} (h : ja_oks Z st) (e : ∀ i, i ∈ Z.1 ∨ i = 900 → ad2 i = ad i) : st.map (ja_cv ad2) = st.map (ja_cv ad) := List.map_congr_left (fun v hv => ja_cvn (h v hv) e)
-- locals
def ja_get (lv : List (Option Value)) (i : Nat) : Option Value := match lv[i]? with
  | some (some v) => some v
  | _ => none
theorem ja_prs_mem {ad : Nat → Nat} : ∀ (lv : List (Option Value)) (k : Nat) (q : Nat × Value), q ∈ ja_prs ad k lv ↔ ∃ j v, q.1 = k + j ∧ lv[j]? = some (some v) ∧ q.2 = ja_cv ad v
  | [], k, q => by simp [ja_prs]
  | none :: t, k, q => by
    rw [ja_prs, ja_prs_mem t (k + 1) q]
    constructor
    · rintro ⟨j, v, h1, h2, h3⟩
      exact ⟨j + 1, v, by omega, by simpa using h2, h3⟩
    · rintro ⟨j, v, h1, h2, h3⟩
      cases j with
      | zero => simp at h2
      | succ j => exact ⟨j, v, by omega, by simpa using h2, h3⟩
  | some w :: t, k, q => by
    rw [ja_prs, List.mem_cons, ja_prs_mem t (k + 1) q]
    constructor
    · rintro (rfl | ⟨j, v, h1, h2, h3⟩)
      · exact ⟨0, w, rfl, rfl, rfl⟩
      · exact ⟨j + 1, v, by omega, by simpa using h2, h3⟩
    · rintro ⟨j, v, h1, h2, h3⟩
      cases j with
      | zero =>
        left
        simp at h2
        subst h2
        exact Prod.ext h1 h3
      | succ j => exact Or.inr ⟨j, v, by omega, by simpa using h2, h3⟩
theorem ja_lget {ad : Nat → Nat} {nL : Nat} {ls : Array Slot} {lv : List (Option Value)} {Z : jZ} (h : ja_L ad nL ls lv Z) {i : Nat} {v : Value} (hv : ja_get lv i = some v) : ls[i]? = some (.val (ja_cv ad v)) := by
  have h2 : lv[i]? = some (some v) := by
    unfold ja_get at hv
    split at hv
    · next w hw => rw [hw]; cases hv; rfl
    · cases hv
  exact h.1.2.2 (i, ja_cv ad v) ((ja_prs_mem lv 0 _).mpr ⟨i, v, by simp, h2, rfl⟩)
theorem ja_lgok {ad : Nat → Nat} {nL : Nat} {ls : Array Slot} {lv : List (Option Value)} {Z : jZ} (h : ja_L ad nL ls lv Z) {i : Nat} {v : Value} (hv : ja_get lv i = some v) : ja_ok Z v := by
  have h2 : lv[i]? = some (some v) := by
    unfold ja_get at hv
    split at hv
    · next w hw => rw [hw]; cases hv; rfl
    · cases hv
  exact h.2.1 v (List.mem_of_getElem? h2)
/-- nothing of two slots stands just ahead of place i -/
def ja_nc (lv : List (Option Value)) (i : Nat) : Bool := match i with
  | 0 => true
  | j + 1 => match ja_get lv j with
    | some v => v.category == 1
    | none => true
theorem ja_ncs {lv : List (Option Value)} {i : Nat} (h : ja_nc lv i = true) {j : Nat} {v : Value} (hj : j + 1 = i) (hv : lv[j]? = some (some v)) : v.category = 1 := by
  subst hj
  have : ja_get lv j = some v := by unfold ja_get; rw [hv]
  simpa [ja_nc, this] using h
/-- behind a store of one slot -/
theorem ja_lset1 {ad : Nat → Nat} {nL : Nat} {ls : Array Slot} {lv : List (Option Value)} {Z : jZ} (h : ja_L ad nL ls lv Z) {i : Nat} {v : Value} {V : Value} (hV : V = ja_cv ad v) (hc : ja_nc lv i = true) (hok : ja_ok Z v) (hi : i < lv.length) {ls' : Array Slot}
    (h' : lv_has ls' nL ((i, V) :: (ja_prs ad 0 lv).filter (fun q => !(q.1 == i) && !(q.1 + 1 == i && q.2.category == 2)))) : ja_L ad nL ls' (lv.set i (some v)) Z := by
  subst hV
  refine ⟨⟨h'.1, h'.2.1, fun q hq => h'.2.2 q ?_⟩, fun w hw => ?_, by simpa using h.2.2⟩
  · obtain ⟨j, w, h1, h2, h3⟩ := (ja_prs_mem _ 0 q).mp hq
    rw [List.getElem?_set] at h2
    by_cases e : i = j
    · subst e
      rw [if_pos rfl, if_pos hi] at h2
      cases h2
      exact List.mem_cons.mpr (Or.inl (Prod.ext (by omega) h3))
    · rw [if_neg e] at h2
      refine List.mem_cons_of_mem _ (List.mem_filter.mpr ⟨(ja_prs_mem lv 0 q).mpr ⟨j, w, h1, h2, h3⟩, ?_⟩)
      have hq1 : q.1 = j := by omega
      rw [h3, ja_cvc, hq1]
      by_cases e2 : j + 1 = i
      · have := ja_ncs hc e2 h2
        have e3 : ¬ j = i := fun q => e q.symm
        simp [this, e3]
      · have e3 : ¬ j = i := fun q => e q.symm
        simp [e2, e3]
  · obtain ⟨j, hj⟩ := List.getElem?_of_mem hw
    rw [List.getElem?_set] at hj
    by_cases e : i = j
    · subst e
      rw [if_pos rfl, if_pos hi] at hj
      cases hj
      exact hok
    · rw [if_neg e] at hj
      exact h.2.1 w (List.mem_of_getElem? hj)
/-- behind a store of two slots -/
theorem ja_lset2 {ad : Nat → Nat} {nL : Nat} {ls : Array Slot} {lv : List (Option Value)} {Z : jZ} (h : ja_L ad nL ls lv Z) {i : Nat} {v : Value} {V : Value} (hV : V = ja_cv ad v) (hc : ja_nc lv i = true) (hok : ja_ok Z v) (hi : i < lv.length) {ls' : Array Slot}
    (h' : lv_has ls' nL ((i, V) :: (ja_prs ad 0 lv).filter (fun q => !(q.1 == i) && (!(q.1 == i + 1) && !(q.1 + 1 == i && q.2.category == 2))))) : ja_L ad nL ls' ((lv.set i (some v)).set (i + 1) none) Z := by
  subst hV
  refine ⟨⟨h'.1, h'.2.1, fun q hq => h'.2.2 q ?_⟩, fun w hw => ?_, by simpa using h.2.2⟩
  · obtain ⟨j, w, h1, h2, h3⟩ := (ja_prs_mem _ 0 q).mp hq
    rw [List.getElem?_set] at h2
    by_cases e0 : i + 1 = j
    · subst e0
      rw [if_pos rfl] at h2
      split at h2 <;> cases h2
    rw [if_neg e0, List.getElem?_set] at h2
    by_cases e : i = j
    · subst e
      rw [if_pos rfl, if_pos hi] at h2
      cases h2
      exact List.mem_cons.mpr (Or.inl (Prod.ext (by omega) h3))
    · rw [if_neg e] at h2
      refine List.mem_cons_of_mem _ (List.mem_filter.mpr ⟨(ja_prs_mem lv 0 q).mpr ⟨j, w, h1, h2, h3⟩, ?_⟩)
      have hq1 : q.1 = j := by omega
      have e3 : ¬ j = i := fun q => e q.symm
      have e4 : ¬ j = i + 1 := fun q => e0 q.symm
      rw [h3, ja_cvc, hq1]
      by_cases e2 : j + 1 = i
      · have := ja_ncs hc e2 h2
        simp [this, e3, e4]
      · simp [e2, e3, e4]
  · obtain ⟨j, hj⟩ := List.getElem?_of_mem hw
    rw [List.getElem?_set] at hj
    by_cases e0 : i + 1 = j
    · subst e0
      rw [if_pos rfl] at hj
      split at hj <;> cases hj
    rw [if_neg e0, List.getElem?_set] at hj
    by_cases e : i = j
    · subst e
      rw [if_pos rfl, if_pos hi] at hj
      cases hj
      exact hok
    · rw [if_neg e] at hj
      exact h.2.1 w (List.mem_of_getElem? hj)
/-- fewer locals are known -/
theorem ja_lsub {ad : Nat → Nat} {nL : Nat} {ls : Array Slot} {lv lv' : List (Option Value)} {Z : jZ} (h : ja_L ad nL ls lv Z) (hs : ∀ (i : Nat) (v : Value), lv'[i]? = some (some v) → lv[i]? = some (some v)) (hn : lv'.length = lv.length) : ja_L ad nL ls lv' Z := by
  refine ⟨⟨h.1.1, h.1.2.1, fun q hq => h.1.2.2 q ?_⟩, fun w hw => ?_, hn.trans h.2.2⟩
  · obtain ⟨j, w, h1, h2, h3⟩ := (ja_prs_mem _ 0 q).mp hq
    exact (ja_prs_mem _ 0 q).mpr ⟨j, w, h1, hs j w h2, h3⟩
  · obtain ⟨j, hj⟩ := List.getElem?_of_mem hw
    exact h.2.1 w (List.mem_of_getElem? (hs j w hj))
