/-! THE LAW'S START AND END (by wip/whole/x46.py) -/
theorem st_prim {s : State} {args : Array Value} {ty : FieldType} (h : (Cond.arrayClass ty).before args s = true) : ∃ c, ArrOfT s c ty ∧ s.vm.findClass ("[" ++ ty.toString) = some c := by
  obtain ⟨c, k, comp, h1, h2, h3⟩ := Cond.arrayClass_spec h
  exact ⟨c, fun n z => ⟨fun k h => (by cases h), k, h2, comp, h3⟩, h1⟩
theorem st_objs {s : State} {args : Array Value} {C : String} (h : (Cond.arrayOver (.object C)).before args s = true) : ∃ c, ArrOfT s c (.object C) ∧ va_RA s c (.object C) := by
  obtain ⟨comp, c, k, h1, h2, h3, h4, h5⟩ := Cond.arrayOver_spec h
  exact ⟨c, fun n z => ⟨fun k h => (by cases h), k, h3, comp, h4⟩, k, comp, h3, h4, h1, h5⟩
theorem st_arrs {s : State} {args : Array Value} {ty : FieldType} (h : (Cond.arrayOver (.array ty)).before args s = true) : ∃ c, ArrOfT s c (.array ty) ∧ s.vm.findClass ("[" ++ (FieldType.array ty).toString) = some c := by
  obtain ⟨comp, c, k, h1, h3, h4, h5⟩ := Cond.arrayOver_specA h
  exact ⟨c, fun n z => ⟨fun k h => (by cases h), k, h3, comp, h4⟩, h5⟩
theorem st_str {s : State} {args : Array Value} {own tx : String} {i : Nat} (h : (Cond.stringRef own i tx).before args s = true) : ∃ a, vk_R own i tx a s := by
  cases hc : s.vm.findClass own with
  | none => simp [Cond.before, Cond.holds, Cond.value, hc] at h
  | some cc =>
    obtain ⟨k1, cf, j, a, hk, hcf, hp, -, hr, -⟩ := Cond.stringRef_spec hc h
    refine ⟨a, vk_R.of (A := args) h ?_⟩
    simp [Term.eval, hc, hk, hr]
def nc_ok (L : List Cond) : Bool := ja_xs.all (fun E => ja_xs.all (fun F => E == F || decide (Cond.not (.castable E F) ∈ L)))
def nc_fl : List Cond := flatC (Jvm.Cond.and given_1 narrow_1)
theorem st_nc : ∀ E ∈ ja_xs, ∀ F ∈ ja_xs, E ≠ F → Cond.not (.castable E F) ∈ nc_fl := by decide +kernel
theorem st_z1 : Cond.isRef (.static Bundle.tN "UNASSIGNED_STACK" Bundle.steD) ∈ nc_fl := by decide +kernel
theorem st_z2 : Cond.isRef (.static Bundle.tN "SUPPRESSED_SENTINEL" Bundle.listD) ∈ nc_fl := by decide +kernel
theorem st_tr {l : Launch} (h : l.flags = flags0) : l.stackTraces = false := by
  unfold Launch.stackTraces
  rw [h]
  decide +kernel
theorem st_K {s : State} {args : Array Value} (hts : ∀ w ∈ lw_tbl, w.before args s = true) : ∃ (G : va_G) (tc : Nat → ClassId), va_K G ja_cl (ja_tys tc) s := by
  have hT : ∀ w ∈ ja_T, w.before args s = true := fun w h => hts w (List.mem_filter.mp h).1

  obtain ⟨c0, i0, K0⟩ := u_known (C := RX0) (T := TX0) (N := 3) (n := 3) hT k_X0.2.1 (hT _ in_X0)
  obtain ⟨c1, i1, K1⟩ := u_known (C := RX1) (T := TX1) (N := 9) (n := 9) hT k_X1.2.1 (hT _ in_X1)
  obtain ⟨c2, i2, K2⟩ := u_known (C := RX2) (T := TX2) (N := 1) (n := 1) hT k_X2.2.1 (hT _ in_X2)
  obtain ⟨c3, i3, K3⟩ := u_known (C := RX3) (T := TX3) (N := 6) (n := 6) hT k_X3.2.1 (hT _ in_X3)
  obtain ⟨c4, i4, K4⟩ := u_known (C := RX4) (T := TX4) (N := 4) (n := 4) hT k_X4.2.1 (hT _ in_X4)
  obtain ⟨c5, i5, K5⟩ := u_known (C := RX5) (T := TX5) (N := 1) (n := 1) hT k_X5.2.1 (hT _ in_X5)
  obtain ⟨c6, i6, K6⟩ := u_known (C := RX6) (T := TX6) (N := 8) (n := 8) hT k_X6.2.1 (hT _ in_X6)
  obtain ⟨c7, i7, K7⟩ := u_known (C := RX7) (T := TX7) (N := 13) (n := 13) hT k_X7.2.1 (hT _ in_X7)
  obtain ⟨c8, i8, K8⟩ := u_known (C := RX8) (T := TX8) (N := 28) (n := 28) hT k_X8.2.1 (hT _ in_X8)
  obtain ⟨a10, A10, B10⟩ := st_prim (hT _ ac_int)
  obtain ⟨a11, A11, B11⟩ := st_prim (hT _ ac_boolean)
  obtain ⟨a12, A12, B12⟩ := st_prim (hT _ ac_char)
  obtain ⟨a13, A13, B13⟩ := st_prim (hT _ ac_long)
  obtain ⟨a14, A14, B14⟩ := st_prim (hT _ ac_double)
  obtain ⟨a15, A15, B15⟩ := st_objs (C := RX1) (hts _ (List.mem_of_getElem? (i := 82) (by decide +kernel)))
  obtain ⟨a16, A16, B16⟩ := st_objs (C := RX4) (hts _ (List.mem_of_getElem? (i := 84) (by decide +kernel)))
  obtain ⟨a17, A17, B17⟩ := st_objs (C := RX6) (hts _ (List.mem_of_getElem? (i := 86) (by decide +kernel)))
  obtain ⟨a18, A18, B18⟩ := st_arrs (ty := .int) (hts _ (List.mem_of_getElem? (i := 134) (by decide +kernel)))
  refine ⟨(fun k => match k with
    | 0 => c0
    | 1 => c1
    | 2 => c2
    | 3 => c3
    | 4 => c4
    | 5 => c5
    | 6 => c6
    | 7 => c7
    | _ => c8, fun k => match k with
    | 0 => i0
    | 1 => i1
    | 2 => i2
    | 3 => i3
    | 4 => i4
    | 5 => i5
    | 6 => i6
    | 7 => i7
    | _ => i8), fun k => match k with
    | 10 => a10
    | 11 => a11
    | 12 => a12
    | 13 => a13
    | 14 => a14
    | 15 => a15
    | 16 => a16
    | 17 => a17
    | _ => a18, ?_, ?_⟩
  · intro k q hq
    match k, hq with
    | 0, hq => cases hq; exact K0
    | 1, hq => cases hq; exact K1
    | 2, hq => cases hq; exact K2
    | 3, hq => cases hq; exact K3
    | 4, hq => cases hq; exact K4
    | 5, hq => cases hq; exact K5
    | 6, hq => cases hq; exact K6
    | 7, hq => cases hq; exact K7
    | 8, hq => cases hq; exact K8
    | k + 9, hq => simp [ja_cl] at hq
  · intro k q hq
    match k, hq with
    | 0, hq => cases hq; exact ⟨A10, B10⟩
    | 1, hq => cases hq; exact ⟨A11, B11⟩
    | 2, hq => cases hq; exact ⟨A12, B12⟩
    | 3, hq => cases hq; exact ⟨A13, B13⟩
    | 4, hq => cases hq; exact ⟨A14, B14⟩
    | 5, hq => cases hq; exact ⟨A15, B15⟩
    | 6, hq => cases hq; exact ⟨A16, B16⟩
    | 7, hq => cases hq; exact ⟨A17, B17⟩
    | 8, hq => cases hq; exact ⟨A18, B18⟩
    | k + 9, hq => simp [ja_tys] at hq
theorem st_V {l : Launch} (hf : l.flags = flags0) {s : State} {args : Array Value} (hts : ∀ w ∈ lw_tbl, w.before args s = true) (hgv : (Jvm.Cond.and given_1 narrow_1).before args s = true) (ad0 : Nat → Nat) : ∃ (G : va_G) (tc : Nat → ClassId), ja_V l G tc (ja_Ar ad0 [] s.heap.size) s s.heap := by
  obtain ⟨G, tc, hK⟩ := st_K hts
  have hfl : ∀ w ∈ nc_fl, w.before args s = true := flat_of_before _ hgv
  have hA : ∀ a : Nat, a < s.heap.size → ¬ ja_Ar ad0 [] s.heap.size a := fun a ha h => by
    rcases h with ⟨i, hi, -⟩ | h
    · cases hi
    · omega
  have hini : (Cond.initialized Bundle.tN).before args s = true := hts _ (List.mem_of_getElem? (i := 57) (by decide +kernel))
  refine ⟨G, tc, st_tr hf, hK, fun q hq => ?_, fun q hq => ?_, ⟨?_, ?_, ?_, ?_⟩, vx_Zqof (hts _ (List.mem_of_getElem? (i := 285) (by decide +kernel))) hini (hfl _ st_z1) hA, vx_Zqof (hts _ (List.mem_of_getElem? (i := 287) (by decide +kernel))) hini (hfl _ st_z2) hA, fun w hw => va_Nw.of (ja_Bot hw) (hts w (List.mem_filter.mp hw).1), fun E hE F hF hne => va_Nc.of (hfl _ (st_nc E hE F hF hne))⟩
  · obtain ⟨w, hw, e⟩ := List.mem_filterMap.mp hq
    split at e
    · cases e
      exact va_Nw.of rfl (hts _ hw)
    · cases e
  · obtain ⟨w, hw, e⟩ := List.mem_filterMap.mp hq
    split at e
    · cases e
      exact st_str (hts _ hw)
    · cases e
  · exact va_AO.of (hts _ (List.mem_of_getElem? (i := 82) (by decide +kernel)))
  · exact va_AO.of (hts _ (List.mem_of_getElem? (i := 84) (by decide +kernel)))
  · exact va_AO.of (hts _ (List.mem_of_getElem? (i := 86) (by decide +kernel)))
  · exact va_AOA.of (hts _ (List.mem_of_getElem? (i := 134) (by decide +kernel)))
/-- the law's own end -/
def ja_Qw (b : Nat) : jQ := fun _ _ _ L0 below args s t => args = #[.ref b] ∧ L0 = [] → lw_Z below #[.ref b] s t
theorem la_end {nm : String} {tb : List (Nat × Nat × Nat × Nat)} {l : Launch} {sc : Nat × (Nat → Int32)} {b : Nat} (i : Nat) (Z : jZ) (D : jD) (c s9 : Nat) (hc : c ≤ 603072) (hs : s9 ≤ 7211114) : ja_A l (mL_law nm tb) sc (ja_Qw b) 3136 (la_lv i) [] Z D c s9 := by
  refine ja_iconst (v := 1) dL_law_3136 (by decide) ?_
  intro p e s m args below meth c0 G tc ad0 L0 ad H locs ls C I hl hst
  by_cases h : args = #[.ref b] ∧ L0 = []
  · obtain ⟨h1, h2⟩ := h
    subst h1; subst h2
    have k : W p l e room_1 s m #[Value.ref b] below meth c0 H locs c s9 (lw_Z below #[Value.ref b] s) (F0 m 3137 ls [.int 1]) := by
      refine va_forget (fun q hq => ?_) ?_
      · rcases I.2.2.2.2.2.2.2 q hq with ⟨j, hj, -⟩ | h
        · cases hj
        · exact h
      · refine W.widen hc hs ?_
        refine W.base ?_
        exact lw_ret (Drawn.sameBut.refl s.drawn lw_cs) C.1.1 C.1.2.1 C.2.1 C.2.2.1 dL_law_3137
    intro T hT X
    obtain ⟨t, a1, b1⟩ := k T hT X
    exact ⟨t, a1, fun _ => b1⟩
  · intro T hT X
    exact ⟨_, Steps.refl _, fun h2 => absurd h2 h⟩
abbrev ZS0 : jZ := ([], fun _ => (99, 0), fun _ _ => none, fun _ _ => 0)
abbrev DS0 : jD := fun _ _ => 0
def ZS : jZ := ja_zn (ja_zn (zO8 (ja_zn (zO7 (ja_zn ZS0 0 7 13)) 100 8 28)) 200 13 1) 201 14 1
def DS : jD := ja_dn (ja_dn (dO8 (ja_dn (dO7 (ja_dn DS0 0)) 100)) 200) 201
theorem la_law {nm : String} {tb : List (Nat × Nat × Nat × Nat)} {l : Launch} {JI : Nat → jZ → jD → Prop} {sc : Nat × (Nat → Int32)} {b L : Nat} {xs : Nat → Int32} (hS : ∀ n Z D, JI n Z D → ja_SH Z) (hm : ∀ n Z D, JI n Z D → JI (n + 1) Z D) (A : ja_All l JI) (hsc : sc = (L + 1, xs)) (hL : L ≤ 3584) (h0 : JI 0 ZS DS) : ja_A l (mL_law nm tb) sc (ja_Qw b) 0 [some (.ref 900), none, none, none, none, none, none, none, none] [] ZS0 DS0 0 0 := by
  refine ja_new (id := 0) k_X7 cl_L_8 in_X7 it_X7 (by decide) (by decide) (Nat.le_of_ble_eq_true rfl) (Nat.le_of_ble_eq_true rfl) dL_law_0 ?_
  refine ja_dup dL_law_3 rfl ?_
  refine ja_callI (av := []) (st := [.ref 0]) (c_init7 l rfl (fun i h1 h2 h => ?_)) (ce_X7_init 52 34419) im_X7_init rfl lk_L_153 ⟨Nat.le_of_ble_eq_true rfl, Nat.le_of_ble_eq_true rfl⟩ rfl dL_law_4 rfl rfl (Nat.le_of_ble_eq_true rfl) (Nat.le_of_ble_eq_true rfl) (Nat.le_of_ble_eq_true rfl) (fun _ _ _ h => h.elim) ?_
  · simp [ja_zn] at h; omega
  rintro v Z2 D2 ⟨rfl, rfl, rfl⟩
  refine ja_astore_n (i := 1) dL_law_7 rfl rfl (Nat.le_of_ble_eq_true rfl) ?_
  refine ja_new (id := 100) k_X8 cl_L_154 in_X8 it_X8 (by decide +kernel) (by decide) (Nat.le_of_ble_eq_true rfl) (Nat.le_of_ble_eq_true rfl) dL_law_8 ?_
  refine ja_dup dL_law_11 rfl ?_
  refine ja_callI (av := []) (st := [.ref 100]) (c_init8 l rfl (by decide +kernel) (by decide +kernel) (by decide +kernel) (by decide +kernel) (by decide +kernel) (by decide +kernel) (by decide +kernel) (by decide +kernel) (by decide +kernel) (by decide +kernel) (by decide +kernel) (by decide +kernel) (by decide +kernel) (by decide +kernel) (by decide +kernel) (by decide +kernel) (by decide +kernel) (by decide +kernel) (by decide +kernel) (by decide +kernel) (by decide +kernel) (by decide +kernel) (by decide +kernel)) (ce_X8_init 23 36543) im_X8_init rfl lk_L_156 ⟨Nat.le_of_ble_eq_true rfl, Nat.le_of_ble_eq_true rfl⟩ rfl dL_law_12 rfl rfl (Nat.le_of_ble_eq_true rfl) (Nat.le_of_ble_eq_true rfl) (Nat.le_of_ble_eq_true rfl) (fun _ _ _ h => h.elim) ?_
  rintro v Z2 D2 ⟨rfl, rfl, rfl⟩
  refine ja_astore_n (i := 2) dL_law_15 rfl rfl (Nat.le_of_ble_eq_true rfl) ?_
  refine ja_iconst (v := nI 1) dL_law_16 (by decide) ?_
  refine ja_newal (id := 200) (n := 1) rfl (by decide) (by decide +kernel) (by decide) (Nat.le_of_ble_eq_true rfl) (Nat.le_of_ble_eq_true rfl) dL_law_17 ?_
  refine ja_astore_n (i := 3) dL_law_19 rfl rfl (Nat.le_of_ble_eq_true rfl) ?_
  refine ja_iconst (v := nI 1) dL_law_20 (by decide) ?_
  refine ja_newad (id := 201) (n := 1) rfl (by decide) (by decide +kernel) (by decide) (Nat.le_of_ble_eq_true rfl) (Nat.le_of_ble_eq_true rfl) dL_law_21 ?_
  refine ja_astore dL_law_23 rfl (Nat.le_of_ble_eq_true rfl) ?_
  refine ja_iconst (v := nI 0) dL_law_25 (by decide) ?_
  refine ja_istore dL_law_26 rfl (Nat.le_of_ble_eq_true rfl) ?_
  exact la_loop hS hm A hsc hL (C9 := 0 + 1 + 52 + 1 + 23 + 1 + 1) (S9 := 0 + 13 + 34419 + 28 + 36543 + 1 + 1) (by omega) (by omega) (fun i Z D c s hc hs => la_end i Z D c s hc hs) (L + 1) 0 ZS DS (by omega) (by omega) h0
