/-! THE HEAP: reading and writing cells of the abstract picture -/
theorem ja_ecg {tc : Nat → ClassId} {ad ad2 : Nat → Nat} {Z Z2 : jZ} {D D2 : jD} {j : Nat} (h1 : ad2 j = ad j) (h2 : Z2.2.1 j = Z.2.1 j) (h3 : ∀ b, D2 j b = D j b) (h4 : ∀ b, Z2.2.2.1 j b = Z.2.2.1 j b) (h5 : ∀ b k, Z.2.2.1 j b = some k → ad2 k = ad k) (h6 : ∀ b, Z2.2.2.2 j b = Z.2.2.2 j b) : ja_e tc ad2 Z2 D2 j = ja_e tc ad Z D j := by
  have e3 : D2 j = D j := funext h3
  have e6 : Z2.2.2.2 j = Z.2.2.2 j := funext h6
  have e4 : ∀ b, (Z2.2.2.1 j b).map ad2 = (Z.2.2.1 j b).map ad := by
    intro b
    rw [h4 b]
    cases h : Z.2.2.1 j b with
    | none => rfl
    | some k => exact congrArg some (h5 b k h)
  have e7 : ∀ ci, ja_fv ad2 Z2 D2 j ci = ja_fv ad Z D j ci := by
    intro ci
    funext b
    unfold ja_fv
    rw [e4 b, e3]
  unfold ja_e ja_el ja_ac
  rw [h1, h2, e3, e6, e7]
  simp only [e4]
theorem ja_wk {tc : Nat → ClassId} {ad : Nat → Nat} {Z : jZ} {D : jD} {id : Nat} (h : id ∈ Z.1) : ∃ k : Nat, Z.1[k]? = some id ∧ (ja_w tc ad Z D)[k]? = some (ja_e tc ad Z D id) := by
  obtain ⟨k, hk⟩ := List.getElem?_of_mem h
  exact ⟨k, hk, by unfold ja_w; rw [List.getElem?_map, hk]; rfl⟩
theorem ja_wset {tc : Nat → ClassId} {ad ad2 : Nat → Nat} {Z Z2 : jZ} {D D2 : jD} {id k : Nat} {v : Nat × va_E} (hn : Z.1.Nodup) (hk : Z.1[k]? = some id) (hz : Z2.1 = Z.1) (hv : ja_e tc ad2 Z2 D2 id = v) (ho : ∀ j ∈ Z.1, j ≠ id → ja_e tc ad2 Z2 D2 j = ja_e tc ad Z D j) : (ja_w tc ad Z D).set k v = ja_w tc ad2 Z2 D2 := by
  unfold ja_w
  rw [hz]
  apply List.ext_getElem?
  intro i
  rw [List.getElem?_set, List.getElem?_map, List.getElem?_map]
  have hlt : k < Z.1.length := (List.getElem?_eq_some_iff.mp hk).1
  by_cases e : k = i
  · subst e
    rw [if_pos rfl, if_pos (by simpa using hlt), hk, ← hv]
    rfl
  · rw [if_neg e]
    cases hi : Z.1[i]? with
    | none => rfl
    | some j =>
      have hji : j ≠ id := by
        rintro rfl
        have h1 := List.getElem?_eq_some_iff.mp hi
        have h2 := List.getElem?_eq_some_iff.mp hk
        exact e ((List.getElem?_inj hlt hn).mp (hk.trans hi.symm))
      exact congrArg some (ho j (List.mem_of_getElem? hi) hji).symm
def ja_up (D : jD) (id j : Nat) (x : Int32) : jD := fun a b => if a = id ∧ b = j then x else D a b
def ja_uq (Z : jZ) (id j : Nat) (x : Option Nat) : jZ := (Z.1, Z.2.1, fun a b => if a = id ∧ b = j then x else Z.2.2.1 a b, Z.2.2.2)
def ja_ux (Z : jZ) (id j : Nat) (x : UInt64) : jZ := (Z.1, Z.2.1, Z.2.2.1, fun a b => if a = id ∧ b = j then x else Z.2.2.2 a b)
def ja_zn (Z : jZ) (id k n : Nat) : jZ := (Z.1 ++ [id], fun a => if a = id then (k, n) else Z.2.1 a, fun a b => if a = id then none else Z.2.2.1 a b, fun a b => if a = id then 0 else Z.2.2.2 a b)
def ja_dn (D : jD) (id : Nat) : jD := fun a b => if a = id then 0 else D a b
theorem ja_live {G : va_G} {tc : Nat → ClassId} {ad : Nat → Nat} {Z : jZ} {D : jD} {H : Heap} (h : ja_R G tc ad Z D H) {id k n : Nat} (hk : ja_ok Z (.ref id)) (hS : Z.2.1 id = (k, n)) (h9 : k < 99) : id ∈ Z.1 := by
  rcases hk id rfl with q | rfl
  · exact q
  · have := h.2.2.1.2.symm.trans hS
    simp at this
    omega
theorem ja_el_i {tc : Nat → ClassId} {ad : Nat → Nat} {Z : jZ} {D : jD} {id k n : Nat} (hS : Z.2.1 id = (k, n)) (h1 : 9 ≤ k) (h2 : k < 13) : ja_el tc ad Z D id = .inl (tc k, n, .inl (D id)) := by
  unfold ja_el ja_ac
  rw [hS, if_neg (by show ¬ k < 9; omega), if_pos (by show k < 13; omega)]
theorem ja_el_o {tc : Nat → ClassId} {ad : Nat → Nat} {Z : jZ} {D : jD} {id k n : Nat} (hS : Z.2.1 id = (k, n)) (h1 : k < 9) : ja_el tc ad Z D id = .inr (k, (List.range n).map (ja_fv ad Z D id k)) := by
  unfold ja_el
  rw [hS, if_pos h1]
theorem ja_el_l {tc : Nat → ClassId} {ad : Nat → Nat} {Z : jZ} {D : jD} {id n : Nat} (hS : Z.2.1 id = (13, n)) : ja_el tc ad Z D id = .inl (tc 13, n, .inr (.inl (fun j => (Z.2.2.2 id j).toInt64))) := by
  unfold ja_el ja_ac
  rw [hS]
  rfl
theorem ja_el_d {tc : Nat → ClassId} {ad : Nat → Nat} {Z : jZ} {D : jD} {id n : Nat} (hS : Z.2.1 id = (14, n)) : ja_el tc ad Z D id = .inl (tc 14, n, .inr (.inr (.inr (.inl (Z.2.2.2 id))))) := by
  unfold ja_el ja_ac
  rw [hS]
  rfl
theorem ja_el_q {tc : Nat → ClassId} {ad : Nat → Nat} {Z : jZ} {D : jD} {id k n : Nat} (hS : Z.2.1 id = (k, n)) (h1 : 15 ≤ k) : ja_el tc ad Z D id = .inl (tc k, n, .inr (.inr (.inr (.inr (fun j => (Z.2.2.1 id j).map ad))))) := by
  unfold ja_el ja_ac
  rw [hS, if_neg (by show ¬ k < 9; omega), if_neg (by show ¬ k < 13; omega), if_neg (by show ¬ k = 13; omega), if_neg (by show ¬ k = 14; omega)]
/-- behind a change of the numbers or the shape, the same ids living -/
theorem ja_Iput {s : State} {G : va_G} {tc : Nat → ClassId} {ad0 : Nat → Nat} {L0 : List Nat} {ad : Nat → Nat} {Z Z2 : jZ} {D D2 : jD} {H H1 : Heap} {locs locs1 : List Loc} (I : ja_I s G tc ad0 L0 ad Z D H locs) (hz : Z2.1 = Z.1) (h9 : Z2.2.1 900 = Z.2.1 900) (hc : ∀ id ∈ Z2.1, ∀ j k, Z2.2.2.1 id j = some k → k ∈ Z2.1)
    (hP : va_P G ja_cl (ja_w tc ad Z2 D2) H1) (hD : va_D (ja_Ar ad0 L0 s.heap.size) (ja_w tc ad Z2 D2)) (hS : va_S (ja_Ar ad0 L0 s.heap.size) s.heap H1 locs1) : ja_I s G tc ad0 L0 ad Z2 D2 H1 locs1 := by
  obtain ⟨i1, i2, i3, ⟨-, r2, r3, -⟩, -, -⟩ := I
  exact ⟨i1, by rw [hz]; exact i2, by rw [hz]; exact i3, ⟨hP, by rw [hz]; exact r2, ⟨by rw [hz]; exact r3.1, h9.trans r3.2⟩, hc⟩, hD, hS⟩
theorem ja_Lz {ad : Nat → Nat} {nL : Nat} {ls : Array Slot} {lv : List (Option Value)} {Z Z2 : jZ} (h : ja_L ad nL ls lv Z) (hz : Z2.1 = Z.1) : ja_L ad nL ls lv Z2 := ⟨h.1, fun v hv => ja_ok_mono (by rw [hz]; exact fun _ q => q) (h.2.1 v hv), h.2.2⟩
/-- a class's facts -/
def ja_k (ci : Nat) (C : String) (T : u_T) (N : Nat) : Prop := ja_cl[ci]? = some (C, T, N) ∧ (∀ w ∈ u_ws C T N, w ∈ ja_T) ∧ ci < 9 ∧ ja_nf ci = N ∧ (∀ k, k < N → parseFieldDescriptor (T k).2.2.1 = some (ja_ty ci k)) ∧ (∀ a, a < N → ∀ b, b < N → a ≠ b → (T a).2.1 ≠ (T b).2.1) ∧ (∀ k, k < N → defaultValue (ja_ty ci k) = if (ja_ty ci k).isReference then .null else .int 0) ∧ ∀ k, k < N → (T k).1 = C
/-- a field's link out of class own: slot k of class ci -/
def ja_f (own : String) (idx ci k : Nat) (fin : Bool) : Prop := ∃ C T N, ja_k ci C T N ∧ k < N ∧ Cond.fieldLink own idx (T k).1 (T k).2.1 (T k).2.2.1 ∈ ja_T ∧ (T k).2.2.2 = fin
section JH
variable {l : Launch} {M : jM} {sc : Nat × (Nat → Int32)} {Qf : jQ} {pc : Nat} {lv : List (Option Value)} {st : List Value} {Z : jZ} {D : jD} {c9 s9 : Nat}
theorem ja_getI {idx ci k id : Nat} {fin : Bool} (F : ja_f M.1.cls idx ci k fin) (hS : Z.2.1 id = (ci, ja_nf ci)) (hi : (ja_ty ci k).isReference = false) (d : decode M.2.1 pc = .ok (.getfield idx, 3)) (kk : ja_A l M sc Qf (pc + 3) lv (.int (D id k) :: st) Z D c9 s9) : ja_A l M sc Qf pc lv (.ref id :: st) Z D c9 s9 := by
  intro p e s m args below meth c G tc ad0 L0 ad H locs ls C I hl hs
  obtain ⟨K, T, N, ⟨k1, k2, k3, k4, -⟩, hk, hlk, -⟩ := F
  have hm : id ∈ Z.1 := ja_live I.2.2.2.1 (ja_osh hs) hS (by omega)
  obtain ⟨q0, -, hq⟩ := ja_wk (tc := tc) (ad := ad) (D := D) hm
  unfold ja_e at hq
  rw [ja_el_o hS k3] at hq
  refine va_get (D := G) (cl := ja_cl) (v := .int (D id k)) C.1.1 C.1.2.1 C.1.2.2.2.2 k2 C.1.2.2.2.1 C.2.2.2.2.2.1.2.1 I.2.2.2.1.1 q0 hq k1 k hk (C.1.2.2.2.2 _ hlk) (fun _ h => h) ?_ d (kk p e s m args below meth c G tc ad0 L0 ad H locs ls C I hl (ja_osc (ja_oki _) (ja_ost hs)))
  rw [k4, List.getElem?_map, List.getElem?_range hk]
  simp [ja_fv, hi]
theorem ja_getR {idx ci k id j : Nat} {fin : Bool} (F : ja_f M.1.cls idx ci k fin) (hS : Z.2.1 id = (ci, ja_nf ci)) (hi : (ja_ty ci k).isReference = true) (hp : Z.2.2.1 id k = some j) (d : decode M.2.1 pc = .ok (.getfield idx, 3)) (kk : ja_A l M sc Qf (pc + 3) lv (.ref j :: st) Z D c9 s9) : ja_A l M sc Qf pc lv (.ref id :: st) Z D c9 s9 := by
  intro p e s m args below meth c G tc ad0 L0 ad H locs ls C I hl hs
  obtain ⟨K, T, N, ⟨k1, k2, k3, k4, -⟩, hk, hlk, -⟩ := F
  have hm : id ∈ Z.1 := ja_live I.2.2.2.1 (ja_osh hs) hS (by omega)
  obtain ⟨q0, -, hq⟩ := ja_wk (tc := tc) (ad := ad) (D := D) hm
  unfold ja_e at hq
  rw [ja_el_o hS k3] at hq
  refine va_get (D := G) (cl := ja_cl) (v := .ref (ad j)) C.1.1 C.1.2.1 C.1.2.2.2.2 k2 C.1.2.2.2.1 C.2.2.2.2.2.1.2.1 I.2.2.2.1.1 q0 hq k1 k hk (C.1.2.2.2.2 _ hlk) (fun _ h => h) ?_ d (kk p e s m args below meth c G tc ad0 L0 ad H locs ls C I hl (ja_osc (ja_okr (I.2.2.2.1.2.2.2 id hm k j hp)) (ja_ost hs)))
  rw [k4, List.getElem?_map, List.getElem?_range hk]
  simp [ja_fv, hi, hp, va_rf]
/-- putfield of an int (a boolean, a char) -/
theorem ja_putI {idx ci k id : Nat} {x : Int32} (F : ja_f M.1.cls idx ci k false) (hS : Z.2.1 id = (ci, ja_nf ci)) (hi : (ja_ty ci k).isReference = false) (hn : narrow (ja_ty ci k) (.int x) = .int x) (hf : fits (ja_ty ci k) (.int x) = true) (d : decode M.2.1 pc = .ok (.putfield idx, 3)) (kk : ja_A l M sc Qf (pc + 3) lv st Z (ja_up D id k x) c9 s9) : ja_A l M sc Qf pc lv (.int x :: .ref id :: st) Z D c9 s9 := by
  intro p e s m args below meth c G tc ad0 L0 ad H locs ls C I hl hs
  obtain ⟨K, T, N, ⟨k1, k2, k3, k4, k5, k6, -⟩, hk, hlk, hfin⟩ := F
  have hm : id ∈ Z.1 := ja_live I.2.2.2.1 (ja_osh (ja_ost hs)) hS (by omega)
  obtain ⟨q0, hq0, hq⟩ := ja_wk (tc := tc) (ad := ad) (D := D) hm
  unfold ja_e at hq
  rw [ja_el_o hS k3] at hq
  refine va_put (D := G) (cl := ja_cl) (ty := ja_ty ci k) (v := .int x) C.1.1 C.1.2.1 C.1.2.2.2.2 k2 (ja_ty ci) k5 k6 C.1.2.2.2.1 C.2.2.2.2.2.1.2.1 I.2.2.2.1.1 I.2.2.2.2.1 I.2.2.2.2.2 q0 hq k1 k hk (C.1.2.2.2.2 _ hlk) (fun _ h => h) hfin (k5 k hk) hn hf (by rw [k4]; simpa using hk) d (fun H1 locs1 hP hD hS1 => ?_)
  have e1 : (ja_w tc ad Z D).set q0 (ad id, .inr (ci, ((List.range (ja_nf ci)).map (ja_fv ad Z D id ci)).set k (.int x))) = ja_w tc ad Z (ja_up D id k x) := by
    refine ja_wset I.2.2.2.1.2.1 hq0 rfl ?_ (fun j hj hne => ja_ecg rfl rfl (fun b => by simp [ja_up, hne]) (fun _ => rfl) (fun _ _ _ => rfl) (fun _ => rfl))
    unfold ja_e
    rw [ja_el_o hS k3]
    refine congrArg (fun z => (ad id, (Sum.inr (ci, z) : va_E))) (List.ext_getElem? fun i => ?_)
    rw [List.getElem?_set, List.getElem?_map, List.getElem?_map]
    by_cases ei : k = i
    · subst ei
      rw [List.getElem?_range (by rw [k4]; exact hk), if_pos rfl, if_pos (by rw [k4]; simpa using hk)]
      simp [ja_fv, hi, ja_up]
    · rw [if_neg ei]
      cases hr : (List.range (ja_nf ci))[i]? with
      | none => rfl
      | some b =>
        have : b = i := by
          have := List.getElem?_eq_some_iff.mp hr
          simpa using this.2.symm
        subst this
        have e3 : ¬ b = k := fun q => ei q.symm
        simp [ja_fv, ja_up, e3]
  rw [e1] at hP hD
  exact kk p e s m args below meth c G tc ad0 L0 ad H1 locs1 ls C (ja_Iput I rfl rfl I.2.2.2.1.2.2.2 hP hD hS1) hl (ja_ost (ja_ost hs))
theorem ja_iald {id n j : Nat} {x : Int32} (hS : Z.2.1 id = (10, n)) (hx : x = nI j) (hj : j < n) (hb : n < 2 ^ 31) (d : decode M.2.1 pc = .ok (.iaload, 1)) (kk : ja_A l M sc Qf (pc + 1) lv (.int (D id j) :: st) Z D c9 s9) : ja_A l M sc Qf pc lv (.int x :: .ref id :: st) Z D c9 s9 := by
  intro p e s m args below meth c G tc ad0 L0 ad H locs ls C I hl hs
  have hm : id ∈ Z.1 := ja_live I.2.2.2.1 (ja_osh (ja_ost hs)) hS (by omega)
  obtain ⟨q0, hq0, hq⟩ := ja_wk (tc := tc) (ad := ad) (D := D) hm
  unfold ja_e at hq
  rw [ja_el_i hS (by omega) (by omega)] at hq
  subst hx
  refine va_iald (D := G) (cl := ja_cl) C.1.1 C.1.2.1 C.2.2.2.2.2.1.2.1 I.2.2.2.1.1 q0 0 hq rfl (vp_in_nI hj hb) d ?_
  rw [nI_clamp (by omega)]
  exact kk p e s m args below meth c G tc ad0 L0 ad H locs ls C I hl (ja_osc (ja_oki _) (ja_ost (ja_ost hs)))
theorem ja_iast {id n j : Nat} {x y : Int32} (hS : Z.2.1 id = (10, n)) (hx : x = nI j) (hj : j < n) (hb : n < 2 ^ 31) (d : decode M.2.1 pc = .ok (.iastore, 1)) (kk : ja_A l M sc Qf (pc + 1) lv st Z (ja_up D id j y) c9 s9) : ja_A l M sc Qf pc lv (.int y :: .int x :: .ref id :: st) Z D c9 s9 := by
  intro p e s m args below meth c G tc ad0 L0 ad H locs ls C I hl hs
  have hm : id ∈ Z.1 := ja_live I.2.2.2.1 (ja_osh (ja_ost (ja_ost hs))) hS (by omega)
  obtain ⟨q0, hq0, hq⟩ := ja_wk (tc := tc) (ad := ad) (D := D) hm
  unfold ja_e at hq
  rw [ja_el_i hS (by omega) (by omega)] at hq
  subst hx
  refine va_iast (D := G) (cl := ja_cl) C.1.1 C.1.2.1 C.2.2.2.2.2.1.2.1 I.2.2.2.1.1 I.2.2.2.2.1 I.2.2.2.2.2 q0 0 hq rfl (vp_in_nI hj hb) d (fun H1 locs1 hP hD hS1 => ?_)
  rw [nI_clamp (by omega)] at hP hD
  have e1 : (ja_w tc ad Z D).set q0 (ad id, .inl (tc 10, n, .inl (upd (D id) j y))) = ja_w tc ad Z (ja_up D id j y) := by
    refine ja_wset I.2.2.2.1.2.1 hq0 rfl ?_ (fun a ha hne => ja_ecg rfl rfl (fun b => by simp [ja_up, hne]) (fun _ => rfl) (fun _ _ _ => rfl) (fun _ => rfl))
    unfold ja_e
    rw [ja_el_i hS (by omega) (by omega)]
    refine congrArg (fun z => (ad id, (Sum.inl (tc 10, n, Sum.inl z) : va_E))) (funext fun b => ?_)
    simp [ja_up, upd]
  rw [e1] at hP hD
  exact kk p e s m args below meth c G tc ad0 L0 ad H1 locs1 ls C (ja_Iput I rfl rfl I.2.2.2.1.2.2.2 hP hD hS1) hl (ja_ost (ja_ost (ja_ost hs)))
end JH
