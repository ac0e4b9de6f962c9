/-! ROWS: an array of arrays is made -/
def ja_zm (Z : jZ) (id rid n k : Nat) : jZ := (Z.1 ++ [id] ++ (List.range n).map (fun i => rid + i), fun a => if a = id then (18, n) else if rid ≤ a ∧ a < rid + n then (10, k) else Z.2.1 a, fun a b => if a = id then (if b < n then some (rid + b) else none) else if rid ≤ a ∧ a < rid + n then none else Z.2.2.1 a b, fun a b => if a = id ∨ (rid ≤ a ∧ a < rid + n) then 0 else Z.2.2.2 a b)
def ja_dm (D : jD) (id rid n : Nat) : jD := fun a b => if a = id ∨ (rid ≤ a ∧ a < rid + n) then 0 else D a b
def ja_am (ad : Nat → Nat) (id rid n q : Nat) (r : Nat → Nat) : Nat → Nat := fun a => if a = id then q else if rid ≤ a ∧ a < rid + n then r (a - rid) else ad a
theorem ja_amo {ad : Nat → Nat} {id rid n q : Nat} {r : Nat → Nat} {a : Nat} (h1 : ¬ a = id) (h2 : ¬ (rid ≤ a ∧ a < rid + n)) : ja_am ad id rid n q r a = ad a := by rw [ja_am, if_neg h1, if_neg h2]
section JMN
variable {l : Launch} {M : jM} {sc : Nat × (Nat → Int32)} {Qf : jQ} {pc : Nat} {lv : List (Option Value)} {st : List Value} {Z : jZ} {D : jD} {c9 s9 : Nat}
theorem ja_mna {idx id rid n k : Nat} {x y : Int32} (hx : x = nI n) (hy : y = nI k) (hn : n < 1000) (hk : k < 1000) (hcl : Cond.classLink M.1.cls idx ("[" ++ (FieldType.array .int).toString) ∈ ja_T) (hid : id ∉ Z.1) (hr : ∀ i, i < n → rid + i ∉ Z.1) (hir : ¬ (rid ≤ id ∧ id < rid + n)) (h9 : id ≠ 900) (hr9 : rid + n ≤ 900) (hc : c9 + (1 + n) ≤ M.2.2.2.2.1.cells) (hs9 : s9 + (n + n * k) ≤ M.2.2.2.2.1.slots) (d : decode M.2.1 pc = .ok (.multianewarray idx 2, 4))
    (kk : ja_A l M sc Qf (pc + 4) lv (.ref id :: st) (ja_zm Z id rid n k) (ja_dm D id rid n) (c9 + 1 + n) (s9 + n + n * k)) : ja_A l M sc Qf pc lv (.int y :: .int x :: st) Z D c9 s9 := by
  intro p e s m args below meth c G tc ad0 L0 ad H locs ls Cc I hl hs
  subst hx
  subst hy
  have hK := Cc.2.2.2.2.2.1.2.1
  have hcy : s.vm.findClass (FieldType.array .int).toString = some (tc 10) := (hK.2 0 _ rfl).2
  have hm0 : n * k ≤ 1000 * 1000 := Nat.mul_le_mul (by omega) (by omega)
  have hcb : k * componentBytes .int ≤ 1000 * 8 := Nat.mul_le_mul (by omega) (by decide)
  have eX : ja_w tc ad Z D ++ va_pl [] (fun _ => (.inl (tc 10, k, .inl (fun _ => 0)) : va_E)) = ja_w tc ad Z D := List.append_nil _
  refine va_mna (D := G) (cl := ja_cl) (X := ja_w tc ad Z D) (L := []) (f := fun _ => (.inl (tc 10, k, .inl (fun _ => 0)) : va_E)) (N' := n) (K' := k) (z := (k, .inl (fun _ => 0))) Cc.1.1 Cc.1.2.1 Cc.1.2.2.2.1 (Cc.1.2.2.2.2 _ hcl) Cc.2.2.2.2.2.1.2.2.2.2.1.2.2.2 (Cc.1.2.2.2.2 _ ac_int) hcy hK (by rw [eX]; exact I.2.2.2.1.1) (by rw [eX]; exact I.2.2.2.2.1) I.2.2.2.2.2 (fun q hq => Or.inr hq) (nI_pos (by omega)) (nI_pos (by omega)) (nI_clamp (by omega)) (nI_clamp (by omega)) (by omega) (by omega) (by omega) rfl rfl hc hs9 (fun c => by
    rw [vp_cell_i]; exact arrV_new c k (.int 0)) d (fun q r cA H1 hinj _ hK1 hP hD hS => ?_)
  have hcA : cA = tc 18 := ja_nameT hK (i := 8) rfl (hK1.2 9 _ rfl).2
  subst hcA
  obtain ⟨i1, i2, i3, ⟨r1, r2, r3, r4⟩, i5, i6⟩ := I
  have old : ∀ i ∈ Z.1, ¬ i = id ∧ ¬ (rid ≤ i ∧ i < rid + n) := fun i hi => ⟨fun e => hid (e ▸ hi), fun e => hr (i - rid) (by omega) (by rw [show rid + (i - rid) = i by omega]; exact hi)⟩
  have hw : ja_w tc (ja_am ad id rid n q r) (ja_zm Z id rid n k) (ja_dm D id rid n) = (ja_w tc ad Z D ++ [(q, .inl (tc 18, n, .inr (.inr (.inr (.inr (fun i => if i < n then some (r i) else none))))))]) ++ va_pl ([] ++ (List.range n).map r) (vr_up (fun _ => (.inl (tc 10, k, .inl (fun _ => 0)) : va_E)) ((List.range n).map r) (.inl (tc 10, k, .inl (fun _ => 0)))) := by
    unfold ja_w va_pl
    show (Z.1 ++ [id] ++ (List.range n).map (fun i => rid + i)).map _ = _
    rw [List.map_append, List.map_append, List.nil_append, List.map_map, List.map_map]
    have a1 : Z.1.map (ja_e tc (ja_am ad id rid n q r) (ja_zm Z id rid n k) (ja_dm D id rid n)) = Z.1.map (ja_e tc ad Z D) := List.map_congr_left fun j hj => by
      obtain ⟨o1, o2⟩ := old j hj
      exact ja_ecg (ja_amo o1 o2) (by show (if j = id then _ else if _ then _ else _) = _; rw [if_neg o1, if_neg o2]) (fun b => by show (if _ then _ else _) = _; rw [if_neg (by omega)]) (fun b => by show (if j = id then _ else if _ then _ else _) = _; rw [if_neg o1, if_neg o2]) (fun b k2 hk2 => by
        obtain ⟨p1, p2⟩ := old k2 (r4 j hj b k2 hk2)
        exact ja_amo p1 p2) (fun b => by show (if _ then _ else _) = _; rw [if_neg (by omega)])
    have a2 : [id].map (ja_e tc (ja_am ad id rid n q r) (ja_zm Z id rid n k) (ja_dm D id rid n)) = [(q, .inl (tc 18, n, .inr (.inr (.inr (.inr (fun i => if i < n then some (r i) else none))))))] := by
      show [_] = [_]
      unfold ja_e
      rw [ja_el_q (k := 18) (n := n) (by show (if id = id then _ else _) = _; rw [if_pos rfl]) (by omega), ja_am, if_pos rfl]
      refine congrArg (fun z => [(q, (Sum.inl (tc 18, n, Sum.inr (Sum.inr (Sum.inr (Sum.inr z)))) : va_E))]) (funext fun i => ?_)
      show (if id = id then (if i < n then some (rid + i) else none) else _ : Option Nat).map _ = _
      rw [if_pos rfl]
      by_cases hi : i < n
      · rw [if_pos hi, if_pos hi]
        show some (ja_am ad id rid n q r (rid + i)) = some (r i)
        rw [ja_am, if_neg (by omega), if_pos (by omega), show rid + i - rid = i by omega]
      · rw [if_neg hi, if_neg hi]; rfl
    have a3 : (List.range n).map ((ja_e tc (ja_am ad id rid n q r) (ja_zm Z id rid n k) (ja_dm D id rid n)) ∘ fun i => rid + i) = (List.range n).map ((fun a => (a, vr_up (fun _ => (.inl (tc 10, k, .inl (fun _ => 0)) : va_E)) ((List.range n).map r) (.inl (tc 10, k, .inl (fun _ => 0))) a)) ∘ r) := List.map_congr_left fun i hi => by
      have hi := List.mem_range.mp hi
      show ja_e tc _ _ _ (rid + i) = (r i, vr_up _ _ _ (r i))
      unfold ja_e
      rw [vr_up_in (List.mem_map.mpr ⟨i, List.mem_range.mpr hi, rfl⟩), ja_el_i (k := 10) (n := k) (by show (if rid + i = id then _ else if _ then _ else _) = _; rw [if_neg (by omega), if_pos (by omega)]) (by omega) (by omega), ja_am, if_neg (by omega), if_pos (by omega), show rid + i - rid = i by omega]
      refine congrArg (fun z => (r i, (Sum.inl (tc 10, k, Sum.inl z) : va_E))) (funext fun b => ?_)
      show (if _ then _ else _) = _
      rw [if_pos (by omega)]
    rw [a1, a2, a3]
  rw [← hw] at hP hD
  have fresh : ∀ i, i ∈ (ja_zm Z id rid n k).1 → i ∉ Z.1 → s.heap.size ≤ ja_am ad id rid n q r i := fun i hi hni => by
    obtain ⟨k1, hk1, hk2⟩ := ja_wk (tc := tc) (ad := ja_am ad id rid n q r) (D := ja_dm D id rid n) hi
    rcases hD.2 _ _ hk2 with ⟨j, hj, hq⟩ | hq
    · exfalso
      have hjZ := i2 j hj
      obtain ⟨o1, o2⟩ := old j hjZ
      have hjm : j ∈ (ja_zm Z id rid n k).1 := List.mem_append_left _ (List.mem_append_left _ hjZ)
      obtain ⟨k0, hk0, hk3⟩ := ja_wk (tc := tc) (ad := ja_am ad id rid n q r) (D := ja_dm D id rid n) hjm
      have e := hD.1 k0 k1 _ _ hk3 hk2 (by show ja_am ad id rid n q r j = _; rw [ja_amo o1 o2, i1 j (Or.inl hj)]; exact hq)
      subst e
      rw [hk0] at hk1
      cases hk1
      exact hni hjZ
    · exact hq
  have hnd : (ja_zm Z id rid n k).1.Nodup := by
    show (Z.1 ++ [id] ++ (List.range n).map (fun i => rid + i)).Nodup
    rw [List.nodup_append, List.nodup_append]
    refine ⟨⟨r2, by simp, fun a ha b hb => ?_⟩, List.Pairwise.map (fun i => rid + i) (fun a b h e => h (by have e : rid + a = rid + b := e; omega)) List.nodup_range, fun a ha b hb => ?_⟩
    · have : b = id := by simpa using hb
      subst this
      exact fun e => hid (e ▸ ha)
    · obtain ⟨i, hi, rfl⟩ := List.mem_map.mp hb
      have hi := List.mem_range.mp hi
      rcases List.mem_append.mp ha with h | h
      · exact fun e => hr i hi (e ▸ h)
      · have : a = id := by simpa using h
        omega
  have ho : ∀ i, i ∈ Z.1 ∨ i = 900 → ja_am ad id rid n q r i = ad i := fun i hi => by
    rcases hi with h | h
    · obtain ⟨o1, o2⟩ := old i h; exact ja_amo o1 o2
    · exact ja_amo (fun e => h9 (e.symm.trans h)) (by omega)
  have I2 : ja_I s G tc ad0 L0 (ja_am ad id rid n q r) (ja_zm Z id rid n k) (ja_dm D id rid n) H1 locs := by
    refine ⟨fun i hi => (ho i (hi.imp_left (i2 i))).trans (i1 i hi), fun i hi => List.mem_append_left _ (List.mem_append_left _ (i2 i hi)), fun i hi h0 => ?_, ⟨hP, hnd, ⟨?_, ?_⟩, ?_⟩, hD, hS⟩
    · by_cases hz : i ∈ Z.1
      · rw [ho i (Or.inl hz)]; exact i3 i hz h0
      · exact fresh i hi hz
    · show 900 ∉ Z.1 ++ [id] ++ (List.range n).map (fun i => rid + i)
      intro h
      rcases List.mem_append.mp h with h | h
      · rcases List.mem_append.mp h with h | h
        · exact r3.1 h
        · have : 900 = id := by simpa using h
          exact h9 this.symm
      · obtain ⟨i, hi, e⟩ := List.mem_map.mp h
        have hi := List.mem_range.mp hi
        omega
    · show (if 900 = id then _ else if _ then _ else _) = _
      rw [if_neg (fun e => h9 e.symm), if_neg (by omega)]; exact r3.2
    · intro i hi j k2 hk2
      have hk2 : (if i = id then (if j < n then some (rid + j) else none) else if rid ≤ i ∧ i < rid + n then none else Z.2.2.1 i j) = some k2 := hk2
      by_cases e1 : i = id
      · rw [if_pos e1] at hk2
        by_cases e2 : j < n
        · rw [if_pos e2] at hk2
          cases hk2
          exact List.mem_append_right _ (List.mem_map.mpr ⟨j, List.mem_range.mpr e2, rfl⟩)
        · rw [if_neg e2] at hk2; cases hk2
      · rw [if_neg e1] at hk2
        by_cases e2 : rid ≤ i ∧ i < rid + n
        · rw [if_pos e2] at hk2; cases hk2
        · rw [if_neg e2] at hk2
          have hiZ : i ∈ Z.1 := by
            rcases List.mem_append.mp hi with h | h
            · rcases List.mem_append.mp h with h | h
              · exact h
              · exact absurd (by simpa using h) e1
            · obtain ⟨i0, hi0, rfl⟩ := List.mem_map.mp h
              have := List.mem_range.mp hi0
              omega
          exact List.mem_append_left _ (List.mem_append_left _ (r4 i hiZ j k2 hk2))
  have hz : ∀ i ∈ Z.1, i ∈ (ja_zm Z id rid n k).1 := fun i hi => List.mem_append_left _ (List.mem_append_left _ hi)
  have hs2 := ja_ost (ja_ost hs)
  have := kk p e s m args below meth c G tc ad0 L0 (ja_am ad id rid n q r) H1 locs ls Cc I2 (ja_Lc hl ho hz) (ja_osc (ja_okr (List.mem_append_left _ (List.mem_append_right _ (by simp)))) (ja_oks_mono hz hs2))
  have e2 : (Value.ref id :: st).map (ja_cv (ja_am ad id rid n q r)) = .ref q :: st.map (ja_cv ad) := by
    rw [List.map_cons, ja_cvs hs2 ho, ja_cvr, ja_am, if_pos rfl]
  rw [e2] at this
  exact this
end JMN
