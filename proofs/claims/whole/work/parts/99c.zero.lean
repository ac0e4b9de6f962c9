/-! THE INVARIANT AT THE START (by wip/whole/x59.py) -/
theorem z_SH : ja_SH ZS := by unfold ja_SH; decide +kernel
theorem z_Xf : zXf ZS := by
  unfold zXf
  and_intros <;> decide +kernel
theorem z_Xl : zXl ZS := by
  unfold zXl
  intro l hl
  obtain rfl | rfl | rfl : l = 0 ∨ l = 1 ∨ l = 2 := by omega
  all_goals (and_intros <;> decide +kernel)
theorem z_Xc : zXc ZS := by
  unfold zXc
  decide +kernel
theorem z_X : zX ZS := ⟨z_Xf, z_Xl, z_Xc⟩
theorem z_M : zM ZS := by
  unfold zM
  and_intros <;> decide +kernel
theorem z_2 : ∀ r, r < 6 → ZS.2.2.1 2 r = none := by decide +kernel
theorem z_3 : ∀ r, r < 3 → ZS.2.2.1 3 r = none := by decide +kernel
theorem z_60 : ∀ r, r < 6 → 60 + r ∉ ZS.1 := by decide +kernel
theorem z_70 : ∀ v, v < 3 → ∀ i, i < 4 → 70 + 4 * v + i ∉ ZS.1 := by decide +kernel
theorem e_12 : ∀ k, k < 256 → DS 12 k = nI 0 := by decide +kernel
theorem e_31 : ∀ ly, ly < 3 → ∀ q, q < 256 → DS (31 + 10 * ly) q = -1 ∧ DS 105 (256 * ly + q) = -1 := by decide +kernel
theorem e_32 : ∀ ly, ly < 3 → ∀ a, a < 10 → DS (32 + 10 * ly) a = nI 0 ∧ DS (33 + 10 * ly) a = nI 0 ∧ DS 106 (10 * ly + a) = nI 0 ∧ DS (34 + 10 * ly) a = nI 0 ∧ DS 107 (10 * ly + a) = nI 0 := by decide +kernel
theorem e_04 : ∀ ly, ly < 3 → DS (30 + 10 * ly) 4 = bI true ∧ DS 104 ly = bI (!true) := by decide +kernel
theorem e_36 : ∀ ly, ly < 3 → ∀ q, q < 256 → DS (36 + 10 * ly) (0 * 256 + q) = -1 ∧ DS 111 (768 * 0 + 256 * ly + q) = -1 := by decide +kernel
theorem e_0 : DS 0 6 = nI 0 ∧ DS 100 1 = nI 0 ∧ DS 0 7 = bI false ∧ DS 100 2 = -1 ∧ DS 0 4 = nI 0 ∧ DS 100 12 = nI 0 ∧ DS 0 5 = nI 0 ∧ DS 100 16 = nI 0 := by decide +kernel
theorem e_110 : ∀ r, r < 6 → DS 110 r = bI false := by decide +kernel
theorem e_121 : ∀ k, k < 768 → DS 121 k = nI 0 := by decide +kernel
theorem ct_false : ∀ n, fb_ct (fun _ => false) n = 0
  | 0 => rfl
  | n + 1 => by rw [fb_ct_succ, ct_false n]; rfl
theorem eN_none (a : Nat) : eN (fun _ => none) a = 0 := by
  unfold eN
  rw [show (fun q : Nat => decide ((none : Option Nat) = some a)) = fun _ => false from funext fun _ => by simp]
  exact ct_false 256
theorem JI_0 : JI 0 ZS DS := by
  obtain ⟨f1, f2, f3, f4, f5, f6, f7, f8⟩ := e_0
  refine ⟨z_SH, z_X, z_M, ⟨fun _ => 0, fun k _ => Nat.zero_le _, e_12⟩, ⟨fun _ _ => none, fun ly hl => ⟨fun q a h => (by cases h), fun q hq => e_31 ly hl q hq, fun a ha => by rw [eN_none]; exact (e_32 ly hl a ha).1⟩, ⟨fun _ _ => 0, fun ly hl => ⟨fun a ha => ⟨(e_32 ly hl a ha).2.1, (e_32 ly hl a ha).2.2.1, fun _ => rfl⟩, Nat.le_refl 0⟩⟩, 0, fun _ _ _ => none, ⟨by decide, f1, f2, fun t ht ly hl => ⟨fun q a h => (by cases h), fun q hq => ?_⟩, fun t h0 ht => by omega⟩, Or.inl ⟨f3, f4, fun _ _ _ _ => rfl⟩⟩, ⟨fun _ _ => 0, fun ly hl a ha => ⟨(e_32 ly hl a ha).2.2.2.1, (e_32 ly hl a ha).2.2.2.2, Nat.zero_le 6⟩⟩, ⟨fun _ => true, e_04⟩, ⟨0, fun _ => 0, fun _ => 0, fun _ => false, by decide, ⟨fun r hr => by omega, fun r _ hr => z_2 r hr⟩, f5, f6, fun r hr => by omega, e_110, fun r _ hr => ⟨rfl, z_60 r hr⟩⟩, ⟨0, fun _ => 0, fun _ => 0, fun _ => 0, fun _ => 0, fun _ => 0, fun _ _ => none, by decide, ⟨fun r hr => by omega, fun r _ hr => z_3 r hr⟩, f7, f8, fun r hr => by omega, fun v _ hv i hi => z_70 v hv i hi, fun k hk => Or.inr ⟨0, by decide, e_121 k hk⟩⟩⟩
  have : t = 0 := by omega
  subst this
  exact e_36 ly hl q hq
