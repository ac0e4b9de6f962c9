/-! ROWS FOR NUMBERS THAT ARE NATURAL (nI a), FOR BOOLEANS (bI b), FOR CALLS THAT CHANGE NOTHING -/
def bI (b : Bool) : Int32 := if b then 1 else 0
theorem nI_nm1 {a : Nat} (h : a < 2 ^ 31) : ¬ nI a = -1 := fun e => by
  have := congrArg Int32.toInt e
  rw [nI_toInt h] at this
  simp at this
theorem bI_t : bI true = 1 := rfl
theorem bI_f : bI false = 0 := rfl
theorem bI_nar (b : Bool) : narrow .boolean (.int (bI b)) = .int (bI b) := by cases b <;> decide +kernel
theorem bI_vnar (b : Bool) : vp_nar .boolean (bI b) = bI b := by cases b <;> decide +kernel
theorem bI_fit (b : Bool) : fits .boolean (.int (bI b)) = true := by cases b <;> decide +kernel
theorem bI_0 (b : Bool) : bI b = 0 ↔ b = false := by cases b <;> decide +kernel
theorem bI_T {P : Prop} [Decidable P] (h : P) : nI 1 = bI (decide P) := by rw [decide_eq_true h]; rfl
theorem bI_F {P : Prop} [Decidable P] (h : ¬ P) : nI 0 = bI (decide P) := by rw [decide_eq_false h]; rfl
theorem bI_inj {a b : Bool} (h : bI a = bI b) : a = b := by
  cases a <;> cases b <;> first | rfl | (exact absurd h (by decide +kernel))
/-- a contract that answers v and changes nothing -/
def ja_jr (v : Option Value) (Z : jZ) (D : jD) : Option Value → jZ → jD → Prop := fun v2 Z2 D2 => v2 = v ∧ Z2 = Z ∧ D2 = D
/-- .. that answers v, the shape unchanged, the numbers so that φ -/
def ja_jd (v : Option Value) (Z : jZ) (φ : jD → Prop) : Option Value → jZ → jD → Prop := fun v2 Z2 D2 => v2 = v ∧ Z2 = Z ∧ φ D2
def ja_jn : Option Value → jZ → jD → Prop := fun _ _ _ => False
/-- no exception -/
def ja_x0 : String → jZ → jD → Prop := fun _ _ _ => False
/-- the exception E, nothing changed -/
def ja_jx (E : String) (Z : jZ) (D : jD) : String → jZ → jD → Prop := fun E2 Z2 D2 => E2 = E ∧ Z2 = Z ∧ D2 = D
section JN
variable {l : Launch} {M : jM} {sc : Nat × (Nat → Int32)} {Qf : jQ} {pc : Nat} {lv : List (Option Value)} {st : List Value} {Z : jZ} {D : jD} {c9 s9 : Nat}
theorem ja_iaddN {a b : Nat} (d : decode M.2.1 pc = .ok (.iadd, 1)) (k : ja_A l M sc Qf (pc + 1) lv (.int (nI (a + b)) :: st) Z D c9 s9) : ja_A l M sc Qf pc lv (.int (nI b) :: .int (nI a) :: st) Z D c9 s9 := ja_iadd d (by rw [nI_add]; exact k)
theorem ja_imulN {a b : Nat} (d : decode M.2.1 pc = .ok (.imul, 1)) (k : ja_A l M sc Qf (pc + 1) lv (.int (nI (a * b)) :: st) Z D c9 s9) : ja_A l M sc Qf pc lv (.int (nI b) :: .int (nI a) :: st) Z D c9 s9 := ja_imul d (by rw [pk_mul]; exact k)
theorem ja_isubN {a b : Nat} (d : decode M.2.1 pc = .ok (.isub, 1)) (h : b ≤ a) (k : ja_A l M sc Qf (pc + 1) lv (.int (nI (a - b)) :: st) Z D c9 s9) : ja_A l M sc Qf pc lv (.int (nI b) :: .int (nI a) :: st) Z D c9 s9 := ja_isub d (by rw [pk_sub h]; exact k)
theorem ja_idivN {a b : Nat} (d : decode M.2.1 pc = .ok (.idiv, 1)) (ha : a < 2 ^ 31) (h0 : 0 < b) (hb : b < 2 ^ 31) (k : ja_A l M sc Qf (pc + 1) lv (.int (nI (a / b)) :: st) Z D c9 s9) : ja_A l M sc Qf pc lv (.int (nI b) :: .int (nI a) :: st) Z D c9 s9 := ja_idiv d (nI_ne0 h0 hb) (by rw [pk_div ha h0 hb]; exact k)
theorem ja_iremN {a b : Nat} (d : decode M.2.1 pc = .ok (.irem, 1)) (ha : a < 2 ^ 31) (h0 : 0 < b) (hb : b < 2 ^ 31) (k : ja_A l M sc Qf (pc + 1) lv (.int (nI (a % b)) :: st) Z D c9 s9) : ja_A l M sc Qf pc lv (.int (nI b) :: .int (nI a) :: st) Z D c9 s9 := ja_irem d (nI_ne0 h0 hb) (by rw [pk_rem ha h0 hb]; exact k)
theorem ja_iincN {i a : Nat} (d : decode M.2.1 pc = .ok (.iinc i 1, 3)) (h : ja_get lv i = some (.int (nI a))) (hn : ja_nc lv i = true) (hb : i < lv.length) (k : ja_A l M sc Qf (pc + 3) (lv.set i (some (.int (nI (a + 1))))) st Z D c9 s9) : ja_A l M sc Qf pc lv st Z D c9 s9 := ja_iinc d h (show nI a + Int32.ofInt 1 = nI (a + 1) from nI_1 a) hn hb k
theorem ja_icmpN_eq {a b : Nat} {off : Int} {tgt : Nat} (d : decode M.2.1 pc = .ok (.if_icmp .eq off, 3)) (ht : (pc : Int) + off = (tgt : Int)) (ha : a < 2 ^ 31) (hb : b < 2 ^ 31) (kt : a = b → ja_A l M sc Qf tgt lv st Z D c9 s9) (kf : ¬ a = b → ja_A l M sc Qf (pc + 3) lv st Z D c9 s9) : ja_A l M sc Qf pc lv (.int (nI b) :: .int (nI a) :: st) Z D c9 s9 := ja_icmp_eq d ht (fun h => kt ((nI_eq ha hb).mp h)) (fun h => kf (fun e => h (congrArg nI e)))
theorem ja_icmpN_ne {a b : Nat} {off : Int} {tgt : Nat} (d : decode M.2.1 pc = .ok (.if_icmp .ne off, 3)) (ht : (pc : Int) + off = (tgt : Int)) (ha : a < 2 ^ 31) (hb : b < 2 ^ 31) (kt : ¬ a = b → ja_A l M sc Qf tgt lv st Z D c9 s9) (kf : a = b → ja_A l M sc Qf (pc + 3) lv st Z D c9 s9) : ja_A l M sc Qf pc lv (.int (nI b) :: .int (nI a) :: st) Z D c9 s9 := ja_icmp_ne d ht (fun h => kt (fun e => h (congrArg nI e))) (fun h => kf ((nI_eq ha hb).mp h))
theorem ja_icmpN_lt {a b : Nat} {off : Int} {tgt : Nat} (d : decode M.2.1 pc = .ok (.if_icmp .lt off, 3)) (ht : (pc : Int) + off = (tgt : Int)) (ha : a < 2 ^ 31) (hb : b < 2 ^ 31) (kt : a < b → ja_A l M sc Qf tgt lv st Z D c9 s9) (kf : ¬ a < b → ja_A l M sc Qf (pc + 3) lv st Z D c9 s9) : ja_A l M sc Qf pc lv (.int (nI b) :: .int (nI a) :: st) Z D c9 s9 := ja_icmp_lt d ht (fun h => kt ((nI_ltI ha hb).mp h)) (fun h => kf (fun e => h ((nI_ltI ha hb).mpr e)))
theorem ja_icmpN_ge {a b : Nat} {off : Int} {tgt : Nat} (d : decode M.2.1 pc = .ok (.if_icmp .ge off, 3)) (ht : (pc : Int) + off = (tgt : Int)) (ha : a < 2 ^ 31) (hb : b < 2 ^ 31) (kt : b ≤ a → ja_A l M sc Qf tgt lv st Z D c9 s9) (kf : ¬ b ≤ a → ja_A l M sc Qf (pc + 3) lv st Z D c9 s9) : ja_A l M sc Qf pc lv (.int (nI b) :: .int (nI a) :: st) Z D c9 s9 := ja_icmp_ge d ht (fun h => kt ((nI_leI hb ha).mp h)) (fun h => kf (fun e => h ((nI_leI hb ha).mpr e)))
theorem ja_icmpN_gt {a b : Nat} {off : Int} {tgt : Nat} (d : decode M.2.1 pc = .ok (.if_icmp .gt off, 3)) (ht : (pc : Int) + off = (tgt : Int)) (ha : a < 2 ^ 31) (hb : b < 2 ^ 31) (kt : b < a → ja_A l M sc Qf tgt lv st Z D c9 s9) (kf : ¬ b < a → ja_A l M sc Qf (pc + 3) lv st Z D c9 s9) : ja_A l M sc Qf pc lv (.int (nI b) :: .int (nI a) :: st) Z D c9 s9 := ja_icmp_gt d ht (fun h => kt ((nI_ltI hb ha).mp h)) (fun h => kf (fun e => h ((nI_ltI hb ha).mpr e)))
theorem ja_icmpN_le {a b : Nat} {off : Int} {tgt : Nat} (d : decode M.2.1 pc = .ok (.if_icmp .le off, 3)) (ht : (pc : Int) + off = (tgt : Int)) (ha : a < 2 ^ 31) (hb : b < 2 ^ 31) (kt : a ≤ b → ja_A l M sc Qf tgt lv st Z D c9 s9) (kf : ¬ a ≤ b → ja_A l M sc Qf (pc + 3) lv st Z D c9 s9) : ja_A l M sc Qf pc lv (.int (nI b) :: .int (nI a) :: st) Z D c9 s9 := ja_icmp_le d ht (fun h => kt ((nI_leI ha hb).mp h)) (fun h => kf (fun e => h ((nI_leI ha hb).mpr e)))
theorem ja_ifN_eq {a : Nat} {off : Int} {tgt : Nat} (d : decode M.2.1 pc = .ok (.ifCond .eq off, 3)) (ht : (pc : Int) + off = (tgt : Int)) (ha : a < 2 ^ 31) (kt : a = 0 → ja_A l M sc Qf tgt lv st Z D c9 s9) (kf : ¬ a = 0 → ja_A l M sc Qf (pc + 3) lv st Z D c9 s9) : ja_A l M sc Qf pc lv (.int (nI a) :: st) Z D c9 s9 := ja_if_eq d ht (fun h => kt (Classical.byContradiction fun e => nI_ne0 (Nat.pos_of_ne_zero e) ha h)) (fun h => kf (fun e => h (by rw [e]; rfl)))
theorem ja_ifN_ne {a : Nat} {off : Int} {tgt : Nat} (d : decode M.2.1 pc = .ok (.ifCond .ne off, 3)) (ht : (pc : Int) + off = (tgt : Int)) (ha : a < 2 ^ 31) (kt : ¬ a = 0 → ja_A l M sc Qf tgt lv st Z D c9 s9) (kf : a = 0 → ja_A l M sc Qf (pc + 3) lv st Z D c9 s9) : ja_A l M sc Qf pc lv (.int (nI a) :: st) Z D c9 s9 := ja_if_ne d ht (fun h => kt (fun e => h (by rw [e]; rfl))) (fun h => kf (Classical.byContradiction fun e => nI_ne0 (Nat.pos_of_ne_zero e) ha h))
theorem ja_ifN_le {a : Nat} {off : Int} {tgt : Nat} (d : decode M.2.1 pc = .ok (.ifCond .le off, 3)) (ht : (pc : Int) + off = (tgt : Int)) (ha : a < 2 ^ 31) (kt : a = 0 → ja_A l M sc Qf tgt lv st Z D c9 s9) (kf : ¬ a = 0 → ja_A l M sc Qf (pc + 3) lv st Z D c9 s9) : ja_A l M sc Qf pc lv (.int (nI a) :: st) Z D c9 s9 := ja_if_le d ht (fun h => kt (Classical.byContradiction fun e => nI_nle (Nat.pos_of_ne_zero e) ha h)) (fun h => kf (fun e => h (by rw [e]; decide)))
theorem ja_ifN_gt {a : Nat} {off : Int} {tgt : Nat} (d : decode M.2.1 pc = .ok (.ifCond .gt off, 3)) (ht : (pc : Int) + off = (tgt : Int)) (ha : a < 2 ^ 31) (kt : ¬ a = 0 → ja_A l M sc Qf tgt lv st Z D c9 s9) (kf : a = 0 → ja_A l M sc Qf (pc + 3) lv st Z D c9 s9) : ja_A l M sc Qf pc lv (.int (nI a) :: st) Z D c9 s9 := ja_if_gt d ht (fun h => kt (fun e => by rw [e] at h; exact absurd h (by decide))) (fun h => kf (Classical.byContradiction fun e => h (by rw [show (0 : Int32) = nI 0 from rfl, nI_ltI (by omega) ha]; omega)))
theorem ja_ifN_lt {a : Nat} {off : Int} (d : decode M.2.1 pc = .ok (.ifCond .lt off, 3)) {tgt : Nat} (ht : (pc : Int) + off = (tgt : Int)) (ha : a < 2 ^ 31) (kf : ja_A l M sc Qf (pc + 3) lv st Z D c9 s9) : ja_A l M sc Qf pc lv (.int (nI a) :: st) Z D c9 s9 := ja_if_lt d ht (fun h => absurd h (nI_pos ha)) (fun _ => kf)
theorem ja_ifN_ge {a : Nat} {off : Int} {tgt : Nat} (d : decode M.2.1 pc = .ok (.ifCond .ge off, 3)) (ht : (pc : Int) + off = (tgt : Int)) (ha : a < 2 ^ 31) (kt : ja_A l M sc Qf tgt lv st Z D c9 s9) : ja_A l M sc Qf pc lv (.int (nI a) :: st) Z D c9 s9 := ja_if_ge d ht (fun _ => kt) (fun h => absurd (nI_pos' ha) h)
theorem ja_ifB_eq {b : Bool} {off : Int} {tgt : Nat} (d : decode M.2.1 pc = .ok (.ifCond .eq off, 3)) (ht : (pc : Int) + off = (tgt : Int)) (kt : b = false → ja_A l M sc Qf tgt lv st Z D c9 s9) (kf : b = true → ja_A l M sc Qf (pc + 3) lv st Z D c9 s9) : ja_A l M sc Qf pc lv (.int (bI b) :: st) Z D c9 s9 := ja_if_eq d ht (fun h => kt ((bI_0 b).mp h)) (fun h => kf (by cases b with | true => rfl | false => exact absurd rfl h))
theorem ja_ifB_ne {b : Bool} {off : Int} {tgt : Nat} (d : decode M.2.1 pc = .ok (.ifCond .ne off, 3)) (ht : (pc : Int) + off = (tgt : Int)) (kt : b = true → ja_A l M sc Qf tgt lv st Z D c9 s9) (kf : b = false → ja_A l M sc Qf (pc + 3) lv st Z D c9 s9) : ja_A l M sc Qf pc lv (.int (bI b) :: st) Z D c9 s9 := ja_if_ne d ht (fun h => kt (by cases b with | true => rfl | false => exact absurd rfl h)) (fun h => kf ((bI_0 b).mp h))
/-- a local is forgotten -/
theorem ja_forget {i : Nat} (k : ja_A l M sc Qf pc (lv.set i none) st Z D c9 s9) : ja_A l M sc Qf pc lv st Z D c9 s9 := by
  refine ja_sub (fun j v h => ?_) (by simp) k
  rw [List.getElem?_set] at h
  by_cases e : i = j
  · subst e
    rw [if_pos rfl] at h
    split at h <;> cases h
  · rw [if_neg e] at h
    exact h
/-- the value on the stack, rewritten -/
theorem ja_top {x y : Int32} (e : x = y) (k : ja_A l M sc Qf pc lv (.int y :: st) Z D c9 s9) : ja_A l M sc Qf pc lv (.int x :: st) Z D c9 s9 := e ▸ k
theorem ja_num {D2 : jD} (e : D = D2) (k : ja_A l M sc Qf pc lv st Z D2 c9 s9) : ja_A l M sc Qf pc lv st Z D c9 s9 := e ▸ k
-- calls without room: r .. nothing changes; d .. the numbers change; x .. it throws
section
variable {M2 : jM} {idx n : Nat} {av stk : List Value}
theorem ja_cSd {v : Value} {φ : jD → Prop} (hM : ja_M l M2 av Z D (ja_jd (some v) Z φ) ja_x0) (h0 : M2.2.2.2.2.1.cells = 0) (h1 : M2.2.2.2.2.1.slots = 0) (K : ja_ce M2 n) (hst : Cond.static M2.1 ∈ ja_T) (hlk : Cond.methodLink M.1.cls idx M2.1 ∈ ja_T) (hR : ja_rm M M2) (d : decode M.2.1 pc = .ok (.invokestatic idx, 3))
    (hstk : stk = av.reverse ++ st) (hn : av.length = n) (hw : (st.map fun v => v.category).sum ≤ 8) (hc : c9 ≤ M.2.2.2.2.1.cells) (hs9 : s9 ≤ M.2.2.2.2.1.slots) (kk : ∀ D2, φ D2 → ja_A l M sc Qf (pc + 3) lv (v :: st) Z D2 c9 s9) : ja_A l M sc Qf pc lv stk Z D c9 s9 := by
  refine ja_callS hM K hst hlk hR d hstk hn hw (by rw [h0]; exact hc) (by rw [h1]; exact hs9) (fun _ _ _ h => h.elim) ?_
  rintro v2 Z2 D2 ⟨rfl, rfl, h⟩
  rw [h0, h1]
  exact kk D2 h
theorem ja_cSd0 {φ : jD → Prop} (hM : ja_M l M2 av Z D (ja_jd none Z φ) ja_x0) (h0 : M2.2.2.2.2.1.cells = 0) (h1 : M2.2.2.2.2.1.slots = 0) (K : ja_ce M2 n) (hst : Cond.static M2.1 ∈ ja_T) (hlk : Cond.methodLink M.1.cls idx M2.1 ∈ ja_T) (hR : ja_rm M M2) (d : decode M.2.1 pc = .ok (.invokestatic idx, 3))
    (hstk : stk = av.reverse ++ st) (hn : av.length = n) (hw : (st.map fun v => v.category).sum ≤ 8) (hc : c9 ≤ M.2.2.2.2.1.cells) (hs9 : s9 ≤ M.2.2.2.2.1.slots) (kk : ∀ D2, φ D2 → ja_A l M sc Qf (pc + 3) lv st Z D2 c9 s9) : ja_A l M sc Qf pc lv stk Z D c9 s9 := by
  refine ja_callS hM K hst hlk hR d hstk hn hw (by rw [h0]; exact hc) (by rw [h1]; exact hs9) (fun _ _ _ h => h.elim) ?_
  rintro v2 Z2 D2 ⟨rfl, rfl, h⟩
  rw [h0, h1]
  exact kk D2 h
theorem ja_cSr {v : Value} (hM : ja_M l M2 av Z D (ja_jr (some v) Z D) ja_x0) (h0 : M2.2.2.2.2.1.cells = 0) (h1 : M2.2.2.2.2.1.slots = 0) (K : ja_ce M2 n) (hst : Cond.static M2.1 ∈ ja_T) (hlk : Cond.methodLink M.1.cls idx M2.1 ∈ ja_T) (hR : ja_rm M M2) (d : decode M.2.1 pc = .ok (.invokestatic idx, 3))
    (hstk : stk = av.reverse ++ st) (hn : av.length = n) (hw : (st.map fun v => v.category).sum ≤ 8) (hc : c9 ≤ M.2.2.2.2.1.cells) (hs9 : s9 ≤ M.2.2.2.2.1.slots) (kk : ja_A l M sc Qf (pc + 3) lv (v :: st) Z D c9 s9) : ja_A l M sc Qf pc lv stk Z D c9 s9 := by
  refine ja_callS hM K hst hlk hR d hstk hn hw (by rw [h0]; exact hc) (by rw [h1]; exact hs9) (fun _ _ _ h => h.elim) ?_
  rintro v2 Z2 D2 ⟨rfl, rfl, rfl⟩
  rw [h0, h1]
  exact kk
theorem ja_cSr0 (hM : ja_M l M2 av Z D (ja_jr none Z D) ja_x0) (h0 : M2.2.2.2.2.1.cells = 0) (h1 : M2.2.2.2.2.1.slots = 0) (K : ja_ce M2 n) (hst : Cond.static M2.1 ∈ ja_T) (hlk : Cond.methodLink M.1.cls idx M2.1 ∈ ja_T) (hR : ja_rm M M2) (d : decode M.2.1 pc = .ok (.invokestatic idx, 3))
    (hstk : stk = av.reverse ++ st) (hn : av.length = n) (hw : (st.map fun v => v.category).sum ≤ 8) (hc : c9 ≤ M.2.2.2.2.1.cells) (hs9 : s9 ≤ M.2.2.2.2.1.slots) (kk : ja_A l M sc Qf (pc + 3) lv st Z D c9 s9) : ja_A l M sc Qf pc lv stk Z D c9 s9 := by
  refine ja_callS hM K hst hlk hR d hstk hn hw (by rw [h0]; exact hc) (by rw [h1]; exact hs9) (fun _ _ _ h => h.elim) ?_
  rintro v2 Z2 D2 ⟨rfl, rfl, rfl⟩
  rw [h0, h1]
  exact kk
theorem ja_cSx {E : String} (hM : ja_M l M2 av Z D ja_jn (ja_jx E Z D)) (K : ja_ce M2 n) (hst : Cond.static M2.1 ∈ ja_T) (hlk : Cond.methodLink M.1.cls idx M2.1 ∈ ja_T) (hR : ja_rm M M2) (d : decode M.2.1 pc = .ok (.invokestatic idx, 3))
    (hstk : stk = av.reverse ++ st) (hn : av.length = n) (hw : (st.map fun v => v.category).sum ≤ 8) (hc : c9 + M2.2.2.2.2.1.cells ≤ M.2.2.2.2.1.cells) (hs9 : s9 + M2.2.2.2.2.1.slots ≤ M.2.2.2.2.1.slots) (kk : ja_X l M sc Qf pc lv st E Z D (c9 + M2.2.2.2.2.1.cells) (s9 + M2.2.2.2.2.1.slots)) : ja_A l M sc Qf pc lv stk Z D c9 s9 := by
  refine ja_callS hM K hst hlk hR d hstk hn hw hc hs9 ?_ (fun _ _ _ h => h.elim)
  rintro E2 Z2 D2 ⟨rfl, rfl, rfl⟩
  exact kk
theorem ja_cNd {host : String} {v : Value} {φ : jD → Prop} (hM : ja_M l M2 av Z D (ja_jd (some v) Z φ) ja_x0) (h0 : M2.2.2.2.2.1.cells = 0) (h1 : M2.2.2.2.2.1.slots = 0) (K : ja_ce M2 n) (hst : Cond.static M2.1 ∈ ja_T) (hlk : (M.1.cls, idx, M2.1, host) ∈ ja_nest) (hR : ja_rm M M2) (d : decode M.2.1 pc = .ok (.invokestatic idx, 3))
    (hstk : stk = av.reverse ++ st) (hn : av.length = n) (hw : (st.map fun v => v.category).sum ≤ 8) (hc : c9 ≤ M.2.2.2.2.1.cells) (hs9 : s9 ≤ M.2.2.2.2.1.slots) (kk : ∀ D2, φ D2 → ja_A l M sc Qf (pc + 3) lv (v :: st) Z D2 c9 s9) : ja_A l M sc Qf pc lv stk Z D c9 s9 := by
  refine ja_callSN hM K hst hlk hR d hstk hn hw (by rw [h0]; exact hc) (by rw [h1]; exact hs9) (fun _ _ _ h => h.elim) ?_
  rintro v2 Z2 D2 ⟨rfl, rfl, h⟩
  rw [h0, h1]
  exact kk D2 h
theorem ja_cNd0 {host : String} {φ : jD → Prop} (hM : ja_M l M2 av Z D (ja_jd none Z φ) ja_x0) (h0 : M2.2.2.2.2.1.cells = 0) (h1 : M2.2.2.2.2.1.slots = 0) (K : ja_ce M2 n) (hst : Cond.static M2.1 ∈ ja_T) (hlk : (M.1.cls, idx, M2.1, host) ∈ ja_nest) (hR : ja_rm M M2) (d : decode M.2.1 pc = .ok (.invokestatic idx, 3))
    (hstk : stk = av.reverse ++ st) (hn : av.length = n) (hw : (st.map fun v => v.category).sum ≤ 8) (hc : c9 ≤ M.2.2.2.2.1.cells) (hs9 : s9 ≤ M.2.2.2.2.1.slots) (kk : ∀ D2, φ D2 → ja_A l M sc Qf (pc + 3) lv st Z D2 c9 s9) : ja_A l M sc Qf pc lv stk Z D c9 s9 := by
  refine ja_callSN hM K hst hlk hR d hstk hn hw (by rw [h0]; exact hc) (by rw [h1]; exact hs9) (fun _ _ _ h => h.elim) ?_
  rintro v2 Z2 D2 ⟨rfl, rfl, h⟩
  rw [h0, h1]
  exact kk D2 h
theorem ja_cNr {host : String} {v : Value} (hM : ja_M l M2 av Z D (ja_jr (some v) Z D) ja_x0) (h0 : M2.2.2.2.2.1.cells = 0) (h1 : M2.2.2.2.2.1.slots = 0) (K : ja_ce M2 n) (hst : Cond.static M2.1 ∈ ja_T) (hlk : (M.1.cls, idx, M2.1, host) ∈ ja_nest) (hR : ja_rm M M2) (d : decode M.2.1 pc = .ok (.invokestatic idx, 3))
    (hstk : stk = av.reverse ++ st) (hn : av.length = n) (hw : (st.map fun v => v.category).sum ≤ 8) (hc : c9 ≤ M.2.2.2.2.1.cells) (hs9 : s9 ≤ M.2.2.2.2.1.slots) (kk : ja_A l M sc Qf (pc + 3) lv (v :: st) Z D c9 s9) : ja_A l M sc Qf pc lv stk Z D c9 s9 := by
  refine ja_callSN hM K hst hlk hR d hstk hn hw (by rw [h0]; exact hc) (by rw [h1]; exact hs9) (fun _ _ _ h => h.elim) ?_
  rintro v2 Z2 D2 ⟨rfl, rfl, rfl⟩
  rw [h0, h1]
  exact kk
theorem ja_cNr0 {host : String} (hM : ja_M l M2 av Z D (ja_jr none Z D) ja_x0) (h0 : M2.2.2.2.2.1.cells = 0) (h1 : M2.2.2.2.2.1.slots = 0) (K : ja_ce M2 n) (hst : Cond.static M2.1 ∈ ja_T) (hlk : (M.1.cls, idx, M2.1, host) ∈ ja_nest) (hR : ja_rm M M2) (d : decode M.2.1 pc = .ok (.invokestatic idx, 3))
    (hstk : stk = av.reverse ++ st) (hn : av.length = n) (hw : (st.map fun v => v.category).sum ≤ 8) (hc : c9 ≤ M.2.2.2.2.1.cells) (hs9 : s9 ≤ M.2.2.2.2.1.slots) (kk : ja_A l M sc Qf (pc + 3) lv st Z D c9 s9) : ja_A l M sc Qf pc lv stk Z D c9 s9 := by
  refine ja_callSN hM K hst hlk hR d hstk hn hw (by rw [h0]; exact hc) (by rw [h1]; exact hs9) (fun _ _ _ h => h.elim) ?_
  rintro v2 Z2 D2 ⟨rfl, rfl, rfl⟩
  rw [h0, h1]
  exact kk
variable {id ci : Nat} {T : u_T} {N : Nat}
theorem ja_cVd {v : Value} {φ : jD → Prop} (hM : ja_M l M2 (.ref id :: av) Z D (ja_jd (some v) Z φ) ja_x0) (h0 : M2.2.2.2.2.1.cells = 0) (h1 : M2.2.2.2.2.1.slots = 0) (K : ja_ce M2 n) (hin : Cond.instanceMethod M2.1 ∈ ja_T) (hse : Cond.selects M2.1.cls M2.1 M2.1 ∈ ja_T) (hlk : Cond.methodLink M.1.cls idx M2.1 ∈ ja_T) (hk : ja_k ci M2.1.cls T N) (hS : Z.2.1 id = (ci, ja_nf ci)) (hR : ja_rm M M2) (d : decode M.2.1 pc = .ok (.invokevirtual idx, 3))
    (hstk : stk = av.reverse ++ .ref id :: st) (hn : av.length = n) (hw : (st.map fun v => v.category).sum ≤ 8) (hc : c9 ≤ M.2.2.2.2.1.cells) (hs9 : s9 ≤ M.2.2.2.2.1.slots) (kk : ∀ D2, φ D2 → ja_A l M sc Qf (pc + 3) lv (v :: st) Z D2 c9 s9) : ja_A l M sc Qf pc lv stk Z D c9 s9 := by
  refine ja_callV hM K hin hse hlk hk hS hR d hstk hn hw (by rw [h0]; exact hc) (by rw [h1]; exact hs9) (fun _ _ _ h => h.elim) ?_
  rintro v2 Z2 D2 ⟨rfl, rfl, h⟩
  rw [h0, h1]
  exact kk D2 h
theorem ja_cVd0 {φ : jD → Prop} (hM : ja_M l M2 (.ref id :: av) Z D (ja_jd none Z φ) ja_x0) (h0 : M2.2.2.2.2.1.cells = 0) (h1 : M2.2.2.2.2.1.slots = 0) (K : ja_ce M2 n) (hin : Cond.instanceMethod M2.1 ∈ ja_T) (hse : Cond.selects M2.1.cls M2.1 M2.1 ∈ ja_T) (hlk : Cond.methodLink M.1.cls idx M2.1 ∈ ja_T) (hk : ja_k ci M2.1.cls T N) (hS : Z.2.1 id = (ci, ja_nf ci)) (hR : ja_rm M M2) (d : decode M.2.1 pc = .ok (.invokevirtual idx, 3))
    (hstk : stk = av.reverse ++ .ref id :: st) (hn : av.length = n) (hw : (st.map fun v => v.category).sum ≤ 8) (hc : c9 ≤ M.2.2.2.2.1.cells) (hs9 : s9 ≤ M.2.2.2.2.1.slots) (kk : ∀ D2, φ D2 → ja_A l M sc Qf (pc + 3) lv st Z D2 c9 s9) : ja_A l M sc Qf pc lv stk Z D c9 s9 := by
  refine ja_callV hM K hin hse hlk hk hS hR d hstk hn hw (by rw [h0]; exact hc) (by rw [h1]; exact hs9) (fun _ _ _ h => h.elim) ?_
  rintro v2 Z2 D2 ⟨rfl, rfl, h⟩
  rw [h0, h1]
  exact kk D2 h
theorem ja_cVr {v : Value} (hM : ja_M l M2 (.ref id :: av) Z D (ja_jr (some v) Z D) ja_x0) (h0 : M2.2.2.2.2.1.cells = 0) (h1 : M2.2.2.2.2.1.slots = 0) (K : ja_ce M2 n) (hin : Cond.instanceMethod M2.1 ∈ ja_T) (hse : Cond.selects M2.1.cls M2.1 M2.1 ∈ ja_T) (hlk : Cond.methodLink M.1.cls idx M2.1 ∈ ja_T) (hk : ja_k ci M2.1.cls T N) (hS : Z.2.1 id = (ci, ja_nf ci)) (hR : ja_rm M M2) (d : decode M.2.1 pc = .ok (.invokevirtual idx, 3))
    (hstk : stk = av.reverse ++ .ref id :: st) (hn : av.length = n) (hw : (st.map fun v => v.category).sum ≤ 8) (hc : c9 ≤ M.2.2.2.2.1.cells) (hs9 : s9 ≤ M.2.2.2.2.1.slots) (kk : ja_A l M sc Qf (pc + 3) lv (v :: st) Z D c9 s9) : ja_A l M sc Qf pc lv stk Z D c9 s9 := by
  refine ja_callV hM K hin hse hlk hk hS hR d hstk hn hw (by rw [h0]; exact hc) (by rw [h1]; exact hs9) (fun _ _ _ h => h.elim) ?_
  rintro v2 Z2 D2 ⟨rfl, rfl, rfl⟩
  rw [h0, h1]
  exact kk
theorem ja_cVr0 (hM : ja_M l M2 (.ref id :: av) Z D (ja_jr none Z D) ja_x0) (h0 : M2.2.2.2.2.1.cells = 0) (h1 : M2.2.2.2.2.1.slots = 0) (K : ja_ce M2 n) (hin : Cond.instanceMethod M2.1 ∈ ja_T) (hse : Cond.selects M2.1.cls M2.1 M2.1 ∈ ja_T) (hlk : Cond.methodLink M.1.cls idx M2.1 ∈ ja_T) (hk : ja_k ci M2.1.cls T N) (hS : Z.2.1 id = (ci, ja_nf ci)) (hR : ja_rm M M2) (d : decode M.2.1 pc = .ok (.invokevirtual idx, 3))
    (hstk : stk = av.reverse ++ .ref id :: st) (hn : av.length = n) (hw : (st.map fun v => v.category).sum ≤ 8) (hc : c9 ≤ M.2.2.2.2.1.cells) (hs9 : s9 ≤ M.2.2.2.2.1.slots) (kk : ja_A l M sc Qf (pc + 3) lv st Z D c9 s9) : ja_A l M sc Qf pc lv stk Z D c9 s9 := by
  refine ja_callV hM K hin hse hlk hk hS hR d hstk hn hw (by rw [h0]; exact hc) (by rw [h1]; exact hs9) (fun _ _ _ h => h.elim) ?_
  rintro v2 Z2 D2 ⟨rfl, rfl, rfl⟩
  rw [h0, h1]
  exact kk
theorem ja_cVx {E : String} (hM : ja_M l M2 (.ref id :: av) Z D ja_jn (ja_jx E Z D)) (K : ja_ce M2 n) (hin : Cond.instanceMethod M2.1 ∈ ja_T) (hse : Cond.selects M2.1.cls M2.1 M2.1 ∈ ja_T) (hlk : Cond.methodLink M.1.cls idx M2.1 ∈ ja_T) (hk : ja_k ci M2.1.cls T N) (hS : Z.2.1 id = (ci, ja_nf ci)) (hR : ja_rm M M2) (d : decode M.2.1 pc = .ok (.invokevirtual idx, 3))
    (hstk : stk = av.reverse ++ .ref id :: st) (hn : av.length = n) (hw : (st.map fun v => v.category).sum ≤ 8) (hc : c9 + M2.2.2.2.2.1.cells ≤ M.2.2.2.2.1.cells) (hs9 : s9 + M2.2.2.2.2.1.slots ≤ M.2.2.2.2.1.slots) (kk : ja_X l M sc Qf pc lv st E Z D (c9 + M2.2.2.2.2.1.cells) (s9 + M2.2.2.2.2.1.slots)) : ja_A l M sc Qf pc lv stk Z D c9 s9 := by
  refine ja_callV hM K hin hse hlk hk hS hR d hstk hn hw hc hs9 ?_ (fun _ _ _ h => h.elim)
  rintro E2 Z2 D2 ⟨rfl, rfl, rfl⟩
  exact kk
end
end JN
