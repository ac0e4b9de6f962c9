/-! THE CLASS: its shape -/
def zXf (Z : jZ) : Prop := (Z.2.1 0 = (7, 13)) ∧ (Z.2.2.1 0 0 = some 1) ∧ (Z.2.1 1 = (15, 3)) ∧ (Z.2.2.1 0 1 = some 2) ∧ (Z.2.1 2 = (16, 6)) ∧ (Z.2.2.1 0 2 = some 3) ∧ (Z.2.1 3 = (17, 3)) ∧ (Z.2.2.1 0 3 = some 4) ∧ (Z.2.1 4 = (10, 41)) ∧ (Z.2.2.1 0 9 = some 5) ∧ (Z.2.1 5 = (3, 6)) ∧ (Z.2.2.1 0 10 = some 11) ∧ (Z.2.1 11 = (5, 1)) ∧ (Z.2.2.1 0 11 = some 13) ∧ (Z.2.1 13 = (0, 3)) ∧ (Z.2.2.1 0 12 = some 17) ∧ (Z.2.1 17 = (2, 1)) ∧ (Z.2.2.1 5 0 = some 6) ∧ (Z.2.1 6 = (10, 256)) ∧ (Z.2.2.1 5 1 = some 7) ∧ (Z.2.1 7 = (10, 256)) ∧ (Z.2.2.1 5 2 = some 8) ∧ (Z.2.1 8 = (10, 256)) ∧ (Z.2.2.1 5 4 = some 9) ∧ (Z.2.1 9 = (10, 256)) ∧ (Z.2.2.1 5 5 = some 10) ∧ (Z.2.1 10 = (10, 256)) ∧ (Z.2.2.1 11 0 = some 12) ∧ (Z.2.1 12 = (10, 256)) ∧ (Z.2.2.1 13 0 = some 14) ∧ (Z.2.1 14 = (10, 10)) ∧ (Z.2.2.1 13 1 = some 15) ∧ (Z.2.1 15 = (10, 10)) ∧ (Z.2.2.1 13 2 = some 16) ∧ (Z.2.1 16 = (18, 10)) ∧ (Z.2.2.1 17 0 = some 18) ∧ (Z.2.1 18 = (10, 256))
def zXl (Z : jZ) : Prop := ∀ l, l < 3 → (Z.2.2.1 1 l = some (30 + 10 * l)) ∧ (Z.2.1 (30 + 10 * l) = (1, 9)) ∧ (Z.2.2.1 (30 + 10 * l) 0 = some (31 + 10 * l)) ∧ (Z.2.1 (31 + 10 * l) = (10, 256)) ∧ (Z.2.2.1 (30 + 10 * l) 1 = some (32 + 10 * l)) ∧ (Z.2.1 (32 + 10 * l) = (10, 10)) ∧ (Z.2.2.1 (30 + 10 * l) 2 = some (33 + 10 * l)) ∧ (Z.2.1 (33 + 10 * l) = (10, 10)) ∧ (Z.2.2.1 (30 + 10 * l) 3 = some (34 + 10 * l)) ∧ (Z.2.1 (34 + 10 * l) = (10, 10)) ∧ (Z.2.2.1 (30 + 10 * l) 5 = some (35 + 10 * l)) ∧ (Z.2.1 (35 + 10 * l) = (10, 10)) ∧ (Z.2.2.1 (30 + 10 * l) 6 = some (36 + 10 * l)) ∧ (Z.2.1 (36 + 10 * l) = (10, 10496)) ∧ (Z.2.2.1 (30 + 10 * l) 7 = some (37 + 10 * l)) ∧ (Z.2.1 (37 + 10 * l) = (10, 10))
def zXc (Z : jZ) : Prop := ∀ c, c < 10 → (Z.2.2.1 16 c = some (20 + c)) ∧ (Z.2.1 (20 + c) = (10, 10))
def zXr (Z : jZ) (n : Nat) (fl sl : Nat → Nat) : Prop := (∀ r, r < n → (Z.2.2.1 2 r = some (60 + r)) ∧ (Z.2.1 (60 + r) = (4, 4)) ∧ (Z.2.2.1 (60 + r) 1 = some (30 + 10 * fl r)) ∧ (Z.2.2.1 (60 + r) 2 = some (30 + 10 * sl r)) ∧ (fl r < 3) ∧ (sl r < 3)) ∧ ∀ r, n ≤ r → r < 6 → Z.2.2.1 2 r = none
def zXv (Z : jZ) (vn : Nat) (vl : Nat → Nat) : Prop := (∀ v, v < vn → (Z.2.2.1 3 v = some (70 + 4 * v)) ∧ (Z.2.1 (70 + 4 * v) = (6, 8)) ∧ (Z.2.2.1 (70 + 4 * v) 0 = some (30 + 10 * vl v)) ∧ (vl v < 3) ∧ (Z.2.2.1 (70 + 4 * v) 1 = some (71 + 4 * v)) ∧ (Z.2.1 (71 + 4 * v) = (10, 256)) ∧ (Z.2.2.1 (70 + 4 * v) 2 = some (72 + 4 * v)) ∧ (Z.2.1 (72 + 4 * v) = (10, 256)) ∧ (Z.2.2.1 (70 + 4 * v) 3 = some (73 + 4 * v)) ∧ (Z.2.1 (73 + 4 * v) = (10, 256))) ∧ ∀ v, vn ≤ v → v < 3 → Z.2.2.1 3 v = none
def zX (Z : jZ) : Prop := zXf Z ∧ zXl Z ∧ zXc Z
theorem zX_o0 {Z : jZ} (h : zX Z) : Z.2.1 0 = (7, ja_nf 7) := h.1.1
theorem zX_p0_0 {Z : jZ} (h : zX Z) : Z.2.2.1 0 0 = some 1 := h.1.2.1
theorem zX_o1 {Z : jZ} (h : zX Z) : Z.2.1 1 = (15, 3) := h.1.2.2.1
theorem zX_p0_1 {Z : jZ} (h : zX Z) : Z.2.2.1 0 1 = some 2 := h.1.2.2.2.1
theorem zX_o2 {Z : jZ} (h : zX Z) : Z.2.1 2 = (16, 6) := h.1.2.2.2.2.1
theorem zX_p0_2 {Z : jZ} (h : zX Z) : Z.2.2.1 0 2 = some 3 := h.1.2.2.2.2.2.1
theorem zX_o3 {Z : jZ} (h : zX Z) : Z.2.1 3 = (17, 3) := h.1.2.2.2.2.2.2.1
theorem zX_p0_3 {Z : jZ} (h : zX Z) : Z.2.2.1 0 3 = some 4 := h.1.2.2.2.2.2.2.2.1
theorem zX_o4 {Z : jZ} (h : zX Z) : Z.2.1 4 = (10, 41) := h.1.2.2.2.2.2.2.2.2.1
theorem zX_p0_9 {Z : jZ} (h : zX Z) : Z.2.2.1 0 9 = some 5 := h.1.2.2.2.2.2.2.2.2.2.1
theorem zX_o5 {Z : jZ} (h : zX Z) : Z.2.1 5 = (3, ja_nf 3) := h.1.2.2.2.2.2.2.2.2.2.2.1
theorem zX_p0_10 {Z : jZ} (h : zX Z) : Z.2.2.1 0 10 = some 11 := h.1.2.2.2.2.2.2.2.2.2.2.2.1
theorem zX_o11 {Z : jZ} (h : zX Z) : Z.2.1 11 = (5, ja_nf 5) := h.1.2.2.2.2.2.2.2.2.2.2.2.2.1
theorem zX_p0_11 {Z : jZ} (h : zX Z) : Z.2.2.1 0 11 = some 13 := h.1.2.2.2.2.2.2.2.2.2.2.2.2.2.1
theorem zX_o13 {Z : jZ} (h : zX Z) : Z.2.1 13 = (0, ja_nf 0) := h.1.2.2.2.2.2.2.2.2.2.2.2.2.2.2.1
theorem zX_p0_12 {Z : jZ} (h : zX Z) : Z.2.2.1 0 12 = some 17 := h.1.2.2.2.2.2.2.2.2.2.2.2.2.2.2.2.1
theorem zX_o17 {Z : jZ} (h : zX Z) : Z.2.1 17 = (2, ja_nf 2) := h.1.2.2.2.2.2.2.2.2.2.2.2.2.2.2.2.2.1
theorem zX_p5_0 {Z : jZ} (h : zX Z) : Z.2.2.1 5 0 = some 6 := h.1.2.2.2.2.2.2.2.2.2.2.2.2.2.2.2.2.2.1
theorem zX_o6 {Z : jZ} (h : zX Z) : Z.2.1 6 = (10, 256) := h.1.2.2.2.2.2.2.2.2.2.2.2.2.2.2.2.2.2.2.1
theorem zX_p5_1 {Z : jZ} (h : zX Z) : Z.2.2.1 5 1 = some 7 := h.1.2.2.2.2.2.2.2.2.2.2.2.2.2.2.2.2.2.2.2.1
theorem zX_o7 {Z : jZ} (h : zX Z) : Z.2.1 7 = (10, 256) := h.1.2.2.2.2.2.2.2.2.2.2.2.2.2.2.2.2.2.2.2.2.1
theorem zX_p5_2 {Z : jZ} (h : zX Z) : Z.2.2.1 5 2 = some 8 := h.1.2.2.2.2.2.2.2.2.2.2.2.2.2.2.2.2.2.2.2.2.2.1
theorem zX_o8 {Z : jZ} (h : zX Z) : Z.2.1 8 = (10, 256) := h.1.2.2.2.2.2.2.2.2.2.2.2.2.2.2.2.2.2.2.2.2.2.2.1
theorem zX_p5_4 {Z : jZ} (h : zX Z) : Z.2.2.1 5 4 = some 9 := h.1.2.2.2.2.2.2.2.2.2.2.2.2.2.2.2.2.2.2.2.2.2.2.2.1
theorem zX_o9 {Z : jZ} (h : zX Z) : Z.2.1 9 = (10, 256) := h.1.2.2.2.2.2.2.2.2.2.2.2.2.2.2.2.2.2.2.2.2.2.2.2.2.1
theorem zX_p5_5 {Z : jZ} (h : zX Z) : Z.2.2.1 5 5 = some 10 := h.1.2.2.2.2.2.2.2.2.2.2.2.2.2.2.2.2.2.2.2.2.2.2.2.2.2.1
theorem zX_o10 {Z : jZ} (h : zX Z) : Z.2.1 10 = (10, 256) := h.1.2.2.2.2.2.2.2.2.2.2.2.2.2.2.2.2.2.2.2.2.2.2.2.2.2.2.1
theorem zX_p11_0 {Z : jZ} (h : zX Z) : Z.2.2.1 11 0 = some 12 := h.1.2.2.2.2.2.2.2.2.2.2.2.2.2.2.2.2.2.2.2.2.2.2.2.2.2.2.2.1
theorem zX_o12 {Z : jZ} (h : zX Z) : Z.2.1 12 = (10, 256) := h.1.2.2.2.2.2.2.2.2.2.2.2.2.2.2.2.2.2.2.2.2.2.2.2.2.2.2.2.2.1
theorem zX_p13_0 {Z : jZ} (h : zX Z) : Z.2.2.1 13 0 = some 14 := h.1.2.2.2.2.2.2.2.2.2.2.2.2.2.2.2.2.2.2.2.2.2.2.2.2.2.2.2.2.2.1
theorem zX_o14 {Z : jZ} (h : zX Z) : Z.2.1 14 = (10, 10) := h.1.2.2.2.2.2.2.2.2.2.2.2.2.2.2.2.2.2.2.2.2.2.2.2.2.2.2.2.2.2.2.1
theorem zX_p13_1 {Z : jZ} (h : zX Z) : Z.2.2.1 13 1 = some 15 := h.1.2.2.2.2.2.2.2.2.2.2.2.2.2.2.2.2.2.2.2.2.2.2.2.2.2.2.2.2.2.2.2.1
theorem zX_o15 {Z : jZ} (h : zX Z) : Z.2.1 15 = (10, 10) := h.1.2.2.2.2.2.2.2.2.2.2.2.2.2.2.2.2.2.2.2.2.2.2.2.2.2.2.2.2.2.2.2.2.1
theorem zX_p13_2 {Z : jZ} (h : zX Z) : Z.2.2.1 13 2 = some 16 := h.1.2.2.2.2.2.2.2.2.2.2.2.2.2.2.2.2.2.2.2.2.2.2.2.2.2.2.2.2.2.2.2.2.2.1
theorem zX_o16 {Z : jZ} (h : zX Z) : Z.2.1 16 = (18, 10) := h.1.2.2.2.2.2.2.2.2.2.2.2.2.2.2.2.2.2.2.2.2.2.2.2.2.2.2.2.2.2.2.2.2.2.2.1
theorem zX_p17_0 {Z : jZ} (h : zX Z) : Z.2.2.1 17 0 = some 18 := h.1.2.2.2.2.2.2.2.2.2.2.2.2.2.2.2.2.2.2.2.2.2.2.2.2.2.2.2.2.2.2.2.2.2.2.2.1
theorem zX_o18 {Z : jZ} (h : zX Z) : Z.2.1 18 = (10, 256) := h.1.2.2.2.2.2.2.2.2.2.2.2.2.2.2.2.2.2.2.2.2.2.2.2.2.2.2.2.2.2.2.2.2.2.2.2.2
theorem zL_e {Z : jZ} (h : zX Z) {l : Nat} (hl : l < 3) : Z.2.2.1 1 l = some (30 + 10 * l) := (h.2.1 l hl).1
theorem zL_o {Z : jZ} (h : zX Z) {l : Nat} (hl : l < 3) : Z.2.1 (30 + 10 * l) = (1, ja_nf 1) := (h.2.1 l hl).2.1
theorem zL_p0 {Z : jZ} (h : zX Z) {l : Nat} (hl : l < 3) : Z.2.2.1 (30 + 10 * l) 0 = some (31 + 10 * l) := (h.2.1 l hl).2.2.1
theorem zL_a0 {Z : jZ} (h : zX Z) {l : Nat} (hl : l < 3) : Z.2.1 (31 + 10 * l) = (10, 256) := (h.2.1 l hl).2.2.2.1
theorem zL_p1 {Z : jZ} (h : zX Z) {l : Nat} (hl : l < 3) : Z.2.2.1 (30 + 10 * l) 1 = some (32 + 10 * l) := (h.2.1 l hl).2.2.2.2.1
theorem zL_a1 {Z : jZ} (h : zX Z) {l : Nat} (hl : l < 3) : Z.2.1 (32 + 10 * l) = (10, 10) := (h.2.1 l hl).2.2.2.2.2.1
theorem zL_p2 {Z : jZ} (h : zX Z) {l : Nat} (hl : l < 3) : Z.2.2.1 (30 + 10 * l) 2 = some (33 + 10 * l) := (h.2.1 l hl).2.2.2.2.2.2.1
theorem zL_a2 {Z : jZ} (h : zX Z) {l : Nat} (hl : l < 3) : Z.2.1 (33 + 10 * l) = (10, 10) := (h.2.1 l hl).2.2.2.2.2.2.2.1
theorem zL_p3 {Z : jZ} (h : zX Z) {l : Nat} (hl : l < 3) : Z.2.2.1 (30 + 10 * l) 3 = some (34 + 10 * l) := (h.2.1 l hl).2.2.2.2.2.2.2.2.1
theorem zL_a3 {Z : jZ} (h : zX Z) {l : Nat} (hl : l < 3) : Z.2.1 (34 + 10 * l) = (10, 10) := (h.2.1 l hl).2.2.2.2.2.2.2.2.2.1
theorem zL_p5 {Z : jZ} (h : zX Z) {l : Nat} (hl : l < 3) : Z.2.2.1 (30 + 10 * l) 5 = some (35 + 10 * l) := (h.2.1 l hl).2.2.2.2.2.2.2.2.2.2.1
theorem zL_a5 {Z : jZ} (h : zX Z) {l : Nat} (hl : l < 3) : Z.2.1 (35 + 10 * l) = (10, 10) := (h.2.1 l hl).2.2.2.2.2.2.2.2.2.2.2.1
theorem zL_p6 {Z : jZ} (h : zX Z) {l : Nat} (hl : l < 3) : Z.2.2.1 (30 + 10 * l) 6 = some (36 + 10 * l) := (h.2.1 l hl).2.2.2.2.2.2.2.2.2.2.2.2.1
theorem zL_a6 {Z : jZ} (h : zX Z) {l : Nat} (hl : l < 3) : Z.2.1 (36 + 10 * l) = (10, 10496) := (h.2.1 l hl).2.2.2.2.2.2.2.2.2.2.2.2.2.1
theorem zL_p7 {Z : jZ} (h : zX Z) {l : Nat} (hl : l < 3) : Z.2.2.1 (30 + 10 * l) 7 = some (37 + 10 * l) := (h.2.1 l hl).2.2.2.2.2.2.2.2.2.2.2.2.2.2.1
theorem zL_a7 {Z : jZ} (h : zX Z) {l : Nat} (hl : l < 3) : Z.2.1 (37 + 10 * l) = (10, 10) := (h.2.1 l hl).2.2.2.2.2.2.2.2.2.2.2.2.2.2.2
theorem zC_e {Z : jZ} (h : zX Z) {c : Nat} (hl : c < 10) : Z.2.2.1 16 c = some (20 + c) := (h.2.2 c hl).1
theorem zC_o {Z : jZ} (h : zX Z) {c : Nat} (hl : c < 10) : Z.2.1 (20 + c) = (10, 10) := (h.2.2 c hl).2
theorem zR_e {Z : jZ} {n : Nat} {fl sl : Nat → Nat} (h : zXr Z n fl sl) {r : Nat} (hl : r < n) : Z.2.2.1 2 r = some (60 + r) := (h.1 r hl).1
theorem zR_o {Z : jZ} {n : Nat} {fl sl : Nat → Nat} (h : zXr Z n fl sl) {r : Nat} (hl : r < n) : Z.2.1 (60 + r) = (4, ja_nf 4) := (h.1 r hl).2.1
theorem zR_p1 {Z : jZ} {n : Nat} {fl sl : Nat → Nat} (h : zXr Z n fl sl) {r : Nat} (hl : r < n) : Z.2.2.1 (60 + r) 1 = some (30 + 10 * fl r) := (h.1 r hl).2.2.1
theorem zR_p2 {Z : jZ} {n : Nat} {fl sl : Nat → Nat} (h : zXr Z n fl sl) {r : Nat} (hl : r < n) : Z.2.2.1 (60 + r) 2 = some (30 + 10 * sl r) := (h.1 r hl).2.2.2.1
theorem zR_l1 {Z : jZ} {n : Nat} {fl sl : Nat → Nat} (h : zXr Z n fl sl) {r : Nat} (hl : r < n) : fl r < 3 := (h.1 r hl).2.2.2.2.1
theorem zR_l2 {Z : jZ} {n : Nat} {fl sl : Nat → Nat} (h : zXr Z n fl sl) {r : Nat} (hl : r < n) : sl r < 3 := (h.1 r hl).2.2.2.2.2
theorem zV_e {Z : jZ} {vn : Nat} {vl : Nat → Nat} (h : zXv Z vn vl) {v : Nat} (hl : v < vn) : Z.2.2.1 3 v = some (70 + 4 * v) := (h.1 v hl).1
theorem zV_o {Z : jZ} {vn : Nat} {vl : Nat → Nat} (h : zXv Z vn vl) {v : Nat} (hl : v < vn) : Z.2.1 (70 + 4 * v) = (6, ja_nf 6) := (h.1 v hl).2.1
theorem zV_p0 {Z : jZ} {vn : Nat} {vl : Nat → Nat} (h : zXv Z vn vl) {v : Nat} (hl : v < vn) : Z.2.2.1 (70 + 4 * v) 0 = some (30 + 10 * vl v) := (h.1 v hl).2.2.1
theorem zV_l0 {Z : jZ} {vn : Nat} {vl : Nat → Nat} (h : zXv Z vn vl) {v : Nat} (hl : v < vn) : vl v < 3 := (h.1 v hl).2.2.2.1
theorem zV_p1 {Z : jZ} {vn : Nat} {vl : Nat → Nat} (h : zXv Z vn vl) {v : Nat} (hl : v < vn) : Z.2.2.1 (70 + 4 * v) 1 = some (71 + 4 * v) := (h.1 v hl).2.2.2.2.1
theorem zV_a1 {Z : jZ} {vn : Nat} {vl : Nat → Nat} (h : zXv Z vn vl) {v : Nat} (hl : v < vn) : Z.2.1 (71 + 4 * v) = (10, 256) := (h.1 v hl).2.2.2.2.2.1
theorem zV_p2 {Z : jZ} {vn : Nat} {vl : Nat → Nat} (h : zXv Z vn vl) {v : Nat} (hl : v < vn) : Z.2.2.1 (70 + 4 * v) 2 = some (72 + 4 * v) := (h.1 v hl).2.2.2.2.2.2.1
theorem zV_a2 {Z : jZ} {vn : Nat} {vl : Nat → Nat} (h : zXv Z vn vl) {v : Nat} (hl : v < vn) : Z.2.1 (72 + 4 * v) = (10, 256) := (h.1 v hl).2.2.2.2.2.2.2.1
theorem zV_p3 {Z : jZ} {vn : Nat} {vl : Nat → Nat} (h : zXv Z vn vl) {v : Nat} (hl : v < vn) : Z.2.2.1 (70 + 4 * v) 3 = some (73 + 4 * v) := (h.1 v hl).2.2.2.2.2.2.2.2.1
theorem zV_a3 {Z : jZ} {vn : Nat} {vl : Nat → Nat} (h : zXv Z vn vl) {v : Nat} (hl : v < vn) : Z.2.1 (73 + 4 * v) = (10, 256) := (h.1 v hl).2.2.2.2.2.2.2.2.2