section JR
variable {l : Launch} {M : jM} {sc : Nat × (Nat → Int32)} {Qf : jQ} {pc : Nat} {lv : List (Option Value)} {st : List Value} {Z : jZ} {D : jD} {c9 s9 : Nat}

theorem ja_iconst {n : Int} {v : Int32}  (d : decode M.2.1 pc = .ok (.iconst n, 1)) (hv : Int32.ofInt n = v) (k : ja_A l M sc Qf (pc + 1) lv (.int v :: st) Z D c9 s9) : ja_A l M sc Qf pc lv st Z D c9 s9 := by
  intro p e s m args below meth c G tc ad0 L0 ad H locs ls C I hl hs
  exact lv_iconst C.1.1 C.1.2.1 d hv (k p e s m args below meth c G tc ad0 L0 ad H locs ls C I hl (ja_osc (ja_oki _) hs))

theorem ja_bipush {n : Int} {v : Int32}  (d : decode M.2.1 pc = .ok (.bipush n, 2)) (hv : (Int8.ofInt n).toInt32 = v) (k : ja_A l M sc Qf (pc + 2) lv (.int v :: st) Z D c9 s9) : ja_A l M sc Qf pc lv st Z D c9 s9 := by
  intro p e s m args below meth c G tc ad0 L0 ad H locs ls C I hl hs
  exact lv_bipush C.1.1 C.1.2.1 d hv (k p e s m args below meth c G tc ad0 L0 ad H locs ls C I hl (ja_osc (ja_oki _) hs))

theorem ja_sipush {n : Int} {v : Int32}  (d : decode M.2.1 pc = .ok (.sipush n, 3)) (hv : (Int16.ofInt n).toInt32 = v) (k : ja_A l M sc Qf (pc + 3) lv (.int v :: st) Z D c9 s9) : ja_A l M sc Qf pc lv st Z D c9 s9 := by
  intro p e s m args below meth c G tc ad0 L0 ad H locs ls C I hl hs
  exact lv_sipush C.1.1 C.1.2.1 d hv (k p e s m args below meth c G tc ad0 L0 ad H locs ls C I hl (ja_osc (ja_oki _) hs))

theorem ja_lconst {n : Fin 2} {v : Int64}  (d : decode M.2.1 pc = .ok (.lconst n, 1)) (hv : Int64.ofNat (n : Nat) = v) (k : ja_A l M sc Qf (pc + 1) lv (.long v :: st) Z D c9 s9) : ja_A l M sc Qf pc lv st Z D c9 s9 := by
  intro p e s m args below meth c G tc ad0 L0 ad H locs ls C I hl hs
  exact lv_lconst C.1.1 C.1.2.1 d hv (k p e s m args below meth c G tc ad0 L0 ad H locs ls C I hl (ja_osc (ja_okl _) hs))

theorem ja_fconst0  (d : decode M.2.1 pc = .ok (.fconst 0, 1))  (k : ja_A l M sc Qf (pc + 1) lv (.float FP.fconst0 :: st) Z D c9 s9) : ja_A l M sc Qf pc lv st Z D c9 s9 := by
  intro p e s m args below meth c G tc ad0 L0 ad H locs ls C I hl hs
  exact lv_fconst0 C.1.1 C.1.2.1 d (k p e s m args below meth c G tc ad0 L0 ad H locs ls C I hl (ja_osc (ja_okf _) hs))

theorem ja_dconst0  (d : decode M.2.1 pc = .ok (.dconst 0, 1))  (k : ja_A l M sc Qf (pc + 1) lv (.double FP.dconst0 :: st) Z D c9 s9) : ja_A l M sc Qf pc lv st Z D c9 s9 := by
  intro p e s m args below meth c G tc ad0 L0 ad H locs ls C I hl hs
  exact lv_dconst0 C.1.1 C.1.2.1 d (k p e s m args below meth c G tc ad0 L0 ad H locs ls C I hl (ja_osc (ja_okd _) hs))

theorem ja_null  (d : decode M.2.1 pc = .ok (.aconst_null, 1))  (k : ja_A l M sc Qf (pc + 1) lv (.null :: st) Z D c9 s9) : ja_A l M sc Qf pc lv st Z D c9 s9 := by
  intro p e s m args below meth c G tc ad0 L0 ad H locs ls C I hl hs
  exact lv_null C.1.1 C.1.2.1 d (k p e s m args below meth c G tc ad0 L0 ad H locs ls C I hl (ja_osc ja_okn hs))

theorem ja_ldcf {v : UInt32} {i : Nat}  (d : decode M.2.1 pc = .ok (.ldc i, 2)) (hw : Cond.constantFloat M.1.cls i v ∈ ja_T) (k : ja_A l M sc Qf (pc + 2) lv (.float v :: st) Z D c9 s9) : ja_A l M sc Qf pc lv st Z D c9 s9 := by
  intro p e s m args below meth c G tc ad0 L0 ad H locs ls C I hl hs
  exact lv_ldcf C.1.1 C.1.2.1 (own := M.1.cls) C.1.2.2.2.1 (C.1.2.2.2.2 _ hw) d (k p e s m args below meth c G tc ad0 L0 ad H locs ls C I hl (ja_osc (ja_okf _) hs))

theorem ja_iload_n {n : Fin 4} {i : Nat} {x : Int32}  (d : decode M.2.1 pc = .ok (.iload_n n, 1)) (hi : (n : Nat) = i) (h : ja_get lv i = some (.int x)) (k : ja_A l M sc Qf (pc + 1) lv (.int x :: st) Z D c9 s9) : ja_A l M sc Qf pc lv st Z D c9 s9 := by
  intro p e s m args below meth c G tc ad0 L0 ad H locs ls C I hl hs
  exact lv_iload_n C.1.1 C.1.2.1 d hi (ja_lget hl h) (k p e s m args below meth c G tc ad0 L0 ad H locs ls C I hl (ja_osc (ja_oki _) hs))

theorem ja_iload {i : Nat} {x : Int32}  (d : decode M.2.1 pc = .ok (.iload i, 2)) (h : ja_get lv i = some (.int x)) (k : ja_A l M sc Qf (pc + 2) lv (.int x :: st) Z D c9 s9) : ja_A l M sc Qf pc lv st Z D c9 s9 := by
  intro p e s m args below meth c G tc ad0 L0 ad H locs ls C I hl hs
  exact lv_iload C.1.1 C.1.2.1 d (ja_lget hl h) (k p e s m args below meth c G tc ad0 L0 ad H locs ls C I hl (ja_osc (ja_oki _) hs))

theorem ja_lload_n {n : Fin 4} {i : Nat} {x : Int64}  (d : decode M.2.1 pc = .ok (.lload_n n, 1)) (hi : (n : Nat) = i) (h : ja_get lv i = some (.long x)) (k : ja_A l M sc Qf (pc + 1) lv (.long x :: st) Z D c9 s9) : ja_A l M sc Qf pc lv st Z D c9 s9 := by
  intro p e s m args below meth c G tc ad0 L0 ad H locs ls C I hl hs
  exact lv_lload_n C.1.1 C.1.2.1 d hi (ja_lget hl h) (k p e s m args below meth c G tc ad0 L0 ad H locs ls C I hl (ja_osc (ja_okl _) hs))

theorem ja_lload {i : Nat} {x : Int64}  (d : decode M.2.1 pc = .ok (.lload i, 2)) (h : ja_get lv i = some (.long x)) (k : ja_A l M sc Qf (pc + 2) lv (.long x :: st) Z D c9 s9) : ja_A l M sc Qf pc lv st Z D c9 s9 := by
  intro p e s m args below meth c G tc ad0 L0 ad H locs ls C I hl hs
  exact lv_lload C.1.1 C.1.2.1 d (ja_lget hl h) (k p e s m args below meth c G tc ad0 L0 ad H locs ls C I hl (ja_osc (ja_okl _) hs))

theorem ja_fload_n {n : Fin 4} {i : Nat} {x : UInt32}  (d : decode M.2.1 pc = .ok (.fload_n n, 1)) (hi : (n : Nat) = i) (h : ja_get lv i = some (.float x)) (k : ja_A l M sc Qf (pc + 1) lv (.float x :: st) Z D c9 s9) : ja_A l M sc Qf pc lv st Z D c9 s9 := by
  intro p e s m args below meth c G tc ad0 L0 ad H locs ls C I hl hs
  exact lv_fload_n C.1.1 C.1.2.1 d hi (ja_lget hl h) (k p e s m args below meth c G tc ad0 L0 ad H locs ls C I hl (ja_osc (ja_okf _) hs))

theorem ja_fload {i : Nat} {x : UInt32}  (d : decode M.2.1 pc = .ok (.fload i, 2)) (h : ja_get lv i = some (.float x)) (k : ja_A l M sc Qf (pc + 2) lv (.float x :: st) Z D c9 s9) : ja_A l M sc Qf pc lv st Z D c9 s9 := by
  intro p e s m args below meth c G tc ad0 L0 ad H locs ls C I hl hs
  exact lv_fload C.1.1 C.1.2.1 d (ja_lget hl h) (k p e s m args below meth c G tc ad0 L0 ad H locs ls C I hl (ja_osc (ja_okf _) hs))

theorem ja_dload_n {n : Fin 4} {i : Nat} {x : UInt64}  (d : decode M.2.1 pc = .ok (.dload_n n, 1)) (hi : (n : Nat) = i) (h : ja_get lv i = some (.double x)) (k : ja_A l M sc Qf (pc + 1) lv (.double x :: st) Z D c9 s9) : ja_A l M sc Qf pc lv st Z D c9 s9 := by
  intro p e s m args below meth c G tc ad0 L0 ad H locs ls C I hl hs
  exact lv_dload_n C.1.1 C.1.2.1 d hi (ja_lget hl h) (k p e s m args below meth c G tc ad0 L0 ad H locs ls C I hl (ja_osc (ja_okd _) hs))

theorem ja_dload {i : Nat} {x : UInt64}  (d : decode M.2.1 pc = .ok (.dload i, 2)) (h : ja_get lv i = some (.double x)) (k : ja_A l M sc Qf (pc + 2) lv (.double x :: st) Z D c9 s9) : ja_A l M sc Qf pc lv st Z D c9 s9 := by
  intro p e s m args below meth c G tc ad0 L0 ad H locs ls C I hl hs
  exact lv_dload C.1.1 C.1.2.1 d (ja_lget hl h) (k p e s m args below meth c G tc ad0 L0 ad H locs ls C I hl (ja_osc (ja_okd _) hs))

theorem ja_aload_n {n : Fin 4} {i x : Nat}  (d : decode M.2.1 pc = .ok (.aload_n n, 1)) (hi : (n : Nat) = i) (h : ja_get lv i = some (.ref x)) (k : ja_A l M sc Qf (pc + 1) lv (.ref x :: st) Z D c9 s9) : ja_A l M sc Qf pc lv st Z D c9 s9 := by
  intro p e s m args below meth c G tc ad0 L0 ad H locs ls C I hl hs
  exact lv_aload_n C.1.1 C.1.2.1 d hi (ja_lget hl h) (k p e s m args below meth c G tc ad0 L0 ad H locs ls C I hl (ja_osc (ja_lgok hl h) hs))

theorem ja_aload {i x : Nat}  (d : decode M.2.1 pc = .ok (.aload i, 2)) (h : ja_get lv i = some (.ref x)) (k : ja_A l M sc Qf (pc + 2) lv (.ref x :: st) Z D c9 s9) : ja_A l M sc Qf pc lv st Z D c9 s9 := by
  intro p e s m args below meth c G tc ad0 L0 ad H locs ls C I hl hs
  exact lv_aload C.1.1 C.1.2.1 d (ja_lget hl h) (k p e s m args below meth c G tc ad0 L0 ad H locs ls C I hl (ja_osc (ja_lgok hl h) hs))

theorem ja_aload_nN {n : Fin 4} {i : Nat}  (d : decode M.2.1 pc = .ok (.aload_n n, 1)) (hi : (n : Nat) = i) (h : ja_get lv i = some .null) (k : ja_A l M sc Qf (pc + 1) lv (.null :: st) Z D c9 s9) : ja_A l M sc Qf pc lv st Z D c9 s9 := by
  intro p e s m args below meth c G tc ad0 L0 ad H locs ls C I hl hs
  exact lv_aload_nN C.1.1 C.1.2.1 d hi (ja_lget hl h) (k p e s m args below meth c G tc ad0 L0 ad H locs ls C I hl (ja_osc ja_okn hs))

theorem ja_aloadN {i : Nat}  (d : decode M.2.1 pc = .ok (.aload i, 2)) (h : ja_get lv i = some .null) (k : ja_A l M sc Qf (pc + 2) lv (.null :: st) Z D c9 s9) : ja_A l M sc Qf pc lv st Z D c9 s9 := by
  intro p e s m args below meth c G tc ad0 L0 ad H locs ls C I hl hs
  exact lv_aloadN C.1.1 C.1.2.1 d (ja_lget hl h) (k p e s m args below meth c G tc ad0 L0 ad H locs ls C I hl (ja_osc ja_okn hs))

theorem ja_istore_n {n : Fin 4} {i : Nat} {x : Int32}  (d : decode M.2.1 pc = .ok (.istore_n n, 1)) (hi : (n : Nat) = i) (hn : ja_nc lv i = true) (hb : i < lv.length) (k : ja_A l M sc Qf (pc + 1) (lv.set i (some (.int x))) st Z D c9 s9) : ja_A l M sc Qf pc lv (.int x :: st) Z D c9 s9 := by
  intro p e s m args below meth c G tc ad0 L0 ad H locs ls C I hl hs
  exact lv_istore_n C.1.1 C.1.2.1 d hi hl.1 (by rw [← hl.2.2]; exact hb) rfl (fun ls2 h2 => k p e s m args below meth c G tc ad0 L0 ad H locs ls2 C I (ja_lset1 hl (v := .int x) rfl hn (ja_oki _) hb h2) (ja_ost hs))

theorem ja_lstore_n {n : Fin 4} {i : Nat} {x : Int64}  (d : decode M.2.1 pc = .ok (.lstore_n n, 1)) (hi : (n : Nat) = i) (hn : ja_nc lv i = true) (hb : i + 1 < lv.length) (k : ja_A l M sc Qf (pc + 1) ((lv.set i (some (.long x))).set (i + 1) none) st Z D c9 s9) : ja_A l M sc Qf pc lv (.long x :: st) Z D c9 s9 := by
  intro p e s m args below meth c G tc ad0 L0 ad H locs ls C I hl hs
  exact lv_lstore_n C.1.1 C.1.2.1 d hi hl.1 (by rw [← hl.2.2]; exact hb) rfl (fun ls2 h2 => k p e s m args below meth c G tc ad0 L0 ad H locs ls2 C I (ja_lset2 hl (v := .long x) rfl hn (ja_okl _) (Nat.lt_of_succ_lt hb) h2) (ja_ost hs))

theorem ja_fstore_n {n : Fin 4} {i : Nat} {x : UInt32}  (d : decode M.2.1 pc = .ok (.fstore_n n, 1)) (hi : (n : Nat) = i) (hn : ja_nc lv i = true) (hb : i < lv.length) (k : ja_A l M sc Qf (pc + 1) (lv.set i (some (.float x))) st Z D c9 s9) : ja_A l M sc Qf pc lv (.float x :: st) Z D c9 s9 := by
  intro p e s m args below meth c G tc ad0 L0 ad H locs ls C I hl hs
  exact lv_fstore_n C.1.1 C.1.2.1 d hi hl.1 (by rw [← hl.2.2]; exact hb) rfl (fun ls2 h2 => k p e s m args below meth c G tc ad0 L0 ad H locs ls2 C I (ja_lset1 hl (v := .float x) rfl hn (ja_okf _) hb h2) (ja_ost hs))

theorem ja_dstore_n {n : Fin 4} {i : Nat} {x : UInt64}  (d : decode M.2.1 pc = .ok (.dstore_n n, 1)) (hi : (n : Nat) = i) (hn : ja_nc lv i = true) (hb : i + 1 < lv.length) (k : ja_A l M sc Qf (pc + 1) ((lv.set i (some (.double x))).set (i + 1) none) st Z D c9 s9) : ja_A l M sc Qf pc lv (.double x :: st) Z D c9 s9 := by
  intro p e s m args below meth c G tc ad0 L0 ad H locs ls C I hl hs
  exact lv_dstore_n C.1.1 C.1.2.1 d hi hl.1 (by rw [← hl.2.2]; exact hb) rfl (fun ls2 h2 => k p e s m args below meth c G tc ad0 L0 ad H locs ls2 C I (ja_lset2 hl (v := .double x) rfl hn (ja_okd _) (Nat.lt_of_succ_lt hb) h2) (ja_ost hs))

theorem ja_astore_n {n : Fin 4} {i : Nat} {x : Nat}  (d : decode M.2.1 pc = .ok (.astore_n n, 1)) (hi : (n : Nat) = i) (hn : ja_nc lv i = true) (hb : i < lv.length) (k : ja_A l M sc Qf (pc + 1) (lv.set i (some (.ref x))) st Z D c9 s9) : ja_A l M sc Qf pc lv (.ref x :: st) Z D c9 s9 := by
  intro p e s m args below meth c G tc ad0 L0 ad H locs ls C I hl hs
  exact lv_astore_n C.1.1 C.1.2.1 d hi hl.1 (by rw [← hl.2.2]; exact hb) rfl (fun ls2 h2 => k p e s m args below meth c G tc ad0 L0 ad H locs ls2 C I (ja_lset1 hl (v := .ref x) rfl hn (ja_osh hs) hb h2) (ja_ost hs))

theorem ja_astore_nN {n : Fin 4} {i : Nat}  (d : decode M.2.1 pc = .ok (.astore_n n, 1)) (hi : (n : Nat) = i) (hn : ja_nc lv i = true) (hb : i < lv.length) (k : ja_A l M sc Qf (pc + 1) (lv.set i (some (.null))) st Z D c9 s9) : ja_A l M sc Qf pc lv (.null :: st) Z D c9 s9 := by
  intro p e s m args below meth c G tc ad0 L0 ad H locs ls C I hl hs
  exact lv_astore_nN C.1.1 C.1.2.1 d hi hl.1 (by rw [← hl.2.2]; exact hb) rfl (fun ls2 h2 => k p e s m args below meth c G tc ad0 L0 ad H locs ls2 C I (ja_lset1 hl (v := .null) rfl hn ja_okn hb h2) (ja_ost hs))

theorem ja_istore {i : Nat} {x : Int32}  (d : decode M.2.1 pc = .ok (.istore i, 2)) (hn : ja_nc lv i = true) (hb : i < lv.length) (k : ja_A l M sc Qf (pc + 2) (lv.set i (some (.int x))) st Z D c9 s9) : ja_A l M sc Qf pc lv (.int x :: st) Z D c9 s9 := by
  intro p e s m args below meth c G tc ad0 L0 ad H locs ls C I hl hs
  exact lv_istore C.1.1 C.1.2.1 d hl.1 (by rw [← hl.2.2]; exact hb) rfl (fun ls2 h2 => k p e s m args below meth c G tc ad0 L0 ad H locs ls2 C I (ja_lset1 hl (v := .int x) rfl hn (ja_oki _) hb h2) (ja_ost hs))

theorem ja_lstore {i : Nat} {x : Int64}  (d : decode M.2.1 pc = .ok (.lstore i, 2)) (hn : ja_nc lv i = true) (hb : i + 1 < lv.length) (k : ja_A l M sc Qf (pc + 2) ((lv.set i (some (.long x))).set (i + 1) none) st Z D c9 s9) : ja_A l M sc Qf pc lv (.long x :: st) Z D c9 s9 := by
  intro p e s m args below meth c G tc ad0 L0 ad H locs ls C I hl hs
  exact lv_lstore C.1.1 C.1.2.1 d hl.1 (by rw [← hl.2.2]; exact hb) rfl (fun ls2 h2 => k p e s m args below meth c G tc ad0 L0 ad H locs ls2 C I (ja_lset2 hl (v := .long x) rfl hn (ja_okl _) (Nat.lt_of_succ_lt hb) h2) (ja_ost hs))

theorem ja_fstore {i : Nat} {x : UInt32}  (d : decode M.2.1 pc = .ok (.fstore i, 2)) (hn : ja_nc lv i = true) (hb : i < lv.length) (k : ja_A l M sc Qf (pc + 2) (lv.set i (some (.float x))) st Z D c9 s9) : ja_A l M sc Qf pc lv (.float x :: st) Z D c9 s9 := by
  intro p e s m args below meth c G tc ad0 L0 ad H locs ls C I hl hs
  exact lv_fstore C.1.1 C.1.2.1 d hl.1 (by rw [← hl.2.2]; exact hb) rfl (fun ls2 h2 => k p e s m args below meth c G tc ad0 L0 ad H locs ls2 C I (ja_lset1 hl (v := .float x) rfl hn (ja_okf _) hb h2) (ja_ost hs))

theorem ja_dstore {i : Nat} {x : UInt64}  (d : decode M.2.1 pc = .ok (.dstore i, 2)) (hn : ja_nc lv i = true) (hb : i + 1 < lv.length) (k : ja_A l M sc Qf (pc + 2) ((lv.set i (some (.double x))).set (i + 1) none) st Z D c9 s9) : ja_A l M sc Qf pc lv (.double x :: st) Z D c9 s9 := by
  intro p e s m args below meth c G tc ad0 L0 ad H locs ls C I hl hs
  exact lv_dstore C.1.1 C.1.2.1 d hl.1 (by rw [← hl.2.2]; exact hb) rfl (fun ls2 h2 => k p e s m args below meth c G tc ad0 L0 ad H locs ls2 C I (ja_lset2 hl (v := .double x) rfl hn (ja_okd _) (Nat.lt_of_succ_lt hb) h2) (ja_ost hs))

theorem ja_astore {i : Nat} {x : Nat}  (d : decode M.2.1 pc = .ok (.astore i, 2)) (hn : ja_nc lv i = true) (hb : i < lv.length) (k : ja_A l M sc Qf (pc + 2) (lv.set i (some (.ref x))) st Z D c9 s9) : ja_A l M sc Qf pc lv (.ref x :: st) Z D c9 s9 := by
  intro p e s m args below meth c G tc ad0 L0 ad H locs ls C I hl hs
  exact lv_astore C.1.1 C.1.2.1 d hl.1 (by rw [← hl.2.2]; exact hb) rfl (fun ls2 h2 => k p e s m args below meth c G tc ad0 L0 ad H locs ls2 C I (ja_lset1 hl (v := .ref x) rfl hn (ja_osh hs) hb h2) (ja_ost hs))

theorem ja_astoreN {i : Nat}  (d : decode M.2.1 pc = .ok (.astore i, 2)) (hn : ja_nc lv i = true) (hb : i < lv.length) (k : ja_A l M sc Qf (pc + 2) (lv.set i (some (.null))) st Z D c9 s9) : ja_A l M sc Qf pc lv (.null :: st) Z D c9 s9 := by
  intro p e s m args below meth c G tc ad0 L0 ad H locs ls C I hl hs
  exact lv_astoreN C.1.1 C.1.2.1 d hl.1 (by rw [← hl.2.2]; exact hb) rfl (fun ls2 h2 => k p e s m args below meth c G tc ad0 L0 ad H locs ls2 C I (ja_lset1 hl (v := .null) rfl hn ja_okn hb h2) (ja_ost hs))

theorem ja_iinc {i : Nat} {n : Int} {x v : Int32} (d : decode M.2.1 pc = .ok (.iinc i n, 3)) (h : ja_get lv i = some (.int x)) (hv : x + Int32.ofInt n = v) (hn : ja_nc lv i = true) (hb : i < lv.length) (k : ja_A l M sc Qf (pc + 3) (lv.set i (some (.int v))) st Z D c9 s9) : ja_A l M sc Qf pc lv st Z D c9 s9 := by
  intro p e s m args below meth c G tc ad0 L0 ad H locs ls C I hl hs
  have h2 : lv[i]? = some (some (.int x)) := by
    unfold ja_get at h
    split at h
    · next w hw => rw [hw]; cases h; rfl
    · cases h
  obtain ⟨k9, hk9⟩ := List.getElem?_of_mem ((ja_prs_mem (ad := ad) lv 0 (i, .int x)).mpr ⟨i, .int x, (Nat.zero_add i).symm, h2, rfl⟩)
  exact lv_iinc C.1.1 C.1.2.1 d hl.1 hk9 hv (by rw [← hl.2.2]; exact hb) rfl (fun ls2 h3 => k p e s m args below meth c G tc ad0 L0 ad H locs ls2 C I (ja_lset1 hl (v := .int v) rfl hn (ja_oki _) hb h3) hs)

theorem ja_iadd {x y : Int32}  (d : decode M.2.1 pc = .ok (.iadd, 1))  (k : ja_A l M sc Qf (pc + 1) lv (.int (x + y) :: st) Z D c9 s9) : ja_A l M sc Qf pc lv (.int y :: .int x :: st) Z D c9 s9 := by
  intro p e s m args below meth c G tc ad0 L0 ad H locs ls C I hl hs
  exact lv_iadd C.1.1 C.1.2.1 d  (k p e s m args below meth c G tc ad0 L0 ad H locs ls C I hl (ja_osc (ja_oki _) (ja_ost (ja_ost hs))))

theorem ja_isub {x y : Int32}  (d : decode M.2.1 pc = .ok (.isub, 1))  (k : ja_A l M sc Qf (pc + 1) lv (.int (x - y) :: st) Z D c9 s9) : ja_A l M sc Qf pc lv (.int y :: .int x :: st) Z D c9 s9 := by
  intro p e s m args below meth c G tc ad0 L0 ad H locs ls C I hl hs
  exact lv_isub C.1.1 C.1.2.1 d  (k p e s m args below meth c G tc ad0 L0 ad H locs ls C I hl (ja_osc (ja_oki _) (ja_ost (ja_ost hs))))

theorem ja_imul {x y : Int32}  (d : decode M.2.1 pc = .ok (.imul, 1))  (k : ja_A l M sc Qf (pc + 1) lv (.int (x * y) :: st) Z D c9 s9) : ja_A l M sc Qf pc lv (.int y :: .int x :: st) Z D c9 s9 := by
  intro p e s m args below meth c G tc ad0 L0 ad H locs ls C I hl hs
  exact lv_imul C.1.1 C.1.2.1 d  (k p e s m args below meth c G tc ad0 L0 ad H locs ls C I hl (ja_osc (ja_oki _) (ja_ost (ja_ost hs))))

theorem ja_iand {x y : Int32}  (d : decode M.2.1 pc = .ok (.iand, 1))  (k : ja_A l M sc Qf (pc + 1) lv (.int (x &&& y) :: st) Z D c9 s9) : ja_A l M sc Qf pc lv (.int y :: .int x :: st) Z D c9 s9 := by
  intro p e s m args below meth c G tc ad0 L0 ad H locs ls C I hl hs
  exact lv_iand C.1.1 C.1.2.1 d  (k p e s m args below meth c G tc ad0 L0 ad H locs ls C I hl (ja_osc (ja_oki _) (ja_ost (ja_ost hs))))

theorem ja_idiv {x y : Int32}  (d : decode M.2.1 pc = .ok (.idiv, 1)) (hne : ¬ y = 0) (k : ja_A l M sc Qf (pc + 1) lv (.int (x / y) :: st) Z D c9 s9) : ja_A l M sc Qf pc lv (.int y :: .int x :: st) Z D c9 s9 := by
  intro p e s m args below meth c G tc ad0 L0 ad H locs ls C I hl hs
  exact lv_idiv C.1.1 C.1.2.1 d hne (k p e s m args below meth c G tc ad0 L0 ad H locs ls C I hl (ja_osc (ja_oki _) (ja_ost (ja_ost hs))))

theorem ja_irem {x y : Int32}  (d : decode M.2.1 pc = .ok (.irem, 1)) (hne : ¬ y = 0) (k : ja_A l M sc Qf (pc + 1) lv (.int (x - x / y * y) :: st) Z D c9 s9) : ja_A l M sc Qf pc lv (.int y :: .int x :: st) Z D c9 s9 := by
  intro p e s m args below meth c G tc ad0 L0 ad H locs ls C I hl hs
  exact lv_irem C.1.1 C.1.2.1 d hne (k p e s m args below meth c G tc ad0 L0 ad H locs ls C I hl (ja_osc (ja_oki _) (ja_ost (ja_ost hs))))

theorem ja_ladd {x y : Int64}  (d : decode M.2.1 pc = .ok (.ladd, 1))  (k : ja_A l M sc Qf (pc + 1) lv (.long (x + y) :: st) Z D c9 s9) : ja_A l M sc Qf pc lv (.long y :: .long x :: st) Z D c9 s9 := by
  intro p e s m args below meth c G tc ad0 L0 ad H locs ls C I hl hs
  exact lv_ladd C.1.1 C.1.2.1 d  (k p e s m args below meth c G tc ad0 L0 ad H locs ls C I hl (ja_osc (ja_okl _) (ja_ost (ja_ost hs))))

theorem ja_lmul {x y : Int64}  (d : decode M.2.1 pc = .ok (.lmul, 1))  (k : ja_A l M sc Qf (pc + 1) lv (.long (x * y) :: st) Z D c9 s9) : ja_A l M sc Qf pc lv (.long y :: .long x :: st) Z D c9 s9 := by
  intro p e s m args below meth c G tc ad0 L0 ad H locs ls C I hl hs
  exact lv_lmul C.1.1 C.1.2.1 d  (k p e s m args below meth c G tc ad0 L0 ad H locs ls C I hl (ja_osc (ja_okl _) (ja_ost (ja_ost hs))))

theorem ja_ldiv {x y : Int64}  (d : decode M.2.1 pc = .ok (.ldiv, 1)) (hne : ¬ y = 0) (k : ja_A l M sc Qf (pc + 1) lv (.long (x / y) :: st) Z D c9 s9) : ja_A l M sc Qf pc lv (.long y :: .long x :: st) Z D c9 s9 := by
  intro p e s m args below meth c G tc ad0 L0 ad H locs ls C I hl hs
  exact lv_ldiv C.1.1 C.1.2.1 d hne (k p e s m args below meth c G tc ad0 L0 ad H locs ls C I hl (ja_osc (ja_okl _) (ja_ost (ja_ost hs))))

theorem ja_lcmp {x y : Int64}  (d : decode M.2.1 pc = .ok (.lcmp, 1))  (k : ja_A l M sc Qf (pc + 1) lv (.int (lg_cmp x y) :: st) Z D c9 s9) : ja_A l M sc Qf pc lv (.long y :: .long x :: st) Z D c9 s9 := by
  intro p e s m args below meth c G tc ad0 L0 ad H locs ls C I hl hs
  exact W.lcmp C.1.1 C.1.2.1 d  (k p e s m args below meth c G tc ad0 L0 ad H locs ls C I hl (ja_osc (ja_oki _) (ja_ost (ja_ost hs))))

theorem ja_fdiv {x y : UInt32}  (d : decode M.2.1 pc = .ok (.fdiv, 1)) (hne : vf_n32 (FP.fdiv x y)) (k : ja_A l M sc Qf (pc + 1) lv (.float (FP.fdiv x y) :: st) Z D c9 s9) : ja_A l M sc Qf pc lv (.float y :: .float x :: st) Z D c9 s9 := by
  intro p e s m args below meth c G tc ad0 L0 ad H locs ls C I hl hs
  exact lv_fdiv C.1.1 C.1.2.1 d hne (k p e s m args below meth c G tc ad0 L0 ad H locs ls C I hl (ja_osc (ja_okf _) (ja_ost (ja_ost hs))))

theorem ja_ddiv {x y : UInt64}  (d : decode M.2.1 pc = .ok (.ddiv, 1)) (hne : vf_n64 (FP.ddiv x y)) (k : ja_A l M sc Qf (pc + 1) lv (.double (FP.ddiv x y) :: st) Z D c9 s9) : ja_A l M sc Qf pc lv (.double y :: .double x :: st) Z D c9 s9 := by
  intro p e s m args below meth c G tc ad0 L0 ad H locs ls C I hl hs
  exact lv_ddiv C.1.1 C.1.2.1 d hne (k p e s m args below meth c G tc ad0 L0 ad H locs ls C I hl (ja_osc (ja_okd _) (ja_ost (ja_ost hs))))

theorem ja_dcmp {x y : UInt64} {op : CmpOp}  (d : decode M.2.1 pc = .ok (.dcmp op, 1))  (k : ja_A l M sc Qf (pc + 1) lv (.int (Op.cmpValue (FP.dcmp x y) op) :: st) Z D c9 s9) : ja_A l M sc Qf pc lv (.double y :: .double x :: st) Z D c9 s9 := by
  intro p e s m args below meth c G tc ad0 L0 ad H locs ls C I hl hs
  exact lv_dcmp C.1.1 C.1.2.1 d (k p e s m args below meth c G tc ad0 L0 ad H locs ls C I hl (ja_osc (ja_oki _) (ja_ost (ja_ost hs))))

theorem ja_fcmp {x y : UInt32} {op : CmpOp}  (d : decode M.2.1 pc = .ok (.fcmp op, 1))  (k : ja_A l M sc Qf (pc + 1) lv (.int (Op.cmpValue (FP.fcmp x y) op) :: st) Z D c9 s9) : ja_A l M sc Qf pc lv (.float y :: .float x :: st) Z D c9 s9 := by
  intro p e s m args below meth c G tc ad0 L0 ad H locs ls C I hl hs
  exact lv_fcmp C.1.1 C.1.2.1 d (k p e s m args below meth c G tc ad0 L0 ad H locs ls C I hl (ja_osc (ja_oki _) (ja_ost (ja_ost hs))))

theorem ja_i2l {x : Int32} {v : Int64}  (d : decode M.2.1 pc = .ok (.i2l, 1)) (hv : x.toInt64 = v) (k : ja_A l M sc Qf (pc + 1) lv (.long (v) :: st) Z D c9 s9) : ja_A l M sc Qf pc lv (.int x :: st) Z D c9 s9 := by
  intro p e s m args below meth c G tc ad0 L0 ad H locs ls C I hl hs
  exact lv_i2l C.1.1 C.1.2.1 d hv (k p e s m args below meth c G tc ad0 L0 ad H locs ls C I hl (ja_osc (ja_okl _) (ja_ost hs)))

theorem ja_l2i {x : Int64} {v : Int32}  (d : decode M.2.1 pc = .ok (.l2i, 1)) (hv : x.toInt32 = v) (k : ja_A l M sc Qf (pc + 1) lv (.int (v) :: st) Z D c9 s9) : ja_A l M sc Qf pc lv (.long x :: st) Z D c9 s9 := by
  intro p e s m args below meth c G tc ad0 L0 ad H locs ls C I hl hs
  exact lv_l2i C.1.1 C.1.2.1 d hv (k p e s m args below meth c G tc ad0 L0 ad H locs ls C I hl (ja_osc (ja_oki _) (ja_ost hs)))

theorem ja_i2c {x : Int32} {v : Int32}  (d : decode M.2.1 pc = .ok (.i2c, 1)) (hv : (x.toUInt32 % 65536).toInt32 = v) (k : ja_A l M sc Qf (pc + 1) lv (.int (v) :: st) Z D c9 s9) : ja_A l M sc Qf pc lv (.int x :: st) Z D c9 s9 := by
  intro p e s m args below meth c G tc ad0 L0 ad H locs ls C I hl hs
  exact lv_i2c C.1.1 C.1.2.1 d hv (k p e s m args below meth c G tc ad0 L0 ad H locs ls C I hl (ja_osc (ja_oki _) (ja_ost hs)))

theorem ja_i2f {x : Int32}  (d : decode M.2.1 pc = .ok (.i2f, 1))  (k : ja_A l M sc Qf (pc + 1) lv (.float (FP.i2f x) :: st) Z D c9 s9) : ja_A l M sc Qf pc lv (.int x :: st) Z D c9 s9 := by
  intro p e s m args below meth c G tc ad0 L0 ad H locs ls C I hl hs
  exact lv_i2f C.1.1 C.1.2.1 d  (k p e s m args below meth c G tc ad0 L0 ad H locs ls C I hl (ja_osc (ja_okf _) (ja_ost hs)))

theorem ja_i2d {x : Int32}  (d : decode M.2.1 pc = .ok (.i2d, 1))  (k : ja_A l M sc Qf (pc + 1) lv (.double (FP.i2d x) :: st) Z D c9 s9) : ja_A l M sc Qf pc lv (.int x :: st) Z D c9 s9 := by
  intro p e s m args below meth c G tc ad0 L0 ad H locs ls C I hl hs
  exact lv_i2d C.1.1 C.1.2.1 d  (k p e s m args below meth c G tc ad0 L0 ad H locs ls C I hl (ja_osc (ja_okd _) (ja_ost hs)))

theorem ja_f2d {x : UInt32}  (d : decode M.2.1 pc = .ok (.f2d, 1)) (hne : vf_n64 (FP.f2d x)) (k : ja_A l M sc Qf (pc + 1) lv (.double (FP.f2d x) :: st) Z D c9 s9) : ja_A l M sc Qf pc lv (.float x :: st) Z D c9 s9 := by
  intro p e s m args below meth c G tc ad0 L0 ad H locs ls C I hl hs
  exact lv_f2d C.1.1 C.1.2.1 d hne (k p e s m args below meth c G tc ad0 L0 ad H locs ls C I hl (ja_osc (ja_okd _) (ja_ost hs)))

theorem ja_dup {v : Value}  (d : decode M.2.1 pc = .ok (.dup, 1)) (hv : v.category = 1) (k : ja_A l M sc Qf (pc + 1) lv (v :: v :: st) Z D c9 s9) : ja_A l M sc Qf pc lv (v :: st) Z D c9 s9 := by
  intro p e s m args below meth c G tc ad0 L0 ad H locs ls C I hl hs
  exact lv_dup C.1.1 C.1.2.1 d (by rw [ja_cvc]; exact hv) (k p e s m args below meth c G tc ad0 L0 ad H locs ls C I hl (ja_osc (ja_osh hs) hs))

theorem ja_dup2 {v w : Value}  (d : decode M.2.1 pc = .ok (.dup2, 1)) (hv : v.category = 1) (hw : w.category = 1) (k : ja_A l M sc Qf (pc + 1) lv (v :: w :: v :: w :: st) Z D c9 s9) : ja_A l M sc Qf pc lv (v :: w :: st) Z D c9 s9 := by
  intro p e s m args below meth c G tc ad0 L0 ad H locs ls C I hl hs
  exact lv_dup2_11 C.1.1 C.1.2.1 d (by rw [ja_cvc]; exact hv) (by rw [ja_cvc]; exact hw) (k p e s m args below meth c G tc ad0 L0 ad H locs ls C I hl (ja_osc (ja_osh hs) (ja_osc (ja_osh (ja_ost hs)) hs)))

theorem ja_pop {v : Value}  (d : decode M.2.1 pc = .ok (.pop, 1)) (hv : v.category = 1) (k : ja_A l M sc Qf (pc + 1) lv st Z D c9 s9) : ja_A l M sc Qf pc lv (v :: st) Z D c9 s9 := by
  intro p e s m args below meth c G tc ad0 L0 ad H locs ls C I hl hs
  exact lv_pop C.1.1 C.1.2.1 d (by rw [ja_cvc]; exact hv) (k p e s m args below meth c G tc ad0 L0 ad H locs ls C I hl (ja_ost hs))

theorem ja_goto {off : Int} {tgt : Nat} (d : decode M.2.1 pc = .ok (.goto off, 3)) (ht : (pc : Int) + off = (tgt : Int)) (k : ja_A l M sc Qf tgt lv st Z D c9 s9) : ja_A l M sc Qf pc lv st Z D c9 s9 := by
  intro p e s m args below meth c G tc ad0 L0 ad H locs ls C I hl hs
  exact lv_goto C.1.1 C.1.2.1 d ht (k p e s m args below meth c G tc ad0 L0 ad H locs ls C I hl hs)
theorem ja_ifnn {x : Nat} {off : Int} {tgt : Nat} (d : decode M.2.1 pc = .ok (.ifnonnull off, 3)) (ht : (pc : Int) + off = (tgt : Int)) (k : ja_A l M sc Qf tgt lv st Z D c9 s9) : ja_A l M sc Qf pc lv (.ref x :: st) Z D c9 s9 := by
  intro p e s m args below meth c G tc ad0 L0 ad H locs ls C I hl hs
  exact lv_ifnonnull C.1.1 C.1.2.1 d ht (k p e s m args below meth c G tc ad0 L0 ad H locs ls C I hl (ja_ost hs))
theorem ja_ifnnN {off : Int} (d : decode M.2.1 pc = .ok (.ifnonnull off, 3)) (k : ja_A l M sc Qf (pc + 3) lv st Z D c9 s9) : ja_A l M sc Qf pc lv (.null :: st) Z D c9 s9 := by
  intro p e s m args below meth c G tc ad0 L0 ad H locs ls C I hl hs
  exact lv_ifnonnullN C.1.1 C.1.2.1 d (k p e s m args below meth c G tc ad0 L0 ad H locs ls C I hl (ja_ost hs))

theorem ja_if_eq {x : Int32} {off : Int} {tgt : Nat} (d : decode M.2.1 pc = .ok (.ifCond .eq off, 3)) (ht : (pc : Int) + off = (tgt : Int)) (kt : x = 0 → ja_A l M sc Qf tgt lv st Z D c9 s9) (kf : ¬ x = 0 → ja_A l M sc Qf (pc + 3) lv st Z D c9 s9) : ja_A l M sc Qf pc lv (.int x :: st) Z D c9 s9 := by
  intro p e s m args below meth c G tc ad0 L0 ad H locs ls C I hl hs
  exact lv_if_eq C.1.1 C.1.2.1 d ht (fun q => kt q p e s m args below meth c G tc ad0 L0 ad H locs ls C I hl (ja_ost hs)) (fun q => kf q p e s m args below meth c G tc ad0 L0 ad H locs ls C I hl (ja_ost hs))

theorem ja_icmp_eq {x y : Int32} {off : Int} {tgt : Nat} (d : decode M.2.1 pc = .ok (.if_icmp .eq off, 3)) (ht : (pc : Int) + off = (tgt : Int)) (kt : x = y → ja_A l M sc Qf tgt lv st Z D c9 s9) (kf : ¬ x = y → ja_A l M sc Qf (pc + 3) lv st Z D c9 s9) : ja_A l M sc Qf pc lv (.int y :: .int x :: st) Z D c9 s9 := by
  intro p e s m args below meth c G tc ad0 L0 ad H locs ls C I hl hs
  exact lv_icmp_eq C.1.1 C.1.2.1 d ht (fun q => kt q p e s m args below meth c G tc ad0 L0 ad H locs ls C I hl (ja_ost (ja_ost hs))) (fun q => kf q p e s m args below meth c G tc ad0 L0 ad H locs ls C I hl (ja_ost (ja_ost hs)))

theorem ja_if_ne {x : Int32} {off : Int} {tgt : Nat} (d : decode M.2.1 pc = .ok (.ifCond .ne off, 3)) (ht : (pc : Int) + off = (tgt : Int)) (kt : ¬ x = 0 → ja_A l M sc Qf tgt lv st Z D c9 s9) (kf : x = 0 → ja_A l M sc Qf (pc + 3) lv st Z D c9 s9) : ja_A l M sc Qf pc lv (.int x :: st) Z D c9 s9 := by
  intro p e s m args below meth c G tc ad0 L0 ad H locs ls C I hl hs
  exact lv_if_ne C.1.1 C.1.2.1 d ht (fun q => kt q p e s m args below meth c G tc ad0 L0 ad H locs ls C I hl (ja_ost hs)) (fun q => kf q p e s m args below meth c G tc ad0 L0 ad H locs ls C I hl (ja_ost hs))

theorem ja_icmp_ne {x y : Int32} {off : Int} {tgt : Nat} (d : decode M.2.1 pc = .ok (.if_icmp .ne off, 3)) (ht : (pc : Int) + off = (tgt : Int)) (kt : ¬ x = y → ja_A l M sc Qf tgt lv st Z D c9 s9) (kf : x = y → ja_A l M sc Qf (pc + 3) lv st Z D c9 s9) : ja_A l M sc Qf pc lv (.int y :: .int x :: st) Z D c9 s9 := by
  intro p e s m args below meth c G tc ad0 L0 ad H locs ls C I hl hs
  exact lv_icmp_ne C.1.1 C.1.2.1 d ht (fun q => kt q p e s m args below meth c G tc ad0 L0 ad H locs ls C I hl (ja_ost (ja_ost hs))) (fun q => kf q p e s m args below meth c G tc ad0 L0 ad H locs ls C I hl (ja_ost (ja_ost hs)))

theorem ja_if_lt {x : Int32} {off : Int} {tgt : Nat} (d : decode M.2.1 pc = .ok (.ifCond .lt off, 3)) (ht : (pc : Int) + off = (tgt : Int)) (kt : x < 0 → ja_A l M sc Qf tgt lv st Z D c9 s9) (kf : ¬ x < 0 → ja_A l M sc Qf (pc + 3) lv st Z D c9 s9) : ja_A l M sc Qf pc lv (.int x :: st) Z D c9 s9 := by
  intro p e s m args below meth c G tc ad0 L0 ad H locs ls C I hl hs
  exact lv_if_lt C.1.1 C.1.2.1 d ht (fun q => kt q p e s m args below meth c G tc ad0 L0 ad H locs ls C I hl (ja_ost hs)) (fun q => kf q p e s m args below meth c G tc ad0 L0 ad H locs ls C I hl (ja_ost hs))

theorem ja_icmp_lt {x y : Int32} {off : Int} {tgt : Nat} (d : decode M.2.1 pc = .ok (.if_icmp .lt off, 3)) (ht : (pc : Int) + off = (tgt : Int)) (kt : x < y → ja_A l M sc Qf tgt lv st Z D c9 s9) (kf : ¬ x < y → ja_A l M sc Qf (pc + 3) lv st Z D c9 s9) : ja_A l M sc Qf pc lv (.int y :: .int x :: st) Z D c9 s9 := by
  intro p e s m args below meth c G tc ad0 L0 ad H locs ls C I hl hs
  exact lv_icmp_lt C.1.1 C.1.2.1 d ht (fun q => kt q p e s m args below meth c G tc ad0 L0 ad H locs ls C I hl (ja_ost (ja_ost hs))) (fun q => kf q p e s m args below meth c G tc ad0 L0 ad H locs ls C I hl (ja_ost (ja_ost hs)))

theorem ja_if_ge {x : Int32} {off : Int} {tgt : Nat} (d : decode M.2.1 pc = .ok (.ifCond .ge off, 3)) (ht : (pc : Int) + off = (tgt : Int)) (kt : 0 ≤ x → ja_A l M sc Qf tgt lv st Z D c9 s9) (kf : ¬ 0 ≤ x → ja_A l M sc Qf (pc + 3) lv st Z D c9 s9) : ja_A l M sc Qf pc lv (.int x :: st) Z D c9 s9 := by
  intro p e s m args below meth c G tc ad0 L0 ad H locs ls C I hl hs
  exact lv_if_ge C.1.1 C.1.2.1 d ht (fun q => kt q p e s m args below meth c G tc ad0 L0 ad H locs ls C I hl (ja_ost hs)) (fun q => kf q p e s m args below meth c G tc ad0 L0 ad H locs ls C I hl (ja_ost hs))

theorem ja_icmp_ge {x y : Int32} {off : Int} {tgt : Nat} (d : decode M.2.1 pc = .ok (.if_icmp .ge off, 3)) (ht : (pc : Int) + off = (tgt : Int)) (kt : y ≤ x → ja_A l M sc Qf tgt lv st Z D c9 s9) (kf : ¬ y ≤ x → ja_A l M sc Qf (pc + 3) lv st Z D c9 s9) : ja_A l M sc Qf pc lv (.int y :: .int x :: st) Z D c9 s9 := by
  intro p e s m args below meth c G tc ad0 L0 ad H locs ls C I hl hs
  exact lv_icmp_ge C.1.1 C.1.2.1 d ht (fun q => kt q p e s m args below meth c G tc ad0 L0 ad H locs ls C I hl (ja_ost (ja_ost hs))) (fun q => kf q p e s m args below meth c G tc ad0 L0 ad H locs ls C I hl (ja_ost (ja_ost hs)))

theorem ja_if_gt {x : Int32} {off : Int} {tgt : Nat} (d : decode M.2.1 pc = .ok (.ifCond .gt off, 3)) (ht : (pc : Int) + off = (tgt : Int)) (kt : 0 < x → ja_A l M sc Qf tgt lv st Z D c9 s9) (kf : ¬ 0 < x → ja_A l M sc Qf (pc + 3) lv st Z D c9 s9) : ja_A l M sc Qf pc lv (.int x :: st) Z D c9 s9 := by
  intro p e s m args below meth c G tc ad0 L0 ad H locs ls C I hl hs
  exact lv_if_gt C.1.1 C.1.2.1 d ht (fun q => kt q p e s m args below meth c G tc ad0 L0 ad H locs ls C I hl (ja_ost hs)) (fun q => kf q p e s m args below meth c G tc ad0 L0 ad H locs ls C I hl (ja_ost hs))

theorem ja_icmp_gt {x y : Int32} {off : Int} {tgt : Nat} (d : decode M.2.1 pc = .ok (.if_icmp .gt off, 3)) (ht : (pc : Int) + off = (tgt : Int)) (kt : y < x → ja_A l M sc Qf tgt lv st Z D c9 s9) (kf : ¬ y < x → ja_A l M sc Qf (pc + 3) lv st Z D c9 s9) : ja_A l M sc Qf pc lv (.int y :: .int x :: st) Z D c9 s9 := by
  intro p e s m args below meth c G tc ad0 L0 ad H locs ls C I hl hs
  exact lv_icmp_gt C.1.1 C.1.2.1 d ht (fun q => kt q p e s m args below meth c G tc ad0 L0 ad H locs ls C I hl (ja_ost (ja_ost hs))) (fun q => kf q p e s m args below meth c G tc ad0 L0 ad H locs ls C I hl (ja_ost (ja_ost hs)))

theorem ja_if_le {x : Int32} {off : Int} {tgt : Nat} (d : decode M.2.1 pc = .ok (.ifCond .le off, 3)) (ht : (pc : Int) + off = (tgt : Int)) (kt : x ≤ 0 → ja_A l M sc Qf tgt lv st Z D c9 s9) (kf : ¬ x ≤ 0 → ja_A l M sc Qf (pc + 3) lv st Z D c9 s9) : ja_A l M sc Qf pc lv (.int x :: st) Z D c9 s9 := by
  intro p e s m args below meth c G tc ad0 L0 ad H locs ls C I hl hs
  exact lv_if_le C.1.1 C.1.2.1 d ht (fun q => kt q p e s m args below meth c G tc ad0 L0 ad H locs ls C I hl (ja_ost hs)) (fun q => kf q p e s m args below meth c G tc ad0 L0 ad H locs ls C I hl (ja_ost hs))

theorem ja_icmp_le {x y : Int32} {off : Int} {tgt : Nat} (d : decode M.2.1 pc = .ok (.if_icmp .le off, 3)) (ht : (pc : Int) + off = (tgt : Int)) (kt : x ≤ y → ja_A l M sc Qf tgt lv st Z D c9 s9) (kf : ¬ x ≤ y → ja_A l M sc Qf (pc + 3) lv st Z D c9 s9) : ja_A l M sc Qf pc lv (.int y :: .int x :: st) Z D c9 s9 := by
  intro p e s m args below meth c G tc ad0 L0 ad H locs ls C I hl hs
  exact lv_icmp_le C.1.1 C.1.2.1 d ht (fun q => kt q p e s m args below meth c G tc ad0 L0 ad H locs ls C I hl (ja_ost (ja_ost hs))) (fun q => kf q p e s m args below meth c G tc ad0 L0 ad H locs ls C I hl (ja_ost (ja_ost hs)))

theorem ja_swIn {dflt lo hi : Int} {offs : Array Int} {len : Nat} {x : Int32} {off : Int} {tgt : Nat} (d : decode M.2.1 pc = .ok (.tableswitch dflt lo hi offs, len)) (h1 : ¬ x.toInt < lo) (h2 : ¬ hi < x.toInt) (ho : offs[(x.toInt - lo).toNat]? = some off) (ht : (pc : Int) + off = (tgt : Int)) (k : ja_A l M sc Qf tgt lv st Z D c9 s9) : ja_A l M sc Qf pc lv (.int x :: st) Z D c9 s9 := by
  intro p e s m args below meth c G tc ad0 L0 ad H locs ls C I hl hs
  exact lv_tableIn C.1.1 C.1.2.1 d h1 h2 ho ht (k p e s m args below meth c G tc ad0 L0 ad H locs ls C I hl (ja_ost hs))
theorem ja_swOut {dflt lo hi : Int} {offs : Array Int} {len : Nat} {x : Int32} {tgt : Nat} (d : decode M.2.1 pc = .ok (.tableswitch dflt lo hi offs, len)) (h : x.toInt < lo ∨ hi < x.toInt) (ht : (pc : Int) + dflt = (tgt : Int)) (k : ja_A l M sc Qf tgt lv st Z D c9 s9) : ja_A l M sc Qf pc lv (.int x :: st) Z D c9 s9 := by
  intro p e s m args below meth c G tc ad0 L0 ad H locs ls C I hl hs
  exact lv_tableOut C.1.1 C.1.2.1 d h ht (k p e s m args below meth c G tc ad0 L0 ad H locs ls C I hl (ja_ost hs))
/-- fewer locals -/
theorem ja_sub {lv' : List (Option Value)} (h : ∀ (i : Nat) (v : Value), lv'[i]? = some (some v) → lv[i]? = some (some v)) (hn : lv'.length = lv.length) (k : ja_A l M sc Qf pc lv' st Z D c9 s9) : ja_A l M sc Qf pc lv st Z D c9 s9 := by
  intro p e s m args below meth c G tc ad0 L0 ad H locs ls C I hl hs
  exact k p e s m args below meth c G tc ad0 L0 ad H locs ls C I (ja_lsub hl h hn) hs
theorem ja_wid {c8 s8 : Nat} (h1 : c9 ≤ c8) (h2 : s9 ≤ s8) (k : ja_A l M sc Qf pc lv st Z D c8 s8) : ja_A l M sc Qf pc lv st Z D c9 s9 := by
  intro p e s m args below meth c G tc ad0 L0 ad H locs ls C I hl hs
  exact W.widen h1 h2 (k p e s m args below meth c G tc ad0 L0 ad H locs ls C I hl hs)
end JR
