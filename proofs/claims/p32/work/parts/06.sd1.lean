/-! THE ABSTRACT MACHINE IS RIGHT: one row an instruction -/
section SD
variable {S : Nat × (Nat → Int32)} {M pc : Nat} {ls : LC} {st : List Value} {g : SG} {n k : Nat} {K : Out → SG → Prop}
theorem sd_iadd {x y : Int32} (hd : decode (cB M) pc = .ok (.iadd, 1)) (h : X S M (pc + 1) ls (.int (x + y) :: st) g n k K) : X S M pc ls (.int y :: .int x :: st) g n k K := by
  intro p l e R s m args below meth c D t ad A Q C H locs lsM hl hP hS
  exact lv_iadd C.1.1 C.1.2.1 hd (h p l e R s m args below meth c D t ad A Q C H locs lsM hl hP hS)
theorem sd_isub {x y : Int32} (hd : decode (cB M) pc = .ok (.isub, 1)) (h : X S M (pc + 1) ls (.int (x - y) :: st) g n k K) : X S M pc ls (.int y :: .int x :: st) g n k K := by
  intro p l e R s m args below meth c D t ad A Q C H locs lsM hl hP hS
  exact lv_isub C.1.1 C.1.2.1 hd (h p l e R s m args below meth c D t ad A Q C H locs lsM hl hP hS)
theorem sd_imul {x y : Int32} (hd : decode (cB M) pc = .ok (.imul, 1)) (h : X S M (pc + 1) ls (.int (x * y) :: st) g n k K) : X S M pc ls (.int y :: .int x :: st) g n k K := by
  intro p l e R s m args below meth c D t ad A Q C H locs lsM hl hP hS
  exact lv_imul C.1.1 C.1.2.1 hd (h p l e R s m args below meth c D t ad A Q C H locs lsM hl hP hS)
theorem sd_irem {x y : Int32} (hd : decode (cB M) pc = .ok (.irem, 1)) (h0 : ¬ y = 0) (h : X S M (pc + 1) ls (.int (x - x / y * y) :: st) g n k K) : X S M pc ls (.int y :: .int x :: st) g n k K := by
  intro p l e R s m args below meth c D t ad A Q C H locs lsM hl hP hS
  exact lv_irem C.1.1 C.1.2.1 hd h0 (h p l e R s m args below meth c D t ad A Q C H locs lsM hl hP hS)
theorem sd_idiv {x y : Int32} (hd : decode (cB M) pc = .ok (.idiv, 1)) (h0 : ¬ y = 0) (h : X S M (pc + 1) ls (.int (x / y) :: st) g n k K) : X S M pc ls (.int y :: .int x :: st) g n k K := by
  intro p l e R s m args below meth c D t ad A Q C H locs lsM hl hP hS
  exact lv_idiv C.1.1 C.1.2.1 hd h0 (h p l e R s m args below meth c D t ad A Q C H locs lsM hl hP hS)
theorem sd_ineg {x : Int32} (hd : decode (cB M) pc = .ok (.ineg, 1)) (h : X S M (pc + 1) ls (.int (-x) :: st) g n k K) : X S M pc ls (.int x :: st) g n k K := by
  intro p l e R s m args below meth c D t ad A Q C H locs lsM hl hP hS
  exact lv_ineg C.1.1 C.1.2.1 hd (h p l e R s m args below meth c D t ad A Q C H locs lsM hl hP hS)
theorem sd_iand {x y : Int32} (hd : decode (cB M) pc = .ok (.iand, 1)) (h : X S M (pc + 1) ls (.int (x &&& y) :: st) g n k K) : X S M pc ls (.int y :: .int x :: st) g n k K := by
  intro p l e R s m args below meth c D t ad A Q C H locs lsM hl hP hS
  exact lv_iand C.1.1 C.1.2.1 hd (h p l e R s m args below meth c D t ad A Q C H locs lsM hl hP hS)
theorem sd_ior {x y : Int32} (hd : decode (cB M) pc = .ok (.ior, 1)) (h : X S M (pc + 1) ls (.int (x ||| y) :: st) g n k K) : X S M pc ls (.int y :: .int x :: st) g n k K := by
  intro p l e R s m args below meth c D t ad A Q C H locs lsM hl hP hS
  exact lv_ior C.1.1 C.1.2.1 hd (h p l e R s m args below meth c D t ad A Q C H locs lsM hl hP hS)
theorem sd_ixor {x y : Int32} (hd : decode (cB M) pc = .ok (.ixor, 1)) (h : X S M (pc + 1) ls (.int (x ^^^ y) :: st) g n k K) : X S M pc ls (.int y :: .int x :: st) g n k K := by
  intro p l e R s m args below meth c D t ad A Q C H locs lsM hl hP hS
  exact lv_ixor C.1.1 C.1.2.1 hd (h p l e R s m args below meth c D t ad A Q C H locs lsM hl hP hS)
theorem sd_ishl {x y : Int32} (hd : decode (cB M) pc = .ok (.ishl, 1)) (h : X S M (pc + 1) ls (.int (x <<< (y &&& 31)) :: st) g n k K) : X S M pc ls (.int y :: .int x :: st) g n k K := by
  intro p l e R s m args below meth c D t ad A Q C H locs lsM hl hP hS
  exact lv_ishl C.1.1 C.1.2.1 hd (h p l e R s m args below meth c D t ad A Q C H locs lsM hl hP hS)
theorem sd_ishr {x y : Int32} (hd : decode (cB M) pc = .ok (.ishr, 1)) (h : X S M (pc + 1) ls (.int (x >>> (y &&& 31)) :: st) g n k K) : X S M pc ls (.int y :: .int x :: st) g n k K := by
  intro p l e R s m args below meth c D t ad A Q C H locs lsM hl hP hS
  exact lv_ishr C.1.1 C.1.2.1 hd (h p l e R s m args below meth c D t ad A Q C H locs lsM hl hP hS)
theorem sd_iushr {x y : Int32} (hd : decode (cB M) pc = .ok (.iushr, 1)) (h : X S M (pc + 1) ls (.int ((x.toUInt32 >>> (y.toUInt32 &&& Int32.toUInt32 31)).toInt32) :: st) g n k K) : X S M pc ls (.int y :: .int x :: st) g n k K := by
  intro p l e R s m args below meth c D t ad A Q C H locs lsM hl hP hS
  exact lv_iushr C.1.1 C.1.2.1 hd rfl (h p l e R s m args below meth c D t ad A Q C H locs lsM hl hP hS)
theorem sd_iload {a : Nat} {x : Int32} (hd : decode (cB M) pc = .ok (.iload a, 2)) (e0 : ls[a]? = some (some (.int x))) (h : X S M (pc + 2) ls (.int x :: st) g n k K) : X S M pc ls st g n k K := by
  intro p l e R s m args below meth c D t ad A Q C H locs lsM hl hP hS
  exact lv_iload C.1.1 C.1.2.1 hd (lvh_get hl e0) (h p l e R s m args below meth c D t ad A Q C H locs lsM hl hP hS)
theorem sd_iload_n {a : Nat} {j : Fin 4} {x : Int32} (hd : decode (cB M) pc = .ok (.iload_n j, 1)) (ha : j.val = a) (e0 : ls[a]? = some (some (.int x))) (h : X S M (pc + 1) ls (.int x :: st) g n k K) : X S M pc ls st g n k K := by
  intro p l e R s m args below meth c D t ad A Q C H locs lsM hl hP hS
  exact lv_iload_n C.1.1 C.1.2.1 hd ha (lvh_get hl e0) (h p l e R s m args below meth c D t ad A Q C H locs lsM hl hP hS)
theorem sd_aload {a : Nat} {x : Nat} (hd : decode (cB M) pc = .ok (.aload a, 2)) (e0 : ls[a]? = some (some (.ref x))) (h : X S M (pc + 2) ls (.ref x :: st) g n k K) : X S M pc ls st g n k K := by
  intro p l e R s m args below meth c D t ad A Q C H locs lsM hl hP hS
  exact lv_aload C.1.1 C.1.2.1 hd (lvh_get hl e0) (h p l e R s m args below meth c D t ad A Q C H locs lsM hl hP hS)
theorem sd_aload_n {a : Nat} {j : Fin 4} {x : Nat} (hd : decode (cB M) pc = .ok (.aload_n j, 1)) (ha : j.val = a) (e0 : ls[a]? = some (some (.ref x))) (h : X S M (pc + 1) ls (.ref x :: st) g n k K) : X S M pc ls st g n k K := by
  intro p l e R s m args below meth c D t ad A Q C H locs lsM hl hP hS
  exact lv_aload_n C.1.1 C.1.2.1 hd ha (lvh_get hl e0) (h p l e R s m args below meth c D t ad A Q C H locs lsM hl hP hS)
theorem sd_aloadR {a : Nat} {x : Nat} (hd : decode (cB M) pc = .ok (.aload a, 2)) (e0 : ls[a]? = some (some (.retAddr x))) (h : X S M (pc + 2) ls (.retAddr x :: st) g n k K) : X S M pc ls st g n k K := by
  intro p l e R s m args below meth c D t ad A Q C H locs lsM hl hP hS
  exact lv_aload C.1.1 C.1.2.1 hd (lvh_get hl e0) (h p l e R s m args below meth c D t ad A Q C H locs lsM hl hP hS)
theorem sd_aloadR_n {a : Nat} {j : Fin 4} {x : Nat} (hd : decode (cB M) pc = .ok (.aload_n j, 1)) (ha : j.val = a) (e0 : ls[a]? = some (some (.retAddr x))) (h : X S M (pc + 1) ls (.retAddr x :: st) g n k K) : X S M pc ls st g n k K := by
  intro p l e R s m args below meth c D t ad A Q C H locs lsM hl hP hS
  exact lv_aload_n C.1.1 C.1.2.1 hd ha (lvh_get hl e0) (h p l e R s m args below meth c D t ad A Q C H locs lsM hl hP hS)
theorem sd_istore {a : Nat} {x : Int32} (hd : decode (cB M) pc = .ok (.istore a, 2)) (ha : a < cN M) (h : X S M (pc + 2) (ls.set a (some (.int x))) st g n k K) : X S M pc ls (.int x :: st) g n k K := by
  intro p l e R s m args below meth c D t ad A Q C H locs lsM hl hP hS
  exact lv_istore C.1.1 C.1.2.1 hd (lvh_L hl) ha rfl (fun lsM2 hl2 => (h p l e R s m args below meth c D t ad A Q C H locs lsM2 (lvh_set hl rfl hl2) hP hS))
theorem sd_istore_n {a : Nat} {j : Fin 4} {x : Int32} (hd : decode (cB M) pc = .ok (.istore_n j, 1)) (hj : j.val = a) (ha : a < cN M) (h : X S M (pc + 1) (ls.set a (some (.int x))) st g n k K) : X S M pc ls (.int x :: st) g n k K := by
  intro p l e R s m args below meth c D t ad A Q C H locs lsM hl hP hS
  exact lv_istore_n C.1.1 C.1.2.1 hd hj (lvh_L hl) ha rfl (fun lsM2 hl2 => (h p l e R s m args below meth c D t ad A Q C H locs lsM2 (lvh_set hl rfl hl2) hP hS))
theorem sd_astore {a : Nat} {x : Nat} (hd : decode (cB M) pc = .ok (.astore a, 2)) (ha : a < cN M) (h : X S M (pc + 2) (ls.set a (some (.ref x))) st g n k K) : X S M pc ls (.ref x :: st) g n k K := by
  intro p l e R s m args below meth c D t ad A Q C H locs lsM hl hP hS
  exact lv_astore C.1.1 C.1.2.1 hd (lvh_L hl) ha rfl (fun lsM2 hl2 => (h p l e R s m args below meth c D t ad A Q C H locs lsM2 (lvh_set hl rfl hl2) hP hS))
theorem sd_astore_n {a : Nat} {j : Fin 4} {x : Nat} (hd : decode (cB M) pc = .ok (.astore_n j, 1)) (hj : j.val = a) (ha : a < cN M) (h : X S M (pc + 1) (ls.set a (some (.ref x))) st g n k K) : X S M pc ls (.ref x :: st) g n k K := by
  intro p l e R s m args below meth c D t ad A Q C H locs lsM hl hP hS
  exact lv_astore_n C.1.1 C.1.2.1 hd hj (lvh_L hl) ha rfl (fun lsM2 hl2 => (h p l e R s m args below meth c D t ad A Q C H locs lsM2 (lvh_set hl rfl hl2) hP hS))
theorem sd_astoreR {a : Nat} {x : Nat} (hd : decode (cB M) pc = .ok (.astore a, 2)) (ha : a < cN M) (h : X S M (pc + 2) (ls.set a (some (.retAddr x))) st g n k K) : X S M pc ls (.retAddr x :: st) g n k K := by
  intro p l e R s m args below meth c D t ad A Q C H locs lsM hl hP hS
  exact lv_astore C.1.1 C.1.2.1 hd (lvh_L hl) ha rfl (fun lsM2 hl2 => (h p l e R s m args below meth c D t ad A Q C H locs lsM2 (lvh_set hl rfl hl2) hP hS))
theorem sd_astoreR_n {a : Nat} {j : Fin 4} {x : Nat} (hd : decode (cB M) pc = .ok (.astore_n j, 1)) (hj : j.val = a) (ha : a < cN M) (h : X S M (pc + 1) (ls.set a (some (.retAddr x))) st g n k K) : X S M pc ls (.retAddr x :: st) g n k K := by
  intro p l e R s m args below meth c D t ad A Q C H locs lsM hl hP hS
  exact lv_astore_n C.1.1 C.1.2.1 hd hj (lvh_L hl) ha rfl (fun lsM2 hl2 => (h p l e R s m args below meth c D t ad A Q C H locs lsM2 (lvh_set hl rfl hl2) hP hS))
theorem sd_iconst {j : Int} {v : Int32} (hd : decode (cB M) pc = .ok (.iconst j, 1)) (hv : Int32.ofInt j = v) (h : X S M (pc + 1) ls (.int v :: st) g n k K) : X S M pc ls st g n k K := by
  intro p l e R s m args below meth c D t ad A Q C H locs lsM hl hP hS
  exact lv_iconst C.1.1 C.1.2.1 hd hv (h p l e R s m args below meth c D t ad A Q C H locs lsM hl hP hS)
theorem sd_bipush {j : Int} {v : Int32} (hd : decode (cB M) pc = .ok (.bipush j, 2)) (hv : (Int8.ofInt j).toInt32 = v) (h : X S M (pc + 2) ls (.int v :: st) g n k K) : X S M pc ls st g n k K := by
  intro p l e R s m args below meth c D t ad A Q C H locs lsM hl hP hS
  exact lv_bipush C.1.1 C.1.2.1 hd hv (h p l e R s m args below meth c D t ad A Q C H locs lsM hl hP hS)
theorem sd_sipush {j : Int} {v : Int32} (hd : decode (cB M) pc = .ok (.sipush j, 3)) (hv : (Int16.ofInt j).toInt32 = v) (h : X S M (pc + 3) ls (.int v :: st) g n k K) : X S M pc ls st g n k K := by
  intro p l e R s m args below meth c D t ad A Q C H locs lsM hl hP hS
  exact lv_sipush C.1.1 C.1.2.1 hd hv (h p l e R s m args below meth c D t ad A Q C H locs lsM hl hP hS)
theorem sd_ldc {j : Nat} {v : Int32} (hd : decode (cB M) pc = .ok (.ldc j, 2)) (hw : Cond.constant (cNm (cC M)) j v ∈ GW) (h : X S M (pc + 2) ls (.int v :: st) g n k K) : X S M pc ls st g n k K := by
  intro p l e R s m args below meth c D t ad A Q C H locs lsM hl hP hS
  exact lv_ldc C.1.1 C.1.2.1 C.1.2.2.2.1 (C.1.2.2.2.2.1 _ hw) hd (h p l e R s m args below meth c D t ad A Q C H locs lsM hl hP hS)
theorem sd_ldcw {j : Nat} {v : Int32} (hd : decode (cB M) pc = .ok (.ldc_w j, 3)) (hw : Cond.constant (cNm (cC M)) j v ∈ GW) (h : X S M (pc + 3) ls (.int v :: st) g n k K) : X S M pc ls st g n k K := by
  intro p l e R s m args below meth c D t ad A Q C H locs lsM hl hP hS
  exact lv_ldcw C.1.1 C.1.2.1 C.1.2.2.2.1 (C.1.2.2.2.2.1 _ hw) hd (h p l e R s m args below meth c D t ad A Q C H locs lsM hl hP hS)
theorem sd_iinc {a : Nat} {j : Int} {x v : Int32} (hd : decode (cB M) pc = .ok (.iinc a j, 3)) (hv : Int32.ofInt j = v) (ha : a < cN M) (e0 : ls[a]? = some (some (.int x))) (h : X S M (pc + 3) (ls.set a (some (.int (x + v)))) st g n k K) : X S M pc ls st g n k K := by
  intro p l e R s m args below meth c D t ad A Q C H locs lsM hl hP hS
  obtain ⟨i, hi⟩ := List.getElem?_of_mem (lvL_mem (ad := ad) e0)
  exact lv_iinc C.1.1 C.1.2.1 hd (lvh_L hl) hi (by rw [hv]) ha rfl (fun lsM2 hl2 => (h p l e R s m args below meth c D t ad A Q C H locs lsM2 (lvh_set hl rfl hl2) hP hS))
theorem sd_dup {v : Value} (hd : decode (cB M) pc = .ok (.dup, 1)) (hc : v.category = 1) (h : X S M (pc + 1) ls (v :: v :: st) g n k K) : X S M pc ls (v :: st) g n k K := by
  intro p l e R s m args below meth c D t ad A Q C H locs lsM hl hP hS
  exact lv_dup C.1.1 C.1.2.1 hd (by rw [cv_cat]; exact hc) (h p l e R s m args below meth c D t ad A Q C H locs lsM hl hP hS)
theorem sd_dup2 {v w : Value} (hd : decode (cB M) pc = .ok (.dup2, 1)) (hc : v.category = 1) (hc2 : w.category = 1) (h : X S M (pc + 1) ls (v :: w :: v :: w :: st) g n k K) : X S M pc ls (v :: w :: st) g n k K := by
  intro p l e R s m args below meth c D t ad A Q C H locs lsM hl hP hS
  exact lv_dup2_11 C.1.1 C.1.2.1 hd (by rw [cv_cat]; exact hc) (by rw [cv_cat]; exact hc2) (h p l e R s m args below meth c D t ad A Q C H locs lsM hl hP hS)
theorem sd_pop {v : Value} (hd : decode (cB M) pc = .ok (.pop, 1)) (hc : v.category = 1) (h : X S M (pc + 1) ls st g n k K) : X S M pc ls (v :: st) g n k K := by
  intro p l e R s m args below meth c D t ad A Q C H locs lsM hl hP hS
  exact lv_pop C.1.1 C.1.2.1 hd (by rw [cv_cat]; exact hc) (h p l e R s m args below meth c D t ad A Q C H locs lsM hl hP hS)
theorem sd_i2l {x : Int32} (hd : decode (cB M) pc = .ok (.i2l, 1)) (h : X S M (pc + 1) ls (.long x.toInt64 :: st) g n k K) : X S M pc ls (.int x :: st) g n k K := by
  intro p l e R s m args below meth c D t ad A Q C H locs lsM hl hP hS
  exact lv_i2l C.1.1 C.1.2.1 hd rfl (h p l e R s m args below meth c D t ad A Q C H locs lsM hl hP hS)
theorem sd_lconst {j : Fin 2} {v : Int64} (hd : decode (cB M) pc = .ok (.lconst j, 1)) (hv : Int64.ofNat (j : Nat) = v) (h : X S M (pc + 1) ls (.long v :: st) g n k K) : X S M pc ls st g n k K := by
  intro p l e R s m args below meth c D t ad A Q C H locs lsM hl hP hS
  exact lv_lconst C.1.1 C.1.2.1 hd hv (h p l e R s m args below meth c D t ad A Q C H locs lsM hl hP hS)
theorem sd_lcmp {x y : Int64} (hd : decode (cB M) pc = .ok (.lcmp, 1)) (h : X S M (pc + 1) ls (.int (lg_cmp x y) :: st) g n k K) : X S M pc ls (.long y :: .long x :: st) g n k K := by
  intro p l e R s m args below meth c D t ad A Q C H locs lsM hl hP hS
  exact W.lcmp C.1.1 C.1.2.1 hd (h p l e R s m args below meth c D t ad A Q C H locs lsM hl hP hS)
theorem sd_goto {off : Int} {a : Nat} (hd : decode (cB M) pc = .ok (.goto off, 3)) (ht : (pc : Int) + off = (a : Int)) (h : X S M a ls st g n k K) : X S M pc ls st g n k K := by
  intro p l e R s m args below meth c D t ad A Q C H locs lsM hl hP hS
  exact lv_goto C.1.1 C.1.2.1 hd ht (h p l e R s m args below meth c D t ad A Q C H locs lsM hl hP hS)
theorem sd_if_eq {x : Int32} {off : Int} {a : Nat} (hd : decode (cB M) pc = .ok (.ifCond .eq off, 3)) (ht : (pc : Int) + off = (a : Int)) (h1 : x = 0 → X S M a ls st g n k K) (h2 : ¬ x = 0 → X S M (pc + 3) ls st g n k K) : X S M pc ls (.int x :: st) g n k K := by
  intro p l e R s m args below meth c D t ad A Q C H locs lsM hl hP hS
  exact lv_if_eq C.1.1 C.1.2.1 hd ht (fun z => (h1 z p l e R s m args below meth c D t ad A Q C H locs lsM hl hP hS)) (fun z => (h2 z p l e R s m args below meth c D t ad A Q C H locs lsM hl hP hS))
theorem sd_if_ne {x : Int32} {off : Int} {a : Nat} (hd : decode (cB M) pc = .ok (.ifCond .ne off, 3)) (ht : (pc : Int) + off = (a : Int)) (h1 : ¬ x = 0 → X S M a ls st g n k K) (h2 : x = 0 → X S M (pc + 3) ls st g n k K) : X S M pc ls (.int x :: st) g n k K := by
  intro p l e R s m args below meth c D t ad A Q C H locs lsM hl hP hS
  exact lv_if_ne C.1.1 C.1.2.1 hd ht (fun z => (h1 z p l e R s m args below meth c D t ad A Q C H locs lsM hl hP hS)) (fun z => (h2 z p l e R s m args below meth c D t ad A Q C H locs lsM hl hP hS))
theorem sd_if_lt {x : Int32} {off : Int} {a : Nat} (hd : decode (cB M) pc = .ok (.ifCond .lt off, 3)) (ht : (pc : Int) + off = (a : Int)) (h1 : x < 0 → X S M a ls st g n k K) (h2 : ¬ x < 0 → X S M (pc + 3) ls st g n k K) : X S M pc ls (.int x :: st) g n k K := by
  intro p l e R s m args below meth c D t ad A Q C H locs lsM hl hP hS
  exact lv_if_lt C.1.1 C.1.2.1 hd ht (fun z => (h1 z p l e R s m args below meth c D t ad A Q C H locs lsM hl hP hS)) (fun z => (h2 z p l e R s m args below meth c D t ad A Q C H locs lsM hl hP hS))
theorem sd_if_ge {x : Int32} {off : Int} {a : Nat} (hd : decode (cB M) pc = .ok (.ifCond .ge off, 3)) (ht : (pc : Int) + off = (a : Int)) (h1 : 0 ≤ x → X S M a ls st g n k K) (h2 : ¬ 0 ≤ x → X S M (pc + 3) ls st g n k K) : X S M pc ls (.int x :: st) g n k K := by
  intro p l e R s m args below meth c D t ad A Q C H locs lsM hl hP hS
  exact lv_if_ge C.1.1 C.1.2.1 hd ht (fun z => (h1 z p l e R s m args below meth c D t ad A Q C H locs lsM hl hP hS)) (fun z => (h2 z p l e R s m args below meth c D t ad A Q C H locs lsM hl hP hS))
theorem sd_if_gt {x : Int32} {off : Int} {a : Nat} (hd : decode (cB M) pc = .ok (.ifCond .gt off, 3)) (ht : (pc : Int) + off = (a : Int)) (h1 : 0 < x → X S M a ls st g n k K) (h2 : ¬ 0 < x → X S M (pc + 3) ls st g n k K) : X S M pc ls (.int x :: st) g n k K := by
  intro p l e R s m args below meth c D t ad A Q C H locs lsM hl hP hS
  exact lv_if_gt C.1.1 C.1.2.1 hd ht (fun z => (h1 z p l e R s m args below meth c D t ad A Q C H locs lsM hl hP hS)) (fun z => (h2 z p l e R s m args below meth c D t ad A Q C H locs lsM hl hP hS))
theorem sd_if_le {x : Int32} {off : Int} {a : Nat} (hd : decode (cB M) pc = .ok (.ifCond .le off, 3)) (ht : (pc : Int) + off = (a : Int)) (h1 : x ≤ 0 → X S M a ls st g n k K) (h2 : ¬ x ≤ 0 → X S M (pc + 3) ls st g n k K) : X S M pc ls (.int x :: st) g n k K := by
  intro p l e R s m args below meth c D t ad A Q C H locs lsM hl hP hS
  exact lv_if_le C.1.1 C.1.2.1 hd ht (fun z => (h1 z p l e R s m args below meth c D t ad A Q C H locs lsM hl hP hS)) (fun z => (h2 z p l e R s m args below meth c D t ad A Q C H locs lsM hl hP hS))
theorem sd_icmp_eq {x y : Int32} {off : Int} {a : Nat} (hd : decode (cB M) pc = .ok (.if_icmp .eq off, 3)) (ht : (pc : Int) + off = (a : Int)) (h1 : x = y → X S M a ls st g n k K) (h2 : ¬ x = y → X S M (pc + 3) ls st g n k K) : X S M pc ls (.int y :: .int x :: st) g n k K := by
  intro p l e R s m args below meth c D t ad A Q C H locs lsM hl hP hS
  exact lv_icmp_eq C.1.1 C.1.2.1 hd ht (fun z => (h1 z p l e R s m args below meth c D t ad A Q C H locs lsM hl hP hS)) (fun z => (h2 z p l e R s m args below meth c D t ad A Q C H locs lsM hl hP hS))
theorem sd_icmp_ne {x y : Int32} {off : Int} {a : Nat} (hd : decode (cB M) pc = .ok (.if_icmp .ne off, 3)) (ht : (pc : Int) + off = (a : Int)) (h1 : ¬ x = y → X S M a ls st g n k K) (h2 : x = y → X S M (pc + 3) ls st g n k K) : X S M pc ls (.int y :: .int x :: st) g n k K := by
  intro p l e R s m args below meth c D t ad A Q C H locs lsM hl hP hS
  exact lv_icmp_ne C.1.1 C.1.2.1 hd ht (fun z => (h1 z p l e R s m args below meth c D t ad A Q C H locs lsM hl hP hS)) (fun z => (h2 z p l e R s m args below meth c D t ad A Q C H locs lsM hl hP hS))
theorem sd_icmp_lt {x y : Int32} {off : Int} {a : Nat} (hd : decode (cB M) pc = .ok (.if_icmp .lt off, 3)) (ht : (pc : Int) + off = (a : Int)) (h1 : x < y → X S M a ls st g n k K) (h2 : ¬ x < y → X S M (pc + 3) ls st g n k K) : X S M pc ls (.int y :: .int x :: st) g n k K := by
  intro p l e R s m args below meth c D t ad A Q C H locs lsM hl hP hS
  exact lv_icmp_lt C.1.1 C.1.2.1 hd ht (fun z => (h1 z p l e R s m args below meth c D t ad A Q C H locs lsM hl hP hS)) (fun z => (h2 z p l e R s m args below meth c D t ad A Q C H locs lsM hl hP hS))
theorem sd_icmp_ge {x y : Int32} {off : Int} {a : Nat} (hd : decode (cB M) pc = .ok (.if_icmp .ge off, 3)) (ht : (pc : Int) + off = (a : Int)) (h1 : y ≤ x → X S M a ls st g n k K) (h2 : ¬ y ≤ x → X S M (pc + 3) ls st g n k K) : X S M pc ls (.int y :: .int x :: st) g n k K := by
  intro p l e R s m args below meth c D t ad A Q C H locs lsM hl hP hS
  exact lv_icmp_ge C.1.1 C.1.2.1 hd ht (fun z => (h1 z p l e R s m args below meth c D t ad A Q C H locs lsM hl hP hS)) (fun z => (h2 z p l e R s m args below meth c D t ad A Q C H locs lsM hl hP hS))
theorem sd_icmp_gt {x y : Int32} {off : Int} {a : Nat} (hd : decode (cB M) pc = .ok (.if_icmp .gt off, 3)) (ht : (pc : Int) + off = (a : Int)) (h1 : y < x → X S M a ls st g n k K) (h2 : ¬ y < x → X S M (pc + 3) ls st g n k K) : X S M pc ls (.int y :: .int x :: st) g n k K := by
  intro p l e R s m args below meth c D t ad A Q C H locs lsM hl hP hS
  exact lv_icmp_gt C.1.1 C.1.2.1 hd ht (fun z => (h1 z p l e R s m args below meth c D t ad A Q C H locs lsM hl hP hS)) (fun z => (h2 z p l e R s m args below meth c D t ad A Q C H locs lsM hl hP hS))
theorem sd_icmp_le {x y : Int32} {off : Int} {a : Nat} (hd : decode (cB M) pc = .ok (.if_icmp .le off, 3)) (ht : (pc : Int) + off = (a : Int)) (h1 : x ≤ y → X S M a ls st g n k K) (h2 : ¬ x ≤ y → X S M (pc + 3) ls st g n k K) : X S M pc ls (.int y :: .int x :: st) g n k K := by
  intro p l e R s m args below meth c D t ad A Q C H locs lsM hl hP hS
  exact lv_icmp_le C.1.1 C.1.2.1 hd ht (fun z => (h1 z p l e R s m args below meth c D t ad A Q C H locs lsM hl hP hS)) (fun z => (h2 z p l e R s m args below meth c D t ad A Q C H locs lsM hl hP hS))
end SD
/-! fields -/
theorem cl_ok : ∀ c, c < 6 → vwCl[c]? = some (cNm c, cTt c, lnn c)
  | 0, _ => rfl | 1, _ => rfl | 2, _ => rfl | 3, _ => rfl | 4, _ => rfl | 5, _ => rfl
  | (c + 6), h => absurd h (by omega)
theorem GW_in {w : Cond} (h : w ∈ lw_tbl) (hg : goodWord w = true) : w ∈ GW := List.mem_filter.mpr ⟨h, hg⟩
theorem cl_inT : ∀ c, c < 6 → ((u_ws (cNm c) (cTt c) (lnn c)).all fun w => decide (w ∈ lw_tbl) && goodWord w) = true := by decide +kernel
theorem cl_in {c : Nat} (hc : c < 6) : ∀ w ∈ u_ws (cNm c) (cTt c) (lnn c), w ∈ GW := by
  intro w hw
  have h := List.all_eq_true.mp (cl_inT c hc) w hw
  simp only [Bool.and_eq_true, decide_eq_true_eq] at h
  exact GW_in h.1 h.2
theorem cl_ty : ∀ c, c < 6 → ∀ k, k < lnn c → parseFieldDescriptor (cTt c k).2.2.1 = some (cTy c k) := by decide +kernel
theorem cl_nm : ∀ c, c < 6 → ∀ a, a < lnn c → ∀ b, b < lnn c → a ≠ b → (cTt c a).2.1 ≠ (cTt c b).2.1 := by decide +kernel
def fchk (e : Nat × Nat × Nat × Nat) : Bool :=
  decide (e.2.2.1 < 6) && decide (e.2.2.2 < lnn e.2.2.1) && decide (Cond.fieldLink (cNm e.1) e.2.1 (cTt e.2.2.1 e.2.2.2).1 (cTt e.2.2.1 e.2.2.2).2.1 (cTt e.2.2.1 e.2.2.2).2.2.1 ∈ lw_tbl) && goodWord (Cond.fieldLink (cNm e.1) e.2.1 (cTt e.2.2.1 e.2.2.2).1 (cTt e.2.2.1 e.2.2.2).2.1 (cTt e.2.2.1 e.2.2.2).2.2.1) && (kin e.2.2.1 == 6)
theorem fT_all : fTL.all fchk = true := by decide +kernel
theorem fT_ok {o j a b : Nat} (h : (o, j, a, b) ∈ fTL) : a < 6 ∧ b < lnn a ∧ Cond.fieldLink (cNm o) j (cTt a b).1 (cTt a b).2.1 (cTt a b).2.2.1 ∈ GW ∧ kin a = 6 := by
  have h1 := List.all_eq_true.mp fT_all _ h
  unfold fchk at h1
  simp only [Bool.and_eq_true, decide_eq_true_eq, beq_iff_eq] at h1
  exact ⟨h1.1.1.1.1, h1.1.1.1.2, GW_in h1.1.1.2 h1.1.2, h1.2⟩
theorem rng_get {α : Type} {N b : Nat} (f : Nat → α) (h : b < N) : ((List.range N).map f)[b]? = some (f b) := by
  rw [List.getElem?_map, List.getElem?_range h]
  rfl
section SF
variable {S : Nat × (Nat → Int32)} {M pc : Nat} {ls : LC} {st : List Value} {g : SG} {n k : Nat} {K : Out → SG → Prop}
theorem sd_getI {a b j : Nat} (hd : decode (cB M) pc = .ok (.getfield j, 3)) (hf : (cC M, j, a, b) ∈ fTL) (hr : isR a b = false) (hb : bnn g.1 a = true) (h : X S M (pc + 3) ls (.int (g.2.2.1 a b) :: st) g n k K) : X S M pc ls (.ref a :: st) g n k K := by
  intro p l e R s m args below meth c D t ad A Q C H locs lsM hl hP hS
  obtain ⟨h7, hbN, hlk, hk⟩ := fT_ok hf
  obtain ⟨i, -, hw⟩ := wld_at (t := t) (ad := ad) hb
  rw [cel_obj hk] at hw
  refine va_get C.1.1 C.1.2.1 (Ts := GW) C.1.2.2.2.2.1 (cl_in h7) C.1.2.2.2.1 C.1.2.2.2.2.2.2.2.2.2.2.2.1.1 hP.1 i hw (cl_ok a h7) b hbN (C.1.2.2.2.2.1 _ hlk) (fun _ h => h) (v := .int (g.2.2.1 a b)) ?_ hd (h p l e R s m args below meth c D t ad A Q C H locs lsM hl hP hS)
  rw [rng_get _ hbN]
  unfold fval
  rw [hr]
  rfl
theorem sd_getR {a b j : Nat} (hd : decode (cB M) pc = .ok (.getfield j, 3)) (hf : (cC M, j, a, b) ∈ fTL) (hr : isR a b = true) (hb : bnn g.1 a = true) (h : X S M (pc + 3) ls (g.2.1 a b :: st) g n k K) : X S M pc ls (.ref a :: st) g n k K := by
  intro p l e R s m args below meth c D t ad A Q C H locs lsM hl hP hS
  obtain ⟨h7, hbN, hlk, hk⟩ := fT_ok hf
  obtain ⟨i, -, hw⟩ := wld_at (t := t) (ad := ad) hb
  rw [cel_obj hk] at hw
  refine va_get C.1.1 C.1.2.1 (Ts := GW) C.1.2.2.2.2.1 (cl_in h7) C.1.2.2.2.1 C.1.2.2.2.2.2.2.2.2.2.2.2.1.1 hP.1 i hw (cl_ok a h7) b hbN (C.1.2.2.2.2.1 _ hlk) (fun _ h => h) (v := cv ad (g.2.1 a b)) ?_ hd (h p l e R s m args below meth c D t ad A Q C H locs lsM hl hP hS)
  rw [rng_get _ hbN]
  unfold fval
  rw [hr]
  rfl
end SF
