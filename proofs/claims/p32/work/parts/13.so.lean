/-! one step of the abstract machine is right -/
theorem kT_all : (kTL.all fun e => inW (Cond.constant (cNm e.1) e.2.1 e.2.2)) = true := by decide +kernel
theorem kT_ok {o j : Nat} {v : Int32} (h : (o, j, v) ∈ kTL) : Cond.constant (cNm o) j v ∈ GW := inW_ok (List.all_eq_true.mp kT_all _ h)
theorem obj_w : Cond.instanceMethod Lib.objectInit ∈ GW ∧ Cond.code Lib.objectInit ⟨#[0xb1]⟩ 1 none ∈ GW := ⟨inW_ok (by decide +kernel), inW_ok (by decide +kernel)⟩
theorem arr_w : Cond.arrayClass .int ∈ GW ∧ Cond.arrayClass .boolean ∈ GW := ⟨inW_ok (by decide +kernel), inW_ok (by decide +kernel)⟩
theorem fit_ref : ∀ c, c < 6 → ∀ k, k < lnn c → isR c k = true → ∀ x : Nat, narrow (cTy c k) (.ref x) = .ref x ∧ fits (cTy c k) (.ref x) = true := by
  intro c hc k hk hr x
  have h : ∀ c, c < 6 → ∀ k, k < lnn c → isR c k = true → (match cTy c k with
    | .object _ => true
    | .array _ => true
    | _ => false) = true := by decide +kernel
  have h1 := h c hc k hk hr
  revert h1
  generalize cTy c k = ty
  intro h1
  cases ty <;> first | exact ⟨rfl, rfl⟩ | cases h1
section SO
variable {S : Nat × (Nat → Int32)} {M pc a b : Nat} {v : Int32} {hs : List Nat} {ins : Instr} {len : Nat} {ls : LC} {st : List Value} {g : SG} {n k : Nat} {K : Out → SG → Prop} {c : CC}
theorem so_23 (hd : decode (cB M) pc = .ok (ins, len)) (hok : okI M pc 23 a b v hs ins len = true) (hc : ∀ ls st g n k, c ls st g n k → X S M (pc + len) ls st g n k K) (h : stp S M 23 a b v hs ls st g n k K c) : X S M pc ls st g n k K := by
  simp only [stp] at h
  simp only [okI, Bool.and_eq_true, beq_iff_eq, decide_eq_true_eq, Bool.not_eq_true'] at hok
  obtain ⟨rfl, rfl⟩ := hok
  split at h
  · exact sd_iadd hd (hc _ _ _ _ _ h)
  · exact h.elim
theorem so_24 (hd : decode (cB M) pc = .ok (ins, len)) (hok : okI M pc 24 a b v hs ins len = true) (hc : ∀ ls st g n k, c ls st g n k → X S M (pc + len) ls st g n k K) (h : stp S M 24 a b v hs ls st g n k K c) : X S M pc ls st g n k K := by
  simp only [stp] at h
  simp only [okI, Bool.and_eq_true, beq_iff_eq, decide_eq_true_eq, Bool.not_eq_true'] at hok
  obtain ⟨rfl, rfl⟩ := hok
  split at h
  · exact sd_isub hd (hc _ _ _ _ _ h)
  · exact h.elim
theorem so_25 (hd : decode (cB M) pc = .ok (ins, len)) (hok : okI M pc 25 a b v hs ins len = true) (hc : ∀ ls st g n k, c ls st g n k → X S M (pc + len) ls st g n k K) (h : stp S M 25 a b v hs ls st g n k K c) : X S M pc ls st g n k K := by
  simp only [stp] at h
  simp only [okI, Bool.and_eq_true, beq_iff_eq, decide_eq_true_eq, Bool.not_eq_true'] at hok
  obtain ⟨rfl, rfl⟩ := hok
  split at h
  · exact sd_imul hd (hc _ _ _ _ _ h)
  · exact h.elim
theorem so_27 (hd : decode (cB M) pc = .ok (ins, len)) (hok : okI M pc 27 a b v hs ins len = true) (hc : ∀ ls st g n k, c ls st g n k → X S M (pc + len) ls st g n k K) (h : stp S M 27 a b v hs ls st g n k K c) : X S M pc ls st g n k K := by
  simp only [stp] at h
  simp only [okI, Bool.and_eq_true, beq_iff_eq, decide_eq_true_eq, Bool.not_eq_true'] at hok
  obtain ⟨rfl, rfl⟩ := hok
  split at h
  · exact sd_iand hd (hc _ _ _ _ _ h)
  · exact h.elim
theorem so_28 (hd : decode (cB M) pc = .ok (ins, len)) (hok : okI M pc 28 a b v hs ins len = true) (hc : ∀ ls st g n k, c ls st g n k → X S M (pc + len) ls st g n k K) (h : stp S M 28 a b v hs ls st g n k K c) : X S M pc ls st g n k K := by
  simp only [stp] at h
  simp only [okI, Bool.and_eq_true, beq_iff_eq, decide_eq_true_eq, Bool.not_eq_true'] at hok
  obtain ⟨rfl, rfl⟩ := hok
  split at h
  · exact sd_ior hd (hc _ _ _ _ _ h)
  · exact h.elim
theorem so_29 (hd : decode (cB M) pc = .ok (ins, len)) (hok : okI M pc 29 a b v hs ins len = true) (hc : ∀ ls st g n k, c ls st g n k → X S M (pc + len) ls st g n k K) (h : stp S M 29 a b v hs ls st g n k K c) : X S M pc ls st g n k K := by
  simp only [stp] at h
  simp only [okI, Bool.and_eq_true, beq_iff_eq, decide_eq_true_eq, Bool.not_eq_true'] at hok
  obtain ⟨rfl, rfl⟩ := hok
  split at h
  · exact sd_ixor hd (hc _ _ _ _ _ h)
  · exact h.elim
theorem so_30 (hd : decode (cB M) pc = .ok (ins, len)) (hok : okI M pc 30 a b v hs ins len = true) (hc : ∀ ls st g n k, c ls st g n k → X S M (pc + len) ls st g n k K) (h : stp S M 30 a b v hs ls st g n k K c) : X S M pc ls st g n k K := by
  simp only [stp] at h
  simp only [okI, Bool.and_eq_true, beq_iff_eq, decide_eq_true_eq, Bool.not_eq_true'] at hok
  obtain ⟨rfl, rfl⟩ := hok
  split at h
  · exact sd_ishl hd (hc _ _ _ _ _ h)
  · exact h.elim
theorem so_31 (hd : decode (cB M) pc = .ok (ins, len)) (hok : okI M pc 31 a b v hs ins len = true) (hc : ∀ ls st g n k, c ls st g n k → X S M (pc + len) ls st g n k K) (h : stp S M 31 a b v hs ls st g n k K c) : X S M pc ls st g n k K := by
  simp only [stp] at h
  simp only [okI, Bool.and_eq_true, beq_iff_eq, decide_eq_true_eq, Bool.not_eq_true'] at hok
  obtain ⟨rfl, rfl⟩ := hok
  split at h
  · exact sd_ishr hd (hc _ _ _ _ _ h)
  · exact h.elim
theorem so_32 (hd : decode (cB M) pc = .ok (ins, len)) (hok : okI M pc 32 a b v hs ins len = true) (hc : ∀ ls st g n k, c ls st g n k → X S M (pc + len) ls st g n k K) (h : stp S M 32 a b v hs ls st g n k K c) : X S M pc ls st g n k K := by
  simp only [stp] at h
  simp only [okI, Bool.and_eq_true, beq_iff_eq, decide_eq_true_eq, Bool.not_eq_true'] at hok
  obtain ⟨rfl, rfl⟩ := hok
  split at h
  · exact sd_iushr hd (hc _ _ _ _ _ h)
  · exact h.elim
theorem so_26 (hd : decode (cB M) pc = .ok (ins, len)) (hok : okI M pc 26 a b v hs ins len = true) (hc : ∀ ls st g n k, c ls st g n k → X S M (pc + len) ls st g n k K) (h : stp S M 26 a b v hs ls st g n k K c) : X S M pc ls st g n k K := by
  simp only [stp] at h
  simp only [okI, Bool.and_eq_true, beq_iff_eq, decide_eq_true_eq, Bool.not_eq_true'] at hok
  obtain ⟨rfl, rfl⟩ := hok
  split at h
  · exact sd_irem hd h.1 (hc _ _ _ _ _ h.2)
  · exact h.elim
theorem so_0 (hd : decode (cB M) pc = .ok (ins, len)) (hok : okI M pc 0 a b v hs ins len = true) (hc : ∀ ls st g n k, c ls st g n k → X S M (pc + len) ls st g n k K) (h : stp S M 0 a b v hs ls st g n k K c) : X S M pc ls st g n k K := by
  simp only [stp] at h
  simp only [okI, Bool.and_eq_true, beq_iff_eq, decide_eq_true_eq, Bool.not_eq_true'] at hok
  split at h
  · rename_i x e0
    split at hok <;> simp only [Bool.and_eq_true, beq_iff_eq, decide_eq_true_eq, Bool.not_eq_true', Bool.false_eq_true] at hok
    · obtain ⟨rfl, rfl⟩ := hok
      exact sd_iload hd e0 (hc _ _ _ _ _ h)
    · obtain ⟨e1, rfl⟩ := hok
      exact sd_iload_n hd e1 e0 (hc _ _ _ _ _ h)
  · exact h.elim
theorem so_1 (hd : decode (cB M) pc = .ok (ins, len)) (hok : okI M pc 1 a b v hs ins len = true) (hc : ∀ ls st g n k, c ls st g n k → X S M (pc + len) ls st g n k K) (h : stp S M 1 a b v hs ls st g n k K c) : X S M pc ls st g n k K := by
  simp only [stp] at h
  simp only [okI, Bool.and_eq_true, beq_iff_eq, decide_eq_true_eq, Bool.not_eq_true'] at hok
  split at h
  · rename_i x e0
    split at hok <;> simp only [Bool.and_eq_true, beq_iff_eq, decide_eq_true_eq, Bool.not_eq_true', Bool.false_eq_true] at hok
    · obtain ⟨rfl, rfl⟩ := hok
      exact sd_aload hd e0 (hc _ _ _ _ _ h)
    · obtain ⟨e1, rfl⟩ := hok
      exact sd_aload_n hd e1 e0 (hc _ _ _ _ _ h)
  · rename_i x e0
    split at hok <;> simp only [Bool.and_eq_true, beq_iff_eq, decide_eq_true_eq, Bool.not_eq_true', Bool.false_eq_true] at hok
    · obtain ⟨rfl, rfl⟩ := hok
      exact sd_aloadR hd e0 (hc _ _ _ _ _ h)
    · obtain ⟨e1, rfl⟩ := hok
      exact sd_aloadR_n hd e1 e0 (hc _ _ _ _ _ h)
  · exact h.elim
theorem so_2 (hd : decode (cB M) pc = .ok (ins, len)) (hok : okI M pc 2 a b v hs ins len = true) (hc : ∀ ls st g n k, c ls st g n k → X S M (pc + len) ls st g n k K) (h : stp S M 2 a b v hs ls st g n k K c) : X S M pc ls st g n k K := by
  simp only [stp] at h
  simp only [okI, Bool.and_eq_true, beq_iff_eq, decide_eq_true_eq, Bool.not_eq_true'] at hok
  obtain ⟨ha, hok⟩ := hok
  split at h
  · split at hok <;> simp only [Bool.and_eq_true, beq_iff_eq, decide_eq_true_eq, Bool.not_eq_true', Bool.false_eq_true] at hok
    · obtain ⟨rfl, rfl⟩ := hok
      exact sd_istore hd ha (hc _ _ _ _ _ h)
    · obtain ⟨e1, rfl⟩ := hok
      exact sd_istore_n hd e1 ha (hc _ _ _ _ _ h)
  · exact h.elim
theorem so_3 (hd : decode (cB M) pc = .ok (ins, len)) (hok : okI M pc 3 a b v hs ins len = true) (hc : ∀ ls st g n k, c ls st g n k → X S M (pc + len) ls st g n k K) (h : stp S M 3 a b v hs ls st g n k K c) : X S M pc ls st g n k K := by
  simp only [stp] at h
  simp only [okI, Bool.and_eq_true, beq_iff_eq, decide_eq_true_eq, Bool.not_eq_true'] at hok
  obtain ⟨ha, hok⟩ := hok
  split at h
  · split at hok <;> simp only [Bool.and_eq_true, beq_iff_eq, decide_eq_true_eq, Bool.not_eq_true', Bool.false_eq_true] at hok
    · obtain ⟨rfl, rfl⟩ := hok
      exact sd_astore hd ha (hc _ _ _ _ _ h)
    · obtain ⟨e1, rfl⟩ := hok
      exact sd_astore_n hd e1 ha (hc _ _ _ _ _ h)
  · split at hok <;> simp only [Bool.and_eq_true, beq_iff_eq, decide_eq_true_eq, Bool.not_eq_true', Bool.false_eq_true] at hok
    · obtain ⟨rfl, rfl⟩ := hok
      exact sd_astoreR hd ha (hc _ _ _ _ _ h)
    · obtain ⟨e1, rfl⟩ := hok
      exact sd_astoreR_n hd e1 ha (hc _ _ _ _ _ h)
  · exact h.elim
theorem so_4 (hd : decode (cB M) pc = .ok (ins, len)) (hok : okI M pc 4 a b v hs ins len = true) (hc : ∀ ls st g n k, c ls st g n k → X S M (pc + len) ls st g n k K) (h : stp S M 4 a b v hs ls st g n k K c) : X S M pc ls st g n k K := by
  simp only [stp] at h
  simp only [okI, Bool.and_eq_true, beq_iff_eq, decide_eq_true_eq, Bool.not_eq_true'] at hok
  split at hok <;> simp only [Bool.and_eq_true, beq_iff_eq, decide_eq_true_eq, Bool.not_eq_true', Bool.false_eq_true] at hok
  · obtain ⟨e1, rfl⟩ := hok
    exact sd_iconst hd e1 (hc _ _ _ _ _ h)
  · obtain ⟨e1, rfl⟩ := hok
    exact sd_bipush hd e1 (hc _ _ _ _ _ h)
  · obtain ⟨e1, rfl⟩ := hok
    exact sd_sipush hd e1 (hc _ _ _ _ _ h)
  · obtain ⟨e1, rfl⟩ := hok
    exact sd_ldc hd (kT_ok e1) (hc _ _ _ _ _ h)
  · obtain ⟨e1, rfl⟩ := hok
    exact sd_ldcw hd (kT_ok e1) (hc _ _ _ _ _ h)
theorem so_5 (hd : decode (cB M) pc = .ok (ins, len)) (hok : okI M pc 5 a b v hs ins len = true) (hc : ∀ ls st g n k, c ls st g n k → X S M (pc + len) ls st g n k K) (h : stp S M 5 a b v hs ls st g n k K c) : X S M pc ls st g n k K := by
  simp only [stp] at h
  simp only [okI, Bool.and_eq_true, beq_iff_eq, decide_eq_true_eq, Bool.not_eq_true'] at hok
  split at h
  · obtain ⟨rfl, h1, h2⟩ := h
    split at hok <;> simp only [Bool.and_eq_true, beq_iff_eq, decide_eq_true_eq, Bool.not_eq_true', Bool.false_eq_true] at hok
    · obtain ⟨⟨e1, e2⟩, rfl⟩ := hok
      exact sd_getI hd e1 e2 h1 (hc _ _ _ _ _ h2)
  · exact h.elim
theorem so_6 (hd : decode (cB M) pc = .ok (ins, len)) (hok : okI M pc 6 a b v hs ins len = true) (hc : ∀ ls st g n k, c ls st g n k → X S M (pc + len) ls st g n k K) (h : stp S M 6 a b v hs ls st g n k K c) : X S M pc ls st g n k K := by
  simp only [stp] at h
  simp only [okI, Bool.and_eq_true, beq_iff_eq, decide_eq_true_eq, Bool.not_eq_true'] at hok
  split at h
  · obtain ⟨rfl, h1, h2⟩ := h
    split at hok <;> simp only [Bool.and_eq_true, beq_iff_eq, decide_eq_true_eq, Bool.not_eq_true', Bool.false_eq_true] at hok
    · obtain ⟨⟨e1, e2⟩, rfl⟩ := hok
      exact sd_getR hd e1 e2 h1 (hc _ _ _ _ _ h2)
  · exact h.elim
theorem so_7 (hd : decode (cB M) pc = .ok (ins, len)) (hok : okI M pc 7 a b v hs ins len = true) (hc : ∀ ls st g n k, c ls st g n k → X S M (pc + len) ls st g n k K) (h : stp S M 7 a b v hs ls st g n k K c) : X S M pc ls st g n k K := by
  simp only [stp] at h
  simp only [okI, Bool.and_eq_true, beq_iff_eq, decide_eq_true_eq, Bool.not_eq_true'] at hok
  split at h
  · rename_i x o r
    obtain ⟨rfl, h1, h2⟩ := h
    split at hok <;> simp only [Bool.and_eq_true, beq_iff_eq, decide_eq_true_eq, Bool.not_eq_true', Bool.false_eq_true] at hok
    · obtain ⟨⟨⟨⟨e1, e2⟩, rfl⟩, e4⟩, e5⟩ := hok
      have e6 : isR o b = false := e2
      refine sd_put (g2 := (g.1, g.2.1, up2 g.2.2.1 o b x, g.2.2.2)) hd e1 h1 (Or.inl e5) (fun ad => ?_) (fun ad => ?_) rfl (fun t ad z hz => cel_noteq_I (nb := g.1) hz) (fun ad => ?_) (fun ad j hj => ?_) (hc _ _ _ _ _ h2)
      · rw [e4]
        rfl
      · rw [e4]
        rfl
      · unfold fval up2
        rw [e6]
        simp only [if_pos]
        rfl
      · unfold fval up2
        simp only [if_pos, if_neg hj]
  · exact h.elim
theorem so_56 (hd : decode (cB M) pc = .ok (ins, len)) (hok : okI M pc 56 a b v hs ins len = true) (hc : ∀ ls st g n k, c ls st g n k → X S M (pc + len) ls st g n k K) (h : stp S M 56 a b v hs ls st g n k K c) : X S M pc ls st g n k K := by
  simp only [stp] at h
  simp only [okI, Bool.and_eq_true, beq_iff_eq, decide_eq_true_eq, Bool.not_eq_true'] at hok
  split at h
  · rename_i x o r
    obtain ⟨rfl, h1, hx, h2⟩ := h
    split at hok <;> simp only [Bool.and_eq_true, beq_iff_eq, decide_eq_true_eq, Bool.not_eq_true', Bool.false_eq_true] at hok
    · obtain ⟨⟨⟨⟨e1, e2⟩, rfl⟩, e4⟩, e5⟩ := hok
      have e6 : isR o b = false := e2
      refine sd_put (g2 := (g.1, g.2.1, up2 g.2.2.1 o b x, g.2.2.2)) hd e1 h1 (Or.inl e5) (fun ad => ?_) (fun ad => ?_) rfl (fun t ad z hz => cel_noteq_I (nb := g.1) hz) (fun ad => ?_) (fun ad j hj => ?_) (hc _ _ _ _ _ h2)
      · rw [e4]
        rcases hx with rfl | rfl <;> rfl
      · rw [e4]
        rcases hx with rfl | rfl <;> rfl
      · unfold fval up2
        rw [e6]
        simp only [if_pos]
        rfl
      · unfold fval up2
        simp only [if_pos, if_neg hj]
  · exact h.elim
theorem so_8 (hd : decode (cB M) pc = .ok (ins, len)) (hok : okI M pc 8 a b v hs ins len = true) (hc : ∀ ls st g n k, c ls st g n k → X S M (pc + len) ls st g n k K) (h : stp S M 8 a b v hs ls st g n k K c) : X S M pc ls st g n k K := by
  simp only [stp] at h
  simp only [okI, Bool.and_eq_true, beq_iff_eq, decide_eq_true_eq, Bool.not_eq_true'] at hok
  split at h
  · rename_i x o r
    obtain ⟨rfl, h1, h2⟩ := h
    split at hok <;> simp only [Bool.and_eq_true, beq_iff_eq, decide_eq_true_eq, Bool.not_eq_true', Bool.false_eq_true] at hok
    · obtain ⟨⟨⟨⟨⟨e1, e2⟩, rfl⟩, e4⟩, e5⟩, e6⟩ := hok
      obtain ⟨h7, hbN, -, -⟩ := fT_ok e1
      refine sd_put (g2 := (g.1, up2 g.2.1 o b (.ref x), g.2.2.1, g.2.2.2)) hd e1 h1 (Or.inr ⟨e4, e5, e6⟩) (fun ad => (fit_ref o h7 b hbN e2 (ad x)).1) (fun ad => (fit_ref o h7 b hbN e2 (ad x)).2) rfl (fun t ad z hz => cel_noteq_R (nb := g.1) hz) (fun ad => ?_) (fun ad j hj => ?_) (hc _ _ _ _ _ h2)
      · unfold fval up2
        rw [e2]
        simp only [if_pos]
      · unfold fval up2
        simp only [if_pos, if_neg hj]
  · exact h.elim
theorem so_9 (hd : decode (cB M) pc = .ok (ins, len)) (hok : okI M pc 9 a b v hs ins len = true) (hc : ∀ ls st g n k, c ls st g n k → X S M (pc + len) ls st g n k K) (h : stp S M 9 a b v hs ls st g n k K c) : X S M pc ls st g n k K := by
  simp only [stp] at h
  simp only [okI, Bool.and_eq_true, beq_iff_eq, decide_eq_true_eq, Bool.not_eq_true'] at hok
  obtain ⟨rfl, rfl⟩ := hok
  split at h
  · rename_i i q r
    split at h
    · rename_i hq
      subst hq
      exact sd_sld hd h.1 h.2.1 (hc _ _ _ _ _ h.2.2)
    · split at h
      · rename_i h3
        exact sd_lald hd h3 rfl h.1 h.2.1 (hc _ _ _ _ _ h.2.2)
      · exact sd_iald hd h.1 rfl h.2.1 h.2.2.1 (hc _ _ _ _ _ h.2.2.2)
  · exact sd_iaRd hd h.1.1 h.1.2.1 h.1.2.2 h.2.1 (hc _ _ _ _ _ h.2.2)
  · exact h.elim
theorem so_10 (hd : decode (cB M) pc = .ok (ins, len)) (hok : okI M pc 10 a b v hs ins len = true) (hc : ∀ ls st g n k, c ls st g n k → X S M (pc + len) ls st g n k K) (h : stp S M 10 a b v hs ls st g n k K c) : X S M pc ls st g n k K := by
  simp only [stp] at h
  simp only [okI, Bool.and_eq_true, beq_iff_eq, decide_eq_true_eq, Bool.not_eq_true'] at hok
  obtain ⟨rfl, rfl⟩ := hok
  split at h
  · exact sd_zald hd h.1 rfl h.2.1 h.2.2.1 (hc _ _ _ _ _ h.2.2.2)
  · exact h.elim
theorem so_11 (hd : decode (cB M) pc = .ok (ins, len)) (hok : okI M pc 11 a b v hs ins len = true) (hc : ∀ ls st g n k, c ls st g n k → X S M (pc + len) ls st g n k K) (h : stp S M 11 a b v hs ls st g n k K c) : X S M pc ls st g n k K := by
  simp only [stp] at h
  simp only [okI, Bool.and_eq_true, beq_iff_eq, decide_eq_true_eq, Bool.not_eq_true'] at hok
  obtain ⟨rfl, rfl⟩ := hok
  split at h
  · split at h
    · rename_i h3
      exact sd_last hd h3 rfl h.1 h.2.1 (hc _ _ _ _ _ h.2.2)
    · exact sd_iast hd h.1 rfl h.2.1 h.2.2.1 (hc _ _ _ _ _ h.2.2.2)
  · exact sd_iaRt hd h.1.1 h.1.2.1 h.1.2.2 h.2.1 (hc _ _ _ _ _ h.2.2)
  · exact h.elim
theorem so_12 (hd : decode (cB M) pc = .ok (ins, len)) (hok : okI M pc 12 a b v hs ins len = true) (hc : ∀ ls st g n k, c ls st g n k → X S M (pc + len) ls st g n k K) (h : stp S M 12 a b v hs ls st g n k K c) : X S M pc ls st g n k K := by
  simp only [stp] at h
  simp only [okI, Bool.and_eq_true, beq_iff_eq, decide_eq_true_eq, Bool.not_eq_true'] at hok
  obtain ⟨rfl, rfl⟩ := hok
  split at h
  · exact sd_zast hd h.1 rfl h.2.1 h.2.2.1 (hc _ _ _ _ _ h.2.2.2)
  · exact h.elim
theorem so_13 (hd : decode (cB M) pc = .ok (ins, len)) (hok : okI M pc 13 a b v hs ins len = true) (hc : ∀ ls st g n k, c ls st g n k → X S M (pc + len) ls st g n k K) (h : stp S M 13 a b v hs ls st g n k K c) : X S M pc ls st g n k K := by
  simp only [stp] at h
  simp only [okI, Bool.and_eq_true, beq_iff_eq, decide_eq_true_eq, Bool.not_eq_true'] at hok
  obtain ⟨rfl, rfl⟩ := hok
  split at h
  · rename_i i q r
    exact sd_aald (r := bss q - ROWB) hd h.1 rfl (by omega) h.2.1 h.2.2.2.1 (hc _ _ _ _ _ h.2.2.2.2)
  · exact h.elim
theorem so_16 (hd : decode (cB M) pc = .ok (ins, len)) (hok : okI M pc 16 a b v hs ins len = true) (hc : ∀ ls st g n k, c ls st g n k → X S M (pc + len) ls st g n k K) (h : stp S M 16 a b v hs ls st g n k K c) : X S M pc ls st g n k K := by
  simp only [stp] at h
  simp only [okI, Bool.and_eq_true, beq_iff_eq, decide_eq_true_eq, Bool.not_eq_true'] at hok
  obtain ⟨rfl, rfl⟩ := hok
  split at h
  · split at h
    · rename_i hq
      subst hq
      exact sd_slen hd h.1 (hc _ _ _ _ _ h.2)
    · exact sd_alen hd h.1 rfl h.2.1 (hc _ _ _ _ _ h.2.2)
  · exact h.elim
theorem so_17 (hd : decode (cB M) pc = .ok (ins, len)) (hok : okI M pc 17 a b v hs ins len = true) (hc : ∀ ls st g n k, c ls st g n k → X S M (pc + len) ls st g n k K) (h : stp S M 17 a b v hs ls st g n k K c) : X S M pc ls st g n k K := by
  simp only [stp] at h
  simp only [okI, Bool.and_eq_true, beq_iff_eq, decide_eq_true_eq, Bool.not_eq_true'] at hok
  split at h
  · obtain ⟨q, h1, h2, h3, h4, h5, h6, h7, h8⟩ := h
    split at hok <;> simp only [Bool.and_eq_true, beq_iff_eq, decide_eq_true_eq, Bool.not_eq_true', Bool.false_eq_true] at hok
    · obtain ⟨e1, rfl⟩ := hok
      simp only [Bool.or_eq_true, beq_iff_eq] at e1
      rcases e1 with rfl | rfl
      · exact sd_newI hd h1 h2 rfl h3 h4 h5 arr_w.1 h6 h7 (hc _ _ _ _ _ h8)
      · exact sd_newJ hd h1 h2 rfl h3 h4 h5 arr_w.1 h6 h7 (hc _ _ _ _ _ h8)
    · obtain ⟨rfl, rfl⟩ := hok
      exact sd_newZ hd h1 h2 rfl h3 h4 h5 arr_w.2 h6 h7 (hc _ _ _ _ _ h8)
  · exact h.elim
theorem so_18 (hd : decode (cB M) pc = .ok (ins, len)) (hok : okI M pc 18 a b v hs ins len = true) (hc : ∀ ls st g n k, c ls st g n k → X S M (pc + len) ls st g n k K) (h : stp S M 18 a b v hs ls st g n k K c) : X S M pc ls st g n k K := by
  simp only [stp] at h
  simp only [okI, Bool.and_eq_true, beq_iff_eq, decide_eq_true_eq, Bool.not_eq_true'] at hok
  split at hok <;> simp only [Bool.and_eq_true, beq_iff_eq, decide_eq_true_eq, Bool.not_eq_true', Bool.false_eq_true] at hok
  · obtain ⟨e1, rfl⟩ := hok
    exact sd_new hd e1 h.1 h.2.1 h.2.2.1 (hc _ _ _ _ _ h.2.2.2)
theorem so_20 (hd : decode (cB M) pc = .ok (ins, len)) (hok : okI M pc 20 a b v hs ins len = true) (hc : ∀ ls st g n k, c ls st g n k → X S M (pc + len) ls st g n k K) (h : stp S M 20 a b v hs ls st g n k K c) : X S M pc ls st g n k K := by
  simp only [stp] at h
  simp only [okI, Bool.and_eq_true, beq_iff_eq, decide_eq_true_eq, Bool.not_eq_true'] at hok
  obtain ⟨rfl, rfl⟩ := hok
  split at h
  · exact sd_dup hd h.1 (hc _ _ _ _ _ h.2)
  · exact h.elim
theorem so_21 (hd : decode (cB M) pc = .ok (ins, len)) (hok : okI M pc 21 a b v hs ins len = true) (hc : ∀ ls st g n k, c ls st g n k → X S M (pc + len) ls st g n k K) (h : stp S M 21 a b v hs ls st g n k K c) : X S M pc ls st g n k K := by
  simp only [stp] at h
  simp only [okI, Bool.and_eq_true, beq_iff_eq, decide_eq_true_eq, Bool.not_eq_true'] at hok
  obtain ⟨rfl, rfl⟩ := hok
  split at h
  · exact sd_dup2 hd h.1.1 h.1.2 (hc _ _ _ _ _ h.2)
  · exact h.elim
theorem so_22 (hd : decode (cB M) pc = .ok (ins, len)) (hok : okI M pc 22 a b v hs ins len = true) (hc : ∀ ls st g n k, c ls st g n k → X S M (pc + len) ls st g n k K) (h : stp S M 22 a b v hs ls st g n k K c) : X S M pc ls st g n k K := by
  simp only [stp] at h
  simp only [okI, Bool.and_eq_true, beq_iff_eq, decide_eq_true_eq, Bool.not_eq_true'] at hok
  obtain ⟨rfl, rfl⟩ := hok
  split at h
  · exact sd_pop hd h.1 (hc _ _ _ _ _ h.2)
  · exact h.elim
theorem so_33 (hd : decode (cB M) pc = .ok (ins, len)) (hok : okI M pc 33 a b v hs ins len = true) (hc : ∀ ls st g n k, c ls st g n k → X S M (pc + len) ls st g n k K) (h : stp S M 33 a b v hs ls st g n k K c) : X S M pc ls st g n k K := by
  simp only [stp] at h
  simp only [okI, Bool.and_eq_true, beq_iff_eq, decide_eq_true_eq, Bool.not_eq_true'] at hok
  split at h
  · rename_i x e0
    split at hok <;> simp only [Bool.and_eq_true, beq_iff_eq, decide_eq_true_eq, Bool.not_eq_true', Bool.false_eq_true] at hok
    · obtain ⟨⟨⟨rfl, e2⟩, e3⟩, rfl⟩ := hok
      exact sd_iinc hd e2 e3 e0 (hc _ _ _ _ _ h)
  · exact h.elim
theorem so_34 (hd : decode (cB M) pc = .ok (ins, len)) (hok : okI M pc 34 a b v hs ins len = true) (hc : ∀ ls st g n k, c ls st g n k → X S M (pc + len) ls st g n k K) (h : stp S M 34 a b v hs ls st g n k K c) : X S M pc ls st g n k K := by
  simp only [stp] at h
  simp only [okI, Bool.and_eq_true, beq_iff_eq, decide_eq_true_eq, Bool.not_eq_true'] at hok
  obtain ⟨rfl, rfl⟩ := hok
  split at h
  · exact sd_i2l hd (hc _ _ _ _ _ h)
  · exact h.elim
theorem so_35 (hd : decode (cB M) pc = .ok (ins, len)) (hok : okI M pc 35 a b v hs ins len = true) (hc : ∀ ls st g n k, c ls st g n k → X S M (pc + len) ls st g n k K) (h : stp S M 35 a b v hs ls st g n k K c) : X S M pc ls st g n k K := by
  simp only [stp] at h
  simp only [okI, Bool.and_eq_true, beq_iff_eq, decide_eq_true_eq, Bool.not_eq_true'] at hok
  split at hok <;> simp only [Bool.and_eq_true, beq_iff_eq, decide_eq_true_eq, Bool.not_eq_true', Bool.false_eq_true] at hok
  · obtain ⟨e1, rfl⟩ := hok
    exact sd_lconst hd e1 (hc _ _ _ _ _ h)
theorem so_36 (hd : decode (cB M) pc = .ok (ins, len)) (hok : okI M pc 36 a b v hs ins len = true) (hc : ∀ ls st g n k, c ls st g n k → X S M (pc + len) ls st g n k K) (h : stp S M 36 a b v hs ls st g n k K c) : X S M pc ls st g n k K := by
  simp only [stp] at h
  simp only [okI, Bool.and_eq_true, beq_iff_eq, decide_eq_true_eq, Bool.not_eq_true'] at hok
  obtain ⟨rfl, rfl⟩ := hok
  split at h
  · exact sd_lcmp hd (hc _ _ _ _ _ h)
  · exact h.elim
theorem so_37 (hd : decode (cB M) pc = .ok (ins, len)) (hok : okI M pc 37 a b v hs ins len = true) (hc : ∀ ls st g n k, c ls st g n k → X S M (pc + len) ls st g n k K) (h : stp S M 37 a b v hs ls st g n k K c) : X S M pc ls st g n k K := by
  simp only [stp] at h
  simp only [okI, Bool.and_eq_true, beq_iff_eq, decide_eq_true_eq, Bool.not_eq_true'] at hok
  split at hok <;> simp only [Bool.and_eq_true, beq_iff_eq, decide_eq_true_eq, Bool.not_eq_true', Bool.false_eq_true] at hok
  · exact sd_goto (by rw [hd, hok.2]) hok.1 h
theorem so_38 (hd : decode (cB M) pc = .ok (ins, len)) (hok : okI M pc 38 a b v hs ins len = true) (hc : ∀ ls st g n k, c ls st g n k → X S M (pc + len) ls st g n k K) (h : stp S M 38 a b v hs ls st g n k K c) : X S M pc ls st g n k K := by
  simp only [stp] at h
  simp only [okI, Bool.and_eq_true, beq_iff_eq, decide_eq_true_eq, Bool.not_eq_true'] at hok
  split at h
  · split at hok <;> simp only [Bool.and_eq_true, beq_iff_eq, decide_eq_true_eq, Bool.not_eq_true', Bool.false_eq_true] at hok
    · obtain ⟨e1, rfl⟩ := hok
      exact sd_if_eq hd e1 h.1 (fun z => hc _ _ _ _ _ (h.2 z))
  · exact h.elim
theorem so_39 (hd : decode (cB M) pc = .ok (ins, len)) (hok : okI M pc 39 a b v hs ins len = true) (hc : ∀ ls st g n k, c ls st g n k → X S M (pc + len) ls st g n k K) (h : stp S M 39 a b v hs ls st g n k K c) : X S M pc ls st g n k K := by
  simp only [stp] at h
  simp only [okI, Bool.and_eq_true, beq_iff_eq, decide_eq_true_eq, Bool.not_eq_true'] at hok
  split at h
  · split at hok <;> simp only [Bool.and_eq_true, beq_iff_eq, decide_eq_true_eq, Bool.not_eq_true', Bool.false_eq_true] at hok
    · obtain ⟨e1, rfl⟩ := hok
      exact sd_if_ne hd e1 h.1 (fun z => hc _ _ _ _ _ (h.2 z))
  · exact h.elim
theorem so_40 (hd : decode (cB M) pc = .ok (ins, len)) (hok : okI M pc 40 a b v hs ins len = true) (hc : ∀ ls st g n k, c ls st g n k → X S M (pc + len) ls st g n k K) (h : stp S M 40 a b v hs ls st g n k K c) : X S M pc ls st g n k K := by
  simp only [stp] at h
  simp only [okI, Bool.and_eq_true, beq_iff_eq, decide_eq_true_eq, Bool.not_eq_true'] at hok
  split at h
  · split at hok <;> simp only [Bool.and_eq_true, beq_iff_eq, decide_eq_true_eq, Bool.not_eq_true', Bool.false_eq_true] at hok
    · obtain ⟨e1, rfl⟩ := hok
      exact sd_if_lt hd e1 h.1 (fun z => hc _ _ _ _ _ (h.2 z))
  · exact h.elim
theorem so_41 (hd : decode (cB M) pc = .ok (ins, len)) (hok : okI M pc 41 a b v hs ins len = true) (hc : ∀ ls st g n k, c ls st g n k → X S M (pc + len) ls st g n k K) (h : stp S M 41 a b v hs ls st g n k K c) : X S M pc ls st g n k K := by
  simp only [stp] at h
  simp only [okI, Bool.and_eq_true, beq_iff_eq, decide_eq_true_eq, Bool.not_eq_true'] at hok
  split at h
  · split at hok <;> simp only [Bool.and_eq_true, beq_iff_eq, decide_eq_true_eq, Bool.not_eq_true', Bool.false_eq_true] at hok
    · obtain ⟨e1, rfl⟩ := hok
      exact sd_if_ge hd e1 h.1 (fun z => hc _ _ _ _ _ (h.2 z))
  · exact h.elim
theorem so_42 (hd : decode (cB M) pc = .ok (ins, len)) (hok : okI M pc 42 a b v hs ins len = true) (hc : ∀ ls st g n k, c ls st g n k → X S M (pc + len) ls st g n k K) (h : stp S M 42 a b v hs ls st g n k K c) : X S M pc ls st g n k K := by
  simp only [stp] at h
  simp only [okI, Bool.and_eq_true, beq_iff_eq, decide_eq_true_eq, Bool.not_eq_true'] at hok
  split at h
  · split at hok <;> simp only [Bool.and_eq_true, beq_iff_eq, decide_eq_true_eq, Bool.not_eq_true', Bool.false_eq_true] at hok
    · obtain ⟨e1, rfl⟩ := hok
      exact sd_if_gt hd e1 h.1 (fun z => hc _ _ _ _ _ (h.2 z))
  · exact h.elim
theorem so_43 (hd : decode (cB M) pc = .ok (ins, len)) (hok : okI M pc 43 a b v hs ins len = true) (hc : ∀ ls st g n k, c ls st g n k → X S M (pc + len) ls st g n k K) (h : stp S M 43 a b v hs ls st g n k K c) : X S M pc ls st g n k K := by
  simp only [stp] at h
  simp only [okI, Bool.and_eq_true, beq_iff_eq, decide_eq_true_eq, Bool.not_eq_true'] at hok
  split at h
  · split at hok <;> simp only [Bool.and_eq_true, beq_iff_eq, decide_eq_true_eq, Bool.not_eq_true', Bool.false_eq_true] at hok
    · obtain ⟨e1, rfl⟩ := hok
      exact sd_if_le hd e1 h.1 (fun z => hc _ _ _ _ _ (h.2 z))
  · exact h.elim
theorem so_44 (hd : decode (cB M) pc = .ok (ins, len)) (hok : okI M pc 44 a b v hs ins len = true) (hc : ∀ ls st g n k, c ls st g n k → X S M (pc + len) ls st g n k K) (h : stp S M 44 a b v hs ls st g n k K c) : X S M pc ls st g n k K := by
  simp only [stp] at h
  simp only [okI, Bool.and_eq_true, beq_iff_eq, decide_eq_true_eq, Bool.not_eq_true'] at hok
  split at h
  · split at hok <;> simp only [Bool.and_eq_true, beq_iff_eq, decide_eq_true_eq, Bool.not_eq_true', Bool.false_eq_true] at hok
    · obtain ⟨e1, rfl⟩ := hok
      exact sd_icmp_eq hd e1 h.1 (fun z => hc _ _ _ _ _ (h.2 z))
  · exact h.elim
theorem so_45 (hd : decode (cB M) pc = .ok (ins, len)) (hok : okI M pc 45 a b v hs ins len = true) (hc : ∀ ls st g n k, c ls st g n k → X S M (pc + len) ls st g n k K) (h : stp S M 45 a b v hs ls st g n k K c) : X S M pc ls st g n k K := by
  simp only [stp] at h
  simp only [okI, Bool.and_eq_true, beq_iff_eq, decide_eq_true_eq, Bool.not_eq_true'] at hok
  split at h
  · split at hok <;> simp only [Bool.and_eq_true, beq_iff_eq, decide_eq_true_eq, Bool.not_eq_true', Bool.false_eq_true] at hok
    · obtain ⟨e1, rfl⟩ := hok
      exact sd_icmp_ne hd e1 h.1 (fun z => hc _ _ _ _ _ (h.2 z))
  · exact h.elim
theorem so_46 (hd : decode (cB M) pc = .ok (ins, len)) (hok : okI M pc 46 a b v hs ins len = true) (hc : ∀ ls st g n k, c ls st g n k → X S M (pc + len) ls st g n k K) (h : stp S M 46 a b v hs ls st g n k K c) : X S M pc ls st g n k K := by
  simp only [stp] at h
  simp only [okI, Bool.and_eq_true, beq_iff_eq, decide_eq_true_eq, Bool.not_eq_true'] at hok
  split at h
  · split at hok <;> simp only [Bool.and_eq_true, beq_iff_eq, decide_eq_true_eq, Bool.not_eq_true', Bool.false_eq_true] at hok
    · obtain ⟨e1, rfl⟩ := hok
      exact sd_icmp_lt hd e1 h.1 (fun z => hc _ _ _ _ _ (h.2 z))
  · exact h.elim
theorem so_47 (hd : decode (cB M) pc = .ok (ins, len)) (hok : okI M pc 47 a b v hs ins len = true) (hc : ∀ ls st g n k, c ls st g n k → X S M (pc + len) ls st g n k K) (h : stp S M 47 a b v hs ls st g n k K c) : X S M pc ls st g n k K := by
  simp only [stp] at h
  simp only [okI, Bool.and_eq_true, beq_iff_eq, decide_eq_true_eq, Bool.not_eq_true'] at hok
  split at h
  · split at hok <;> simp only [Bool.and_eq_true, beq_iff_eq, decide_eq_true_eq, Bool.not_eq_true', Bool.false_eq_true] at hok
    · obtain ⟨e1, rfl⟩ := hok
      exact sd_icmp_ge hd e1 h.1 (fun z => hc _ _ _ _ _ (h.2 z))
  · exact h.elim
theorem so_48 (hd : decode (cB M) pc = .ok (ins, len)) (hok : okI M pc 48 a b v hs ins len = true) (hc : ∀ ls st g n k, c ls st g n k → X S M (pc + len) ls st g n k K) (h : stp S M 48 a b v hs ls st g n k K c) : X S M pc ls st g n k K := by
  simp only [stp] at h
  simp only [okI, Bool.and_eq_true, beq_iff_eq, decide_eq_true_eq, Bool.not_eq_true'] at hok
  split at h
  · split at hok <;> simp only [Bool.and_eq_true, beq_iff_eq, decide_eq_true_eq, Bool.not_eq_true', Bool.false_eq_true] at hok
    · obtain ⟨e1, rfl⟩ := hok
      exact sd_icmp_gt hd e1 h.1 (fun z => hc _ _ _ _ _ (h.2 z))
  · exact h.elim
theorem so_49 (hd : decode (cB M) pc = .ok (ins, len)) (hok : okI M pc 49 a b v hs ins len = true) (hc : ∀ ls st g n k, c ls st g n k → X S M (pc + len) ls st g n k K) (h : stp S M 49 a b v hs ls st g n k K c) : X S M pc ls st g n k K := by
  simp only [stp] at h
  simp only [okI, Bool.and_eq_true, beq_iff_eq, decide_eq_true_eq, Bool.not_eq_true'] at hok
  split at h
  · split at hok <;> simp only [Bool.and_eq_true, beq_iff_eq, decide_eq_true_eq, Bool.not_eq_true', Bool.false_eq_true] at hok
    · obtain ⟨e1, rfl⟩ := hok
      exact sd_icmp_le hd e1 h.1 (fun z => hc _ _ _ _ _ (h.2 z))
  · exact h.elim
theorem so_50 (hd : decode (cB M) pc = .ok (ins, len)) (hok : okI M pc 50 a b v hs ins len = true) (hc : ∀ ls st g n k, c ls st g n k → X S M (pc + len) ls st g n k K) (h : stp S M 50 a b v hs ls st g n k K c) : X S M pc ls st g n k K := by
  simp only [stp] at h
  simp only [okI, Bool.and_eq_true, beq_iff_eq, decide_eq_true_eq, Bool.not_eq_true'] at hok
  obtain ⟨⟨rfl, rfl⟩, e3⟩ := hok
  split at h
  · exact sd_iret hd ⟨_, e3, rfl⟩ h.1 h.2.1 h.2.2
  · exact h.elim
theorem so_57 (hd : decode (cB M) pc = .ok (ins, len)) (hok : okI M pc 57 a b v hs ins len = true) (hc : ∀ ls st g n k, c ls st g n k → X S M (pc + len) ls st g n k K) (h : stp S M 57 a b v hs ls st g n k K c) : X S M pc ls st g n k K := by
  simp only [stp] at h
  simp only [okI, Bool.and_eq_true, beq_iff_eq, decide_eq_true_eq, Bool.not_eq_true'] at hok
  obtain ⟨⟨rfl, rfl⟩, e3⟩ := hok
  split at h
  · obtain ⟨h1, h2, hx, h3⟩ := h
    exact sd_iret hd ⟨_, e3, by rcases hx with rfl | rfl <;> rfl⟩ h1 h2 h3
  · exact h.elim
theorem so_51 (hd : decode (cB M) pc = .ok (ins, len)) (hok : okI M pc 51 a b v hs ins len = true) (hc : ∀ ls st g n k, c ls st g n k → X S M (pc + len) ls st g n k K) (h : stp S M 51 a b v hs ls st g n k K c) : X S M pc ls st g n k K := by
  simp only [stp] at h
  simp only [okI, Bool.and_eq_true, beq_iff_eq, decide_eq_true_eq, Bool.not_eq_true'] at hok
  obtain ⟨⟨rfl, rfl⟩, e3⟩ := hok
  split at h
  · exact sd_vret hd e3 h.1 h.2.1 h.2.2
  · exact h.elim
theorem so_53 (hd : decode (cB M) pc = .ok (ins, len)) (hok : okI M pc 53 a b v hs ins len = true) (hc : ∀ ls st g n k, c ls st g n k → X S M (pc + len) ls st g n k K) (h : stp S M 53 a b v hs ls st g n k K c) : X S M pc ls st g n k K := by
  simp only [stp] at h
  simp only [okI, Bool.and_eq_true, beq_iff_eq, decide_eq_true_eq, Bool.not_eq_true'] at hok
  split at h
  · split at hok <;> simp only [Bool.and_eq_true, beq_iff_eq, decide_eq_true_eq, Bool.not_eq_true', Bool.false_eq_true] at hok
    · rename_i E p0 w e0
      obtain ⟨rfl, rfl⟩ := hok
      obtain ⟨ik, is, ic, wd⟩ := w
      exact sd_throw e0 h.1 h.2.1 h.2.2.1 h.2.2.2
  · exact h.elim
theorem so_54 (hd : decode (cB M) pc = .ok (ins, len)) (hok : okI M pc 54 a b v hs ins len = true) (hc : ∀ ls st g n k, c ls st g n k → X S M (pc + len) ls st g n k K) (h : stp S M 54 a b v hs ls st g n k K c) : X S M pc ls st g n k K := by
  simp only [stp] at h
  simp only [okI, Bool.and_eq_true, beq_iff_eq, decide_eq_true_eq, Bool.not_eq_true'] at hok
  split at h
  · split at hok <;> simp only [Bool.and_eq_true, beq_iff_eq, decide_eq_true_eq, Bool.not_eq_true', Bool.false_eq_true] at hok
    · rename_i dflt lo hi offs
      obtain ⟨⟨⟨rfl, rfl⟩, e3⟩, e4⟩ := hok
      refine sd_switch hd rfl (fun j hj => ?_) e3 h.1 h.2
      have e5 := List.all_eq_true.mp e4 j (List.mem_range.mpr hj)
      split at e5
      · rename_i off e6
        exact ⟨off, e6, of_decide_eq_true e5⟩
      · cases e5
  · exact h.elim
theorem so_55 (hd : decode (cB M) pc = .ok (ins, len)) (hok : okI M pc 55 a b v hs ins len = true) (hc : ∀ ls st g n k, c ls st g n k → X S M (pc + len) ls st g n k K) (h : stp S M 55 a b v hs ls st g n k K c) : X S M pc ls st g n k K := by
  simp only [stp] at h
  simp only [okI, Bool.and_eq_true, beq_iff_eq, decide_eq_true_eq, Bool.not_eq_true'] at hok
  split at h
  · split at hok <;> simp only [Bool.and_eq_true, beq_iff_eq, decide_eq_true_eq, Bool.not_eq_true', Bool.false_eq_true] at hok
    · obtain ⟨⟨⟨e1, rfl⟩, e3⟩, e4⟩ := hok
      exact sd_objInit hd (inW_ok e1) obj_w.1 obj_w.2 e3 e4 h.1 (hc _ _ _ _ _ h.2)
  · exact h.elim
theorem so_52 (hd : decode (cB M) pc = .ok (ins, len)) (hok : okI M pc 52 a b v hs ins len = true) (hc : ∀ ls st g n k, c ls st g n k → X S M (pc + len) ls st g n k K) (h : stp S M 52 a b v hs ls st g n k K c) : X S M pc ls st g n k K := by
  simp only [stp] at h
  simp only [okI, Bool.and_eq_true, beq_iff_eq, decide_eq_true_eq, Bool.not_eq_true'] at hok
  obtain ⟨h1, h2, h3, h4, h5, h6⟩ := h
  obtain ⟨e0, ⟨⟨⟨e1, e2⟩, e3⟩, e4⟩, e5⟩ := hok
  obtain ⟨j, hm, hi⟩ : ∃ j, (cC M, j, a, kdOf (cC M) a) ∈ mTL ∧ ins = cIns (kdOf (cC M) a) j := by
    split at e4 <;> simp only [Bool.and_eq_true, decide_eq_true_eq, Bool.false_eq_true] at e4
    · exact ⟨_, e4.1, e4.2⟩
    · exact ⟨_, e4.1, e4.2⟩
    · exact ⟨_, e4.1, e4.2⟩
  subst e1
  have hst : st = ((st.take b).reverse).reverse ++ st.drop b := by
    rw [List.reverse_reverse, List.take_append_drop]
  have hA : cArg (kdOf (cC M) a) a g.1 (st.take b).reverse := by
    revert h3
    generalize (st.take b).reverse = as
    generalize kdOf (cC M) a = kd
    intro h3
    match kd, h3 with
    | 0, h3 =>
      cases as with
      | nil => exact absurd (show false = true from h3) Bool.false_ne_true
      | cons x tl =>
        cases x with
        | ref o =>
          have h9 : (o == cC a && (tl.length == cP a && bnn g.1 o)) = true := h3
          simp only [Bool.and_eq_true, beq_iff_eq] at h9
          obtain ⟨rfl, e7, e8⟩ := h9
          exact ⟨tl, rfl, e7, e8⟩
        | _ => exact absurd (show false = true from h3) Bool.false_ne_true
    | 1, h3 => exact eq_of_beq h3
    | 2, h3 =>
      cases as with
      | nil => exact absurd (show false = true from h3) Bool.false_ne_true
      | cons x tl =>
        cases x with
        | ref o => exact ⟨o, tl, rfl, eq_of_beq (show (tl.length == cP a) = true from h3)⟩
        | _ => exact absurd (show false = true from h3) Bool.false_ne_true
    | 3, h3 => exact eq_of_beq h3
    | 4, h3 =>
      cases as with
      | nil => exact absurd (show false = true from h3) Bool.false_ne_true
      | cons x tl =>
        cases x with
        | ref o => exact ⟨o, tl, rfl, eq_of_beq (show (tl.length == cP a) = true from h3)⟩
        | _ => exact absurd (show false = true from h3) Bool.false_ne_true
    | (q + 5), h3 => exact eq_of_beq h3
  rw [hst]
  refine sd_call (v := v.toNatClampNeg) (hs := hs) (by rw [hd, hi]) hm hA h2 (fun z => by rw [z] at e0; cases e0) e2 e3 h4 h5 (CTS_mono h6 (fun o u hk => ?_))
  unfold cntC at hk
  unfold CNT
  split at hk <;> dsimp only
  · exact hc _ _ _ _ _ hk
  · exact hc _ _ _ _ _ hk
  · rename_i E
    split at hk
    · rename_i hh
      rw [if_pos hh]
      exact hk
    · rename_i hh
      rw [if_neg hh]
      obtain ⟨h0, k1, k2, k3⟩ := hk
      refine ⟨h0, k1, ?_, k3⟩
      have e6 := List.all_eq_true.mp e5 (h0, E) (List.mem_iff_getElem?.mpr ⟨E, by rw [List.getElem?_zipIdx, k1]; simp⟩)
      simp only [Bool.or_eq_true, beq_iff_eq] at e6
      rcases e6 with e6 | e6
      · exact absurd e6 k2
      · exact e6
theorem so_60 (hd : decode (cB M) pc = .ok (ins, len)) (hok : okI M pc 60 a b v hs ins len = true) (hc : ∀ ls st g n k, c ls st g n k → X S M (pc + len) ls st g n k K) (h : stp S M 60 a b v hs ls st g n k K c) : X S M pc ls st g n k K := by
  simp only [stp] at h
  simp only [okI, Bool.and_eq_true, beq_iff_eq, decide_eq_true_eq, Bool.not_eq_true'] at hok
  obtain ⟨h1, h2, h3, h4, h5, h6⟩ := h
  obtain ⟨e0, ⟨⟨⟨e1, e2⟩, e3⟩, e4⟩, e5⟩ := hok
  obtain ⟨j, hm, hi⟩ : ∃ j, (cC M, j, a, kdOf (cC M) a) ∈ mTL ∧ ins = cIns (kdOf (cC M) a) j := by
    split at e4 <;> simp only [Bool.and_eq_true, decide_eq_true_eq, Bool.false_eq_true] at e4
    · exact ⟨_, e4.1, e4.2⟩
    · exact ⟨_, e4.1, e4.2⟩
    · exact ⟨_, e4.1, e4.2⟩
  subst e1
  have hst : st = ((st.take b).reverse).reverse ++ st.drop b := by
    rw [List.reverse_reverse, List.take_append_drop]
  have hA : cArg (kdOf (cC M) a) a g.1 (st.take b).reverse := by
    revert h3
    generalize (st.take b).reverse = as
    generalize kdOf (cC M) a = kd
    intro h3
    match kd, h3 with
    | 0, h3 =>
      cases as with
      | nil => exact absurd (show false = true from h3) Bool.false_ne_true
      | cons x tl =>
        cases x with
        | ref o =>
          have h9 : (o == cC a && (tl.length == cP a && bnn g.1 o)) = true := h3
          simp only [Bool.and_eq_true, beq_iff_eq] at h9
          obtain ⟨rfl, e7, e8⟩ := h9
          exact ⟨tl, rfl, e7, e8⟩
        | _ => exact absurd (show false = true from h3) Bool.false_ne_true
    | 1, h3 => exact eq_of_beq h3
    | 2, h3 =>
      cases as with
      | nil => exact absurd (show false = true from h3) Bool.false_ne_true
      | cons x tl =>
        cases x with
        | ref o => exact ⟨o, tl, rfl, eq_of_beq (show (tl.length == cP a) = true from h3)⟩
        | _ => exact absurd (show false = true from h3) Bool.false_ne_true
    | 3, h3 => exact eq_of_beq h3
    | 4, h3 =>
      cases as with
      | nil => exact absurd (show false = true from h3) Bool.false_ne_true
      | cons x tl =>
        cases x with
        | ref o => exact ⟨o, tl, rfl, eq_of_beq (show (tl.length == cP a) = true from h3)⟩
        | _ => exact absurd (show false = true from h3) Bool.false_ne_true
    | (q + 5), h3 => exact eq_of_beq h3
  rw [hst]
  refine sd_call (v := v.toNatClampNeg) (hs := hs) (by rw [hd, hi]) hm hA h2 (fun _ => ⟨rfl, e0⟩) e2 e3 h4 h5 (CTS_mono h6 (fun o u hk => ?_))
  unfold cntC at hk
  unfold CNT
  split at hk <;> dsimp only
  · exact hc _ _ _ _ _ hk
  · exact hc _ _ _ _ _ hk
  · rename_i E
    split at hk
    · rename_i hh
      rw [if_pos hh]
      exact hk
    · rename_i hh
      rw [if_neg hh]
      obtain ⟨h0, k1, k2, k3⟩ := hk
      refine ⟨h0, k1, ?_, k3⟩
      have e6 := List.all_eq_true.mp e5 (h0, E) (List.mem_iff_getElem?.mpr ⟨E, by rw [List.getElem?_zipIdx, k1]; simp⟩)
      simp only [Bool.or_eq_true, beq_iff_eq] at e6
      rcases e6 with e6 | e6
      · exact absurd e6 k2
      · exact e6
theorem so_58 (hd : decode (cB M) pc = .ok (ins, len)) (hok : okI M pc 58 a b v hs ins len = true) (hc : ∀ ls st g n k, c ls st g n k → X S M (pc + len) ls st g n k K) (h : stp S M 58 a b v hs ls st g n k K c) : X S M pc ls st g n k K := by
  simp only [stp] at h
  simp only [okI, Bool.and_eq_true, beq_iff_eq, decide_eq_true_eq, Bool.not_eq_true'] at hok
  obtain ⟨rfl, rfl⟩ := hok
  split at h
  · exact sd_idiv hd h.1 (hc _ _ _ _ _ h.2)
  · exact h.elim
theorem so_59 (hd : decode (cB M) pc = .ok (ins, len)) (hok : okI M pc 59 a b v hs ins len = true) (hc : ∀ ls st g n k, c ls st g n k → X S M (pc + len) ls st g n k K) (h : stp S M 59 a b v hs ls st g n k K c) : X S M pc ls st g n k K := by
  simp only [stp] at h
  simp only [okI, Bool.and_eq_true, beq_iff_eq, decide_eq_true_eq, Bool.not_eq_true'] at hok
  obtain ⟨rfl, rfl⟩ := hok
  split at h
  · exact sd_ineg hd (hc _ _ _ _ _ h)
  · exact h.elim
end SO
