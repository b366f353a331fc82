/-! The law from its entry to the loop -/
theorem unkN_le {f : Nat → Bool} : ∀ n, unkN f n ≤ n
  | 0 => Nat.le_refl _
  | n + 1 => by
    unfold unkN
    have := unkN_le (f := f) n
    split <;> omega
theorem pv_Z {j : Nat} : pv (ZR j) := Or.inr ⟨0, by decide, rfl⟩
theorem pv_m {j : Nat} : pv (flr 4 (-1) j) := by
  unfold flr
  show pv (if j < 4 then -1 else 0)
  split
  · exact Or.inl rfl
  · exact Or.inr ⟨0, by decide, rfl⟩
theorem kdv_m {j : Nat} : kdv (flr 12 (-1) j) := by
  unfold flr
  show kdv (if j < 12 then -1 else 0)
  split
  · exact Or.inl rfl
  · exact Or.inr (Or.inl rfl)
theorem INV_0 : INV (VI, VA) 0 0 10 := by
  have hZ : ∀ {q : Nat}, ¬ q ∈ [8, 21, 24, 25, 64, 65, 66] → ∀ j, (VI, VA).2 q j = 0 := fun h j => congrFun (VA_Z h) j
  have h20 : ∀ i, bt 0 i = false := fun i => b_0 i
  refine ⟨rfl, by decide, rfl, by decide, fun j h => absurd h (Nat.not_lt_zero j), fun j k _ h => absurd h (Nat.not_lt_zero k), fun j => ⟨0, by decide, hZ (by decide) j⟩, fun j => ?_, fun j => ?_, fun j => ?_, fun j => ?_, fun j => ?_, fun j => ?_, fun j i _ _ => ?_, fun i _ _ => h20 i, fun i _ _ => h20 i, fun j => ?_, fun j => ?_, fun p hp => ?_, ⟨0, rfl, ?_⟩, by decide, fun a ha p => ?_, fun t ht p => ?_⟩
  · rw [hZ (by decide)]
    exact pv_Z (j := 0)
  · exact pv_m
  · exact pv_m
  · exact kdv_m
  · rw [hZ (by decide)]
    exact ⟨by decide, by decide⟩
  · show ∃ m, m < 10 ∧ flr 10 3 j = nI m
    unfold flr
    by_cases h : j < 10
    · exact ⟨3, by decide, if_pos h⟩
    · exact ⟨0, by decide, if_neg h⟩
  · rw [hZ (by decide)]
    exact h20 i
  · rw [hZ (by decide)]
    exact pv_Z (j := 0)
  · rw [hZ (by decide)]
    exact pv_Z (j := 0)
  · constructor
    · intro h
      have h2 : bt 0 p = true := h
      rw [h20] at h2
      cases h2
    · rintro ⟨j, hj, _⟩
      exact absurd hj (Nat.not_lt_zero j)
  · have := unkN_le (f := knw (VI, VA)) 10
    unfold unk
    omega
  · rw [hZ (by simp only [List.mem_cons, List.not_mem_nil, or_false]; omega)]
    exact ⟨by decide, by decide⟩
  · show wdv (VA (64 + t) p)
    rw [VA_w ht]
    show wdv (if p < 12 then nI p else 0)
    by_cases h : p < 12
    · rw [if_pos h]
      revert p
      intro p h
      have : ∀ p, p < 12 → wdv (nI p) := by
        unfold wdv
        decide
      exact this p h
    · rw [if_neg h]
      exact ⟨by decide, by decide⟩
section LE
variable {S : Nat × (Nat → Int32)} {M pe : Nat} {is : List AI} {b2 b3 b4 b5 a2 a3 : Nat} {v2 v3 v4 v5 : Int32} {s2 s3 s4 s5 : List Nat} {nb n k : Nat} {R : Nat → Nat → Value} {I I0 I' A A' : Nat → Nat → Int32} {J J' : Nat → Nat → Int32} {K : Out → SG → Prop} {ls : LC}
theorem p_lnew {c2 j a nb' : Nat} (h1 : AO[nb]? = some c2) (h52 : cRec j (nb + 1) (kdOf (cC M) j) [.ref c2] = true) (hI : upR I c2 (fun _ => 0) = I0) (hn1 : n + 1 ≤ (rmM M).cells) (hk1 : k + lnn c2 ≤ (rmM M).slots) (hn : n + 1 + (rmM j).cells ≤ (rmM M).cells) (hk : k + lnn c2 + (rmM j).slots ≤ (rmM M).slots) (hj : ∀ K' : Out → SG → Prop, K' (.inl none) (nb', R, I', A', J) → CT j [.ref c2] (nb + 1, Rp R c2 0, I0, A, J) K') (h : tr S M pe is (ls.set a (some (.ref c2))) [] (nb', R, I', A', J) (n + 1 + (rmM j).cells) (k + lnn c2 + (rmM j).slots) K) :
    tr S M pe ((18, c2, b2, v2, s2) :: (20, a3, b3, v3, s3) :: (52, j, 1, v4, []) :: (3, a, b5, v5, s5) :: is) ls [] (nb, R, I, A, J) n k K := by
  refine ⟨h1, hn1, hk1, rfl, ?_⟩
  show tr S M pe ((52, j, 1, v4, []) :: (3, a, b5, v5, s5) :: is) ls [.ref c2, .ref c2] (nb + 1, upR R c2 (fun _ => .null), upR I c2 (fun _ => 0), A, J) (n + 1) (k + lnn c2) K
  rw [rp_new, hI]
  refine call_1 (Nat.le_of_ble_eq_true rfl) h52 hn hk (hj _ ?_)
  rw [cnt_v]
  exact h
theorem p_larr {q a : Nat} {L : Int32} (h1 : AO[nb]? = some q) (h2 : kin q = 3) (h4 : ¬ L < 0) (h4' : L.toNatClampNeg = lnn q) (h5 : lnn q < 10000) (hJ : upR J q (fun _ => 0) = J') (hn : n + 1 ≤ (rmM M).cells) (hk : k + lnn q ≤ (rmM M).slots) (h : tr S M pe is (ls.set a (some (.ref q))) [] (nb + 1, R, I, A, J') (n + 1) (k + lnn q) K) :
    tr S M pe ((4, a2, b2, L, s2) :: (17, 3, b3, v3, s3) :: (3, a, b4, v4, s4) :: is) ls [] (nb, R, I, A, J) n k K := by
  refine ⟨q, h1, h2, h4, h4', h5, hn, hk, ?_⟩
  show tr S M pe is (ls.set a (some (.ref q))) [] (nb + 1, R, I, (if 3 = 3 then A else upR A q (fun _ => 0)), (if 3 = 3 then upR J q (fun _ => 0) else J)) (n + 1) (k + lnn q) K
  rw [if_pos rfl, if_pos rfl, hJ]
  exact h
end LE
def J00 : Nat → Nat → Int32 := fun _ _ => 0
def J1 : Nat → Nat → Int32 := sJ J00 43 7 1023
theorem J1_o {r : Nat} (h : ¬ r = 43) : J1 r = J00 r := by
  unfold J1
  rw [sJ_at, if_neg h]
theorem J1_g {i : Nat} : J1 43 i = if i = 7 then 1023 else 0 := by
  unfold J1
  rw [sJ_at, if_pos rfl, upd_at]
  rfl
/-- the law's rows as far as i -/
def JI (i : Nat) (J : Nat → Nat → Int32) : Prop := zok J 37 ∧ (∀ t p, t < 3 → p < 12 → 12 * t + p < i → zr J 37 t p = p + 2) ∧ (∀ p, p < 10 → p < i → J 40 p = 3) ∧ (∀ r, ¬ r = 37 → ¬ r = 40 → J r = J1 r)
theorem JI_0 : JI 0 J1 := by
  refine ⟨fun i _ => ⟨0, by decide, ?_⟩, fun t p _ _ h => absurd h (Nat.not_lt_zero _), fun p _ h => absurd h (Nat.not_lt_zero _), fun r _ _ => rfl⟩
  rw [J1_o (by decide)]
  rfl
theorem JI_up {i : Nat} {J : Nat → Nat → Int32} (hi : i < 36) (h : JI i J) : JI (i + 1) (rdJ (sJ J 40 (i % 10) 3) 37 (i / 12) (i % 12) (i % 12 + 2)) := by
  obtain ⟨h1, h2, h3, h4⟩ := h
  have h1' : zok (sJ J 40 (i % 10) 3) 37 := by
    intro j hj
    rw [sJ_at, if_neg (by decide)]
    exact h1 j hj
  have ha : 3 * (i / 12) + 2 < lnn 37 := by
    show 3 * (i / 12) + 2 < 9
    omega
  refine ⟨rdJ_ok h1' h1' ha (by omega) (by omega), fun t p ht hp hl => ?_, fun p hp hl => ?_, fun r n1 n2 => ?_⟩
  · rw [rdJ_at h1' ha (by omega) hp (by omega)]
    by_cases e : t = i / 12 ∧ p = i % 12
    · rw [if_pos ⟨rfl, e.1, e.2⟩, e.2]
    · rw [if_neg (fun w => e w.2)]
      unfold zr
      rw [sJ_at, if_neg (by decide)]
      exact h2 t p ht hp (by omega)
  · rw [rdJ_o (by decide), sJ_at, if_pos rfl, upd_at]
    by_cases e : p = i % 10
    · rw [if_pos e]
    · rw [if_neg e]
      exact h3 p hp (by omega)
  · rw [rdJ_o n1, sJ_at, if_neg n2]
    exact h4 r n1 n2
theorem nI_p2 {p : Nat} : nI (p + 2) - 2 = nI p := by
  have e : nI (p + 2) = nI p + 2 := (nI_add p 2).symm
  rw [e]
  grind
theorem LST_0 {J : Nat → Nat → Int32} (h : JI 36 J) : LST (VI, VA) J 0 0 10 := by
  obtain ⟨h1, h2, h3, h4⟩ := h
  have g : ∀ i, J 43 i = if i = 7 then 1023 else 0 := fun i => by
    rw [h4 43 (by decide) (by decide)]
    exact J1_g
  have z : ∀ r, ¬ r = 37 → ¬ r = 40 → ¬ r = 43 → ∀ i, J r i = 0 := fun r n1 n2 n3 i => by
    rw [h4 r n1 n2, J1_o n3]
    rfl
  have v : ∀ q : Nat, ¬ q ∈ [8, 21, 24, 25, 64, 65, 66] → ∀ j, VA q j = 0 := fun q h j => congrFun (VA_Z h) j
  refine ⟨⟨INV_0, by decide, by decide, by decide, ⟨0, by decide, rfl, g 0⟩, g 1, g 3, g 4, g 5, g 6, fun r hr => ?_, ⟨g 9, Or.inl (g 9)⟩, fun p hp => ?_, fun p hp => ?_, fun m hm => ?_, fun i hi => absurd hi (Nat.not_lt_zero _), fun i hi => absurd hi (Nat.not_lt_zero _), fun i hi => ?_, fun i _ hi => ?_, fun i hi => ⟨0, by decide, z 36 (by decide) (by decide) (by decide) i⟩, fun i p hi => absurd hi (Nat.not_lt_zero _), h1, fun t p ht hp => ?_, fun p hp => ?_, fun i hi => absurd hi (Nat.not_lt_zero _)⟩, Nat.le_refl _, g 2⟩
  · rw [g 7, g 8, if_pos rfl, if_neg (by decide)]
    have e : ∀ r, r < 10 → bt ((1023 : Int32) &&& ((0 : Int32) ^^^ -1)) r = true := by decide
    exact ⟨fun _ => v 23 (by decide) r, fun _ => e r hr⟩
  · rw [z 39 (by decide) (by decide) (by decide)]
    exact (v 20 (by decide) p).symm
  · refine ⟨3, 0, by decide, by decide, ?_, v 22 (by decide) p, h3 p hp (by omega)⟩
    show flr 10 3 p = nI 3
    unfold flr
    rw [if_pos hp]
    rfl
  · refine ⟨0, 0, 0, 0, ⟨by decide, by decide, by decide, by decide⟩, ?_, ?_, v 26 (by decide) m, v 27 (by decide) m, z 41 (by decide) (by decide) (by decide) m⟩
    · show flr 4 (-1) m = _
      unfold flr
      rw [if_pos hm]
      decide
    · show flr 4 (-1) m = _
      unfold flr
      rw [if_pos hm]
      decide
  · rw [z 35 (by decide) (by decide) (by decide)]
    exact (v 18 (by decide) i).symm
  · exact v 16 (by decide) i
  · rw [h2 t p ht hp (by omega), nI_p2]
    show VA (64 + t) p = _
    rw [VA_w ht]
    exact if_pos hp
  · refine Or.inl ⟨?_, z 38 (by decide) (by decide) (by decide) p⟩
    show flr 12 (-1) p = _
    unfold flr
    exact if_pos hp
section LG
variable {S : Nat × (Nat → Int32)} {K : Out → SG → Prop}
theorem ct_reads0 {s : ST} {J : Nat → Nat → Int32} {a p : Nat} (hz : zok J 37) (ha : a < 3) (hp : p < 12) (h : K (.inl none) (GS s (rdJ J 37 a p (p + 2)))) : CT mL_reads [.ref 37, .int (nI a), .int (nI p), .int (nI p)] (GS s J) K := by
  have hx := ct_reads (s := s) (J := J) (K := K) (q := 37) (a := a) (p := p) (v := p + 2) (Or.inr rfl) hz (by show 3 * a + 2 < 9; omega) hp (by omega) h
  rw [nI_p2] at hx
  exact hx
abbrev LM (o13 o14 o15 o16 o17 : Option Value) : LC := [some (.ref 63), some (.ref 5), some (.ref 33), some (.ref 34), some (.ref 35), some (.ref 36), some (.ref 37), some (.ref 38), some (.ref 39), some (.ref 40), some (.ref 41), some (.ref 42), some (.ref 43), o13, o14, o15, o16, o17]
theorem law_init {nn kk : Nat} {o14 o15 o16 o17 : Option Value} (hn : nn ≤ 600130) (hk : kk ≤ 7301080) (hX : ∀ J, JI 36 J → X S mL_law 124 (LM (some (.int (nI 36))) o14 o15 o16 o17) [] (GS (VI, VA) J) nn kk K) : ∀ d i, i + d = 36 → ∀ J, JI i J → X S mL_law 82 (LM (some (.int (nI i))) o14 o15 o16 o17) [] (GS (VI, VA) J) nn kk K := by
  intro d
  induction d with
  | zero =>
    intro i hi J h
    have e : i = 36 := by omega
    subst e
    refine bL_law_82 ?_
    simp only [ti_0, ta_0, tR_0, si_0, sa_0, ii_0, ti_1, ta_1, tR_1, si_1, sa_1, ii_1, ti_2, ta_2, tR_2, si_2, sa_2, ii_2, ti_3, ta_3, tR_3, si_3, sa_3, ii_3, ti_4, ta_4, tR_4, si_4, sa_4, ii_4, ti_5, ta_5, tR_5, si_5, sa_5, ii_5, ti_6, ta_6, tR_6, si_6, sa_6, ii_6, ti_7, ta_7, tR_7, si_7, sa_7, ii_7, ti_8, ta_8, tR_8, si_8, sa_8, ii_8, ti_9, ta_9, tR_9, si_9, sa_9, ii_9, ti_10, ta_10, tR_10, si_10, sa_10, ii_10, ti_11, ta_11, tR_11, si_11, sa_11, ii_11, ti_12, ta_12, tR_12, si_12, sa_12, ii_12, ti_13, ta_13, tR_13, si_13, sa_13, ii_13, ti_14, ta_14, tR_14, si_14, sa_14, ii_14, ti_15, ta_15, tR_15, si_15, sa_15, ii_15, ti_16, ta_16, tR_16, si_16, sa_16, ii_16, ti_17, ta_17, tR_17, si_17, sa_17, ii_17, ti_18, ta_18, tR_18, si_18, sa_18, ii_18, ti_19, ta_19, tR_19, si_19, sa_19, ii_19, ti_20, ta_20, tR_20, si_20, sa_20, ii_20, ti_21, ta_21, tR_21, si_21, sa_21, ii_21, ti_22, ta_22, tR_22, si_22, sa_22, ii_22, ti_23, ta_23, tR_23, si_23, sa_23, ii_23, ti_24, ta_24, tR_24, si_24, sa_24, ii_24, ti_25, ta_25, tR_25, si_25, sa_25, ii_25, ti_26, ta_26, tR_26, si_26, sa_26, ii_26, tc, tnil, z_iadd, z_isub, z_imul, z_iand, z_ior, z_ixor, z_ishl, z_ishr, z_iushr, z_irem, z_idiv, z_ineg, z_i2l, z_lconst, z_lcmp, z_goto, z_if_eq, z_if_ne, z_if_lt, z_if_ge, z_if_gt, z_if_le, z_ic_eq, z_ic_ne, z_ic_lt, z_ic_ge, z_ic_gt, z_ic_le, z_iret, z_bret, z_vret, z_thr, z_dup_int, z_dup2_int, z_pop_int, z_dup_ref, z_dup2_ref, z_pop_ref, z_dup_row, z_dup2_row, z_pop_row, gI_0, pI_0, pZ_0, gI_1, pI_1, pZ_1, gI_2, pI_2, pZ_2, gI_3, pI_3, pZ_3, gI_4, pI_4, pZ_4, gI_5, pI_5, pZ_5, gR_0_2, gR_0_3, gR_0_4, gR_0_5, gR_1_0, gR_1_1, gR_1_2, gR_1_3, gR_2_3, gR_2_4, gR_2_5, gR_2_6, gR_3_2, gR_3_3, gR_3_4, gR_3_5, gR_3_6, gR_3_7, gR_3_8, gR_3_9, gR_3_10, gR_3_11, gR_4_0, gR_4_1, gR_5_0, gR_5_1, gR_5_2, gR_5_3, gR_5_4, gR_5_5, gR_5_6, aL_7, aL_8, aS_8, aL_9, aS_9, aL_10, aS_10, aL_11, aS_11, aL_12, aS_12, aL_13, aS_13, aL_14, aS_14, aL_15, aS_15, aL_16, aS_16, aL_17, aS_17, aL_18, aS_18, aL_19, aL_20, aS_20, aL_21, aS_21, aL_22, aS_22, aL_23, aS_23, aL_24, aS_24, aL_25, aS_25, aL_26, aS_26, aL_27, aS_27, aL_28, aS_28, aL_29, aS_29, aL_30, aS_30, aL_31, aS_31, aL_32, aS_32, aL_33, aS_33, aL_34, aS_34, aL_35, aS_35, aL_36, aS_36, aL_37, aS_37, aL_38, aS_38, aL_39, aS_39, aL_40, aS_40, aL_41, aS_41, aL_42, aS_42, aL_43, aS_43, rL, rS, z_switch, Nat.zero_le, or_true, true_or, or_false, false_or,  cnt_i, cnt_v, cnt_x, i0_eq, i1_eq, i01_eq, im1_0, ne_eq, not_true_eq_false, not_false_eq_true, true_implies, false_implies, implies_true, true_and, and_true, false_and, and_false, List.set_cons_zero, List.set_cons_succ, bI_0, nz_2, nz_3, nz_4, nz_5, nz_6, nz_7, nz_8, nz_9, nz_10, nz_11, nz_12, nz_13, nz_16, nz_22, nz_23, nz_26, nz_32, nz_48, nz_81, nz_100, nz_101, nz_102, nz_128, nz_256, nz_2048, nz_4096, nz_60000]
    simp (disch := omega) only [dv_2, rm_2, mr_2, nz_2, dv_3, rm_3, mr_3, nz_3, dv_4, rm_4, mr_4, nz_4, dv_5, rm_5, mr_5, nz_5, dv_6, rm_6, mr_6, nz_6, dv_7, rm_7, mr_7, nz_7, dv_8, rm_8, mr_8, nz_8, dv_9, rm_9, mr_9, nz_9, dv_10, rm_10, mr_10, nz_10, dv_11, rm_11, mr_11, nz_11, dv_12, rm_12, mr_12, nz_12, dv_13, rm_13, mr_13, nz_13, dv_16, rm_16, mr_16, nz_16, dv_22, rm_22, mr_22, nz_22, dv_23, rm_23, mr_23, nz_23, dv_26, rm_26, mr_26, nz_26, dv_32, rm_32, mr_32, nz_32, dv_48, rm_48, mr_48, nz_48, dv_81, rm_81, mr_81, nz_81, dv_100, rm_100, mr_100, nz_100, dv_101, rm_101, mr_101, nz_101, dv_102, rm_102, mr_102, nz_102, dv_128, rm_128, mr_128, nz_128, dv_256, rm_256, mr_256, nz_256, dv_2048, rm_2048, mr_2048, nz_2048, dv_4096, rm_4096, mr_4096, nz_4096, dv_60000, rm_60000, mr_60000, nz_60000, ml_2, ml_3, ml_4, ml_5, ml_6, ml_7, ml_8, ml_9, ml_10, ml_11, ml_12, ml_13, ml_16, ml_22, ml_23, ml_26, ml_32, ml_48, ml_81, ml_100, ml_101, ml_102, ml_128, ml_256, ml_2048, ml_4096, ml_60000, pl_14, lp_14, qe_14, qa_14, qb_14, qc_14, qd_14, pl_20, lp_20, qe_20, qa_20, qb_20, qc_20, qd_20, pl_21, lp_21, qe_21, qa_21, qb_21, qc_21, qd_21, pl_24, lp_24, qe_24, qa_24, qb_24, qc_24, qd_24, pl_26, lp_26, qe_26, qa_26, qb_26, qc_26, qd_26, pl_29, lp_29, qe_29, qa_29, qb_29, qc_29, qd_29, pl_35, lp_35, qe_35, qa_35, qb_35, qc_35, qd_35, pl_38, lp_38, qe_38, qa_38, qb_38, qc_38, qd_38, pl_48, lp_48, qe_48, qa_48, qb_48, qc_48, qd_48, pl_512, lp_512, qe_512, qa_512, qb_512, qc_512, qd_512, pl_128, lp_128, qe_128, qa_128, qb_128, qc_128, qd_128, pl_256, lp_256, qe_256, qa_256, qb_256, qc_256, qd_256, pl_2048, lp_2048, qe_2048, qa_2048, qb_2048, qc_2048, qd_2048, pl_0, lp_0, qe_0, lp_1, qe_1, qa_1, qb_1, qc_1, qd_1, pl_2, lp_2, qe_2, qa_2, qb_2, qc_2, qd_2, pl_3, lp_3, qe_3, qa_3, qb_3, qc_3, qd_3, pl_4, lp_4, qe_4, qa_4, qb_4, qc_4, qd_4, pl_5, lp_5, qe_5, qa_5, qb_5, qc_5, qd_5, pl_6, lp_6, qe_6, qa_6, qb_6, qc_6, qd_6, pl_7, lp_7, qe_7, qa_7, qb_7, qc_7, qd_7, pl_8, lp_8, qe_8, qa_8, qb_8, qc_8, qd_8, pl_9, lp_9, qe_9, qa_9, qb_9, qc_9, qd_9, pl_10, lp_10, qe_10, qa_10, qb_10, qc_10, qd_10, pl_11, lp_11, qe_11, qa_11, qb_11, qc_11, qd_11, pl_12, lp_12, qe_12, qa_12, qb_12, qc_12, qd_12, pl_16, lp_16, qe_16, qa_16, qb_16, qc_16, qd_16, pl_17, lp_17, qe_17, qa_17, qb_17, qc_17, qd_17, pl_18, lp_18, qe_18, qa_18, qb_18, qc_18, qd_18, pl_19, lp_19, qe_19, qa_19, qb_19, qc_19, qd_19, pl_22, lp_22, qe_22, qa_22, qb_22, qc_22, qd_22, pl_23, lp_23, qe_23, qa_23, qb_23, qc_23, qd_23, pl_27, lp_27, qe_27, qa_27, qb_27, qc_27, qd_27, pl_30, lp_30, qe_30, qa_30, qb_30, qc_30, qd_30, pl_31, lp_31, qe_31, qa_31, qb_31, qc_31, qd_31, pl_36, lp_36, qe_36, qa_36, qb_36, qc_36, qd_36, pl_60, lp_60, qe_60, qa_60, qb_60, qc_60, qd_60, pl_99, lp_99, qe_99, qa_99, qb_99, qc_99, qd_99, pl_100, lp_100, qe_100, qa_100, qb_100, qc_100, qd_100, pl_999, lp_999, qe_999, qa_999, qb_999, qc_999, qd_999, pl_1000, lp_1000, qe_1000, qa_1000, qb_1000, qc_1000, qd_1000, qd_0, qa_0, qc_0, qb_0, nI_add, nI_1, nle, nlt, neq, ncl, m1_p, m1_lt, m1_ge, m1_no, m1_eq, m1_mm, m2_lt, m2_ge, m2_b, m2_o, m2_mm, m2_eq, pk_mul]
    exact ⟨fun _ => hX J h, fun z => absurd (by omega) z⟩
  | succ d ih =>
    intro i hi J h
    have hx := ih (i + 1) (by omega) _ (JI_up (by omega) h)
    have h1' : zok (sJ J 40 (i % 10) 3) 37 := by
      intro j hj
      rw [sJ_at, if_neg (by decide)]
      exact h.1 j hj
    refine bL_law_82 ?_
    simp only [ti_0, ta_0, tR_0, si_0, sa_0, ii_0, ti_1, ta_1, tR_1, si_1, sa_1, ii_1, ti_2, ta_2, tR_2, si_2, sa_2, ii_2, ti_3, ta_3, tR_3, si_3, sa_3, ii_3, ti_4, ta_4, tR_4, si_4, sa_4, ii_4, ti_5, ta_5, tR_5, si_5, sa_5, ii_5, ti_6, ta_6, tR_6, si_6, sa_6, ii_6, ti_7, ta_7, tR_7, si_7, sa_7, ii_7, ti_8, ta_8, tR_8, si_8, sa_8, ii_8, ti_9, ta_9, tR_9, si_9, sa_9, ii_9, ti_10, ta_10, tR_10, si_10, sa_10, ii_10, ti_11, ta_11, tR_11, si_11, sa_11, ii_11, ti_12, ta_12, tR_12, si_12, sa_12, ii_12, ti_13, ta_13, tR_13, si_13, sa_13, ii_13, ti_14, ta_14, tR_14, si_14, sa_14, ii_14, ti_15, ta_15, tR_15, si_15, sa_15, ii_15, ti_16, ta_16, tR_16, si_16, sa_16, ii_16, ti_17, ta_17, tR_17, si_17, sa_17, ii_17, ti_18, ta_18, tR_18, si_18, sa_18, ii_18, ti_19, ta_19, tR_19, si_19, sa_19, ii_19, ti_20, ta_20, tR_20, si_20, sa_20, ii_20, ti_21, ta_21, tR_21, si_21, sa_21, ii_21, ti_22, ta_22, tR_22, si_22, sa_22, ii_22, ti_23, ta_23, tR_23, si_23, sa_23, ii_23, ti_24, ta_24, tR_24, si_24, sa_24, ii_24, ti_25, ta_25, tR_25, si_25, sa_25, ii_25, ti_26, ta_26, tR_26, si_26, sa_26, ii_26, tc, tnil, z_iadd, z_isub, z_imul, z_iand, z_ior, z_ixor, z_ishl, z_ishr, z_iushr, z_irem, z_idiv, z_ineg, z_i2l, z_lconst, z_lcmp, z_goto, z_if_eq, z_if_ne, z_if_lt, z_if_ge, z_if_gt, z_if_le, z_ic_eq, z_ic_ne, z_ic_lt, z_ic_ge, z_ic_gt, z_ic_le, z_iret, z_bret, z_vret, z_thr, z_dup_int, z_dup2_int, z_pop_int, z_dup_ref, z_dup2_ref, z_pop_ref, z_dup_row, z_dup2_row, z_pop_row, gI_0, pI_0, pZ_0, gI_1, pI_1, pZ_1, gI_2, pI_2, pZ_2, gI_3, pI_3, pZ_3, gI_4, pI_4, pZ_4, gI_5, pI_5, pZ_5, gR_0_2, gR_0_3, gR_0_4, gR_0_5, gR_1_0, gR_1_1, gR_1_2, gR_1_3, gR_2_3, gR_2_4, gR_2_5, gR_2_6, gR_3_2, gR_3_3, gR_3_4, gR_3_5, gR_3_6, gR_3_7, gR_3_8, gR_3_9, gR_3_10, gR_3_11, gR_4_0, gR_4_1, gR_5_0, gR_5_1, gR_5_2, gR_5_3, gR_5_4, gR_5_5, gR_5_6, aL_7, aL_8, aS_8, aL_9, aS_9, aL_10, aS_10, aL_11, aS_11, aL_12, aS_12, aL_13, aS_13, aL_14, aS_14, aL_15, aS_15, aL_16, aS_16, aL_17, aS_17, aL_18, aS_18, aL_19, aL_20, aS_20, aL_21, aS_21, aL_22, aS_22, aL_23, aS_23, aL_24, aS_24, aL_25, aS_25, aL_26, aS_26, aL_27, aS_27, aL_28, aS_28, aL_29, aS_29, aL_30, aS_30, aL_31, aS_31, aL_32, aS_32, aL_33, aS_33, aL_34, aS_34, aL_35, aS_35, aL_36, aS_36, aL_37, aS_37, aL_38, aS_38, aL_39, aS_39, aL_40, aS_40, aL_41, aS_41, aL_42, aS_42, aL_43, aS_43, rL, rS, z_switch, Nat.zero_le, or_true, true_or, or_false, false_or,  cnt_i, cnt_v, cnt_x, i0_eq, i1_eq, i01_eq, im1_0, ne_eq, not_true_eq_false, not_false_eq_true, true_implies, false_implies, implies_true, true_and, and_true, false_and, and_false, List.set_cons_zero, List.set_cons_succ, bI_0, nz_2, nz_3, nz_4, nz_5, nz_6, nz_7, nz_8, nz_9, nz_10, nz_11, nz_12, nz_13, nz_16, nz_22, nz_23, nz_26, nz_32, nz_48, nz_81, nz_100, nz_101, nz_102, nz_128, nz_256, nz_2048, nz_4096, nz_60000]
    simp (disch := omega) only [dv_2, rm_2, mr_2, nz_2, dv_3, rm_3, mr_3, nz_3, dv_4, rm_4, mr_4, nz_4, dv_5, rm_5, mr_5, nz_5, dv_6, rm_6, mr_6, nz_6, dv_7, rm_7, mr_7, nz_7, dv_8, rm_8, mr_8, nz_8, dv_9, rm_9, mr_9, nz_9, dv_10, rm_10, mr_10, nz_10, dv_11, rm_11, mr_11, nz_11, dv_12, rm_12, mr_12, nz_12, dv_13, rm_13, mr_13, nz_13, dv_16, rm_16, mr_16, nz_16, dv_22, rm_22, mr_22, nz_22, dv_23, rm_23, mr_23, nz_23, dv_26, rm_26, mr_26, nz_26, dv_32, rm_32, mr_32, nz_32, dv_48, rm_48, mr_48, nz_48, dv_81, rm_81, mr_81, nz_81, dv_100, rm_100, mr_100, nz_100, dv_101, rm_101, mr_101, nz_101, dv_102, rm_102, mr_102, nz_102, dv_128, rm_128, mr_128, nz_128, dv_256, rm_256, mr_256, nz_256, dv_2048, rm_2048, mr_2048, nz_2048, dv_4096, rm_4096, mr_4096, nz_4096, dv_60000, rm_60000, mr_60000, nz_60000, ml_2, ml_3, ml_4, ml_5, ml_6, ml_7, ml_8, ml_9, ml_10, ml_11, ml_12, ml_13, ml_16, ml_22, ml_23, ml_26, ml_32, ml_48, ml_81, ml_100, ml_101, ml_102, ml_128, ml_256, ml_2048, ml_4096, ml_60000, pl_14, lp_14, qe_14, qa_14, qb_14, qc_14, qd_14, pl_20, lp_20, qe_20, qa_20, qb_20, qc_20, qd_20, pl_21, lp_21, qe_21, qa_21, qb_21, qc_21, qd_21, pl_24, lp_24, qe_24, qa_24, qb_24, qc_24, qd_24, pl_26, lp_26, qe_26, qa_26, qb_26, qc_26, qd_26, pl_29, lp_29, qe_29, qa_29, qb_29, qc_29, qd_29, pl_35, lp_35, qe_35, qa_35, qb_35, qc_35, qd_35, pl_38, lp_38, qe_38, qa_38, qb_38, qc_38, qd_38, pl_48, lp_48, qe_48, qa_48, qb_48, qc_48, qd_48, pl_512, lp_512, qe_512, qa_512, qb_512, qc_512, qd_512, pl_128, lp_128, qe_128, qa_128, qb_128, qc_128, qd_128, pl_256, lp_256, qe_256, qa_256, qb_256, qc_256, qd_256, pl_2048, lp_2048, qe_2048, qa_2048, qb_2048, qc_2048, qd_2048, pl_0, lp_0, qe_0, lp_1, qe_1, qa_1, qb_1, qc_1, qd_1, pl_2, lp_2, qe_2, qa_2, qb_2, qc_2, qd_2, pl_3, lp_3, qe_3, qa_3, qb_3, qc_3, qd_3, pl_4, lp_4, qe_4, qa_4, qb_4, qc_4, qd_4, pl_5, lp_5, qe_5, qa_5, qb_5, qc_5, qd_5, pl_6, lp_6, qe_6, qa_6, qb_6, qc_6, qd_6, pl_7, lp_7, qe_7, qa_7, qb_7, qc_7, qd_7, pl_8, lp_8, qe_8, qa_8, qb_8, qc_8, qd_8, pl_9, lp_9, qe_9, qa_9, qb_9, qc_9, qd_9, pl_10, lp_10, qe_10, qa_10, qb_10, qc_10, qd_10, pl_11, lp_11, qe_11, qa_11, qb_11, qc_11, qd_11, pl_12, lp_12, qe_12, qa_12, qb_12, qc_12, qd_12, pl_16, lp_16, qe_16, qa_16, qb_16, qc_16, qd_16, pl_17, lp_17, qe_17, qa_17, qb_17, qc_17, qd_17, pl_18, lp_18, qe_18, qa_18, qb_18, qc_18, qd_18, pl_19, lp_19, qe_19, qa_19, qb_19, qc_19, qd_19, pl_22, lp_22, qe_22, qa_22, qb_22, qc_22, qd_22, pl_23, lp_23, qe_23, qa_23, qb_23, qc_23, qd_23, pl_27, lp_27, qe_27, qa_27, qb_27, qc_27, qd_27, pl_30, lp_30, qe_30, qa_30, qb_30, qc_30, qd_30, pl_31, lp_31, qe_31, qa_31, qb_31, qc_31, qd_31, pl_36, lp_36, qe_36, qa_36, qb_36, qc_36, qd_36, pl_60, lp_60, qe_60, qa_60, qb_60, qc_60, qd_60, pl_99, lp_99, qe_99, qa_99, qb_99, qc_99, qd_99, pl_100, lp_100, qe_100, qa_100, qb_100, qc_100, qd_100, pl_999, lp_999, qe_999, qa_999, qb_999, qc_999, qd_999, pl_1000, lp_1000, qe_1000, qa_1000, qb_1000, qc_1000, qd_1000, qd_0, qa_0, qc_0, qb_0, nI_add, nI_1, nle, nlt, neq, ncl, m1_p, m1_lt, m1_ge, m1_no, m1_eq, m1_mm, m2_lt, m2_ge, m2_b, m2_o, m2_mm, m2_eq, pk_mul]
    refine ⟨fun z => absurd z (by omega), fun _ => ⟨vp_in_nI (by omega) (by decide), ?_⟩⟩
    refine callz_4 (Nat.le_of_ble_eq_true rfl) rfl hn hk rfl rfl (ct_reads0 h1' (by omega) (by omega) ?_)
    simp only [ti_0, ta_0, tR_0, si_0, sa_0, ii_0, ti_1, ta_1, tR_1, si_1, sa_1, ii_1, ti_2, ta_2, tR_2, si_2, sa_2, ii_2, ti_3, ta_3, tR_3, si_3, sa_3, ii_3, ti_4, ta_4, tR_4, si_4, sa_4, ii_4, ti_5, ta_5, tR_5, si_5, sa_5, ii_5, ti_6, ta_6, tR_6, si_6, sa_6, ii_6, ti_7, ta_7, tR_7, si_7, sa_7, ii_7, ti_8, ta_8, tR_8, si_8, sa_8, ii_8, ti_9, ta_9, tR_9, si_9, sa_9, ii_9, ti_10, ta_10, tR_10, si_10, sa_10, ii_10, ti_11, ta_11, tR_11, si_11, sa_11, ii_11, ti_12, ta_12, tR_12, si_12, sa_12, ii_12, ti_13, ta_13, tR_13, si_13, sa_13, ii_13, ti_14, ta_14, tR_14, si_14, sa_14, ii_14, ti_15, ta_15, tR_15, si_15, sa_15, ii_15, ti_16, ta_16, tR_16, si_16, sa_16, ii_16, ti_17, ta_17, tR_17, si_17, sa_17, ii_17, ti_18, ta_18, tR_18, si_18, sa_18, ii_18, ti_19, ta_19, tR_19, si_19, sa_19, ii_19, ti_20, ta_20, tR_20, si_20, sa_20, ii_20, ti_21, ta_21, tR_21, si_21, sa_21, ii_21, ti_22, ta_22, tR_22, si_22, sa_22, ii_22, ti_23, ta_23, tR_23, si_23, sa_23, ii_23, ti_24, ta_24, tR_24, si_24, sa_24, ii_24, ti_25, ta_25, tR_25, si_25, sa_25, ii_25, ti_26, ta_26, tR_26, si_26, sa_26, ii_26, tc, tnil, z_iadd, z_isub, z_imul, z_iand, z_ior, z_ixor, z_ishl, z_ishr, z_iushr, z_irem, z_idiv, z_ineg, z_i2l, z_lconst, z_lcmp, z_goto, z_if_eq, z_if_ne, z_if_lt, z_if_ge, z_if_gt, z_if_le, z_ic_eq, z_ic_ne, z_ic_lt, z_ic_ge, z_ic_gt, z_ic_le, z_iret, z_bret, z_vret, z_thr, z_dup_int, z_dup2_int, z_pop_int, z_dup_ref, z_dup2_ref, z_pop_ref, z_dup_row, z_dup2_row, z_pop_row, gI_0, pI_0, pZ_0, gI_1, pI_1, pZ_1, gI_2, pI_2, pZ_2, gI_3, pI_3, pZ_3, gI_4, pI_4, pZ_4, gI_5, pI_5, pZ_5, gR_0_2, gR_0_3, gR_0_4, gR_0_5, gR_1_0, gR_1_1, gR_1_2, gR_1_3, gR_2_3, gR_2_4, gR_2_5, gR_2_6, gR_3_2, gR_3_3, gR_3_4, gR_3_5, gR_3_6, gR_3_7, gR_3_8, gR_3_9, gR_3_10, gR_3_11, gR_4_0, gR_4_1, gR_5_0, gR_5_1, gR_5_2, gR_5_3, gR_5_4, gR_5_5, gR_5_6, aL_7, aL_8, aS_8, aL_9, aS_9, aL_10, aS_10, aL_11, aS_11, aL_12, aS_12, aL_13, aS_13, aL_14, aS_14, aL_15, aS_15, aL_16, aS_16, aL_17, aS_17, aL_18, aS_18, aL_19, aL_20, aS_20, aL_21, aS_21, aL_22, aS_22, aL_23, aS_23, aL_24, aS_24, aL_25, aS_25, aL_26, aS_26, aL_27, aS_27, aL_28, aS_28, aL_29, aS_29, aL_30, aS_30, aL_31, aS_31, aL_32, aS_32, aL_33, aS_33, aL_34, aS_34, aL_35, aS_35, aL_36, aS_36, aL_37, aS_37, aL_38, aS_38, aL_39, aS_39, aL_40, aS_40, aL_41, aS_41, aL_42, aS_42, aL_43, aS_43, rL, rS, z_switch, Nat.zero_le, or_true, true_or, or_false, false_or,  cnt_i, cnt_v, cnt_x, i0_eq, i1_eq, i01_eq, im1_0, ne_eq, not_true_eq_false, not_false_eq_true, true_implies, false_implies, implies_true, true_and, and_true, false_and, and_false, List.set_cons_zero, List.set_cons_succ, bI_0, nz_2, nz_3, nz_4, nz_5, nz_6, nz_7, nz_8, nz_9, nz_10, nz_11, nz_12, nz_13, nz_16, nz_22, nz_23, nz_26, nz_32, nz_48, nz_81, nz_100, nz_101, nz_102, nz_128, nz_256, nz_2048, nz_4096, nz_60000]
    rw [nI_1]
    exact hx
theorem ec0 : ec 0 = -3000000 := rfl
theorem ec1 : ec 1 = -2000000 := rfl
theorem ec2 : ec 2 = -1000000 := rfl
theorem r_write : (writeR (VI, VA) 0 0 4).1 = 1 := by
  unfold writeR
  rw [cif_neg (fun w => w ⟨by decide, by decide⟩), cif_neg (fun w => w ⟨by decide, by decide⟩), cif_pos (fun w => absurd w.2 (by decide))]
theorem r_unl : (unlikelyR (VI, VA) 0 0).1 = 1 := by
  unfold unlikelyR
  rw [cif_pos (fun w => absurd w.2 (show ¬ (0 : Int32) < 0 by decide))]
theorem r_shi : (sheetIsR (VI, VA) 0 0).1 = 1 := by
  unfold sheetIsR
  rw [cif_pos (fun w => absurd w.2 (show ¬ (0 : Int32) < 0 by decide))]
theorem r_pas : (passR (VI, VA) 31).1 = 1 := by
  unfold passR
  rw [cif_pos (fun w => w.2 (by decide))]
theorem r_arr : (arrestR (VI, VA) 0).1 = 2 := by
  have e1 : fre (VI, VA) (0 : Int32).toNatClampNeg = true := by first | rfl | decide
  have e2 : knw (VI, VA) (0 : Int32).toNatClampNeg = false := by first | rfl | decide
  unfold arrestR
  rw [cif_neg (fun w => w ⟨by decide, by decide⟩), cif_neg (fun w => Bool.noConfusion (e1.symm.trans w)), cif_pos e2]
theorem law_five {nn kk : Nat} {o13 o14 o15 o16 o17 : Option Value} (hS : S.1 ≤ 260) (hn : nn ≤ 145) (hk : kk ≤ 4470) (hK : ∀ g, K (.inl (some (.int 1))) g) {J : Nat → Nat → Int32} (h : JI 36 J) : X S mL_law 124 (LM o13 o14 o15 o16 o17) [] (GS (VI, VA) J) nn kk K := by
  have zA : (rmM mL_law).cells = 600130 := rfl
  have zB : (rmM mL_law).slots = 7301080 := rfl
  refine bL_law_124 ?_
  simp only [ti_0, ta_0, tR_0, si_0, sa_0, ii_0, ti_1, ta_1, tR_1, si_1, sa_1, ii_1, ti_2, ta_2, tR_2, si_2, sa_2, ii_2, ti_3, ta_3, tR_3, si_3, sa_3, ii_3, ti_4, ta_4, tR_4, si_4, sa_4, ii_4, ti_5, ta_5, tR_5, si_5, sa_5, ii_5, ti_6, ta_6, tR_6, si_6, sa_6, ii_6, ti_7, ta_7, tR_7, si_7, sa_7, ii_7, ti_8, ta_8, tR_8, si_8, sa_8, ii_8, ti_9, ta_9, tR_9, si_9, sa_9, ii_9, ti_10, ta_10, tR_10, si_10, sa_10, ii_10, ti_11, ta_11, tR_11, si_11, sa_11, ii_11, ti_12, ta_12, tR_12, si_12, sa_12, ii_12, ti_13, ta_13, tR_13, si_13, sa_13, ii_13, ti_14, ta_14, tR_14, si_14, sa_14, ii_14, ti_15, ta_15, tR_15, si_15, sa_15, ii_15, ti_16, ta_16, tR_16, si_16, sa_16, ii_16, ti_17, ta_17, tR_17, si_17, sa_17, ii_17, ti_18, ta_18, tR_18, si_18, sa_18, ii_18, ti_19, ta_19, tR_19, si_19, sa_19, ii_19, ti_20, ta_20, tR_20, si_20, sa_20, ii_20, ti_21, ta_21, tR_21, si_21, sa_21, ii_21, ti_22, ta_22, tR_22, si_22, sa_22, ii_22, ti_23, ta_23, tR_23, si_23, sa_23, ii_23, ti_24, ta_24, tR_24, si_24, sa_24, ii_24, ti_25, ta_25, tR_25, si_25, sa_25, ii_25, ti_26, ta_26, tR_26, si_26, sa_26, ii_26, tc, tnil, z_iadd, z_isub, z_imul, z_iand, z_ior, z_ixor, z_ishl, z_ishr, z_iushr, z_irem, z_idiv, z_ineg, z_i2l, z_lconst, z_lcmp, z_goto, z_if_eq, z_if_ne, z_if_lt, z_if_ge, z_if_gt, z_if_le, z_ic_eq, z_ic_ne, z_ic_lt, z_ic_ge, z_ic_gt, z_ic_le, z_iret, z_bret, z_vret, z_thr, z_dup_int, z_dup2_int, z_pop_int, z_dup_ref, z_dup2_ref, z_pop_ref, z_dup_row, z_dup2_row, z_pop_row, gI_0, pI_0, pZ_0, gI_1, pI_1, pZ_1, gI_2, pI_2, pZ_2, gI_3, pI_3, pZ_3, gI_4, pI_4, pZ_4, gI_5, pI_5, pZ_5, gR_0_2, gR_0_3, gR_0_4, gR_0_5, gR_1_0, gR_1_1, gR_1_2, gR_1_3, gR_2_3, gR_2_4, gR_2_5, gR_2_6, gR_3_2, gR_3_3, gR_3_4, gR_3_5, gR_3_6, gR_3_7, gR_3_8, gR_3_9, gR_3_10, gR_3_11, gR_4_0, gR_4_1, gR_5_0, gR_5_1, gR_5_2, gR_5_3, gR_5_4, gR_5_5, gR_5_6, aL_7, aL_8, aS_8, aL_9, aS_9, aL_10, aS_10, aL_11, aS_11, aL_12, aS_12, aL_13, aS_13, aL_14, aS_14, aL_15, aS_15, aL_16, aS_16, aL_17, aS_17, aL_18, aS_18, aL_19, aL_20, aS_20, aL_21, aS_21, aL_22, aS_22, aL_23, aS_23, aL_24, aS_24, aL_25, aS_25, aL_26, aS_26, aL_27, aS_27, aL_28, aS_28, aL_29, aS_29, aL_30, aS_30, aL_31, aS_31, aL_32, aS_32, aL_33, aS_33, aL_34, aS_34, aL_35, aS_35, aL_36, aS_36, aL_37, aS_37, aL_38, aS_38, aL_39, aS_39, aL_40, aS_40, aL_41, aS_41, aL_42, aS_42, aL_43, aS_43, rL, rS, z_switch, Nat.zero_le, or_true, true_or, or_false, false_or,  cnt_i, cnt_v, cnt_x, i0_eq, i1_eq, i01_eq, im1_0, ne_eq, not_true_eq_false, not_false_eq_true, true_implies, false_implies, implies_true, true_and, and_true, false_and, and_false, List.set_cons_zero, List.set_cons_succ, bI_0, nz_2, nz_3, nz_4, nz_5, nz_6, nz_7, nz_8, nz_9, nz_10, nz_11, nz_12, nz_13, nz_16, nz_22, nz_23, nz_26, nz_32, nz_48, nz_81, nz_100, nz_101, nz_102, nz_128, nz_256, nz_2048, nz_4096, nz_60000]
  refine callw_5 zA zB (show _ = 51 from rfl) (show _ = 306 from rfl) (Nat.le_of_ble_eq_true rfl) rfl (by omega) (by omega) (do_write INV_0 (Nat.le_refl 0) (DK_1 r_write ?_))
  simp only [ec0, ti_0, ta_0, tR_0, si_0, sa_0, ii_0, ti_1, ta_1, tR_1, si_1, sa_1, ii_1, ti_2, ta_2, tR_2, si_2, sa_2, ii_2, ti_3, ta_3, tR_3, si_3, sa_3, ii_3, ti_4, ta_4, tR_4, si_4, sa_4, ii_4, ti_5, ta_5, tR_5, si_5, sa_5, ii_5, ti_6, ta_6, tR_6, si_6, sa_6, ii_6, ti_7, ta_7, tR_7, si_7, sa_7, ii_7, ti_8, ta_8, tR_8, si_8, sa_8, ii_8, ti_9, ta_9, tR_9, si_9, sa_9, ii_9, ti_10, ta_10, tR_10, si_10, sa_10, ii_10, ti_11, ta_11, tR_11, si_11, sa_11, ii_11, ti_12, ta_12, tR_12, si_12, sa_12, ii_12, ti_13, ta_13, tR_13, si_13, sa_13, ii_13, ti_14, ta_14, tR_14, si_14, sa_14, ii_14, ti_15, ta_15, tR_15, si_15, sa_15, ii_15, ti_16, ta_16, tR_16, si_16, sa_16, ii_16, ti_17, ta_17, tR_17, si_17, sa_17, ii_17, ti_18, ta_18, tR_18, si_18, sa_18, ii_18, ti_19, ta_19, tR_19, si_19, sa_19, ii_19, ti_20, ta_20, tR_20, si_20, sa_20, ii_20, ti_21, ta_21, tR_21, si_21, sa_21, ii_21, ti_22, ta_22, tR_22, si_22, sa_22, ii_22, ti_23, ta_23, tR_23, si_23, sa_23, ii_23, ti_24, ta_24, tR_24, si_24, sa_24, ii_24, ti_25, ta_25, tR_25, si_25, sa_25, ii_25, ti_26, ta_26, tR_26, si_26, sa_26, ii_26, tc, tnil, z_iadd, z_isub, z_imul, z_iand, z_ior, z_ixor, z_ishl, z_ishr, z_iushr, z_irem, z_idiv, z_ineg, z_i2l, z_lconst, z_lcmp, z_goto, z_if_eq, z_if_ne, z_if_lt, z_if_ge, z_if_gt, z_if_le, z_ic_eq, z_ic_ne, z_ic_lt, z_ic_ge, z_ic_gt, z_ic_le, z_iret, z_bret, z_vret, z_thr, z_dup_int, z_dup2_int, z_pop_int, z_dup_ref, z_dup2_ref, z_pop_ref, z_dup_row, z_dup2_row, z_pop_row, gI_0, pI_0, pZ_0, gI_1, pI_1, pZ_1, gI_2, pI_2, pZ_2, gI_3, pI_3, pZ_3, gI_4, pI_4, pZ_4, gI_5, pI_5, pZ_5, gR_0_2, gR_0_3, gR_0_4, gR_0_5, gR_1_0, gR_1_1, gR_1_2, gR_1_3, gR_2_3, gR_2_4, gR_2_5, gR_2_6, gR_3_2, gR_3_3, gR_3_4, gR_3_5, gR_3_6, gR_3_7, gR_3_8, gR_3_9, gR_3_10, gR_3_11, gR_4_0, gR_4_1, gR_5_0, gR_5_1, gR_5_2, gR_5_3, gR_5_4, gR_5_5, gR_5_6, aL_7, aL_8, aS_8, aL_9, aS_9, aL_10, aS_10, aL_11, aS_11, aL_12, aS_12, aL_13, aS_13, aL_14, aS_14, aL_15, aS_15, aL_16, aS_16, aL_17, aS_17, aL_18, aS_18, aL_19, aL_20, aS_20, aL_21, aS_21, aL_22, aS_22, aL_23, aS_23, aL_24, aS_24, aL_25, aS_25, aL_26, aS_26, aL_27, aS_27, aL_28, aS_28, aL_29, aS_29, aL_30, aS_30, aL_31, aS_31, aL_32, aS_32, aL_33, aS_33, aL_34, aS_34, aL_35, aS_35, aL_36, aS_36, aL_37, aS_37, aL_38, aS_38, aL_39, aS_39, aL_40, aS_40, aL_41, aS_41, aL_42, aS_42, aL_43, aS_43, rL, rS, z_switch, Nat.zero_le, or_true, true_or, or_false, false_or,  cnt_i, cnt_v, cnt_x, i0_eq, i1_eq, i01_eq, im1_0, ne_eq, not_true_eq_false, not_false_eq_true, true_implies, false_implies, implies_true, true_and, and_true, false_and, and_false, List.set_cons_zero, List.set_cons_succ]
  refine callw_5 zA zB (show _ = 51 from rfl) (show _ = 306 from rfl) (Nat.le_of_ble_eq_true rfl) rfl (by omega) (by omega) (do_unlikely INV_0 (DK_1 r_unl ?_))
  simp only [ec0, ti_0, ta_0, tR_0, si_0, sa_0, ii_0, ti_1, ta_1, tR_1, si_1, sa_1, ii_1, ti_2, ta_2, tR_2, si_2, sa_2, ii_2, ti_3, ta_3, tR_3, si_3, sa_3, ii_3, ti_4, ta_4, tR_4, si_4, sa_4, ii_4, ti_5, ta_5, tR_5, si_5, sa_5, ii_5, ti_6, ta_6, tR_6, si_6, sa_6, ii_6, ti_7, ta_7, tR_7, si_7, sa_7, ii_7, ti_8, ta_8, tR_8, si_8, sa_8, ii_8, ti_9, ta_9, tR_9, si_9, sa_9, ii_9, ti_10, ta_10, tR_10, si_10, sa_10, ii_10, ti_11, ta_11, tR_11, si_11, sa_11, ii_11, ti_12, ta_12, tR_12, si_12, sa_12, ii_12, ti_13, ta_13, tR_13, si_13, sa_13, ii_13, ti_14, ta_14, tR_14, si_14, sa_14, ii_14, ti_15, ta_15, tR_15, si_15, sa_15, ii_15, ti_16, ta_16, tR_16, si_16, sa_16, ii_16, ti_17, ta_17, tR_17, si_17, sa_17, ii_17, ti_18, ta_18, tR_18, si_18, sa_18, ii_18, ti_19, ta_19, tR_19, si_19, sa_19, ii_19, ti_20, ta_20, tR_20, si_20, sa_20, ii_20, ti_21, ta_21, tR_21, si_21, sa_21, ii_21, ti_22, ta_22, tR_22, si_22, sa_22, ii_22, ti_23, ta_23, tR_23, si_23, sa_23, ii_23, ti_24, ta_24, tR_24, si_24, sa_24, ii_24, ti_25, ta_25, tR_25, si_25, sa_25, ii_25, ti_26, ta_26, tR_26, si_26, sa_26, ii_26, tc, tnil, z_iadd, z_isub, z_imul, z_iand, z_ior, z_ixor, z_ishl, z_ishr, z_iushr, z_irem, z_idiv, z_ineg, z_i2l, z_lconst, z_lcmp, z_goto, z_if_eq, z_if_ne, z_if_lt, z_if_ge, z_if_gt, z_if_le, z_ic_eq, z_ic_ne, z_ic_lt, z_ic_ge, z_ic_gt, z_ic_le, z_iret, z_bret, z_vret, z_thr, z_dup_int, z_dup2_int, z_pop_int, z_dup_ref, z_dup2_ref, z_pop_ref, z_dup_row, z_dup2_row, z_pop_row, gI_0, pI_0, pZ_0, gI_1, pI_1, pZ_1, gI_2, pI_2, pZ_2, gI_3, pI_3, pZ_3, gI_4, pI_4, pZ_4, gI_5, pI_5, pZ_5, gR_0_2, gR_0_3, gR_0_4, gR_0_5, gR_1_0, gR_1_1, gR_1_2, gR_1_3, gR_2_3, gR_2_4, gR_2_5, gR_2_6, gR_3_2, gR_3_3, gR_3_4, gR_3_5, gR_3_6, gR_3_7, gR_3_8, gR_3_9, gR_3_10, gR_3_11, gR_4_0, gR_4_1, gR_5_0, gR_5_1, gR_5_2, gR_5_3, gR_5_4, gR_5_5, gR_5_6, aL_7, aL_8, aS_8, aL_9, aS_9, aL_10, aS_10, aL_11, aS_11, aL_12, aS_12, aL_13, aS_13, aL_14, aS_14, aL_15, aS_15, aL_16, aS_16, aL_17, aS_17, aL_18, aS_18, aL_19, aL_20, aS_20, aL_21, aS_21, aL_22, aS_22, aL_23, aS_23, aL_24, aS_24, aL_25, aS_25, aL_26, aS_26, aL_27, aS_27, aL_28, aS_28, aL_29, aS_29, aL_30, aS_30, aL_31, aS_31, aL_32, aS_32, aL_33, aS_33, aL_34, aS_34, aL_35, aS_35, aL_36, aS_36, aL_37, aS_37, aL_38, aS_38, aL_39, aS_39, aL_40, aS_40, aL_41, aS_41, aL_42, aS_42, aL_43, aS_43, rL, rS, z_switch, Nat.zero_le, or_true, true_or, or_false, false_or,  cnt_i, cnt_v, cnt_x, i0_eq, i1_eq, i01_eq, im1_0, ne_eq, not_true_eq_false, not_false_eq_true, true_implies, false_implies, implies_true, true_and, and_true, false_and, and_false, List.set_cons_zero, List.set_cons_succ]
  refine callw_5 zA zB (show _ = 51 from rfl) (show _ = 306 from rfl) (Nat.le_of_ble_eq_true rfl) rfl (by omega) (by omega) (do_arrest INV_0 (by decide) (DK_2 r_arr ?_))
  simp only [ec2, ti_0, ta_0, tR_0, si_0, sa_0, ii_0, ti_1, ta_1, tR_1, si_1, sa_1, ii_1, ti_2, ta_2, tR_2, si_2, sa_2, ii_2, ti_3, ta_3, tR_3, si_3, sa_3, ii_3, ti_4, ta_4, tR_4, si_4, sa_4, ii_4, ti_5, ta_5, tR_5, si_5, sa_5, ii_5, ti_6, ta_6, tR_6, si_6, sa_6, ii_6, ti_7, ta_7, tR_7, si_7, sa_7, ii_7, ti_8, ta_8, tR_8, si_8, sa_8, ii_8, ti_9, ta_9, tR_9, si_9, sa_9, ii_9, ti_10, ta_10, tR_10, si_10, sa_10, ii_10, ti_11, ta_11, tR_11, si_11, sa_11, ii_11, ti_12, ta_12, tR_12, si_12, sa_12, ii_12, ti_13, ta_13, tR_13, si_13, sa_13, ii_13, ti_14, ta_14, tR_14, si_14, sa_14, ii_14, ti_15, ta_15, tR_15, si_15, sa_15, ii_15, ti_16, ta_16, tR_16, si_16, sa_16, ii_16, ti_17, ta_17, tR_17, si_17, sa_17, ii_17, ti_18, ta_18, tR_18, si_18, sa_18, ii_18, ti_19, ta_19, tR_19, si_19, sa_19, ii_19, ti_20, ta_20, tR_20, si_20, sa_20, ii_20, ti_21, ta_21, tR_21, si_21, sa_21, ii_21, ti_22, ta_22, tR_22, si_22, sa_22, ii_22, ti_23, ta_23, tR_23, si_23, sa_23, ii_23, ti_24, ta_24, tR_24, si_24, sa_24, ii_24, ti_25, ta_25, tR_25, si_25, sa_25, ii_25, ti_26, ta_26, tR_26, si_26, sa_26, ii_26, tc, tnil, z_iadd, z_isub, z_imul, z_iand, z_ior, z_ixor, z_ishl, z_ishr, z_iushr, z_irem, z_idiv, z_ineg, z_i2l, z_lconst, z_lcmp, z_goto, z_if_eq, z_if_ne, z_if_lt, z_if_ge, z_if_gt, z_if_le, z_ic_eq, z_ic_ne, z_ic_lt, z_ic_ge, z_ic_gt, z_ic_le, z_iret, z_bret, z_vret, z_thr, z_dup_int, z_dup2_int, z_pop_int, z_dup_ref, z_dup2_ref, z_pop_ref, z_dup_row, z_dup2_row, z_pop_row, gI_0, pI_0, pZ_0, gI_1, pI_1, pZ_1, gI_2, pI_2, pZ_2, gI_3, pI_3, pZ_3, gI_4, pI_4, pZ_4, gI_5, pI_5, pZ_5, gR_0_2, gR_0_3, gR_0_4, gR_0_5, gR_1_0, gR_1_1, gR_1_2, gR_1_3, gR_2_3, gR_2_4, gR_2_5, gR_2_6, gR_3_2, gR_3_3, gR_3_4, gR_3_5, gR_3_6, gR_3_7, gR_3_8, gR_3_9, gR_3_10, gR_3_11, gR_4_0, gR_4_1, gR_5_0, gR_5_1, gR_5_2, gR_5_3, gR_5_4, gR_5_5, gR_5_6, aL_7, aL_8, aS_8, aL_9, aS_9, aL_10, aS_10, aL_11, aS_11, aL_12, aS_12, aL_13, aS_13, aL_14, aS_14, aL_15, aS_15, aL_16, aS_16, aL_17, aS_17, aL_18, aS_18, aL_19, aL_20, aS_20, aL_21, aS_21, aL_22, aS_22, aL_23, aS_23, aL_24, aS_24, aL_25, aS_25, aL_26, aS_26, aL_27, aS_27, aL_28, aS_28, aL_29, aS_29, aL_30, aS_30, aL_31, aS_31, aL_32, aS_32, aL_33, aS_33, aL_34, aS_34, aL_35, aS_35, aL_36, aS_36, aL_37, aS_37, aL_38, aS_38, aL_39, aS_39, aL_40, aS_40, aL_41, aS_41, aL_42, aS_42, aL_43, aS_43, rL, rS, z_switch, Nat.zero_le, or_true, true_or, or_false, false_or,  cnt_i, cnt_v, cnt_x, i0_eq, i1_eq, i01_eq, im1_0, ne_eq, not_true_eq_false, not_false_eq_true, true_implies, false_implies, implies_true, true_and, and_true, false_and, and_false, List.set_cons_zero, List.set_cons_succ]
  refine callw_5 zA zB (show _ = 51 from rfl) (show _ = 306 from rfl) (Nat.le_of_ble_eq_true rfl) rfl (by omega) (by omega) (do_pass INV_0 (DK_1 r_pas ?_))
  simp only [ec1, ti_0, ta_0, tR_0, si_0, sa_0, ii_0, ti_1, ta_1, tR_1, si_1, sa_1, ii_1, ti_2, ta_2, tR_2, si_2, sa_2, ii_2, ti_3, ta_3, tR_3, si_3, sa_3, ii_3, ti_4, ta_4, tR_4, si_4, sa_4, ii_4, ti_5, ta_5, tR_5, si_5, sa_5, ii_5, ti_6, ta_6, tR_6, si_6, sa_6, ii_6, ti_7, ta_7, tR_7, si_7, sa_7, ii_7, ti_8, ta_8, tR_8, si_8, sa_8, ii_8, ti_9, ta_9, tR_9, si_9, sa_9, ii_9, ti_10, ta_10, tR_10, si_10, sa_10, ii_10, ti_11, ta_11, tR_11, si_11, sa_11, ii_11, ti_12, ta_12, tR_12, si_12, sa_12, ii_12, ti_13, ta_13, tR_13, si_13, sa_13, ii_13, ti_14, ta_14, tR_14, si_14, sa_14, ii_14, ti_15, ta_15, tR_15, si_15, sa_15, ii_15, ti_16, ta_16, tR_16, si_16, sa_16, ii_16, ti_17, ta_17, tR_17, si_17, sa_17, ii_17, ti_18, ta_18, tR_18, si_18, sa_18, ii_18, ti_19, ta_19, tR_19, si_19, sa_19, ii_19, ti_20, ta_20, tR_20, si_20, sa_20, ii_20, ti_21, ta_21, tR_21, si_21, sa_21, ii_21, ti_22, ta_22, tR_22, si_22, sa_22, ii_22, ti_23, ta_23, tR_23, si_23, sa_23, ii_23, ti_24, ta_24, tR_24, si_24, sa_24, ii_24, ti_25, ta_25, tR_25, si_25, sa_25, ii_25, ti_26, ta_26, tR_26, si_26, sa_26, ii_26, tc, tnil, z_iadd, z_isub, z_imul, z_iand, z_ior, z_ixor, z_ishl, z_ishr, z_iushr, z_irem, z_idiv, z_ineg, z_i2l, z_lconst, z_lcmp, z_goto, z_if_eq, z_if_ne, z_if_lt, z_if_ge, z_if_gt, z_if_le, z_ic_eq, z_ic_ne, z_ic_lt, z_ic_ge, z_ic_gt, z_ic_le, z_iret, z_bret, z_vret, z_thr, z_dup_int, z_dup2_int, z_pop_int, z_dup_ref, z_dup2_ref, z_pop_ref, z_dup_row, z_dup2_row, z_pop_row, gI_0, pI_0, pZ_0, gI_1, pI_1, pZ_1, gI_2, pI_2, pZ_2, gI_3, pI_3, pZ_3, gI_4, pI_4, pZ_4, gI_5, pI_5, pZ_5, gR_0_2, gR_0_3, gR_0_4, gR_0_5, gR_1_0, gR_1_1, gR_1_2, gR_1_3, gR_2_3, gR_2_4, gR_2_5, gR_2_6, gR_3_2, gR_3_3, gR_3_4, gR_3_5, gR_3_6, gR_3_7, gR_3_8, gR_3_9, gR_3_10, gR_3_11, gR_4_0, gR_4_1, gR_5_0, gR_5_1, gR_5_2, gR_5_3, gR_5_4, gR_5_5, gR_5_6, aL_7, aL_8, aS_8, aL_9, aS_9, aL_10, aS_10, aL_11, aS_11, aL_12, aS_12, aL_13, aS_13, aL_14, aS_14, aL_15, aS_15, aL_16, aS_16, aL_17, aS_17, aL_18, aS_18, aL_19, aL_20, aS_20, aL_21, aS_21, aL_22, aS_22, aL_23, aS_23, aL_24, aS_24, aL_25, aS_25, aL_26, aS_26, aL_27, aS_27, aL_28, aS_28, aL_29, aS_29, aL_30, aS_30, aL_31, aS_31, aL_32, aS_32, aL_33, aS_33, aL_34, aS_34, aL_35, aS_35, aL_36, aS_36, aL_37, aS_37, aL_38, aS_38, aL_39, aS_39, aL_40, aS_40, aL_41, aS_41, aL_42, aS_42, aL_43, aS_43, rL, rS, z_switch, Nat.zero_le, or_true, true_or, or_false, false_or,  cnt_i, cnt_v, cnt_x, i0_eq, i1_eq, i01_eq, im1_0, ne_eq, not_true_eq_false, not_false_eq_true, true_implies, false_implies, implies_true, true_and, and_true, false_and, and_false, List.set_cons_zero, List.set_cons_succ]
  refine callw_5 zA zB (show _ = 51 from rfl) (show _ = 306 from rfl) (Nat.le_of_ble_eq_true rfl) rfl (by omega) (by omega) (do_sheetIs INV_0 (DK_1 r_shi ?_))
  simp only [ec0, ti_0, ta_0, tR_0, si_0, sa_0, ii_0, ti_1, ta_1, tR_1, si_1, sa_1, ii_1, ti_2, ta_2, tR_2, si_2, sa_2, ii_2, ti_3, ta_3, tR_3, si_3, sa_3, ii_3, ti_4, ta_4, tR_4, si_4, sa_4, ii_4, ti_5, ta_5, tR_5, si_5, sa_5, ii_5, ti_6, ta_6, tR_6, si_6, sa_6, ii_6, ti_7, ta_7, tR_7, si_7, sa_7, ii_7, ti_8, ta_8, tR_8, si_8, sa_8, ii_8, ti_9, ta_9, tR_9, si_9, sa_9, ii_9, ti_10, ta_10, tR_10, si_10, sa_10, ii_10, ti_11, ta_11, tR_11, si_11, sa_11, ii_11, ti_12, ta_12, tR_12, si_12, sa_12, ii_12, ti_13, ta_13, tR_13, si_13, sa_13, ii_13, ti_14, ta_14, tR_14, si_14, sa_14, ii_14, ti_15, ta_15, tR_15, si_15, sa_15, ii_15, ti_16, ta_16, tR_16, si_16, sa_16, ii_16, ti_17, ta_17, tR_17, si_17, sa_17, ii_17, ti_18, ta_18, tR_18, si_18, sa_18, ii_18, ti_19, ta_19, tR_19, si_19, sa_19, ii_19, ti_20, ta_20, tR_20, si_20, sa_20, ii_20, ti_21, ta_21, tR_21, si_21, sa_21, ii_21, ti_22, ta_22, tR_22, si_22, sa_22, ii_22, ti_23, ta_23, tR_23, si_23, sa_23, ii_23, ti_24, ta_24, tR_24, si_24, sa_24, ii_24, ti_25, ta_25, tR_25, si_25, sa_25, ii_25, ti_26, ta_26, tR_26, si_26, sa_26, ii_26, tc, tnil, z_iadd, z_isub, z_imul, z_iand, z_ior, z_ixor, z_ishl, z_ishr, z_iushr, z_irem, z_idiv, z_ineg, z_i2l, z_lconst, z_lcmp, z_goto, z_if_eq, z_if_ne, z_if_lt, z_if_ge, z_if_gt, z_if_le, z_ic_eq, z_ic_ne, z_ic_lt, z_ic_ge, z_ic_gt, z_ic_le, z_iret, z_bret, z_vret, z_thr, z_dup_int, z_dup2_int, z_pop_int, z_dup_ref, z_dup2_ref, z_pop_ref, z_dup_row, z_dup2_row, z_pop_row, gI_0, pI_0, pZ_0, gI_1, pI_1, pZ_1, gI_2, pI_2, pZ_2, gI_3, pI_3, pZ_3, gI_4, pI_4, pZ_4, gI_5, pI_5, pZ_5, gR_0_2, gR_0_3, gR_0_4, gR_0_5, gR_1_0, gR_1_1, gR_1_2, gR_1_3, gR_2_3, gR_2_4, gR_2_5, gR_2_6, gR_3_2, gR_3_3, gR_3_4, gR_3_5, gR_3_6, gR_3_7, gR_3_8, gR_3_9, gR_3_10, gR_3_11, gR_4_0, gR_4_1, gR_5_0, gR_5_1, gR_5_2, gR_5_3, gR_5_4, gR_5_5, gR_5_6, aL_7, aL_8, aS_8, aL_9, aS_9, aL_10, aS_10, aL_11, aS_11, aL_12, aS_12, aL_13, aS_13, aL_14, aS_14, aL_15, aS_15, aL_16, aS_16, aL_17, aS_17, aL_18, aS_18, aL_19, aL_20, aS_20, aL_21, aS_21, aL_22, aS_22, aL_23, aS_23, aL_24, aS_24, aL_25, aS_25, aL_26, aS_26, aL_27, aS_27, aL_28, aS_28, aL_29, aS_29, aL_30, aS_30, aL_31, aS_31, aL_32, aS_32, aL_33, aS_33, aL_34, aS_34, aL_35, aS_35, aL_36, aS_36, aL_37, aS_37, aL_38, aS_38, aL_39, aS_39, aL_40, aS_40, aL_41, aS_41, aL_42, aS_42, aL_43, aS_43, rL, rS, z_switch, Nat.zero_le, or_true, true_or, or_false, false_or,  cnt_i, cnt_v, cnt_x, i0_eq, i1_eq, i01_eq, im1_0, ne_eq, not_true_eq_false, not_false_eq_true, true_implies, false_implies, implies_true, true_and, and_true, false_and, and_false, List.set_cons_zero, List.set_cons_succ]
  refine bL_law_198 ?_
  simp only [ti_0, ta_0, tR_0, si_0, sa_0, ii_0, ti_1, ta_1, tR_1, si_1, sa_1, ii_1, ti_2, ta_2, tR_2, si_2, sa_2, ii_2, ti_3, ta_3, tR_3, si_3, sa_3, ii_3, ti_4, ta_4, tR_4, si_4, sa_4, ii_4, ti_5, ta_5, tR_5, si_5, sa_5, ii_5, ti_6, ta_6, tR_6, si_6, sa_6, ii_6, ti_7, ta_7, tR_7, si_7, sa_7, ii_7, ti_8, ta_8, tR_8, si_8, sa_8, ii_8, ti_9, ta_9, tR_9, si_9, sa_9, ii_9, ti_10, ta_10, tR_10, si_10, sa_10, ii_10, ti_11, ta_11, tR_11, si_11, sa_11, ii_11, ti_12, ta_12, tR_12, si_12, sa_12, ii_12, ti_13, ta_13, tR_13, si_13, sa_13, ii_13, ti_14, ta_14, tR_14, si_14, sa_14, ii_14, ti_15, ta_15, tR_15, si_15, sa_15, ii_15, ti_16, ta_16, tR_16, si_16, sa_16, ii_16, ti_17, ta_17, tR_17, si_17, sa_17, ii_17, ti_18, ta_18, tR_18, si_18, sa_18, ii_18, ti_19, ta_19, tR_19, si_19, sa_19, ii_19, ti_20, ta_20, tR_20, si_20, sa_20, ii_20, ti_21, ta_21, tR_21, si_21, sa_21, ii_21, ti_22, ta_22, tR_22, si_22, sa_22, ii_22, ti_23, ta_23, tR_23, si_23, sa_23, ii_23, ti_24, ta_24, tR_24, si_24, sa_24, ii_24, ti_25, ta_25, tR_25, si_25, sa_25, ii_25, ti_26, ta_26, tR_26, si_26, sa_26, ii_26, tc, tnil, z_iadd, z_isub, z_imul, z_iand, z_ior, z_ixor, z_ishl, z_ishr, z_iushr, z_irem, z_idiv, z_ineg, z_i2l, z_lconst, z_lcmp, z_goto, z_if_eq, z_if_ne, z_if_lt, z_if_ge, z_if_gt, z_if_le, z_ic_eq, z_ic_ne, z_ic_lt, z_ic_ge, z_ic_gt, z_ic_le, z_iret, z_bret, z_vret, z_thr, z_dup_int, z_dup2_int, z_pop_int, z_dup_ref, z_dup2_ref, z_pop_ref, z_dup_row, z_dup2_row, z_pop_row, gI_0, pI_0, pZ_0, gI_1, pI_1, pZ_1, gI_2, pI_2, pZ_2, gI_3, pI_3, pZ_3, gI_4, pI_4, pZ_4, gI_5, pI_5, pZ_5, gR_0_2, gR_0_3, gR_0_4, gR_0_5, gR_1_0, gR_1_1, gR_1_2, gR_1_3, gR_2_3, gR_2_4, gR_2_5, gR_2_6, gR_3_2, gR_3_3, gR_3_4, gR_3_5, gR_3_6, gR_3_7, gR_3_8, gR_3_9, gR_3_10, gR_3_11, gR_4_0, gR_4_1, gR_5_0, gR_5_1, gR_5_2, gR_5_3, gR_5_4, gR_5_5, gR_5_6, aL_7, aL_8, aS_8, aL_9, aS_9, aL_10, aS_10, aL_11, aS_11, aL_12, aS_12, aL_13, aS_13, aL_14, aS_14, aL_15, aS_15, aL_16, aS_16, aL_17, aS_17, aL_18, aS_18, aL_19, aL_20, aS_20, aL_21, aS_21, aL_22, aS_22, aL_23, aS_23, aL_24, aS_24, aL_25, aS_25, aL_26, aS_26, aL_27, aS_27, aL_28, aS_28, aL_29, aS_29, aL_30, aS_30, aL_31, aS_31, aL_32, aS_32, aL_33, aS_33, aL_34, aS_34, aL_35, aS_35, aL_36, aS_36, aL_37, aS_37, aL_38, aS_38, aL_39, aS_39, aL_40, aS_40, aL_41, aS_41, aL_42, aS_42, aL_43, aS_43, rL, rS, z_switch, Nat.zero_le, or_true, true_or, or_false, false_or,  cnt_i, cnt_v, cnt_x, i0_eq, i1_eq, i01_eq, im1_0, ne_eq, not_true_eq_false, not_false_eq_true, true_implies, false_implies, implies_true, true_and, and_true, false_and, and_false, List.set_cons_zero, List.set_cons_succ, bI_0, nz_2, nz_3, nz_4, nz_5, nz_6, nz_7, nz_8, nz_9, nz_10, nz_11, nz_12, nz_13, nz_16, nz_22, nz_23, nz_26, nz_32, nz_48, nz_81, nz_100, nz_101, nz_102, nz_128, nz_256, nz_2048, nz_4096, nz_60000]
  exact law_loop hS hK 60 0 rfl (VI, VA) J 0 0 10 _ _ _ _ _ (LST_0 h) (Or.inl (Nat.le_refl _)) (by omega) (by omega)
theorem law_start (hS : S.1 ≤ 260) (hK : ∀ g, K (.inl (some (.int 1))) g) : X S mL_law 0 [some (.ref 63), none, none, none, none, none, none, none, none, none, none, none, none, none, none, none, none, none] [] (0, R0, VI, VA, J00) 0 0 K := by
  refine bL_law_0 ?_
  refine p_lnew (nb' := 75) (I0 := VI) (I' := VI) (A' := VA) rfl rfl (upR_self rfl) (Nat.le_of_ble_eq_true rfl) (Nat.le_of_ble_eq_true rfl) (Nat.le_of_ble_eq_true rfl) (Nat.le_of_ble_eq_true rfl) (fun K' hK' => k_X5 (fun _ _ => rfl) (fun c hc => rfl) (fun _ _ => rfl) hK') ?_
  refine p_larr (q := 33) (J' := J00) rfl rfl (by decide) (by decide) (Nat.le_of_ble_eq_true rfl) (upR_self rfl) (Nat.le_of_ble_eq_true rfl) (Nat.le_of_ble_eq_true rfl) ?_
  refine p_larr (q := 34) (J' := J00) rfl rfl (by decide) (by decide) (Nat.le_of_ble_eq_true rfl) (upR_self rfl) (Nat.le_of_ble_eq_true rfl) (Nat.le_of_ble_eq_true rfl) ?_
  refine p_larr (q := 35) (J' := J00) rfl rfl (by decide) (by decide) (Nat.le_of_ble_eq_true rfl) (upR_self rfl) (Nat.le_of_ble_eq_true rfl) (Nat.le_of_ble_eq_true rfl) ?_
  refine p_larr (q := 36) (J' := J00) rfl rfl (by decide) (by decide) (Nat.le_of_ble_eq_true rfl) (upR_self rfl) (Nat.le_of_ble_eq_true rfl) (Nat.le_of_ble_eq_true rfl) ?_
  refine p_larr (q := 37) (J' := J00) rfl rfl (by decide) (by decide) (Nat.le_of_ble_eq_true rfl) (upR_self rfl) (Nat.le_of_ble_eq_true rfl) (Nat.le_of_ble_eq_true rfl) ?_
  refine p_larr (q := 38) (J' := J00) rfl rfl (by decide) (by decide) (Nat.le_of_ble_eq_true rfl) (upR_self rfl) (Nat.le_of_ble_eq_true rfl) (Nat.le_of_ble_eq_true rfl) ?_
  refine p_larr (q := 39) (J' := J00) rfl rfl (by decide) (by decide) (Nat.le_of_ble_eq_true rfl) (upR_self rfl) (Nat.le_of_ble_eq_true rfl) (Nat.le_of_ble_eq_true rfl) ?_
  refine p_larr (q := 40) (J' := J00) rfl rfl (by decide) (by decide) (Nat.le_of_ble_eq_true rfl) (upR_self rfl) (Nat.le_of_ble_eq_true rfl) (Nat.le_of_ble_eq_true rfl) ?_
  refine p_larr (q := 41) (J' := J00) rfl rfl (by decide) (by decide) (Nat.le_of_ble_eq_true rfl) (upR_self rfl) (Nat.le_of_ble_eq_true rfl) (Nat.le_of_ble_eq_true rfl) ?_
  refine p_larr (q := 42) (J' := J00) rfl rfl (by decide) (by decide) (Nat.le_of_ble_eq_true rfl) (upR_self rfl) (Nat.le_of_ble_eq_true rfl) (Nat.le_of_ble_eq_true rfl) ?_
  refine p_larr (q := 43) (J' := J00) rfl rfl (by decide) (by decide) (Nat.le_of_ble_eq_true rfl) (upR_self rfl) (Nat.le_of_ble_eq_true rfl) (Nat.le_of_ble_eq_true rfl) ?_
  show tr S 94 82 _ _ [] (GS (VI, VA) J00) _ _ K
  simp only [ti_0, ta_0, tR_0, si_0, sa_0, ii_0, ti_1, ta_1, tR_1, si_1, sa_1, ii_1, ti_2, ta_2, tR_2, si_2, sa_2, ii_2, ti_3, ta_3, tR_3, si_3, sa_3, ii_3, ti_4, ta_4, tR_4, si_4, sa_4, ii_4, ti_5, ta_5, tR_5, si_5, sa_5, ii_5, ti_6, ta_6, tR_6, si_6, sa_6, ii_6, ti_7, ta_7, tR_7, si_7, sa_7, ii_7, ti_8, ta_8, tR_8, si_8, sa_8, ii_8, ti_9, ta_9, tR_9, si_9, sa_9, ii_9, ti_10, ta_10, tR_10, si_10, sa_10, ii_10, ti_11, ta_11, tR_11, si_11, sa_11, ii_11, ti_12, ta_12, tR_12, si_12, sa_12, ii_12, ti_13, ta_13, tR_13, si_13, sa_13, ii_13, ti_14, ta_14, tR_14, si_14, sa_14, ii_14, ti_15, ta_15, tR_15, si_15, sa_15, ii_15, ti_16, ta_16, tR_16, si_16, sa_16, ii_16, ti_17, ta_17, tR_17, si_17, sa_17, ii_17, ti_18, ta_18, tR_18, si_18, sa_18, ii_18, ti_19, ta_19, tR_19, si_19, sa_19, ii_19, ti_20, ta_20, tR_20, si_20, sa_20, ii_20, ti_21, ta_21, tR_21, si_21, sa_21, ii_21, ti_22, ta_22, tR_22, si_22, sa_22, ii_22, ti_23, ta_23, tR_23, si_23, sa_23, ii_23, ti_24, ta_24, tR_24, si_24, sa_24, ii_24, ti_25, ta_25, tR_25, si_25, sa_25, ii_25, ti_26, ta_26, tR_26, si_26, sa_26, ii_26, tc, tnil, z_iadd, z_isub, z_imul, z_iand, z_ior, z_ixor, z_ishl, z_ishr, z_iushr, z_irem, z_idiv, z_ineg, z_i2l, z_lconst, z_lcmp, z_goto, z_if_eq, z_if_ne, z_if_lt, z_if_ge, z_if_gt, z_if_le, z_ic_eq, z_ic_ne, z_ic_lt, z_ic_ge, z_ic_gt, z_ic_le, z_iret, z_bret, z_vret, z_thr, z_dup_int, z_dup2_int, z_pop_int, z_dup_ref, z_dup2_ref, z_pop_ref, z_dup_row, z_dup2_row, z_pop_row, gI_0, pI_0, pZ_0, gI_1, pI_1, pZ_1, gI_2, pI_2, pZ_2, gI_3, pI_3, pZ_3, gI_4, pI_4, pZ_4, gI_5, pI_5, pZ_5, gR_0_2, gR_0_3, gR_0_4, gR_0_5, gR_1_0, gR_1_1, gR_1_2, gR_1_3, gR_2_3, gR_2_4, gR_2_5, gR_2_6, gR_3_2, gR_3_3, gR_3_4, gR_3_5, gR_3_6, gR_3_7, gR_3_8, gR_3_9, gR_3_10, gR_3_11, gR_4_0, gR_4_1, gR_5_0, gR_5_1, gR_5_2, gR_5_3, gR_5_4, gR_5_5, gR_5_6, aL_7, aL_8, aS_8, aL_9, aS_9, aL_10, aS_10, aL_11, aS_11, aL_12, aS_12, aL_13, aS_13, aL_14, aS_14, aL_15, aS_15, aL_16, aS_16, aL_17, aS_17, aL_18, aS_18, aL_19, aL_20, aS_20, aL_21, aS_21, aL_22, aS_22, aL_23, aS_23, aL_24, aS_24, aL_25, aS_25, aL_26, aS_26, aL_27, aS_27, aL_28, aS_28, aL_29, aS_29, aL_30, aS_30, aL_31, aS_31, aL_32, aS_32, aL_33, aS_33, aL_34, aS_34, aL_35, aS_35, aL_36, aS_36, aL_37, aS_37, aL_38, aS_38, aL_39, aS_39, aL_40, aS_40, aL_41, aS_41, aL_42, aS_42, aL_43, aS_43, rL, rS, z_switch, Nat.zero_le, or_true, true_or, or_false, false_or,  cnt_i, cnt_v, cnt_x, i0_eq, i1_eq, i01_eq, im1_0, ne_eq, not_true_eq_false, not_false_eq_true, true_implies, false_implies, implies_true, true_and, and_true, false_and, and_false, List.set_cons_zero, List.set_cons_succ, bI_0, nz_2, nz_3, nz_4, nz_5, nz_6, nz_7, nz_8, nz_9, nz_10, nz_11, nz_12, nz_13, nz_16, nz_22, nz_23, nz_26, nz_32, nz_48, nz_81, nz_100, nz_101, nz_102, nz_128, nz_256, nz_2048, nz_4096, nz_60000]
  refine ⟨vp_in_nI (n := 7) (by decide) (by decide), ?_⟩
  exact law_init (Nat.le_of_ble_eq_true rfl) (Nat.le_of_ble_eq_true rfl) (fun J h => law_five hS (Nat.le_of_ble_eq_true rfl) (Nat.le_of_ble_eq_true rfl) hK h) 36 0 rfl J1 JI_0
end LG
