/-! The law from its entry to the loop -/
theorem unkN_le {f : Nat → Bool} : ∀ n, unkN f n ≤ n
  | 0 => Nat.le_refl _
  | n + 1 => by
    unfold unkN
    have := unkN_le (f := f) n
    split <;> omega
theorem pv_Z {j : Nat} : pv (ZR j) := Or.inr ⟨0, by decide, rfl⟩
theorem pv_m {j : Nat} : pv (flr 4 (-1) j) := by
  unfold flr
  show pv (if j < 4 then -1 else 0)
  split
  · exact Or.inl rfl
  · exact Or.inr ⟨0, by decide, rfl⟩
theorem kdv_m {j : Nat} : kdv (flr 12 (-1) j) := by
  unfold flr
  show kdv (if j < 12 then -1 else 0)
  split
  · exact Or.inl rfl
  · exact Or.inr (Or.inl rfl)
theorem INV_0 : INV (VI, VA) 0 0 10 := by
  have hZ : ∀ {q : Nat}, ¬ q ∈ [8, 44, 21, 47, 24, 25, 49, 50, 64, 65, 66, 33] → ∀ j, (VI, VA).2 q j = 0 := fun h j => congrFun (VA_Z h) j
  have h20 : ∀ i, bt 0 i = false := fun i => bt_zero
  refine ⟨rfl, by decide, rfl, by decide, fun j h => absurd h (Nat.not_lt_zero j), fun j k _ h => absurd h (Nat.not_lt_zero k), fun j => ⟨0, by decide, hZ (by decide) j⟩, fun j => ?_, fun j => ?_, fun j => ?_, fun j => ?_, fun j => ?_, fun j => ?_, fun j i _ _ => ?_, fun i _ _ => h20 i, fun i _ _ => h20 i, fun j => ?_, fun j => ?_, fun p hp => ?_, ⟨0, rfl, ?_⟩, by decide, fun a ha p => ?_, fun t ht p => ?_⟩
  · rw [hZ (by decide)]
    exact pv_Z (j := 0)
  · exact pv_m
  · exact pv_m
  · exact kdv_m
  · rw [hZ (by decide)]
    exact ⟨by decide, by decide⟩
  · show ∃ m, m < 10 ∧ flr 10 3 j = nI m
    unfold flr
    by_cases h : j < 10
    · exact ⟨3, by decide, if_pos h⟩
    · exact ⟨0, by decide, if_neg h⟩
  · rw [hZ (by decide)]
    exact h20 i
  · rw [hZ (by decide)]
    exact pv_Z (j := 0)
  · rw [hZ (by decide)]
    exact pv_Z (j := 0)
  · constructor
    · intro h
      have h2 : bt 0 p = true := h
      rw [h20] at h2
      cases h2
    · rintro ⟨j, hj, _⟩
      exact absurd hj (Nat.not_lt_zero j)
  · have := unkN_le (f := knw (VI, VA)) 10
    unfold unk
    omega
  · rw [hZ (by simp only [List.mem_cons, List.not_mem_nil, or_false]; omega)]
    exact ⟨by decide, by decide⟩
  · show wdv (VA (64 + t) p)
    rw [VA_w ht]
    show wdv (if p < 12 then nI p else 0)
    by_cases h : p < 12
    · rw [if_pos h]
      revert p
      intro p h
      have : ∀ p, p < 12 → wdv (nI p) := by
        unfold wdv
        decide
      exact this p h
    · rw [if_neg h]
      exact ⟨by decide, by decide⟩
theorem PM_0 : PM (VI, VA) (VI, VA) := by
  refine ⟨rfl, rfl, rfl, rfl, rfl, rfl, rfl, rfl, rfl, rfl, rfl, rfl, rfl, rfl, rfl, rfl, rfl, rfl, rfl, rfl, rfl, rfl, rfl, rfl, rfl, fun t ht p hp => ?_, fun a ha p hp => ?_, ?_, ?_, ?_, ?_, fun p hp => ?_⟩
  · show VA 33 (12 * t + p) = VA (64 + t) p
    rw [VA_w ht]
    show (if 12 * t + p < 36 then nI ((12 * t + p) % 12) else 0) = if p < 12 then nI p else 0
    rw [if_pos (by omega), if_pos hp, show (12 * t + p) % 12 = p by omega]
  · show VA 35 (12 * a + p) = VA (67 + a) p
    rw [VA_Z (q := 35) (by decide), VA_Z (q := 67 + a) (by simp only [List.mem_cons, List.not_mem_nil, or_false]; omega)]
    rfl
  · intro l _
    show VA 53 (4 * l) = VA 28 l
    rw [VA_Z (q := 53) (by decide), VA_Z (q := 28) (by decide)]
    rfl
  · intro l _
    show VA 53 (4 * l + 1) = VA 29 l
    rw [VA_Z (q := 53) (by decide), VA_Z (q := 29) (by decide)]
    rfl
  · intro l _
    show VA 53 (4 * l + 2) = VA 30 l
    rw [VA_Z (q := 53) (by decide), VA_Z (q := 30) (by decide)]
    rfl
  · intro l _
    show VA 53 (4 * l + 3) = VA 31 l
    rw [VA_Z (q := 53) (by decide), VA_Z (q := 31) (by decide)]
    rfl
  · have h : ∀ p, p < 10 → bt ((1023 : Int32) &&& ((0 : Int32) ^^^ -1)) p = true := by decide
    exact ⟨fun _ => rfl, fun _ => h p hp⟩
theorem LI_0 : LI (VI, VA) (10 + 0) := ⟨⟨0, 0, INV_0, Nat.le_refl _⟩, PM_0, rfl⟩
section LE
variable {S : Nat × (Nat → Int32)} {M pe : Nat} {is : List AI} {b2 b3 b4 b5 a2 a3 : Nat} {v2 v3 v4 v5 : Int32} {s2 s3 s5 : List Nat} {nb n k : Nat} {R : Nat → Nat → Value} {I I0 I' A A' : Nat → Nat → Int32} {J : Nat → Nat → Int64} {K : Out → SG → Prop} {ls : LC}
theorem p_lnew {c2 j a nb' : Nat} (h1 : AO[nb]? = some c2) (h52 : cRec j (nb + 1) (kdOf (cC M) j) [.ref c2] = true) (hI : upR I c2 (fun _ => 0) = I0) (hn1 : n + 1 ≤ (rmM M).cells) (hk1 : k + lnn c2 ≤ (rmM M).slots) (hn : n + 1 + (rmM j).cells ≤ (rmM M).cells) (hk : k + lnn c2 + (rmM j).slots ≤ (rmM M).slots) (hj : ∀ K' : Out → SG → Prop, K' (.inl none) (nb', R, I', A', J) → CT j [.ref c2] (nb + 1, Rp R c2 0, I0, A, J) K') (h : tr S M pe is (ls.set a (some (.ref c2))) [] (nb', R, I', A', J) (n + 1 + (rmM j).cells) (k + lnn c2 + (rmM j).slots) K) :
    tr S M pe ((18, c2, b2, v2, s2) :: (20, a3, b3, v3, s3) :: (52, j, 1, v4, []) :: (3, a, b5, v5, s5) :: is) ls [] (nb, R, I, A, J) n k K := by
  refine ⟨h1, hn1, hk1, rfl, ?_⟩
  show tr S M pe ((52, j, 1, v4, []) :: (3, a, b5, v5, s5) :: is) ls [.ref c2, .ref c2] (nb + 1, upR R c2 (fun _ => .null), upR I c2 (fun _ => 0), A, J) (n + 1) (k + lnn c2) K
  rw [rp_new, hI]
  refine call_1 (Nat.le_of_ble_eq_true rfl) h52 hn hk (hj _ ?_)
  rw [cnt_v]
  exact h
theorem p_lout (h1 : AO[nb]? = some 56) (hn : n + 1 ≤ (rmM M).cells) (hk : k + lnn 56 ≤ (rmM M).slots) (h : tr S M pe is ls [.ref 56] (nb + 1, R, I, A, upR J 56 (fun _ => 0)) (n + 1) (k + lnn 56) K) :
    tr S M pe ((4, a2, b2, 1, s2) :: (17, 3, b3, v3, s3) :: is) ls [] (nb, R, I, A, J) n k K := by
  refine ⟨56, h1, rfl, (show ¬ (1 : Int32) < 0 by decide), (show (1 : Int32).toNatClampNeg = lnn 56 by decide), by decide, hn, hk, ?_⟩
  show tr S M pe is ls [.ref 56] (nb + 1, R, I, (if 3 = 3 then A else upR A 56 (fun _ => 0)), (if 3 = 3 then upR J 56 (fun _ => 0) else J)) (n + 1) (k + lnn 56) K
  rw [if_pos rfl, if_pos rfl]
  exact h
end LE
theorem law_start {S : Nat × (Nat → Int32)} {K : Out → SG → Prop} {J : Nat → Nat → Int64} (hS : S.1 ≤ 2048) (hK : ∀ g, K (.inl (some (.int 1))) g) : X S mL_law 0 [some (.ref 63), none, none, none, none, none, none] [] (0, R0, VI, VA, J) 0 0 K := by
  refine bL_law_0 ?_
  refine p_lnew (nb' := 75) (I0 := VI) (I' := VI) (A' := VA) rfl rfl (upR_self rfl) (Nat.le_of_ble_eq_true rfl) (Nat.le_of_ble_eq_true rfl) (Nat.le_of_ble_eq_true rfl) (Nat.le_of_ble_eq_true rfl) (fun K' hK' => k_X5 (fun _ _ => rfl) (fun c hc => ?_) (fun _ _ => rfl) hK') ?_
  · funext k
    unfold VI
    exact if_neg (fun w => by omega)
  refine p_lnew (nb' := 99) (I0 := upR VI 6 (fun _ => 0)) (I' := VI) (A' := VA) rfl rfl rfl (Nat.le_of_ble_eq_true rfl) (Nat.le_of_ble_eq_true rfl) (Nat.le_of_ble_eq_true rfl) (Nat.le_of_ble_eq_true rfl) (fun K' hK' => k_X6 rfl rfl (fun _ _ _ => rfl) hK') ?_
  refine p_lout rfl (Nat.le_of_ble_eq_true rfl) (Nat.le_of_ble_eq_true rfl) ?_
  simp only [ti_0, ta_0, tR_0, si_0, sa_0, ii_0, ti_1, ta_1, tR_1, si_1, sa_1, ii_1, ti_2, ta_2, tR_2, si_2, sa_2, ii_2, ti_3, ta_3, tR_3, si_3, sa_3, ii_3, ti_4, ta_4, tR_4, si_4, sa_4, ii_4, ti_5, ta_5, tR_5, si_5, sa_5, ii_5, ti_6, ta_6, tR_6, si_6, sa_6, ii_6, ti_7, ta_7, tR_7, si_7, sa_7, ii_7, ti_8, ta_8, tR_8, si_8, sa_8, ii_8, ti_9, ta_9, tR_9, si_9, sa_9, ii_9, ti_10, ta_10, tR_10, si_10, sa_10, ii_10, ti_11, ta_11, tR_11, si_11, sa_11, ii_11, ti_12, ta_12, tR_12, si_12, sa_12, ii_12, tc, tnil, z_iadd, z_isub, z_imul, z_iand, z_ior, z_ixor, z_ishl, z_ishr, z_iushr, z_irem, z_i2l, z_lconst, z_lcmp, z_goto, z_if_eq, z_if_ne, z_if_lt, z_if_ge, z_if_gt, z_if_le, z_ic_eq, z_ic_ne, z_ic_lt, z_ic_ge, z_ic_gt, z_ic_le, z_iret, z_bret, z_vret, z_thr, z_dup_int, z_dup2_int, z_pop_int, z_dup_ref, z_dup2_ref, z_pop_ref, z_dup_row, z_dup2_row, z_pop_row, gI_0, pI_0, pZ_0, gI_1, pI_1, pZ_1, gI_2, pI_2, pZ_2, gI_3, pI_3, pZ_3, gI_4, pI_4, pZ_4, gI_5, pI_5, pZ_5, gI_6, pI_6, pZ_6, gR_0_2, gR_0_3, gR_0_4, gR_0_5, gR_1_0, gR_1_1, gR_1_2, gR_1_3, gR_2_3, gR_2_4, gR_2_5, gR_2_6, gR_3_2, gR_3_3, gR_3_4, gR_3_5, gR_3_6, gR_3_7, gR_3_8, gR_3_9, gR_3_10, gR_3_11, gR_4_0, gR_4_1, gR_5_0, gR_5_1, gR_5_2, gR_5_3, gR_5_4, gR_5_5, gR_5_6, gR_6_1, gR_6_4, gR_6_5, gR_6_6, gR_6_7, gR_6_8, gR_6_9, gR_6_10, gR_6_11, gR_6_12, gR_6_13, gR_6_14, gR_6_15, gR_6_16, gR_6_20, gR_6_21, gR_6_24, gR_6_25, gR_6_26, gR_6_27, gR_6_29, gR_6_31, gR_6_32, aL_7, aL_8, aS_8, aL_9, aS_9, aL_10, aS_10, aL_11, aS_11, aL_12, aS_12, aL_13, aS_13, aL_14, aS_14, aL_15, aS_15, aL_16, aS_16, aL_17, aS_17, aL_18, aS_18, aL_19, aL_20, aS_20, aL_21, aS_21, aL_22, aS_22, aL_23, aS_23, aL_24, aS_24, aL_25, aS_25, aL_26, aS_26, aL_27, aS_27, aL_28, aS_28, aL_29, aS_29, aL_30, aS_30, aL_31, aS_31, aL_32, aS_32, aL_33, aS_33, aL_34, aS_34, aL_35, aS_35, aL_36, aS_36, aL_37, aS_37, aL_38, aS_38, aL_39, aS_39, aL_40, aS_40, aL_41, aS_41, aL_42, aS_42, aL_43, aS_43, aL_44, aS_44, aL_45, aS_45, aL_46, aS_46, aL_47, aS_47, aL_48, aS_48, aL_49, aS_49, aL_50, aS_50, aL_51, aS_51, aL_52, aS_52, aL_53, aS_53, aL_54, aS_54, aL_55, aS_55, aL_56, aS_56, rL, rS, z_switch, Nat.zero_le, or_true, true_or, or_false, false_or,  cnt_i, cnt_v, cnt_x, i0_eq, i1_eq, i01_eq, im1_0, ne_eq, not_true_eq_false, not_false_eq_true, true_implies, false_implies, implies_true, true_and, and_true, false_and, and_false, List.set_cons_zero, List.set_cons_succ]
  exact law_loop hS hK 513 0 (by omega) (by omega) (VI, VA) _ _ _ _ _ LI_0 (Nat.le_of_ble_eq_true rfl) (Nat.le_of_ble_eq_true rfl)
