/-! The law's loop: its state, kept by each call -/
section LS
variable {σ τ u : ST} {c n b : Nat}
theorem INV_ext (h : INV σ c n b) (h1 : ∀ c k, ¬ c = 6 → u.1 c k = σ.1 c k) (h2 : ∀ q, (q < 33 ∨ 64 ≤ q) → u.2 q = σ.2 q) : INV u c n b := by
  have ek : knw u = knw σ := funext fun p => by
    unfold knw
    rw [h1 2 2 (by decide)]
  have eu : unk u = unk σ := by
    unfold unk
    rw [ek]
  have eL : Ln u = Ln σ := by
    unfold Ln
    rw [h1 0 1 (by decide)]
  refine ⟨?_, h.hc40, ?_, h.hnc, ?_, ?_, ?_, ?_, ?_, ?_, ?_, ?_, ?_, ?_, ?_, ?_, ?_, ?_, ?_, ?_, h.hb5, ?_, ?_⟩
  · rw [h1 3 0 (by decide)]
    exact h.hc
  · rw [h1 3 1 (by decide)]
    exact h.hn
  · rw [h2 11 (by decide)]
    exact h.hb
  · rw [h2 11 (by decide)]
    exact h.hbm
  · rw [h2 14 (by decide)]
    exact h.hm
  · rw [h2 15 (by decide)]
    exact h.hh
  · rw [h2 24 (by decide)]
    exact h.hmh
  · rw [h2 25 (by decide)]
    exact h.hmn
  · rw [h2 8 (by decide)]
    exact h.hk
  · rw [h2 9 (by decide)]
    exact h.hsw
  · rw [h2 21 (by decide)]
    exact h.hst
  · rw [h2 20 (by decide)]
    exact h.hac
  · rw [h1 2 0 (by decide)]
    exact h.har
  · rw [h1 2 2 (by decide)]
    exact h.hkn
  · rw [h2 30 (by decide)]
    exact h.hdo
  · rw [h2 31 (by decide)]
    exact h.hsu
  · unfold tellP
    rw [ek, eL, h2 29 (by decide), h2 31 (by decide)]
    exact h.hl
  · unfold PB
    rw [h1 0 1 (by decide), eu]
    exact h.hP
  · intro a ha
    rw [h2 (67 + a) (by omega)]
    exact h.hr a ha
  · intro t ht
    rw [h2 (64 + t) (by omega)]
    exact h.hw t ht
theorem PM_FM (h : PM σ σ) (hF : FM σ τ) : PM σ τ :=
  ⟨(hF.1 _).trans h.f_night, (hF.1 _).trans h.f_sheets, (hF.1 _).trans h.f_arrested, (hF.1 _).trans h.f_informers, (hF.1 _).trans h.f_known, (hF.1 _).trans h.f_lines, (hF.1 _).trans h.f_isOpen, (hF.2 _ (by decide) (by decide)).trans h.r_text, (hF.2 _ (by decide) (by decide)).trans h.r_batch, (hF.2 _ (by decide) (by decide)).trans h.r_copy, (hF.2 _ (by decide) (by decide)).trans h.r_parent, (hF.2 _ (by decide) (by decide)).trans h.r_machineOf, (hF.2 _ (by decide) (by decide)).trans h.r_with, (hF.2 _ (by decide) (by decide)).trans h.r_isSeized, (hF.2 _ (by decide) (by decide)).trans h.r_hours, (hF.2 _ (by decide) (by decide)).trans h.r_had, (hF.2 _ (by decide) (by decide)).trans h.r_slip, (hF.2 _ (by decide) (by decide)).trans h.r_slipWord, (hF.2 _ (by decide) (by decide)).trans h.r_knows, (hF.2 _ (by decide) (by decide)).trans h.r_strong, (hF.2 _ (by decide) (by decide)).trans h.r_since, (hF.2 _ (by decide) (by decide)).trans h.r_at, (hF.2 _ (by decide) (by decide)).trans h.r_noted, (hF.2 _ (by decide) (by decide)).trans h.r_wasSeen, (hF.2 _ (by decide) (by decide)).trans h.r_isGone, fun t ht p hp => (congrFun (hF.2 _ (by decide) (by decide)) _).trans (h.word t ht p hp), fun a ha p hp => (congrFun (hF.2 _ (by decide) (by decide)) _).trans (h.reading a ha p hp), fun l hl => (congrFun (hF.2 _ (by decide) (by decide)) _).trans (h.line0 l hl), fun l hl => (congrFun (hF.2 _ (by decide) (by decide)) _).trans (h.line1 l hl), fun l hl => (congrFun (hF.2 _ (by decide) (by decide)) _).trans (h.line2 l hl), fun l hl => (congrFun (hF.2 _ (by decide) (by decide)) _).trans (h.line3 l hl), fun p hp => by
    rw [hF.1, hF.1]
    exact h.name p hp⟩
theorem PM_ext (h : PM τ u) (h1 : ∀ c k, ¬ c = 6 → u.1 c k = τ.1 c k) (h2 : ∀ q, (q < 33 ∨ 64 ≤ q) → u.2 q = τ.2 q) : PM u u :=
  ⟨h.f_night.trans (h1 _ _ (by decide)).symm, h.f_sheets.trans (h1 _ _ (by decide)).symm, h.f_arrested.trans (h1 _ _ (by decide)).symm, h.f_informers.trans (h1 _ _ (by decide)).symm, h.f_known.trans (h1 _ _ (by decide)).symm, h.f_lines.trans (h1 _ _ (by decide)).symm, h.f_isOpen.trans (h1 _ _ (by decide)).symm, h.r_text.trans (h2 _ (by decide)).symm, h.r_batch.trans (h2 _ (by decide)).symm, h.r_copy.trans (h2 _ (by decide)).symm, h.r_parent.trans (h2 _ (by decide)).symm, h.r_machineOf.trans (h2 _ (by decide)).symm, h.r_with.trans (h2 _ (by decide)).symm, h.r_isSeized.trans (h2 _ (by decide)).symm, h.r_hours.trans (h2 _ (by decide)).symm, h.r_had.trans (h2 _ (by decide)).symm, h.r_slip.trans (h2 _ (by decide)).symm, h.r_slipWord.trans (h2 _ (by decide)).symm, h.r_knows.trans (h2 _ (by decide)).symm, h.r_strong.trans (h2 _ (by decide)).symm, h.r_since.trans (h2 _ (by decide)).symm, h.r_at.trans (h2 _ (by decide)).symm, h.r_noted.trans (h2 _ (by decide)).symm, h.r_wasSeen.trans (h2 _ (by decide)).symm, h.r_isGone.trans (h2 _ (by decide)).symm, fun t ht p hp => (h.word t ht p hp).trans (congrFun (h2 _ (by omega)).symm p), fun a ha p hp => (h.reading a ha p hp).trans (congrFun (h2 _ (by omega)).symm p), fun l hl => (h.line0 l hl).trans (congrFun (h2 _ (by decide)).symm l), fun l hl => (h.line1 l hl).trans (congrFun (h2 _ (by decide)).symm l), fun l hl => (h.line2 l hl).trans (congrFun (h2 _ (by decide)).symm l), fun l hl => (h.line3 l hl).trans (congrFun (h2 _ (by decide)).symm l), fun p hp => (h.name p hp).trans (by rw [h2 23 (by decide)])⟩
/-- the state at the loop's head -/
def LI (σ : ST) (b : Nat) : Prop := (∃ c n, INV σ c n b ∧ n ≤ c) ∧ PM σ σ ∧ σ.1 6 3 = σ.1 3 1
theorem LI_step {r : RT} {v : Int32} (hG : GR σ b r) (hu : MP r.2.2 r.2.2 v u) : LI u (b + 1) := by
  obtain ⟨⟨c, n, hI, hn⟩, hF⟩ := hG
  obtain ⟨hP, hb, -, h1, h2⟩ := hu
  exact ⟨⟨c, n, INV_ext hI h1 h2, hn⟩, PM_ext hP h1 h2, by rw [hb, h1 3 1 (by decide)]⟩
end LS
section LZ
variable {S : Nat × (Nat → Int32)} {pe a b : Nat} {v : Int32} {hs : List Nat} {is : List AI} {ls : LC} {st : List Value} {g : SG} {n k j : Nat} {K : Out → SG → Prop}
theorem z_scr {i : Int32} : tr S 156 pe ((9, a, b, v, hs) :: is) ls (.int i :: .ref 63 :: st) g n k K = (vp_in i S.1 ∧ tr S 156 pe is ls (.int (S.2 i.toNatClampNeg) :: st) g n k K) := by
  show (if 63 = SCR then (156 = mL_law ∧ vp_in i S.1 ∧ tr S 156 pe is ls (.int (S.2 i.toNatClampNeg) :: st) g n k K) else (kin 63 = 1 ∧ bnn g.1 63 = true ∧ vp_in i (lnn 63) ∧ tr S 156 pe is ls (.int (g.2.2.2.1 63 i.toNatClampNeg) :: st) g n k K)) = _
  rw [if_pos rfl]
  exact propext ⟨fun h => h.2, fun h => ⟨rfl, h⟩⟩
theorem z_sat {d : Nat} (hd : d < 4) (hj : 4 * j + 4 ≤ S.1) (hS : S.1 ≤ 2048) : tr S 156 pe ((9, a, b, v, hs) :: is) ls (.int (nI (4 * j + d)) :: .ref 63 :: st) g n k K = tr S 156 pe is ls (.int (S.2 (4 * j + d)) :: st) g n k K := by
  rw [z_scr, nI_clamp (show 4 * j + d < 2 ^ 31 by omega)]
  exact propext ⟨fun h => h.2, fun h => ⟨vp_in_nI (by omega) (by omega), h⟩⟩
theorem z_s0 (hj : 4 * j + 4 ≤ S.1) (hS : S.1 ≤ 2048) : tr S 156 pe ((9, a, b, v, hs) :: is) ls (.int (nI (4 * j)) :: .ref 63 :: st) g n k K = tr S 156 pe is ls (.int (S.2 (4 * j)) :: st) g n k K := z_sat (d := 0) (by decide) hj hS
theorem z_s1 (hj : 4 * j + 4 ≤ S.1) (hS : S.1 ≤ 2048) : tr S 156 pe ((9, a, b, v, hs) :: is) ls (.int (nI (4 * j) + 1) :: .ref 63 :: st) g n k K = tr S 156 pe is ls (.int (S.2 (4 * j + 1)) :: st) g n k K := by
  have e : nI (4 * j) + 1 = nI (4 * j + 1) := nI_add _ _
  rw [e]
  exact z_sat (by decide) hj hS
theorem z_s2 (hj : 4 * j + 4 ≤ S.1) (hS : S.1 ≤ 2048) : tr S 156 pe ((9, a, b, v, hs) :: is) ls (.int (nI (4 * j) + 2) :: .ref 63 :: st) g n k K = tr S 156 pe is ls (.int (S.2 (4 * j + 2)) :: st) g n k K := by
  have e : nI (4 * j) + 2 = nI (4 * j + 2) := nI_add _ _
  rw [e]
  exact z_sat (by decide) hj hS
theorem z_s3 (hj : 4 * j + 4 ≤ S.1) (hS : S.1 ≤ 2048) : tr S 156 pe ((9, a, b, v, hs) :: is) ls (.int (nI (4 * j) + 3) :: .ref 63 :: st) g n k K = tr S 156 pe is ls (.int (S.2 (4 * j + 3)) :: st) g n k K := by
  have e : nI (4 * j) + 3 = nI (4 * j + 3) := nI_add _ _
  rw [e]
  exact z_sat (by decide) hj hS
theorem z_slen : tr S 156 pe ((16, a, b, v, hs) :: is) ls (.ref 63 :: st) g n k K = tr S 156 pe is ls (.int (nI S.1) :: st) g n k K := by
  show (if 63 = SCR then (156 = mL_law ∧ tr S 156 pe is ls (.int (Int32.ofNat S.1) :: st) g n k K) else (kin 63 = 1 ∧ bnn g.1 63 = true ∧ tr S 156 pe is ls (.int (Int32.ofNat (lnn 63)) :: st) g n k K)) = _
  rw [if_pos rfl]
  exact propext ⟨fun h => h.2, fun h => ⟨rfl, h⟩⟩
theorem lg_self (x : Int64) : lg_cmp x x = 0 := by
  unfold lg_cmp
  rw [if_neg (by
    intro h
    rw [gt_iff_lt, Int64.lt_iff_toInt_lt] at h
    omega), if_pos rfl]
/-- the room taken at the loop's head -/
abbrev rn (j : Nat) : Nat := 200 + 4 * j
abbrev rk (j : Nat) : Nat := 20000 + 24 * j
/-- what is owed behind a case -/
def LH (S : Nat × (Nat → Int32)) (j b : Nat) (K : Out → SG → Prop) : Prop := ∀ (u : ST) (J : Nat → Nat → Int64) (n k : Nat) (o5 o6 : Option Value), LI u (b + 1) → n ≤ rn (j + 1) → k ≤ rk (j + 1) → X S mL_law 2007 [some (.ref 63), some (.ref 5), some (.ref 6), some (.ref 56), some (.int (nI (4 * j))), o5, o6] [] (GS u J) n k K
theorem rL_n (hn : n ≤ rn j) (hj : 4 * j ≤ 2052) : n ≤ (rmM 156).cells := by
  show n ≤ 601024
  unfold rn at hn
  omega
theorem rL_k (hk : k ≤ rk j) (hj : 4 * j ≤ 2052) : k ≤ (rmM 156).slots := by
  show k ≤ 7293034
  unfold rk at hk
  omega
theorem mt_thrown {s : ST} {J : Nat → Nat → Int64} (h : K (.inl (some (.int (s.1 6 33)))) (GS s J)) : CT mX6_thrown [.ref 6] (GS s J) K := by
  refine enX6_thrown (bX6_thrown_0 ?_)
  simp only [ti_0, ta_0, tR_0, si_0, sa_0, ii_0, ti_1, ta_1, tR_1, si_1, sa_1, ii_1, ti_2, ta_2, tR_2, si_2, sa_2, ii_2, ti_3, ta_3, tR_3, si_3, sa_3, ii_3, ti_4, ta_4, tR_4, si_4, sa_4, ii_4, ti_5, ta_5, tR_5, si_5, sa_5, ii_5, ti_6, ta_6, tR_6, si_6, sa_6, ii_6, ti_7, ta_7, tR_7, si_7, sa_7, ii_7, ti_8, ta_8, tR_8, si_8, sa_8, ii_8, ti_9, ta_9, tR_9, si_9, sa_9, ii_9, ti_10, ta_10, tR_10, si_10, sa_10, ii_10, ti_11, ta_11, tR_11, si_11, sa_11, ii_11, ti_12, ta_12, tR_12, si_12, sa_12, ii_12, tc, tnil, z_iadd, z_isub, z_imul, z_iand, z_ior, z_ixor, z_ishl, z_ishr, z_iushr, z_irem, z_i2l, z_lconst, z_lcmp, z_goto, z_if_eq, z_if_ne, z_if_lt, z_if_ge, z_if_gt, z_if_le, z_ic_eq, z_ic_ne, z_ic_lt, z_ic_ge, z_ic_gt, z_ic_le, z_iret, z_bret, z_vret, z_thr, z_dup_int, z_dup2_int, z_pop_int, z_dup_ref, z_dup2_ref, z_pop_ref, z_dup_row, z_dup2_row, z_pop_row, gI_0, pI_0, pZ_0, gI_1, pI_1, pZ_1, gI_2, pI_2, pZ_2, gI_3, pI_3, pZ_3, gI_4, pI_4, pZ_4, gI_5, pI_5, pZ_5, gI_6, pI_6, pZ_6, gR_0_2, gR_0_3, gR_0_4, gR_0_5, gR_1_0, gR_1_1, gR_1_2, gR_1_3, gR_2_3, gR_2_4, gR_2_5, gR_2_6, gR_3_2, gR_3_3, gR_3_4, gR_3_5, gR_3_6, gR_3_7, gR_3_8, gR_3_9, gR_3_10, gR_3_11, gR_4_0, gR_4_1, gR_5_0, gR_5_1, gR_5_2, gR_5_3, gR_5_4, gR_5_5, gR_5_6, gR_6_1, gR_6_4, gR_6_5, gR_6_6, gR_6_7, gR_6_8, gR_6_9, gR_6_10, gR_6_11, gR_6_12, gR_6_13, gR_6_14, gR_6_15, gR_6_16, gR_6_20, gR_6_21, gR_6_24, gR_6_25, gR_6_26, gR_6_27, gR_6_29, gR_6_31, gR_6_32, aL_7, aL_8, aS_8, aL_9, aS_9, aL_10, aS_10, aL_11, aS_11, aL_12, aS_12, aL_13, aS_13, aL_14, aS_14, aL_15, aS_15, aL_16, aS_16, aL_17, aS_17, aL_18, aS_18, aL_19, aL_20, aS_20, aL_21, aS_21, aL_22, aS_22, aL_23, aS_23, aL_24, aS_24, aL_25, aS_25, aL_26, aS_26, aL_27, aS_27, aL_28, aS_28, aL_29, aS_29, aL_30, aS_30, aL_31, aS_31, aL_32, aS_32, aL_33, aS_33, aL_34, aS_34, aL_35, aS_35, aL_36, aS_36, aL_37, aS_37, aL_38, aS_38, aL_39, aS_39, aL_40, aS_40, aL_41, aS_41, aL_42, aS_42, aL_43, aS_43, aL_44, aS_44, aL_45, aS_45, aL_46, aS_46, aL_47, aS_47, aL_48, aS_48, aL_49, aS_49, aL_50, aS_50, aL_51, aS_51, aL_52, aS_52, aL_53, aS_53, aL_54, aS_54, aL_55, aS_55, aL_56, aS_56, rL, rS, z_switch, Nat.zero_le, or_true, true_or, or_false, false_or,  cnt_i, cnt_v, cnt_x, i0_eq, i1_eq, i01_eq, im1_0, ne_eq, not_true_eq_false, not_false_eq_true, true_implies, false_implies, implies_true, true_and, and_true, false_and, and_false, List.set_cons_zero, List.set_cons_succ]
  exact h
end LZ
