/-! the law's rows mirror the class's cells -/
def RQp (st an v : Int32) : Prop := ∃ a t : Nat, a < 10 ∧ t < 1000 ∧ st = nI a ∧ an = nI t ∧ v = nI (a + 16 * t)
def RAp (ho no se sz v : Int32) : Prop := ∃ h o e z : Nat, (h < 11 ∧ o < 11 ∧ e < 2 ∧ z < 2) ∧ ho = nI h - 1 ∧ no = nI o - 1 ∧ se = nI e ∧ sz = nI z ∧ v = nI (h + 16 * o + 256 * e + 512 * z)
def RMp (tx cp mc ho se hr v : Int32) : Prop := ∃ t k m h z r : Nat, (t < 3 ∧ k < 6 ∧ m < 4 ∧ h < 11 ∧ z < 2 ∧ r < 10 ∧ (0 < h → z = 0)) ∧ tx = nI t ∧ cp = nI k ∧ mc = nI m ∧ ho = nI h - 1 ∧ se = nI z ∧ hr = nI r ∧ v = nI (t + 4 * k + 32 * m + 128 * h + 2048 * z + 4096 * r)
def RYp (n : Nat) (so ba v : Int32) : Prop := ∃ f b : Nat, f < 20 ∧ b < n ∧ so = nI f - 1 ∧ ba = nI b ∧ v = nI (f + 32 * b)
def RXp (kd wd v : Int32) : Prop := (kd = -1 ∧ v = 0) ∨ ∃ k w : Nat, k < 3 ∧ w < 100 ∧ kd = nI k ∧ wd = nI w ∧ v = nI (k + 1 + 4 * w)
def RLp (k d w t v : Int32) : Prop := ∃ k0 d0 w0 t0 : Nat, k0 < 5 ∧ d0 < 11 ∧ w0 < 10 ∧ t0 < 1000 ∧ k = nI k0 ∧ d = nI d0 - 1 ∧ w = nI w0 ∧ t = nI t0 ∧ v = nI (k0 + 8 * d0 + 128 * w0 + 2048 * t0)
def REL (σ : ST) (J : Nat → Nat → Int32) (c n b : Nat) : Prop :=
  (INV σ c n b) ∧
  (c ≤ 19) ∧
  (n ≤ 20) ∧
  (b ≤ 64) ∧
  (∃ t, t < 1000 ∧ σ.1 5 7 = nI t ∧ J 43 0 = nI t) ∧
  (J 43 1 = nI c) ∧
  (J 43 3 = σ.1 2 0) ∧
  (J 43 4 = σ.1 2 1) ∧
  (J 43 5 = σ.1 2 2) ∧
  (J 43 6 = σ.1 0 1) ∧
  (∀ r, r < 10 → (bt (J 43 7 &&& (J 43 8 ^^^ -1)) r = true ↔ σ.2 23 r = 0)) ∧
  (J 43 9 = σ.1 0 0 ∧ (J 43 9 = 0 ∨ J 43 9 = 1)) ∧
  (∀ p, p < 10 → J 39 p = σ.2 20 p) ∧
  (∀ p, p < 10 → RQp (σ.2 21 p) (σ.2 22 p) (J 40 p)) ∧
  (∀ m, m < 4 → RAp (σ.2 24 m) (σ.2 25 m) (σ.2 26 m) (σ.2 27 m) (J 41 m)) ∧
  (∀ i, i < c → RMp (σ.2 10 i) (σ.2 12 i) (σ.2 14 i) (σ.2 15 i) (σ.2 16 i) (σ.2 17 i) (J 33 i)) ∧
  (∀ i, i < c → RYp n (σ.2 13 i) (σ.2 11 i) (J 34 i)) ∧
  (∀ i, i < 20 → J 35 i = σ.2 18 i) ∧
  (∀ i, c ≤ i → i < 20 → σ.2 16 i = 0) ∧
  (zok J 36) ∧
  (∀ i p, i < c → p < 12 → rdg σ i p = nI (zr J 36 i p) - 2) ∧
  (zok J 37) ∧
  (∀ t p, t < 3 → p < 12 → σ.2 (64 + t) p = nI (zr J 37 t p) - 2) ∧
  (∀ p, p < 12 → RXp (σ.2 8 p) (σ.2 9 p) (J 38 p)) ∧
  (∀ i, i < Ln σ → RLp (σ.2 29 i) (σ.2 30 i) (σ.2 31 i) (σ.2 28 i) (J 42 i))
theorem REL.I {σ : ST} {J : Nat → Nat → Int32} {c n b : Nat} (h : REL σ J c n b) : INV σ c n b := h.1
theorem REL.c19 {σ : ST} {J : Nat → Nat → Int32} {c n b : Nat} (h : REL σ J c n b) : c ≤ 19 := h.2.1
theorem REL.nc {σ : ST} {J : Nat → Nat → Int32} {c n b : Nat} (h : REL σ J c n b) : n ≤ 20 := h.2.2.1
theorem REL.b64 {σ : ST} {J : Nat → Nat → Int32} {c n b : Nat} (h : REL σ J c n b) : b ≤ 64 := h.2.2.2.1
theorem REL.g0 {σ : ST} {J : Nat → Nat → Int32} {c n b : Nat} (h : REL σ J c n b) : ∃ t, t < 1000 ∧ σ.1 5 7 = nI t ∧ J 43 0 = nI t := h.2.2.2.2.1
theorem REL.g1 {σ : ST} {J : Nat → Nat → Int32} {c n b : Nat} (h : REL σ J c n b) : J 43 1 = nI c := h.2.2.2.2.2.1
theorem REL.g3 {σ : ST} {J : Nat → Nat → Int32} {c n b : Nat} (h : REL σ J c n b) : J 43 3 = σ.1 2 0 := h.2.2.2.2.2.2.1
theorem REL.g4 {σ : ST} {J : Nat → Nat → Int32} {c n b : Nat} (h : REL σ J c n b) : J 43 4 = σ.1 2 1 := h.2.2.2.2.2.2.2.1
theorem REL.g5 {σ : ST} {J : Nat → Nat → Int32} {c n b : Nat} (h : REL σ J c n b) : J 43 5 = σ.1 2 2 := h.2.2.2.2.2.2.2.2.1
theorem REL.g6 {σ : ST} {J : Nat → Nat → Int32} {c n b : Nat} (h : REL σ J c n b) : J 43 6 = σ.1 0 1 := h.2.2.2.2.2.2.2.2.2.1
theorem REL.g78 {σ : ST} {J : Nat → Nat → Int32} {c n b : Nat} (h : REL σ J c n b) : ∀ r, r < 10 → (bt (J 43 7 &&& (J 43 8 ^^^ -1)) r = true ↔ σ.2 23 r = 0) := h.2.2.2.2.2.2.2.2.2.2.1
theorem REL.g9 {σ : ST} {J : Nat → Nat → Int32} {c n b : Nat} (h : REL σ J c n b) : J 43 9 = σ.1 0 0 ∧ (J 43 9 = 0 ∨ J 43 9 = 1) := h.2.2.2.2.2.2.2.2.2.2.2.1
theorem REL.k {σ : ST} {J : Nat → Nat → Int32} {c n b : Nat} (h : REL σ J c n b) : ∀ p, p < 10 → J 39 p = σ.2 20 p := h.2.2.2.2.2.2.2.2.2.2.2.2.1
theorem REL.q {σ : ST} {J : Nat → Nat → Int32} {c n b : Nat} (h : REL σ J c n b) : ∀ p, p < 10 → RQp (σ.2 21 p) (σ.2 22 p) (J 40 p) := h.2.2.2.2.2.2.2.2.2.2.2.2.2.1
theorem REL.a {σ : ST} {J : Nat → Nat → Int32} {c n b : Nat} (h : REL σ J c n b) : ∀ m, m < 4 → RAp (σ.2 24 m) (σ.2 25 m) (σ.2 26 m) (σ.2 27 m) (J 41 m) := h.2.2.2.2.2.2.2.2.2.2.2.2.2.2.1
theorem REL.m {σ : ST} {J : Nat → Nat → Int32} {c n b : Nat} (h : REL σ J c n b) : ∀ i, i < c → RMp (σ.2 10 i) (σ.2 12 i) (σ.2 14 i) (σ.2 15 i) (σ.2 16 i) (σ.2 17 i) (J 33 i) := h.2.2.2.2.2.2.2.2.2.2.2.2.2.2.2.1
theorem REL.y {σ : ST} {J : Nat → Nat → Int32} {c n b : Nat} (h : REL σ J c n b) : ∀ i, i < c → RYp n (σ.2 13 i) (σ.2 11 i) (J 34 i) := h.2.2.2.2.2.2.2.2.2.2.2.2.2.2.2.2.1
theorem REL.d {σ : ST} {J : Nat → Nat → Int32} {c n b : Nat} (h : REL σ J c n b) : ∀ i, i < 20 → J 35 i = σ.2 18 i := h.2.2.2.2.2.2.2.2.2.2.2.2.2.2.2.2.2.1
theorem REL.z0 {σ : ST} {J : Nat → Nat → Int32} {c n b : Nat} (h : REL σ J c n b) : ∀ i, c ≤ i → i < 20 → σ.2 16 i = 0 := h.2.2.2.2.2.2.2.2.2.2.2.2.2.2.2.2.2.2.1
theorem REL.z {σ : ST} {J : Nat → Nat → Int32} {c n b : Nat} (h : REL σ J c n b) : zok J 36 := h.2.2.2.2.2.2.2.2.2.2.2.2.2.2.2.2.2.2.2.1
theorem REL.rz {σ : ST} {J : Nat → Nat → Int32} {c n b : Nat} (h : REL σ J c n b) : ∀ i p, i < c → p < 12 → rdg σ i p = nI (zr J 36 i p) - 2 := h.2.2.2.2.2.2.2.2.2.2.2.2.2.2.2.2.2.2.2.2.1
theorem REL.w {σ : ST} {J : Nat → Nat → Int32} {c n b : Nat} (h : REL σ J c n b) : zok J 37 := h.2.2.2.2.2.2.2.2.2.2.2.2.2.2.2.2.2.2.2.2.2.1
theorem REL.wr {σ : ST} {J : Nat → Nat → Int32} {c n b : Nat} (h : REL σ J c n b) : ∀ t p, t < 3 → p < 12 → σ.2 (64 + t) p = nI (zr J 37 t p) - 2 := h.2.2.2.2.2.2.2.2.2.2.2.2.2.2.2.2.2.2.2.2.2.2.1
theorem REL.x {σ : ST} {J : Nat → Nat → Int32} {c n b : Nat} (h : REL σ J c n b) : ∀ p, p < 12 → RXp (σ.2 8 p) (σ.2 9 p) (J 38 p) := h.2.2.2.2.2.2.2.2.2.2.2.2.2.2.2.2.2.2.2.2.2.2.2.1
theorem REL.l {σ : ST} {J : Nat → Nat → Int32} {c n b : Nat} (h : REL σ J c n b) : ∀ i, i < Ln σ → RLp (σ.2 29 i) (σ.2 30 i) (σ.2 31 i) (σ.2 28 i) (J 42 i) := h.2.2.2.2.2.2.2.2.2.2.2.2.2.2.2.2.2.2.2.2.2.2.2.2
theorem pvN {x : Int32} (h : pv x) : ∃ d, d < 11 ∧ x = nI d - 1 := by
  rcases h with rfl | ⟨p, hp, rfl⟩
  · exact ⟨0, by omega, by decide⟩
  · exact ⟨p + 1, by omega, (nI_pred p).symm⟩
theorem pv_of {d : Nat} (hd : d < 11) : pv (nI d - 1) := by
  rcases m1_or (h := d) (by omega) with ⟨-, e⟩ | ⟨p, e, -, e2⟩
  · exact Or.inl e
  · exact Or.inr ⟨p, by omega, e2⟩
theorem kd_of {x y v : Int32} (h : RXp x y v) : kdv x := by
  rcases h with ⟨h, -⟩ | ⟨k, w, hk, hw, e, -, -⟩
  · exact Or.inl h
  · have : k = 0 ∨ k = 1 ∨ k = 2 := by omega
    rcases this with rfl | rfl | rfl
    · exact Or.inr (Or.inl e)
    · exact Or.inr (Or.inr (Or.inl e))
    · exact Or.inr (Or.inr (Or.inr e))
section RR
variable {σ : ST} {J : Nat → Nat → Int32} {c n b : Nat} {p a m : Nat}
theorem REL.AK (h : REL σ J c n b) : AK J := by
  intro m hm
  obtain ⟨h0, o, e, z, ⟨b1, b2, b3, b4⟩, -, -, -, -, e5⟩ := h.a m hm
  exact ⟨_, by omega, e5, by omega⟩
theorem REL.LK (h : REL σ J c n b) : LK J := by
  obtain ⟨L, e, hl⟩ := h.I.hP
  have h64 := h.b64
  refine ⟨L, h.g6.trans e, ?_⟩
  have e2 : unkN (fun i => bt (J 43 5) i) 10 = unk σ := by
    rw [h.g5]
    rfl
  rw [e2]
  omega
theorem REL.WK (h : REL σ J c n b) : WK J := ⟨h.LK, h.AK⟩
theorem REL.Ln (h : REL σ J c n b) : σ.1 0 1 = nI (Ln σ) ∧ Ln σ + unk σ ≤ b := PB_Ln h.I.hP h.I.hb5
/-- a line more, of either kind -/
theorem RL_add {k d w : Nat} (h : REL σ J c n b) (hk : k < 5) (hd : d < 11) (hw : w < 10) (hL : Ln σ < 522) : ∀ i, i < Ln (addF σ (σ.1 5 7) (nI k) (nI d - 1) (nI w) (Ln σ)) → RLp ((addF σ (σ.1 5 7) (nI k) (nI d - 1) (nI w) (Ln σ)).2 29 i) ((addF σ (σ.1 5 7) (nI k) (nI d - 1) (nI w) (Ln σ)).2 30 i) ((addF σ (σ.1 5 7) (nI k) (nI d - 1) (nI w) (Ln σ)).2 31 i) ((addF σ (σ.1 5 7) (nI k) (nI d - 1) (nI w) (Ln σ)).2 28 i) (lnJ J w (nI k) (nI d - 1) 42 i) := by
  have e6 : (J 43 6).toNatClampNeg = Ln σ := by rw [h.g6]; rfl
  obtain ⟨t, ht, et, ej⟩ := h.g0
  intro i hi
  rw [add_Ln hL] at hi
  rw [lnJ_l, e6]
  by_cases e : i = Ln σ
  · rw [if_pos e]
    subst e
    refine ⟨k, d, w, t, hk, hd, hw, ht, ?_, ?_, ?_, ?_, ?_⟩
    · exact if_pos rfl
    · exact if_pos rfl
    · exact if_pos rfl
    · exact (if_pos rfl : (addF σ (σ.1 5 7) (nI k) (nI d - 1) (nI w) (Ln σ)).2 28 (Ln σ) = σ.1 5 7).trans et
    · rw [ej]
      simp (disch := omega) only [dv_2, rm_2, mr_2, nz_2, dv_3, rm_3, mr_3, nz_3, dv_4, rm_4, mr_4, nz_4, dv_5, rm_5, mr_5, nz_5, dv_6, rm_6, mr_6, nz_6, dv_7, rm_7, mr_7, nz_7, dv_8, rm_8, mr_8, nz_8, dv_9, rm_9, mr_9, nz_9, dv_10, rm_10, mr_10, nz_10, dv_11, rm_11, mr_11, nz_11, dv_12, rm_12, mr_12, nz_12, dv_13, rm_13, mr_13, nz_13, dv_16, rm_16, mr_16, nz_16, dv_22, rm_22, mr_22, nz_22, dv_23, rm_23, mr_23, nz_23, dv_26, rm_26, mr_26, nz_26, dv_32, rm_32, mr_32, nz_32, dv_48, rm_48, mr_48, nz_48, dv_81, rm_81, mr_81, nz_81, dv_100, rm_100, mr_100, nz_100, dv_101, rm_101, mr_101, nz_101, dv_102, rm_102, mr_102, nz_102, dv_128, rm_128, mr_128, nz_128, dv_256, rm_256, mr_256, nz_256, dv_2048, rm_2048, mr_2048, nz_2048, dv_4096, rm_4096, mr_4096, nz_4096, dv_60000, rm_60000, mr_60000, nz_60000, ml_2, ml_3, ml_4, ml_5, ml_6, ml_7, ml_8, ml_9, ml_10, ml_11, ml_12, ml_13, ml_16, ml_22, ml_23, ml_26, ml_32, ml_48, ml_81, ml_100, ml_101, ml_102, ml_128, ml_256, ml_2048, ml_4096, ml_60000, pl_14, lp_14, qe_14, qa_14, qb_14, qc_14, qd_14, pl_20, lp_20, qe_20, qa_20, qb_20, qc_20, qd_20, pl_21, lp_21, qe_21, qa_21, qb_21, qc_21, qd_21, pl_24, lp_24, qe_24, qa_24, qb_24, qc_24, qd_24, pl_26, lp_26, qe_26, qa_26, qb_26, qc_26, qd_26, pl_29, lp_29, qe_29, qa_29, qb_29, qc_29, qd_29, pl_35, lp_35, qe_35, qa_35, qb_35, qc_35, qd_35, pl_38, lp_38, qe_38, qa_38, qb_38, qc_38, qd_38, pl_48, lp_48, qe_48, qa_48, qb_48, qc_48, qd_48, pl_512, lp_512, qe_512, qa_512, qb_512, qc_512, qd_512, pl_128, lp_128, qe_128, qa_128, qb_128, qc_128, qd_128, pl_256, lp_256, qe_256, qa_256, qb_256, qc_256, qd_256, pl_2048, lp_2048, qe_2048, qa_2048, qb_2048, qc_2048, qd_2048, pl_0, lp_0, qe_0, lp_1, qe_1, qa_1, qb_1, qc_1, qd_1, pl_2, lp_2, qe_2, qa_2, qb_2, qc_2, qd_2, pl_3, lp_3, qe_3, qa_3, qb_3, qc_3, qd_3, pl_4, lp_4, qe_4, qa_4, qb_4, qc_4, qd_4, pl_5, lp_5, qe_5, qa_5, qb_5, qc_5, qd_5, pl_6, lp_6, qe_6, qa_6, qb_6, qc_6, qd_6, pl_7, lp_7, qe_7, qa_7, qb_7, qc_7, qd_7, pl_8, lp_8, qe_8, qa_8, qb_8, qc_8, qd_8, pl_9, lp_9, qe_9, qa_9, qb_9, qc_9, qd_9, pl_10, lp_10, qe_10, qa_10, qb_10, qc_10, qd_10, pl_11, lp_11, qe_11, qa_11, qb_11, qc_11, qd_11, pl_12, lp_12, qe_12, qa_12, qb_12, qc_12, qd_12, pl_16, lp_16, qe_16, qa_16, qb_16, qc_16, qd_16, pl_17, lp_17, qe_17, qa_17, qb_17, qc_17, qd_17, pl_18, lp_18, qe_18, qa_18, qb_18, qc_18, qd_18, pl_19, lp_19, qe_19, qa_19, qb_19, qc_19, qd_19, pl_22, lp_22, qe_22, qa_22, qb_22, qc_22, qd_22, pl_23, lp_23, qe_23, qa_23, qb_23, qc_23, qd_23, pl_27, lp_27, qe_27, qa_27, qb_27, qc_27, qd_27, pl_30, lp_30, qe_30, qa_30, qb_30, qc_30, qd_30, pl_31, lp_31, qe_31, qa_31, qb_31, qc_31, qd_31, pl_36, lp_36, qe_36, qa_36, qb_36, qc_36, qd_36, pl_60, lp_60, qe_60, qa_60, qb_60, qc_60, qd_60, pl_99, lp_99, qe_99, qa_99, qb_99, qc_99, qd_99, pl_100, lp_100, qe_100, qa_100, qb_100, qc_100, qd_100, pl_999, lp_999, qe_999, qa_999, qb_999, qc_999, qd_999, pl_1000, lp_1000, qe_1000, qa_1000, qb_1000, qc_1000, qd_1000, qd_0, qa_0, qc_0, qb_0, nI_add, nI_1, nle, nlt, neq, ncl, m1_p, m1_lt, m1_ge, m1_no, m1_eq, m1_mm, m2_lt, m2_ge, m2_b, m2_o, m2_mm, m2_eq, pk_mul]
  · rw [if_neg e]
    have h2 := h.l i (by omega)
    have e1 : (addF σ (σ.1 5 7) (nI k) (nI d - 1) (nI w) (Ln σ)).2 29 i = σ.2 29 i := if_neg e
    have e2 : (addF σ (σ.1 5 7) (nI k) (nI d - 1) (nI w) (Ln σ)).2 30 i = σ.2 30 i := if_neg e
    have e3 : (addF σ (σ.1 5 7) (nI k) (nI d - 1) (nI w) (Ln σ)).2 31 i = σ.2 31 i := if_neg e
    have e4 : (addF σ (σ.1 5 7) (nI k) (nI d - 1) (nI w) (Ln σ)).2 28 i = σ.2 28 i := if_neg e
    rw [e1, e2, e3, e4]
    exact h2
/-- a line that makes nobody known -/
theorem REL_ln {k w : Nat} (h : REL σ J c n b) (hk : 2 < k) (hk5 : k < 5) (hw : w < 10) (hb : b + 1 ≤ 64) : REL (addF σ (σ.1 5 7) (nI k) (-1) (nI w) (Ln σ)) (lnJ J w (nI k) (-1)) c n (b + 1) := by
  have hL := h.Ln
  have e0 : (-1 : Int32) = nI 0 - 1 := by decide
  have hI : INV (addF σ (σ.1 5 7) (nI k) (-1) (nI w) (Ln σ)) c n (b + 1) := INV_add h.I (by omega) hw (nI_ge (a := 2) (b := k) hk (by omega))
  have hl := RL_add (d := 0) h hk5 (by omega) hw (by omega)
  rw [← e0] at hl
  have o (r : Nat) (h1 : ¬ r = 42) (h2 : ¬ r = 43) : lnJ J w (nI k) (-1) r = J r := lnJ_o h1 h2
  have g (i : Nat) (h1 : ¬ i = 6) : lnJ J w (nI k) (-1) 43 i = J 43 i := by rw [lnJ_g, if_neg h1]
  have g6 : lnJ J w (nI k) (-1) 43 6 = nI (Ln σ + 1) := by rw [lnJ_g, if_pos rfl, h.g6, hL.1, nI_1]
  refine ⟨hI, h.c19, h.nc, hb, ?_, ?_, ?_, ?_, ?_, ?_, ?_, ?_, ?_, ?_, ?_, ?_, ?_, ?_, h.z0, ?_, ?_, ?_, ?_, ?_, hl⟩
  · rw [g _ (by decide)]; exact h.g0
  · rw [g _ (by decide)]; exact h.g1
  · rw [g _ (by decide)]; exact h.g3
  · rw [g _ (by decide)]; exact h.g4
  · rw [g _ (by decide)]; exact h.g5
  · rw [g6]; exact (if_pos ⟨rfl, rfl⟩ : (if (0 : Nat) = 0 ∧ (1 : Nat) = 1 then nI (Ln σ + 1) else 0) = nI (Ln σ + 1)).symm
  · rw [g _ (by decide), g _ (by decide)]; exact h.g78
  · rw [g _ (by decide)]; exact h.g9
  · rw [o _ (by decide) (by decide)]; exact h.k
  · rw [o _ (by decide) (by decide)]; exact h.q
  · rw [o _ (by decide) (by decide)]; exact h.a
  · rw [o _ (by decide) (by decide)]; exact h.m
  · rw [o _ (by decide) (by decide)]; exact h.y
  · rw [o _ (by decide) (by decide)]; exact h.d
  · unfold zok; rw [o _ (by decide) (by decide)]; exact h.z
  · intro i p hi hp
    unfold zr; rw [o _ (by decide) (by decide)]
    have e : rdg (addF σ (σ.1 5 7) (nI k) (-1) (nI w) (Ln σ)) i p = rdg σ i p := by
      unfold rdg addF
      simp only [sI_2, sA_2]
      rw [if_neg (by omega), if_neg (by omega), if_neg (by omega), if_neg (by omega)]
    rw [e]
    exact h.rz i p hi hp
  · unfold zok; rw [o _ (by decide) (by decide)]; exact h.w
  · intro t p ht hp
    unfold zr; rw [o _ (by decide) (by decide)]
    have e : (addF σ (σ.1 5 7) (nI k) (-1) (nI w) (Ln σ)).2 (64 + t) = σ.2 (64 + t) := by
      unfold addF
      simp only [sI_2, sA_2]
      rw [if_neg (by omega), if_neg (by omega), if_neg (by omega), if_neg (by omega)]
    rw [e]
    exact h.wr t p ht hp
  · rw [o _ (by decide) (by decide)]; exact h.x
/-- somebody becomes known -/
theorem REL_kn {k d w : Nat} (h : REL σ J c n b) (hk : k < 3) (hd : d < 11) (hw : w < 10) : REL (nkF σ w (nI k) (nI d - 1)) (knJ J w (nI k) (nI d - 1)) c n b := by
  have hI : INV (nkF σ w (nI k) (nI d - 1)) c n b := INV_nk h.I hw (nI_le (a := k) (b := 2) (by omega) (by decide)) (pv_of hd)
  have hL := h.Ln
  have h64 := h.b64
  have hkb : bt (J 43 5) w = knw σ w := by rw [h.g5]; rfl
  unfold knJ
  rw [hkb]
  by_cases hq : knw σ w = true
  · unfold nkF
    rw [if_pos hq, if_pos hq]
    exact h
  unfold nkF at hI ⊢
  rw [if_neg hq] at hI ⊢
  rw [if_neg hq]
  change INV (addF (sI σ 2 2 (σ.1 2 2 ||| bitI (nI w))) (σ.1 5 7) (nI k) (nI d - 1) (nI w) (Ln σ)) c n b at hI
  change REL (addF (sI σ 2 2 (σ.1 2 2 ||| bitI (nI w))) (σ.1 5 7) (nI k) (nI d - 1) (nI w) (Ln σ)) _ c n b
  have hu : unk σ ≠ 0 := by
    have := unkN_set (f := knw σ) (g := fun q => (knw σ q || decide (q = w))) (n := 10) (p := w) (fun q _ => rfl) hw (tf hq)
    have e : unk σ = unkN (knw σ) 10 := id rfl
    omega
  have hl : ∀ i, i < Ln (addF (sI σ 2 2 (σ.1 2 2 ||| bitI (nI w))) (σ.1 5 7) (nI k) (nI d - 1) (nI w) (Ln σ)) → RLp ((addF (sI σ 2 2 (σ.1 2 2 ||| bitI (nI w))) (σ.1 5 7) (nI k) (nI d - 1) (nI w) (Ln σ)).2 29 i) ((addF (sI σ 2 2 (σ.1 2 2 ||| bitI (nI w))) (σ.1 5 7) (nI k) (nI d - 1) (nI w) (Ln σ)).2 30 i) ((addF (sI σ 2 2 (σ.1 2 2 ||| bitI (nI w))) (σ.1 5 7) (nI k) (nI d - 1) (nI w) (Ln σ)).2 31 i) ((addF (sI σ 2 2 (σ.1 2 2 ||| bitI (nI w))) (σ.1 5 7) (nI k) (nI d - 1) (nI w) (Ln σ)).2 28 i) (lnJ (sJ J 43 5 (J 43 5 ||| bitI (nI w))) w (nI k) (nI d - 1) 42 i) := by
    intro i hi
    have e : lnJ (sJ J 43 5 (J 43 5 ||| bitI (nI w))) w (nI k) (nI d - 1) 42 i = lnJ J w (nI k) (nI d - 1) 42 i := by
      rw [lnJ_l, lnJ_l]
      simp only [sJ_at, upd_at]
      rfl
    rw [e]
    exact RL_add h (by omega) hd hw (by omega) i hi
  have o (r : Nat) (h1 : ¬ r = 42) (h2 : ¬ r = 43) : lnJ (sJ J 43 5 (J 43 5 ||| bitI (nI w))) w (nI k) (nI d - 1) r = J r := by rw [lnJ_o h1 h2, sJ_at, if_neg h2]
  have g (i : Nat) (h1 : ¬ i = 6) (h2 : ¬ i = 5) : lnJ (sJ J 43 5 (J 43 5 ||| bitI (nI w))) w (nI k) (nI d - 1) 43 i = J 43 i := by rw [lnJ_g, if_neg h1, sJ_at, if_pos rfl, upd_at, if_neg h2]
  have g6 : lnJ (sJ J 43 5 (J 43 5 ||| bitI (nI w))) w (nI k) (nI d - 1) 43 6 = nI (Ln σ + 1) := by rw [lnJ_g, if_pos rfl, sJ_at, if_pos rfl, upd_at, if_neg (by decide), h.g6, hL.1, nI_1]
  have g5 : lnJ (sJ J 43 5 (J 43 5 ||| bitI (nI w))) w (nI k) (nI d - 1) 43 5 = σ.1 2 2 ||| bitI (nI w) := by rw [lnJ_g, if_neg (by decide), sJ_at, if_pos rfl, upd_at, if_pos rfl, h.g5]
  refine ⟨hI, h.c19, h.nc, h.b64, ?_, ?_, ?_, ?_, ?_, ?_, ?_, ?_, ?_, ?_, ?_, ?_, ?_, ?_, h.z0, ?_, ?_, ?_, ?_, ?_, hl⟩
  · rw [g _ (by decide) (by decide)]; exact h.g0
  · rw [g _ (by decide) (by decide)]; exact h.g1
  · rw [g _ (by decide) (by decide)]; exact h.g3
  · rw [g _ (by decide) (by decide)]; exact h.g4
  · rw [g5]; exact (if_pos ⟨rfl, rfl⟩ : (if (2 : Nat) = 2 ∧ (2 : Nat) = 2 then (σ.1 2 2 ||| bitI (nI w)) else 0) = (σ.1 2 2 ||| bitI (nI w))).symm
  · rw [g6]; exact (if_pos ⟨rfl, rfl⟩ : (if (0 : Nat) = 0 ∧ (1 : Nat) = 1 then nI (Ln σ + 1) else 0) = nI (Ln σ + 1)).symm
  · rw [g _ (by decide) (by decide), g _ (by decide) (by decide)]; exact h.g78
  · rw [g _ (by decide) (by decide)]; exact h.g9
  · rw [o _ (by decide) (by decide)]; exact h.k
  · rw [o _ (by decide) (by decide)]; exact h.q
  · rw [o _ (by decide) (by decide)]; exact h.a
  · rw [o _ (by decide) (by decide)]; exact h.m
  · rw [o _ (by decide) (by decide)]; exact h.y
  · rw [o _ (by decide) (by decide)]; exact h.d
  · unfold zok; rw [o _ (by decide) (by decide)]; exact h.z
  · intro i p hi hp
    unfold zr; rw [o _ (by decide) (by decide)]
    have e : rdg (addF (sI σ 2 2 (σ.1 2 2 ||| bitI (nI w))) (σ.1 5 7) (nI k) (nI d - 1) (nI w) (Ln σ)) i p = rdg σ i p := by
      unfold rdg addF
      simp only [sI_2, sA_2]
      rw [if_neg (by omega), if_neg (by omega), if_neg (by omega), if_neg (by omega)]
    rw [e]
    exact h.rz i p hi hp
  · unfold zok; rw [o _ (by decide) (by decide)]; exact h.w
  · intro t p ht hp
    unfold zr; rw [o _ (by decide) (by decide)]
    have e : (addF (sI σ 2 2 (σ.1 2 2 ||| bitI (nI w))) (σ.1 5 7) (nI k) (nI d - 1) (nI w) (Ln σ)).2 (64 + t) = σ.2 (64 + t) := by
      unfold addF
      simp only [sI_2, sA_2]
      rw [if_neg (by omega), if_neg (by omega), if_neg (by omega), if_neg (by omega)]
    rw [e]
    exact h.wr t p ht hp
  · rw [o _ (by decide) (by decide)]; exact h.x
theorem upd_lt {P : Nat → Int32 → Prop} {f : Nat → Int32} {i N : Nat} {v : Int32} (h : ∀ j, j < N → P j (f j)) (hv : P i v) : ∀ j, j < N → P j (upd f i v j) := by
  intro j hj
  rw [upd_at]
  by_cases e : j = i
  · rw [if_pos e, e]
    exact hv
  · rw [if_neg e]
    exact h j hj
theorem REL_an {v w : Int32} (h : REL σ J c n b) (hm : m < 4) (hv : RAp (σ.2 24 m) v (σ.2 26 m) (σ.2 27 m) w) : REL (sA σ 25 m v) (sJ J 41 m w) c n b := by
  have ha : ∀ j, j < 4 → RAp (σ.2 24 j) (upd (σ.2 25) m v j) (σ.2 26 j) (σ.2 27 j) (upd (J 41) m w j) := by
    intro j hj
    rw [upd_at, upd_at]
    by_cases e : j = m
    · subst e
      rw [if_pos rfl, if_pos rfl]
      exact hv
    · rw [if_neg e, if_neg e]
      exact h.a j hj
  have rz0 : ∀ i x, i < c → x < 12 → rdg (sA σ 25 m v) i x = nI (zr (sJ J 41 m w) 36 i x) - 2 := by
    intro i x hi hx
    have e : rdg (sA σ 25 m v) i x = rdg σ i x := by
      unfold rdg
      try unfold brA
      simp only [sI_2, sA_2]
      try simp (disch := omega) only [if_neg]
    rw [e]
    exact h.rz i x hi hx
  have rw0 : ∀ t x, t < 3 → x < 12 → (sA σ 25 m v).2 (64 + t) x = nI (zr (sJ J 41 m w) 37 t x) - 2 := by
    intro t x ht hx
    have e : (sA σ 25 m v).2 (64 + t) = σ.2 (64 + t) := by
      try unfold brA
      simp only [sI_2, sA_2]
      try simp (disch := omega) only [if_neg]
    rw [e]
    exact h.wr t x ht hx
  exact ⟨INV_K_noted h.I (by obtain ⟨h0, o, e, z, ⟨b1, b2, b3, b4⟩, e1, e2, e3, e4, e5⟩ := hv; rw [e2]; exact pv_of b2), h.c19, h.nc, h.b64, h.g0, h.g1, h.g3, h.g4, h.g5, h.g6, h.g78, h.g9, h.k, h.q, ha, h.m, h.y, h.d, h.z0, h.z, rz0, h.w, rw0, h.x, h.l⟩
theorem REL_as {w : Int32} (h : REL σ J c n b) (hm : m < 4) (hv : RAp (σ.2 24 m) (σ.2 25 m) 1 (σ.2 27 m) w) : REL (sA σ 26 m 1) (sJ J 41 m w) c n b := by
  have ha : ∀ j, j < 4 → RAp (σ.2 24 j) (σ.2 25 j) (upd (σ.2 26) m 1 j) (σ.2 27 j) (upd (J 41) m w j) := by
    intro j hj
    rw [upd_at, upd_at]
    by_cases e : j = m
    · subst e
      rw [if_pos rfl, if_pos rfl]
      exact hv
    · rw [if_neg e, if_neg e]
      exact h.a j hj
  have rz0 : ∀ i x, i < c → x < 12 → rdg (sA σ 26 m 1) i x = nI (zr (sJ J 41 m w) 36 i x) - 2 := by
    intro i x hi hx
    have e : rdg (sA σ 26 m 1) i x = rdg σ i x := by
      unfold rdg
      try unfold brA
      simp only [sI_2, sA_2]
      try simp (disch := omega) only [if_neg]
    rw [e]
    exact h.rz i x hi hx
  have rw0 : ∀ t x, t < 3 → x < 12 → (sA σ 26 m 1).2 (64 + t) x = nI (zr (sJ J 41 m w) 37 t x) - 2 := by
    intro t x ht hx
    have e : (sA σ 26 m 1).2 (64 + t) = σ.2 (64 + t) := by
      try unfold brA
      simp only [sI_2, sA_2]
      try simp (disch := omega) only [if_neg]
    rw [e]
    exact h.wr t x ht hx
  exact ⟨INV_K_seen h.I, h.c19, h.nc, h.b64, h.g0, h.g1, h.g3, h.g4, h.g5, h.g6, h.g78, h.g9, h.k, h.q, ha, h.m, h.y, h.d, h.z0, h.z, rz0, h.w, rw0, h.x, h.l⟩
theorem REL_ah {v w : Int32} (h : REL σ J c n b) (hm : m < 4) (hv : RAp v (σ.2 25 m) (σ.2 26 m) (σ.2 27 m) w) : REL (sA σ 24 m v) (sJ J 41 m w) c n b := by
  have ha : ∀ j, j < 4 → RAp (upd (σ.2 24) m v j) (σ.2 25 j) (σ.2 26 j) (σ.2 27 j) (upd (J 41) m w j) := by
    intro j hj
    rw [upd_at, upd_at]
    by_cases e : j = m
    · subst e
      rw [if_pos rfl, if_pos rfl]
      exact hv
    · rw [if_neg e, if_neg e]
      exact h.a j hj
  have rz0 : ∀ i x, i < c → x < 12 → rdg (sA σ 24 m v) i x = nI (zr (sJ J 41 m w) 36 i x) - 2 := by
    intro i x hi hx
    have e : rdg (sA σ 24 m v) i x = rdg σ i x := by
      unfold rdg
      try unfold brA
      simp only [sI_2, sA_2]
      try simp (disch := omega) only [if_neg]
    rw [e]
    exact h.rz i x hi hx
  have rw0 : ∀ t x, t < 3 → x < 12 → (sA σ 24 m v).2 (64 + t) x = nI (zr (sJ J 41 m w) 37 t x) - 2 := by
    intro t x ht hx
    have e : (sA σ 24 m v).2 (64 + t) = σ.2 (64 + t) := by
      try unfold brA
      simp only [sI_2, sA_2]
      try simp (disch := omega) only [if_neg]
    rw [e]
    exact h.wr t x ht hx
  exact ⟨INV_K_holders h.I (by obtain ⟨h0, o, e, z, ⟨b1, b2, b3, b4⟩, e1, e2, e3, e4, e5⟩ := hv; rw [e1]; exact pv_of b1), h.c19, h.nc, h.b64, h.g0, h.g1, h.g3, h.g4, h.g5, h.g6, h.g78, h.g9, h.k, h.q, ha, h.m, h.y, h.d, h.z0, h.z, rz0, h.w, rw0, h.x, h.l⟩
theorem REL_mh {v w : Int32} (h : REL σ J c n b) (ha : a < c) (hv : RMp (σ.2 10 a) (σ.2 12 a) (σ.2 14 a) v (σ.2 16 a) (σ.2 17 a) w) : REL (sA σ 15 a v) (sJ J 33 a w) c n b := by
  have hm : ∀ j, j < c → RMp (σ.2 10 j) (σ.2 12 j) (σ.2 14 j) (upd (σ.2 15) a v j) (σ.2 16 j) (σ.2 17 j) (upd (J 33) a w j) := by
    intro j hj
    rw [upd_at, upd_at]
    by_cases e : j = a
    · subst e
      rw [if_pos rfl, if_pos rfl]
      exact hv
    · rw [if_neg e, if_neg e]
      exact h.m j hj
  have rz0 : ∀ i x, i < c → x < 12 → rdg (sA σ 15 a v) i x = nI (zr (sJ J 33 a w) 36 i x) - 2 := by
    intro i x hi hx
    have e : rdg (sA σ 15 a v) i x = rdg σ i x := by
      unfold rdg
      try unfold brA
      simp only [sI_2, sA_2]
      try simp (disch := omega) only [if_neg]
    rw [e]
    exact h.rz i x hi hx
  have rw0 : ∀ t x, t < 3 → x < 12 → (sA σ 15 a v).2 (64 + t) x = nI (zr (sJ J 33 a w) 37 t x) - 2 := by
    intro t x ht hx
    have e : (sA σ 15 a v).2 (64 + t) = σ.2 (64 + t) := by
      try unfold brA
      simp only [sI_2, sA_2]
      try simp (disch := omega) only [if_neg]
    rw [e]
    exact h.wr t x ht hx
  exact ⟨INV_S_holders h.I (by obtain ⟨t, k, m, h0, z, r, ⟨b1, b2, b3, b4, b5, b6, b7⟩, e1, e2, e3, e4, e5⟩ := hv; rw [e4]; exact pv_of b4), h.c19, h.nc, h.b64, h.g0, h.g1, h.g3, h.g4, h.g5, h.g6, h.g78, h.g9, h.k, h.q, h.a, hm, h.y, h.d, h.z0, h.z, rz0, h.w, rw0, h.x, h.l⟩
theorem REL_mr {v w : Int32} (h : REL σ J c n b) (ha : a < c) (hv : RMp (σ.2 10 a) (σ.2 12 a) (σ.2 14 a) (σ.2 15 a) (σ.2 16 a) v w) : REL (sA σ 17 a v) (sJ J 33 a w) c n b := by
  have hm : ∀ j, j < c → RMp (σ.2 10 j) (σ.2 12 j) (σ.2 14 j) (σ.2 15 j) (σ.2 16 j) (upd (σ.2 17) a v j) (upd (J 33) a w j) := by
    intro j hj
    rw [upd_at, upd_at]
    by_cases e : j = a
    · subst e
      rw [if_pos rfl, if_pos rfl]
      exact hv
    · rw [if_neg e, if_neg e]
      exact h.m j hj
  have rz0 : ∀ i x, i < c → x < 12 → rdg (sA σ 17 a v) i x = nI (zr (sJ J 33 a w) 36 i x) - 2 := by
    intro i x hi hx
    have e : rdg (sA σ 17 a v) i x = rdg σ i x := by
      unfold rdg
      try unfold brA
      simp only [sI_2, sA_2]
      try simp (disch := omega) only [if_neg]
    rw [e]
    exact h.rz i x hi hx
  have rw0 : ∀ t x, t < 3 → x < 12 → (sA σ 17 a v).2 (64 + t) x = nI (zr (sJ J 33 a w) 37 t x) - 2 := by
    intro t x ht hx
    have e : (sA σ 17 a v).2 (64 + t) = σ.2 (64 + t) := by
      try unfold brA
      simp only [sI_2, sA_2]
      try simp (disch := omega) only [if_neg]
    rw [e]
    exact h.wr t x ht hx
  exact ⟨INV_S_hours h.I, h.c19, h.nc, h.b64, h.g0, h.g1, h.g3, h.g4, h.g5, h.g6, h.g78, h.g9, h.k, h.q, h.a, hm, h.y, h.d, h.z0, h.z, rz0, h.w, rw0, h.x, h.l⟩
theorem REL_mz {w : Int32} (h : REL σ J c n b) (ha : a < c) (hv : RMp (σ.2 10 a) (σ.2 12 a) (σ.2 14 a) (-1) 1 (σ.2 17 a) w) : REL (sA (sA σ 15 a (-1)) 16 a 1) (sJ J 33 a w) c n b := by
  have hm : ∀ j, j < c → RMp (σ.2 10 j) (σ.2 12 j) (σ.2 14 j) (upd (σ.2 15) a (-1) j) (upd (σ.2 16) a 1 j) (σ.2 17 j) (upd (J 33) a w j) := by
    intro j hj
    rw [upd_at, upd_at, upd_at]
    by_cases e : j = a
    · subst e
      rw [if_pos rfl, if_pos rfl, if_pos rfl]
      exact hv
    · rw [if_neg e, if_neg e, if_neg e]
      exact h.m j hj
  have hz : ∀ i, c ≤ i → i < 20 → upd (σ.2 16) a 1 i = 0 := by
    intro i h1 h2
    rw [upd_at, if_neg (by omega)]
    exact h.z0 i h1 h2
  have rz0 : ∀ i x, i < c → x < 12 → rdg (sA (sA σ 15 a (-1)) 16 a 1) i x = nI (zr (sJ J 33 a w) 36 i x) - 2 := by
    intro i x hi hx
    have e : rdg (sA (sA σ 15 a (-1)) 16 a 1) i x = rdg σ i x := by
      unfold rdg
      try unfold brA
      simp only [sI_2, sA_2]
      try simp (disch := omega) only [if_neg]
    rw [e]
    exact h.rz i x hi hx
  have rw0 : ∀ t x, t < 3 → x < 12 → (sA (sA σ 15 a (-1)) 16 a 1).2 (64 + t) x = nI (zr (sJ J 33 a w) 37 t x) - 2 := by
    intro t x ht hx
    have e : (sA (sA σ 15 a (-1)) 16 a 1).2 (64 + t) = σ.2 (64 + t) := by
      try unfold brA
      simp only [sI_2, sA_2]
      try simp (disch := omega) only [if_neg]
    rw [e]
    exact h.wr t x ht hx
  exact ⟨INV_S_seized (INV_S_holders h.I (Or.inl rfl)), h.c19, h.nc, h.b64, h.g0, h.g1, h.g3, h.g4, h.g5, h.g6, h.g78, h.g9, h.k, h.q, h.a, hm, h.y, h.d, hz, h.z, rz0, h.w, rw0, h.x, h.l⟩
theorem REL_mb {w : Int32} (h : REL σ J c n b) (ha : a < c) (hp : p < 10) (hv : RMp (σ.2 10 a) (σ.2 12 a) (σ.2 14 a) (nI p) (σ.2 16 a) 0 w) : REL (brA σ a p) (sJ (sJ J 33 a w) 35 a (J 35 a ||| bitI (nI p))) c n b := by
  have hm : ∀ j, j < c → RMp (σ.2 10 j) (σ.2 12 j) (σ.2 14 j) (upd (σ.2 15) a (nI p) j) (σ.2 16 j) (upd (σ.2 17) a 0 j) (upd (J 33) a w j) := by
    intro j hj
    rw [upd_at, upd_at, upd_at]
    by_cases e : j = a
    · subst e
      rw [if_pos rfl, if_pos rfl, if_pos rfl]
      exact hv
    · rw [if_neg e, if_neg e, if_neg e]
      exact h.m j hj
  have hd : ∀ i, i < 20 → upd (J 35) a (J 35 a ||| bitI (nI p)) i = upd (σ.2 18) a (σ.2 18 a ||| bitI (nI p)) i := by
    intro i hi
    have h19 := h.c19
    rw [upd_at, upd_at, h.d a (by omega), h.d i hi]
  have rz0 : ∀ i x, i < c → x < 12 → rdg (brA σ a p) i x = nI (zr (sJ (sJ J 33 a w) 35 a (J 35 a ||| bitI (nI p))) 36 i x) - 2 := by
    intro i x hi hx
    have e : rdg (brA σ a p) i x = rdg σ i x := by
      unfold rdg
      try unfold brA
      simp only [sI_2, sA_2]
      try simp (disch := omega) only [if_neg]
    rw [e]
    exact h.rz i x hi hx
  have rw0 : ∀ t x, t < 3 → x < 12 → (brA σ a p).2 (64 + t) x = nI (zr (sJ (sJ J 33 a w) 35 a (J 35 a ||| bitI (nI p))) 37 t x) - 2 := by
    intro t x ht hx
    have e : (brA σ a p).2 (64 + t) = σ.2 (64 + t) := by
      try unfold brA
      simp only [sI_2, sA_2]
      try simp (disch := omega) only [if_neg]
    rw [e]
    exact h.wr t x ht hx
  exact ⟨INV_S_everHad (INV_S_hours (INV_S_holders h.I (Or.inr ⟨p, hp, rfl⟩))), h.c19, h.nc, h.b64, h.g0, h.g1, h.g3, h.g4, h.g5, h.g6, h.g78, h.g9, h.k, h.q, h.a, hm, h.y, hd, h.z0, h.z, rz0, h.w, rw0, h.x, h.l⟩
end RR
