/-! calls within their ranges that change nothing but the votes -/
section CI
variable {s : ST} {J : Nat → Nat → Int32} {K : Out → SG → Prop} {c n b i p : Nat}
theorem RK_ok {e1 e2 e3 : Nat} {r : RT} (h0 : r.1 = 0) (h : K (.inl (some (.int r.2.1))) (GS r.2.2 J)) : RK e1 e2 e3 K s J r := ⟨fun _ => h, fun z => absurd (h0.symm.trans z) (by decide), fun z => absurd (h0.symm.trans z) (by decide), fun z => absurd (h0.symm.trans z) (by decide)⟩
theorem DK_0 {e1 e2 e3 : Nat} {r : RT} (h0 : r.1 = 0) (h : K (.inl (some (.int r.2.1))) (GS r.2.2 J)) : DK e1 e2 e3 K s J r := ⟨fun _ => h, fun z => absurd (h0.symm.trans z) (show ¬ (0 : Int32) = 1 by decide), fun z => absurd (h0.symm.trans z) (show ¬ (0 : Int32) = 2 by decide), fun z => absurd (h0.symm.trans z) (show ¬ (0 : Int32) = 3 by decide)⟩
theorem DK_1 {e1 e2 e3 : Nat} {r : RT} (h0 : r.1 = 1) (h : K (.inl (some (.int (ec e1)))) (GS s J)) : DK e1 e2 e3 K s J r := ⟨fun z => absurd (h0.symm.trans z) (show ¬ (1 : Int32) = 0 by decide), fun _ => h, fun z => absurd (h0.symm.trans z) (show ¬ (1 : Int32) = 2 by decide), fun z => absurd (h0.symm.trans z) (show ¬ (1 : Int32) = 3 by decide)⟩
theorem DK_2 {e1 e2 e3 : Nat} {r : RT} (h0 : r.1 = 2) (h : K (.inl (some (.int (ec e2)))) (GS s J)) : DK e1 e2 e3 K s J r := ⟨fun z => absurd (h0.symm.trans z) (show ¬ (2 : Int32) = 0 by decide), fun z => absurd (h0.symm.trans z) (show ¬ (2 : Int32) = 1 by decide), fun _ => h, fun z => absurd (h0.symm.trans z) (show ¬ (2 : Int32) = 3 by decide)⟩
theorem DK_3 {e1 e2 e3 : Nat} {r : RT} (h0 : r.1 = 3) (h : K (.inl (some (.int (ec e3)))) (GS s J)) : DK e1 e2 e3 K s J r := ⟨fun z => absurd (h0.symm.trans z) (show ¬ (3 : Int32) = 0 by decide), fun z => absurd (h0.symm.trans z) (show ¬ (3 : Int32) = 1 by decide), fun z => absurd (h0.symm.trans z) (show ¬ (3 : Int32) = 2 by decide), fun _ => h⟩
theorem inR_n {x N : Nat} (h : x < N) (hN : N < 2147483648) : inR (nI x) (nI N) := ⟨nI_pos (by omega), nI_lt h hN⟩
theorem inR_c (hI : INV s c n b) (hi : i < c) : inR (nI i) (s.1 3 0) := by
  have := hI.hc40
  rw [hI.hc]
  exact inR_n hi (by omega)
theorem si_sheet0 (hI : INV s c n b) (hi : i < c) (h : K (.inl (some (.int (s.2 10 i)))) (GS s J)) : CT mX5_sheetIs [.ref 5, .int (nI i), .int 0] (GS s J) K := by
  have h40 := hI.hc40
  have e : (0 : Int32).toNatClampNeg = 0 := by decide
  refine ct_sheetIs hI ?_
  unfold sheetIsR
  rw [cif_neg (fun w => w (inR_c hI hi)), cif_neg (fun w => w ⟨by decide, by decide⟩), e, ncl (by omega)]
  exact RK_ok rfl h
theorem si_sheet1 (hI : INV s c n b) (hi : i < c) (h : K (.inl (some (.int (s.2 11 i)))) (GS s J)) : CT mX5_sheetIs [.ref 5, .int (nI i), .int 1] (GS s J) K := by
  have h40 := hI.hc40
  have e : (1 : Int32).toNatClampNeg = 1 := by decide
  refine ct_sheetIs hI ?_
  unfold sheetIsR
  rw [cif_neg (fun w => w (inR_c hI hi)), cif_neg (fun w => w ⟨by decide, by decide⟩), e, ncl (by omega)]
  exact RK_ok rfl h
theorem si_sheet2 (hI : INV s c n b) (hi : i < c) (h : K (.inl (some (.int (s.2 12 i)))) (GS s J)) : CT mX5_sheetIs [.ref 5, .int (nI i), .int 2] (GS s J) K := by
  have h40 := hI.hc40
  have e : (2 : Int32).toNatClampNeg = 2 := by decide
  refine ct_sheetIs hI ?_
  unfold sheetIsR
  rw [cif_neg (fun w => w (inR_c hI hi)), cif_neg (fun w => w ⟨by decide, by decide⟩), e, ncl (by omega)]
  exact RK_ok rfl h
theorem si_sheet3 (hI : INV s c n b) (hi : i < c) (h : K (.inl (some (.int (s.2 13 i)))) (GS s J)) : CT mX5_sheetIs [.ref 5, .int (nI i), .int 3] (GS s J) K := by
  have h40 := hI.hc40
  have e : (3 : Int32).toNatClampNeg = 3 := by decide
  refine ct_sheetIs hI ?_
  unfold sheetIsR
  rw [cif_neg (fun w => w (inR_c hI hi)), cif_neg (fun w => w ⟨by decide, by decide⟩), e, ncl (by omega)]
  exact RK_ok rfl h
theorem si_sheet4 (hI : INV s c n b) (hi : i < c) (h : K (.inl (some (.int (s.2 14 i)))) (GS s J)) : CT mX5_sheetIs [.ref 5, .int (nI i), .int 4] (GS s J) K := by
  have h40 := hI.hc40
  have e : (4 : Int32).toNatClampNeg = 4 := by decide
  refine ct_sheetIs hI ?_
  unfold sheetIsR
  rw [cif_neg (fun w => w (inR_c hI hi)), cif_neg (fun w => w ⟨by decide, by decide⟩), e, ncl (by omega)]
  exact RK_ok rfl h
theorem si_sheet5 (hI : INV s c n b) (hi : i < c) (h : K (.inl (some (.int (s.2 15 i)))) (GS s J)) : CT mX5_sheetIs [.ref 5, .int (nI i), .int 5] (GS s J) K := by
  have h40 := hI.hc40
  have e : (5 : Int32).toNatClampNeg = 5 := by decide
  refine ct_sheetIs hI ?_
  unfold sheetIsR
  rw [cif_neg (fun w => w (inR_c hI hi)), cif_neg (fun w => w ⟨by decide, by decide⟩), e, ncl (by omega)]
  exact RK_ok rfl h
theorem si_sheet6 (hI : INV s c n b) (hi : i < c) (h : K (.inl (some (.int ((if s.2 16 i = 0 then 0 else 1))))) (GS s J)) : CT mX5_sheetIs [.ref 5, .int (nI i), .int 6] (GS s J) K := by
  have h40 := hI.hc40
  have e : (6 : Int32).toNatClampNeg = 6 := by decide
  refine ct_sheetIs hI ?_
  unfold sheetIsR
  rw [cif_neg (fun w => w (inR_c hI hi)), cif_neg (fun w => w ⟨by decide, by decide⟩), e, ncl (by omega)]
  exact RK_ok rfl h
theorem si_sheet7 (hI : INV s c n b) (hi : i < c) (h : K (.inl (some (.int (s.2 17 i)))) (GS s J)) : CT mX5_sheetIs [.ref 5, .int (nI i), .int 7] (GS s J) K := by
  have h40 := hI.hc40
  have e : (7 : Int32).toNatClampNeg = 7 := by decide
  refine ct_sheetIs hI ?_
  unfold sheetIsR
  rw [cif_neg (fun w => w (inR_c hI hi)), cif_neg (fun w => w ⟨by decide, by decide⟩), e, ncl (by omega)]
  exact RK_ok rfl h
theorem ci_reading (hI : INV s c n b) (hi : i < c) (hp : p < 12) (h : K (.inl (some (.int (rdg s i p)))) (GS s J)) : CT mX5_reading [.ref 5, .int (nI i), .int (nI p)] (GS s J) K := by
  have h40 := hI.hc40
  refine ct_reading hI ?_
  unfold readingR
  rw [cif_neg (fun w => w (inR_c hI hi)), cif_neg (fun w => w (inR_n hp (by decide))), ncl (by omega), ncl (by omega)]
  exact RK_ok rfl h
theorem ci_likeliest (hI : INV s c n b) (hi : i < c) (h : K (.inl (some (.int (lkF s i c).1))) (GS s J)) : CT mX5_likeliest [.ref 5, .int (nI i)] (GS s J) K := by
  have h40 := hI.hc40
  refine ct_likeliest hI ?_
  unfold likeliestR
  rw [cif_neg (fun w => w (inR_c hI hi)), ncl (by omega), hI.shN_eq]
  exact RK_ok rfl h
theorem ci_knows (hp : p < 10) (h : K (.inl (some (.int (s.2 20 p)))) (GS s J)) : CT mX5_knows [.ref 5, .int (nI p)] (GS s J) K := by
  refine ct_knows ?_
  unfold knowsR
  rw [cif_neg (fun w => w (inR_n hp (by decide))), ncl (by omega)]
  exact RK_ok rfl h
theorem ci_isKnown (hp : p < 10) (h : K (.inl (some (.int (if knw s p = true then 1 else 0)))) (GS s J)) : CT mX5_isKnown [.ref 5, .int (nI p)] (GS s J) K := by
  refine ct_isKnown ?_
  unfold isKnownR
  rw [cif_neg (fun w => w (inR_n hp (by decide))), ncl (by omega)]
  exact RK_ok rfl h
theorem ci_isKnownAnew (hI : INV s c n b) (hp : p < 10) (h : K (.inl (some (.int (if knw s p = true then 1 else 0)))) (GS s J)) : CT mX5_isKnownAnew [.ref 5, .int (nI p)] (GS s J) K := by
  refine ct_isKnownAnew hI ?_
  unfold isKnownR
  rw [cif_neg (fun w => w (inR_n hp (by decide))), ncl (by omega)]
  exact RK_ok rfl h
theorem ci_whoHad {t : Nat} {r : Int32} (hI : INV s c n b) (ht : t < 3) (hp : p < 12) (hr : rdv r) (h : K (.inl (some (.int (whF s (nI t) p r c)))) (GS s J)) : CT mX5_whoHad [.ref 5, .int (nI t), .int (nI p), .int r] (GS s J) K := by
  refine ct_whoHad hI ?_
  unfold whoHadR
  rw [cif_neg (fun w => w (inR_n ht (by decide))), cif_neg (fun w => w (inR_n hp (by decide))), cif_neg (fun w => w hr), ncl (by omega), hI.shN_eq]
  exact RK_ok rfl h
theorem ci_restored {t : Nat} (hI : INV s c n b) (ht : t < 3) (hp : p < 12) (h : K (.inl (some (.int (rsF ((vtF s (nI t) p c).2 32) n n).1))) (GS (vtF s (nI t) p c) J)) : CT mX5_restored [.ref 5, .int (nI t), .int (nI p)] (GS s J) K := by
  have := hI.hnc
  refine ct_restored hI ?_
  unfold restoredR
  rw [cif_neg (fun w => w (inR_n ht (by decide))), cif_neg (fun w => w (inR_n hp (by decide))), ncl (by omega), hI.shN_eq, hI.hn, ncl (by omega)]
  exact RK_ok rfl h
theorem ci_line0 (hI : INV s c n b) (hi : i < Ln s) (ho : ¬ s.1 0 0 = 0) (h : K (.inl (some (.int (s.2 28 i)))) (GS s J)) : CT mX5_line [.ref 5, .int (nI i), .int 0] (GS s J) K := by
  have hL := PB_Ln hI.hP hI.hb5
  have h5 := hI.hb5
  have e : (0 : Int32).toNatClampNeg = 0 := by decide
  refine ct_line hI ?_
  unfold lineR
  rw [hL.1, cif_neg (fun w => w (inR_n hi (by omega))), cif_neg (fun w => w ⟨by decide, by decide⟩), cif_neg ho, e, ncl (by omega)]
  exact RK_ok rfl h
theorem ci_line1 (hI : INV s c n b) (hi : i < Ln s) (ho : ¬ s.1 0 0 = 0) (h : K (.inl (some (.int (s.2 29 i)))) (GS s J)) : CT mX5_line [.ref 5, .int (nI i), .int 1] (GS s J) K := by
  have hL := PB_Ln hI.hP hI.hb5
  have h5 := hI.hb5
  have e : (1 : Int32).toNatClampNeg = 1 := by decide
  refine ct_line hI ?_
  unfold lineR
  rw [hL.1, cif_neg (fun w => w (inR_n hi (by omega))), cif_neg (fun w => w ⟨by decide, by decide⟩), cif_neg ho, e, ncl (by omega)]
  exact RK_ok rfl h
theorem ci_line2 (hI : INV s c n b) (hi : i < Ln s) (ho : ¬ s.1 0 0 = 0) (h : K (.inl (some (.int (naF s (s.2 30 i))))) (GS s J)) : CT mX5_line [.ref 5, .int (nI i), .int 2] (GS s J) K := by
  have hL := PB_Ln hI.hP hI.hb5
  have h5 := hI.hb5
  have e : (2 : Int32).toNatClampNeg = 2 := by decide
  refine ct_line hI ?_
  unfold lineR
  rw [hL.1, cif_neg (fun w => w (inR_n hi (by omega))), cif_neg (fun w => w ⟨by decide, by decide⟩), cif_neg ho, e, ncl (by omega)]
  exact RK_ok rfl h
theorem ci_line3 (hI : INV s c n b) (hi : i < Ln s) (ho : ¬ s.1 0 0 = 0) (h : K (.inl (some (.int (naF s (s.2 31 i))))) (GS s J)) : CT mX5_line [.ref 5, .int (nI i), .int 3] (GS s J) K := by
  have hL := PB_Ln hI.hP hI.hb5
  have h5 := hI.hb5
  have e : (3 : Int32).toNatClampNeg = 3 := by decide
  refine ct_line hI ?_
  unfold lineR
  rw [hL.1, cif_neg (fun w => w (inR_n hi (by omega))), cif_neg (fun w => w ⟨by decide, by decide⟩), cif_neg ho, e, ncl (by omega)]
  exact RK_ok rfl h
end CI
