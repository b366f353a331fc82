/-! What each call keeps: the invariant, and the model's cells -/
def FM (s u : ST) : Prop := (∀ k, u.1 6 k = s.1 6 k) ∧ ∀ q, 33 ≤ q → q < 64 → u.2 q = s.2 q
section FR
variable {s u : ST} {c n b : Nat} {p q a m i : Nat}
theorem FM_refl (s : ST) : FM s s := ⟨fun _ => rfl, fun _ _ _ => rfl⟩
theorem FM_sA {v : Int32} (h : FM s u) (hq : q < 33 ∨ 64 ≤ q) : FM s (sA u q i v) := ⟨h.1, fun r h1 h2 => by
  rw [sA_2, if_neg (by omega)]
  exact h.2 r h1 h2⟩
theorem FM_sI {v : Int32} {c k : Nat} (h : FM s u) (hc : ¬ c = 6) : FM s (sI u c k v) := ⟨fun j => by
  rw [sI_1, if_neg (fun w => hc w.1.symm)]
  exact h.1 j, h.2⟩
theorem FM_up {f : Nat → Int32} (h : FM s u) (hq : q < 33 ∨ 64 ≤ q) : FM s (u.1, upR u.2 q f) := ⟨h.1, fun r h1 h2 => by
  show upR u.2 q f r = _
  unfold upR
  rw [if_neg (by omega)]
  exact h.2 r h1 h2⟩
theorem FM_add {t k d j : Int32} {L : Nat} (h : FM s u) : FM s (addF u t k d j L) :=
  FM_sI (FM_sA (FM_sA (FM_sA (FM_sA h (by omega)) (by omega)) (by omega)) (by omega)) (by omega)
theorem FM_nk {how doer : Int32} (h : FM s u) : FM s (nkF u p how doer) := by
  unfold nkF
  split
  · exact h
  · exact FM_add (FM_sI h (by omega))
theorem FM_cl (h : FM s u) : FM s (clF u m) := by
  unfold clF
  split
  · exact h
  · exact FM_nk h
theorem FM_se (h : FM s u) : FM s (seF u m) := FM_cl (FM_sA h (by omega))
theorem FM_tl (h : FM s u) : FM s (tlF u p q) := by
  unfold tlF
  split
  · exact FM_nk h
  · exact h
theorem FM_br (h : FM s u) : FM s (brF u a p) := by
  have hA : FM s (brA u a p) := FM_sA (FM_sA (FM_sA h (by omega)) (by omega)) (by omega)
  unfold brF
  split
  · exact FM_se hA
  · exact hA
theorem FM_oo (h : FM s u) : FM s (ooF u p) := by
  unfold ooF
  split
  · exact h
  · exact FM_nk h
theorem FM_sz {x y : Int32} (h : FM s u) : ∀ i, FM s (szF u x y i)
  | 0 => h
  | i + 1 => by
    unfold szF
    split
    · exact FM_se (FM_sA (FM_sA (FM_sz h i) (by omega)) (by omega))
    · exact FM_sz h i
theorem FM_sm {x : Int32} (h : FM s u) : ∀ i, FM s (smF u x i)
  | 0 => h
  | i + 1 => by
    unfold smF
    split
    · exact FM_cl (FM_sA (FM_sA (FM_sA (FM_sA (FM_sm h i) (by omega)) (by omega)) (by omega)) (by omega))
    · exact FM_sm h i
theorem FM_row {f : Nat → Int32} (h : FM s u) (ha : 64 ≤ q) : FM s (rowF u q f i) := FM_up h (Or.inr ha)
theorem FM_sheet {t k f mm : Int32} (h : FM s u) : FM s (sheetF u t k f mm c) :=
  FM_sI (FM_sA (FM_sA (FM_sA (FM_sA (FM_sA h (by omega)) (by omega)) (by omega)) (by omega)) (by omega)) (by omega)
theorem FM_mk {k mm : Int32} (h : FM s u) : FM s (mkF u a k mm c) := FM_row (FM_sheet h) (by omega)
theorem FM_ty {mm : Int32} (h : FM s u) : ∀ i, FM s (tyF u a mm p i)
  | 0 => h
  | i + 1 => FM_br (FM_mk (FM_ty h i))
theorem FM_vt {t : Int32} (h : FM s u) : FM s (vtF u t p i) := ⟨fun k => by
  rw [vt_1]
  exact h.1 k, fun r h1 h2 => by
  rw [vt_2 (by omega)]
  exact h.2 r h1 h2⟩
theorem FM_ifA (h : FM s u) : ∀ i, FM s (ifA u p i)
  | 0 => h
  | i + 1 => by
    unfold ifA
    split
    · exact FM_tl (FM_ifA h i)
    · exact FM_ifA h i
theorem FM_ifB (h : FM s u) : ∀ i, FM s (ifB u p i)
  | 0 => h
  | i + 1 => by
    unfold ifB
    split
    · exact FM_se (FM_ifB h i)
    · exact FM_ifB h i
theorem FM_pp (h : FM s u) : ∀ i, FM s (ppF u i)
  | 0 => h
  | i + 1 => by
    unfold ppF
    split
    · exact FM_oo (FM_pp h i)
    · exact FM_pp h i
theorem FM_pn (h : FM s u) : ∀ i, FM s (pnF u i)
  | 0 => h
  | i + 1 => FM_pp (FM_sI (FM_pn h i) (by omega)) 10
/-- a call keeps the invariant, with one line more at most, and the model's cells -/
def GR (s : ST) (b : Nat) (r : RT) : Prop := (∃ c n, INV r.2.2 c n (b + 1) ∧ n ≤ c) ∧ FM s r.2.2
theorem GR_of1 {k v : Int32} (hn : n ≤ c) (h : INV u c n (b + 1)) (hf : FM s u) : GR s b (k, v, u) := ⟨⟨c, n, h, hn⟩, hf⟩
theorem INV.up (h : INV s c n b) (hb : b + 1 ≤ 522) : INV s c n (b + 1) := by
  obtain ⟨L, h1, h2⟩ := h.hP
  exact ⟨h.hc, h.hc40, h.hn, h.hnc, h.hb, h.hbm, h.hm, h.hh, h.hmh, h.hmn, h.hk, h.hsw, h.hst, h.hac, h.har, h.hkn, h.hdo, h.hsu, h.hl, ⟨L, h1, by omega⟩, hb, h.hr, h.hw⟩
theorem GR_cif {P : Prop} {x y : RT} (h1 : GR s b x) (h2 : ¬ P → GR s b y) : GR s b (cif P x y) := by
  by_cases h : P
  · rw [cif_pos h]
    exact h1
  · rw [cif_neg h]
    exact h2 h
section GS2
theorem bt_zero {i : Nat} : bt 0 i = false := by
  show (0#32).getLsbD i = false
  simp
theorem GR_s (hI : INV s c n b) (hn : n ≤ c) (hb : b + 1 ≤ 522) {k v : Int32} : GR s b (k, v, s) := ⟨⟨c, n, hI.up hb, hn⟩, FM_refl s⟩
theorem GR_of (hI : INV s c n b) (hn : n ≤ c) (hb : b + 1 ≤ 522) {k v : Int32} (h : INV u c n b) (hf : FM s u) : GR s b (k, v, u) := ⟨⟨c, n, h.up hb, hn⟩, hf⟩
theorem GR_word (hI : INV s c n b) (hn : n ≤ c) (hb : b + 1 ≤ 522) {t p w : Int32} : GR s b (wordR s t p w) := by
  unfold wordR
  refine GR_cif (GR_s hI hn hb) fun h1 => GR_cif (GR_s hI hn hb) fun h2 => GR_cif (GR_s hI hn hb) fun h3 => GR_cif (GR_s hI hn hb) fun h4 => ?_
  obtain ⟨t, ht, rfl⟩ := inR_3 (Classical.not_not.mp h1)
  rw [nI_clamp (show t < 2 ^ 31 by omega)]
  exact GR_of hI hn hb (INV_word hI ht (Classical.not_not.mp h3)) (FM_sA (FM_refl s) (by omega))
theorem GR_write (hI : INV s c n b) (hn : n ≤ c) (hb : b + 1 ≤ 522) {t p m : Int32} : GR s b (writeR s t p m) := by
  unfold writeR
  rw [hI.shN_eq]
  refine GR_cif (GR_s hI hn hb) fun h1 => GR_cif (GR_s hI hn hb) fun h2 => GR_cif (GR_s hI hn hb) fun h3 => GR_cif (GR_s hI hn hb) fun h4 => GR_cif (GR_s hI hn hb) fun h5 => ?_
  obtain ⟨t, ht, rfl⟩ := inR_3 (Classical.not_not.mp h1)
  obtain ⟨p, hp, rfl⟩ := inR_10 (Classical.not_not.mp h2)
  obtain ⟨m, hm, rfl⟩ := inR_4 (Classical.not_not.mp h3)
  rw [nI_clamp (show t < 2 ^ 31 by omega), nI_clamp (show p < 2 ^ 31 by omega)]
  have h40 := hI.hc40
  have hc : c < 40 := by
    have z2 := Classical.not_not.mp h5
    rw [hI.hc, Int32.lt_iff_toInt_lt, nI_toInt (by omega)] at z2
    have e4 : (40 : Int32).toInt = 40 := by decide
    omega
  have hW := (hI.wr (t := nI t) hc hn hm).up hb
  refine ⟨⟨c + 1, n + 1, INV_br (INV_row hW hc (fun j => rdv_w (hI.hw t ht j))) hp, by omega⟩, FM_br (FM_row (FM_sheet (FM_sI (FM_refl s) (by omega))) (by omega))⟩
theorem GR_slip (hI : INV s c n b) (hn : n ≤ c) (hb : b + 1 ≤ 522) {p k w : Int32} : GR s b (slipR s p k w) := by
  unfold slipR
  refine GR_cif (GR_s hI hn hb) fun h1 => GR_cif (GR_s hI hn hb) fun h2 => GR_cif (GR_s hI hn hb) fun h3 => ?_
  have hk : kdv k := by
    obtain ⟨j, hj, rfl⟩ := inR_nat (x := k) (c := 3) (by decide) ⟨(Classical.not_not.mp h2).1, by
      have h4 := Int32.not_lt.mp (Classical.not_not.mp h2).2
      rw [Int32.le_iff_toInt_le] at h4
      rw [Int32.lt_iff_toInt_lt]
      have e2 : (2 : Int32).toInt = 2 := by decide
      have e3 : (nI 3).toInt = 3 := by decide
      omega⟩
    have hj2 : j = 0 ∨ j = 1 ∨ j = 2 := by omega
    rcases hj2 with rfl | rfl | rfl
    · exact Or.inr (Or.inl rfl)
    · exact Or.inr (Or.inr (Or.inl rfl))
    · exact Or.inr (Or.inr (Or.inr rfl))
  exact GR_of hI hn hb (INV_L_words (INV_L_kinds hI hk) (Classical.not_not.mp h3).1) (FM_sA (FM_sA (FM_refl s) (by omega)) (by omega))
theorem GR_type (hI : INV s c n b) (hn : n ≤ c) (hb : b + 1 ≤ 522) {a m k : Int32} : GR s b (typeR s a m k) := by
  unfold typeR
  refine GR_cif (GR_s hI hn hb) fun h1 => GR_cif (GR_s hI hn hb) fun h2 => GR_cif (GR_s hI hn hb) fun h3 => GR_cif (GR_s hI hn hb) fun h4 => GR_cif (GR_s hI hn hb) fun h5 => ?_
  obtain ⟨a, ha, rfl⟩ := hI.ix (Classical.not_not.mp h1)
  obtain ⟨m, hm, rfl⟩ := inR_4 (Classical.not_not.mp h2)
  obtain ⟨kk, hk1, hk6, rfl⟩ := inB_16 (Classical.not_not.mp h3)
  have h40 := hI.hc40
  rw [nI_clamp (show a < 2 ^ 31 by omega), nI_clamp (show kk < 2 ^ 31 by omega)]
  rw [nI_clamp (show a < 2 ^ 31 by omega)] at h4
  obtain ⟨p, hp, e, _, _⟩ := Classical.not_not.mp h4
  rw [e, nI_clamp (show p < 2 ^ 31 by omega), hI.hn, nI_1]
  have hck : c + kk ≤ 40 := by
    have y2 := Int32.not_lt.mp h5
    rw [hI.hc, nI_add, Int32.le_iff_toInt_le, nI_toInt (by omega)] at y2
    have e4 : (40 : Int32).toInt = 40 := by decide
    omega
  exact ⟨⟨c + kk, n + 1, (INV_forget (INV_ty (INV_batch hI (by omega)) ha hm hp kk hck)).up hb, by omega⟩, FM_up (FM_ty (FM_sI (FM_refl s) (by omega)) kk) (by omega)⟩
theorem GR_reading (hI : INV s c n b) (hn : n ≤ c) (hb : b + 1 ≤ 522) {a p : Int32} : GR s b (readingR s a p) := GR_cif (GR_s hI hn hb) fun h1 => GR_cif (GR_s hI hn hb) fun h2 => GR_s hI hn hb
theorem GR_unlikely (hI : INV s c n b) (hn : n ≤ c) (hb : b + 1 ≤ 522) {a p : Int32} : GR s b (unlikelyR s a p) := GR_cif (GR_s hI hn hb) fun h1 => GR_cif (GR_s hI hn hb) fun h2 => GR_cif (GR_s hI hn hb) fun h3 => GR_s hI hn hb
theorem GR_likeliest (hI : INV s c n b) (hn : n ≤ c) (hb : b + 1 ≤ 522) {a : Int32} : GR s b (likeliestR s a) := GR_cif (GR_s hI hn hb) fun h1 => GR_s hI hn hb
theorem GR_restored (hI : INV s c n b) (hn : n ≤ c) (hb : b + 1 ≤ 522) {t p : Int32} : GR s b (restoredR s t p) := GR_cif (GR_s hI hn hb) fun h1 => GR_cif (GR_s hI hn hb) fun h2 => GR_of hI hn hb (INV_vt hI _) (FM_vt (FM_refl s))
theorem GR_sheetIs (hI : INV s c n b) (hn : n ≤ c) (hb : b + 1 ≤ 522) {a p : Int32} : GR s b (sheetIsR s a p) := GR_cif (GR_s hI hn hb) fun h1 => GR_cif (GR_s hI hn hb) fun h2 => GR_s hI hn hb
theorem GR_meet (hI : INV s c n b) (hn : n ≤ c) (hb : b + 1 ≤ 522) {p q : Int32} : GR s b (meetR s p q) := by
  unfold meetR
  refine GR_cif (GR_s hI hn hb) fun h1 => GR_cif (GR_s hI hn hb) fun h2 => GR_cif (GR_s hI hn hb) fun h3 => GR_cif (GR_s hI hn hb) fun h4 => GR_cif (GR_s hI hn hb) fun h5 => ?_
  obtain ⟨p, hp, rfl⟩ := inR_10 (Classical.not_not.mp h1)
  obtain ⟨q, hq, rfl⟩ := inR_10 (Classical.not_not.mp h2)
  rw [nI_clamp (show p < 2 ^ 31 by omega), nI_clamp (show q < 2 ^ 31 by omega)]
  exact GR_of hI hn hb (INV_tl (INV_tl (INV_acq hI hp hq) hp hq) hq hp) (FM_tl (FM_tl (FM_sA (FM_sA (FM_refl s) (by omega)) (by omega))))
theorem GR_give (hI : INV s c n b) (hn : n ≤ c) (hb : b + 1 ≤ 522) {a p : Int32} : GR s b (giveR s a p) := by
  unfold giveR
  refine GR_cif (GR_s hI hn hb) fun h1 => GR_cif (GR_s hI hn hb) fun h2 => GR_cif (GR_s hI hn hb) fun h3 => ?_
  obtain ⟨p, hp, rfl⟩ := inR_10 (Classical.not_not.mp h2)
  rw [nI_clamp (show p < 2 ^ 31 by omega)]
  exact GR_of hI hn hb (INV_br hI hp) (FM_br (FM_refl s))
theorem GR_hide (hI : INV s c n b) (hn : n ≤ c) (hb : b + 1 ≤ 522) {a p : Int32} : GR s b (hideR s a p) := GR_cif (GR_s hI hn hb) fun h1 => GR_cif (GR_s hI hn hb) fun h2 => GR_cif (GR_s hI hn hb) fun h3 => GR_of hI hn hb (INV_S_hours hI) (FM_sA (FM_refl s) (by omega))
theorem GR_burn (hI : INV s c n b) (hn : n ≤ c) (hb : b + 1 ≤ 522) {a : Int32} : GR s b (burnR s a) := GR_cif (GR_s hI hn hb) fun h1 => GR_cif (GR_s hI hn hb) fun h2 => GR_of hI hn hb (INV_S_holders hI (Or.inl rfl)) (FM_sA (FM_refl s) (by omega))
theorem GR_whoHad (hI : INV s c n b) (hn : n ≤ c) (hb : b + 1 ≤ 522) {t p r : Int32} : GR s b (whoHadR s t p r) := GR_cif (GR_s hI hn hb) fun h1 => GR_cif (GR_s hI hn hb) fun h2 => GR_cif (GR_s hI hn hb) fun h3 => GR_s hI hn hb
theorem GR_knows (hI : INV s c n b) (hn : n ≤ c) (hb : b + 1 ≤ 522) {p : Int32} : GR s b (knowsR s p) := GR_cif (GR_s hI hn hb) fun h1 => GR_s hI hn hb
theorem GR_lend (hI : INV s c n b) (hn : n ≤ c) (hb : b + 1 ≤ 522) {m p : Int32} : GR s b (lendR s m p) := by
  unfold lendR
  refine GR_cif (GR_s hI hn hb) fun h1 => GR_cif (GR_s hI hn hb) fun h2 => GR_cif (GR_s hI hn hb) fun h3 => GR_cif (GR_s hI hn hb) fun h4 => GR_cif (GR_s hI hn hb) fun h5 => ?_
  obtain ⟨p, hp, rfl⟩ := inR_10 (Classical.not_not.mp h2)
  exact GR_of hI hn hb (INV_K_holders hI (Or.inr ⟨p, hp, rfl⟩)) (FM_sA (FM_refl s) (by omega))
theorem GR_file (hI : INV s c n b) (hn : n ≤ c) (hb : b + 1 ≤ 522) {m : Int32} : GR s b (fileR s m) := GR_cif (GR_s hI hn hb) fun h1 => GR_cif (GR_s hI hn hb) fun h2 => GR_of hI hn hb (INV_cl (INV_K_noted hI (hI.hmh _))) (FM_cl (FM_sA (FM_refl s) (by omega)))
theorem GR_informer (hI : INV s c n b) (hn : n ≤ c) (hb : b + 1 ≤ 522) {p : Int32} : GR s b (informerR s p) := by
  unfold informerR
  refine GR_cif (GR_s hI hn hb) fun h1 => GR_cif (GR_s hI hn hb) fun h2 => GR_cif (GR_s hI hn hb) fun h3 => ?_
  obtain ⟨p, hp, rfl⟩ := inR_10 (Classical.not_not.mp h1)
  rw [nI_clamp (show p < 2 ^ 31 by omega)]
  unfold ifF
  exact GR_of hI hn hb (INV_ifB (INV_ifA (INV_informers hI) hp 10 (by omega)) _) (FM_ifB (FM_ifA (FM_sI (FM_refl s) (by omega)) 10) _)
theorem GR_strong (hI : INV s c n b) (hn : n ≤ c) (hb : b + 1 ≤ 522) {p v : Int32} : GR s b (strongR s p v) := by
  unfold strongR
  refine GR_cif (GR_s hI hn hb) fun h1 => GR_cif (GR_s hI hn hb) fun h2 => ?_
  refine GR_of hI hn hb (INV_P_strength hI ?_) (FM_sA (FM_refl s) (by omega))
  have h4 := Int32.not_lt.mp (Classical.not_not.mp h2).2
  rw [Int32.le_iff_toInt_le] at h4
  exact inR_nat (c := 10) (by decide) ⟨(Classical.not_not.mp h2).1, by
    rw [Int32.lt_iff_toInt_lt]
    have e2 : (9 : Int32).toInt = 9 := by decide
    have e3 : (nI 10).toInt = 10 := by decide
    omega⟩
theorem GR_arrest (hI : INV s c n b) (hn : n ≤ c) (hb : b + 1 ≤ 522) {p : Int32} : GR s b (arrestR s p) := by
  unfold arrestR
  refine GR_cif (GR_s hI hn hb) fun h1 => GR_cif (GR_s hI hn hb) fun h2 => GR_cif (GR_s hI hn hb) fun h3 => ?_
  obtain ⟨p, hp, rfl⟩ := inR_10 (Classical.not_not.mp h1)
  rw [nI_clamp (show p < 2 ^ 31 by omega)]
  exact ⟨⟨c, n, INV_sz (INV_ar hI hb hp) _, hn⟩, FM_sz (FM_add (FM_sA (FM_sI (FM_refl s) (by omega)) (by omega))) _⟩
theorem GR_search (hI : INV s c n b) (hn : n ≤ c) (hb : b + 1 ≤ 522) {p v : Int32} : GR s b (searchR s p v) := by
  unfold searchR
  refine GR_cif (GR_s hI hn hb) fun h1 => GR_cif (GR_s hI hn hb) fun h2 => GR_cif (GR_s hI hn hb) fun h3 => ?_
  obtain ⟨p, hp, rfl⟩ := inR_10 (Classical.not_not.mp h1)
  have hA : INV (addF s (s.1 5 7) 4 (-1) (nI p) (Ln s)) c n (b + 1) := INV_add hI hb hp (by decide)
  have hF : FM s (addF s (s.1 5 7) 4 (-1) (nI p) (Ln s)) := FM_add (FM_refl s)
  have hZ := INV_sz (x := nI p) (y := v) hA (shN s)
  have hM := INV_sm hZ hp 4
  have hF2 := FM_sz (x := nI p) (y := v) hF (shN s)
  have hF4 := FM_sm (x := nI p) hF2 4
  by_cases y : v < 5
  · rw [if_pos y]
    exact GR_of1 hn hZ hF2
  · rw [if_neg y]
    exact GR_of1 hn hM hF4
theorem GR_amnesty (hI : INV s c n b) (hn : n ≤ c) (hb : b + 1 ≤ 522) : GR s b (amnestyR s) := GR_of hI hn hb (INV_arrested hI (fun i h1 h2 => bt_zero)) (FM_sI (FM_refl s) (by omega))
theorem GR_isKnown (hI : INV s c n b) (hn : n ≤ c) (hb : b + 1 ≤ 522) {p : Int32} : GR s b (isKnownR s p) := GR_cif (GR_s hI hn hb) fun h1 => GR_s hI hn hb
theorem GR_risk (hI : INV s c n b) (hn : n ≤ c) (hb : b + 1 ≤ 522) {p v : Int32} : GR s b (riskR s p v) := GR_cif (GR_s hI hn hb) fun h1 => GR_cif (GR_s hI hn hb) fun h2 => GR_s hI hn hb
theorem GR_pass (hI : INV s c n b) (hn : n ≤ c) (hb : b + 1 ≤ 522) {v : Int32} : GR s b (passR s v) := GR_cif (GR_s hI hn hb) fun h1 => GR_cif (GR_s hI hn hb) fun h2 => GR_of hI hn hb (INV_pn hI _) (FM_pn (FM_refl s) _)
theorem GR_life (hI : INV s c n b) (hn : n ≤ c) (hb : b + 1 ≤ 522) {p l k : Int32} : GR s b (lifeR s p l k) := GR_cif (GR_s hI hn hb) fun h1 => GR_of hI hn hb (INV_P_isNamed hI) (FM_sA (FM_refl s) (by omega))
theorem GR_open (hI : INV s c n b) (hn : n ≤ c) (hb : b + 1 ≤ 522) : GR s b (openR s) := GR_of hI hn hb (INV_isOpen hI) (FM_sI (FM_refl s) (by omega))
theorem GR_line (hI : INV s c n b) (hn : n ≤ c) (hb : b + 1 ≤ 522) {l w : Int32} : GR s b (lineR s l w) := GR_cif (GR_s hI hn hb) fun h1 => GR_cif (GR_s hI hn hb) fun h2 => GR_cif (GR_s hI hn hb) fun h3 => GR_s hI hn hb
end GS2
end FR
