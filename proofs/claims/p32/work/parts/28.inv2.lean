/-! The invariant over the private methods -/
section IV2
variable {s : ST} {c n b : Nat} {p q a m : Nat}
theorem PB_Ln (h : PB s b) (hb : b ≤ 522) : s.1 0 1 = nI (Ln s) ∧ Ln s + unk s ≤ b := by
  obtain ⟨L, h1, h2⟩ := h
  have e : Ln s = L := by
    unfold Ln
    rw [h1, nI_clamp (by omega)]
  rw [e]
  exact ⟨h1, h2⟩
theorem add_Ln {t k d j : Int32} {L : Nat} (hL : L < 522) : Ln (addF s t k d j L) = L + 1 := by
  unfold Ln addF
  rw [sI_1, if_pos ⟨rfl, rfl⟩, nI_clamp (by omega)]
theorem add_29 {t k d j : Int32} {L i : Nat} : (addF s t k d j L).2 29 i = if i = L then k else s.2 29 i := id rfl
theorem add_31 {t k d j : Int32} {L i : Nat} : (addF s t k d j L).2 31 i = if i = L then j else s.2 31 i := id rfl
theorem tell_add {t k d j x : Int32} {L : Nat} : tellP (addF s t k d j L) x (L + 1) ↔ (tellP s x L ∨ (k ≤ 2 ∧ j = x)) := by
  constructor
  · rintro ⟨i, h1, h2, h3⟩
    rw [add_29] at h2
    rw [add_31] at h3
    by_cases e : i = L
    · rw [if_pos e] at h2 h3
      exact Or.inr ⟨h2, h3⟩
    · rw [if_neg e] at h2 h3
      exact Or.inl ⟨i, by omega, h2, h3⟩
  · rintro (⟨i, h1, h2, h3⟩ | ⟨h2, h3⟩)
    · refine ⟨i, by omega, ?_, ?_⟩
      · rw [add_29, if_neg (by omega)]
        exact h2
      · rw [add_31, if_neg (by omega)]
        exact h3
    · refine ⟨L, by omega, ?_, ?_⟩
      · rw [add_29, if_pos rfl]
        exact h2
      · rw [add_31, if_pos rfl]
        exact h3
theorem INV_nk {how doer : Int32} (h : INV s c n b) (hp : p < 10) (hh : how ≤ 2) (hd : pv doer) : INV (nkF s p how doer) c n b := by
  have hk := h
  have hPn := PB_nk (how := how) (doer := doer) hp h.hb5 h.hP
  have hkw := fun q (hq : q < 32) => nkF_knw (s := s) (how := how) (doer := doer) hp hq
  obtain ⟨h1, h2⟩ := PB_Ln h.hP h.hb5
  have hu := fun e => unkN_set (f := knw s) (g := knw (nkF s p how doer)) (fun q hq => hkw q (by omega)) hp e
  by_cases e : knw s p = true
  · unfold nkF
    rw [if_pos e]
    exact h
  · have hu2 := hu (tf e)
    have hun : unk s = unkN (knw s) 10 := id rfl
    have hL : Ln s < 522 := by
      have := h.hb5
      omega
    unfold nkF at hPn hkw ⊢
    rw [if_neg e] at hPn ⊢
    simp only [if_neg e] at hkw
    change PB (addF _ _ _ _ _ (Ln s)) b at hPn
    change INV (addF _ _ _ _ _ (Ln s)) c n b
    change ∀ q, q < 32 → knw (addF _ _ _ _ _ (Ln s)) q = _ at hkw
    refine ⟨h.hc, h.hc40, h.hn, h.hnc, h.hb, h.hbm, h.hm, h.hh, h.hmh, h.hmn, h.hk, h.hsw, h.hst, h.hac, h.har, ?_, upd_all (P := pv) h.hdo hd, upd_all (P := pv) h.hsu (Or.inr ⟨p, hp, rfl⟩), ?_, hPn, h.hb5, hr_sA (hr_sA (hr_sA (hr_sA h.hr (by decide)) (by decide)) (by decide)) (by decide), hr_sA (hr_sA (hr_sA (hr_sA h.hw (by decide)) (by decide)) (by decide)) (by decide)⟩
    · intro i hi1 hi2
      have e2 := hkw i hi2
      unfold knw at e2
      rw [e2, h.hkn i hi1 hi2]
      simp
      omega
    · intro q hq
      rw [hkw q (by omega), add_Ln hL, tell_add]
      have e3 := h.hl q hq
      have e4 : tellP (sI s 2 2 (s.1 2 2 ||| bitI (nI p))) (nI q) (Ln s) = tellP s (nI q) (Ln s) := id rfl
      rw [e4]
      by_cases e5 : q = p
      · subst e5
        simp [hh]
      · have e6 : ¬ nI p = nI q := fun z => e5 (by
          have := congrArg Int32.toNatClampNeg z
          rw [nI_clamp (by omega), nI_clamp (by omega)] at this
          omega)
        simp [e5, e6, e3]
theorem INV_add (h : INV s c n b) (hb : b + 1 ≤ 522) (hp : p < 10) {t k : Int32} (hk : ¬ k ≤ 2) : INV (addF s t k (-1) (nI p) (Ln s)) c n (b + 1) := by
  obtain ⟨h1, h2⟩ := PB_Ln h.hP h.hb5
  have hL : Ln s < 522 := by omega
  refine ⟨h.hc, h.hc40, h.hn, h.hnc, h.hb, h.hbm, h.hm, h.hh, h.hmh, h.hmn, h.hk, h.hsw, h.hst, h.hac, h.har, h.hkn, upd_all (P := pv) h.hdo (Or.inl rfl), upd_all (P := pv) h.hsu (Or.inr ⟨p, hp, rfl⟩), ?_, ?_, hb, hr_sA (hr_sA (hr_sA (hr_sA h.hr (by decide)) (by decide)) (by decide)) (by decide), hr_sA (hr_sA (hr_sA (hr_sA h.hw (by decide)) (by decide)) (by decide)) (by decide)⟩
  · intro q hq
    have e3 := h.hl q hq
    rw [add_Ln hL, tell_add]
    have e4 : knw (addF s t k (-1) (nI p) (Ln s)) q = knw s q := id rfl
    rw [e4, e3]
    constructor
    · exact Or.inl
    · rintro (z | z)
      · exact z
      · exact absurd z.1 hk
  · refine ⟨Ln s + 1, ?_, ?_⟩
    · unfold addF
      rw [sI_1, if_pos ⟨rfl, rfl⟩]
    · have e4 : unk (addF s t k (-1) (nI p) (Ln s)) = unk s := id rfl
      omega
theorem INV_cl (h : INV s c n b) : INV (clF s m) c n b := by
  unfold clF
  split
  · exact h
  · rename_i hz
    rcases h.hmn m with hn | ⟨p, hp, e⟩
    · exact absurd (Or.inr hn) hz
    · rw [e, nI_clamp (by omega)]
      exact INV_nk h hp (by decide) (Or.inl rfl)
theorem INV_se (h : INV s c n b) : INV (seF s m) c n b := INV_cl (INV_K_seen h)
theorem INV_tl (h : INV s c n b) (hp : p < 10) (hq : q < 10) : INV (tlF s p q) c n b := by
  unfold tlF
  split
  · exact INV_nk h hq (by decide) (Or.inr ⟨p, hp, rfl⟩)
  · exact h
theorem INV_br (h : INV s c n b) (hp : p < 10) : INV (brF s a p) c n b := by
  have hA : INV (brA s a p) c n b := INV_S_everHad (INV_S_hours (INV_S_holders h (Or.inr ⟨p, hp, rfl⟩)))
  unfold brF
  split
  · exact INV_se hA
  · exact hA
theorem INV_oo (h : INV s c n b) (hp : p < 10) : INV (ooF s p) c n b := by
  unfold ooF
  rcases low_or (unkF s p 0) with ⟨i, hi, e, -, -⟩ | ⟨e, -⟩
  · rw [e, if_neg (nI_m1 (by omega)), nI_clamp (by omega)]
    exact INV_nk h hi (by decide) (Or.inr ⟨p, hp, rfl⟩)
  · rw [e, if_pos rfl]
    exact h
theorem INV_sz {x y : Int32} (h : INV s c n b) : ∀ i, INV (szF s x y i) c n b
  | 0 => h
  | i + 1 => by
    unfold szF
    split
    · exact INV_se (INV_S_seized (INV_S_holders (INV_sz h i) (Or.inl rfl)))
    · exact INV_sz h i
theorem INV_sm (h : INV s c n b) (hp : p < 10) : ∀ i, INV (smF s (nI p) i) c n b
  | 0 => h
  | i + 1 => by
    unfold smF
    split
    · exact INV_cl (INV_K_seized (INV_K_holders (INV_K_seen (INV_K_noted (INV_sm h hp i) (Or.inr ⟨p, hp, rfl⟩))) (Or.inl rfl)))
    · exact INV_sm h hp i
theorem INV_vt {t : Int32} (h : INV s c n b) (i : Nat) : INV (vtF s t p i) c n b := by
  have e1 : (vtF s t p i).1 = s.1 := vt_1 i
  have e2 : ∀ q, ¬ q = 32 → (vtF s t p i).2 q = s.2 q := fun q hq => vt_2 hq i
  have hkn : ∀ q, knw (vtF s t p i) q = knw s q := fun q => by
    unfold knw
    rw [e1]
  have hun : unk (vtF s t p i) = unk s := unkN_eq (fun q _ => hkn q)
  have hLn : Ln (vtF s t p i) = Ln s := by
    unfold Ln
    rw [e1]
  refine ⟨by rw [e1]; exact h.hc, h.hc40, by rw [e1]; exact h.hn, h.hnc, by rw [e2 _ (by decide)]; exact h.hb, by rw [e2 _ (by decide)]; exact h.hbm, by rw [e2 _ (by decide)]; exact h.hm, by rw [e2 _ (by decide)]; exact h.hh, by rw [e2 _ (by decide)]; exact h.hmh, by rw [e2 _ (by decide)]; exact h.hmn, by rw [e2 _ (by decide)]; exact h.hk, by rw [e2 _ (by decide)]; exact h.hsw, by rw [e2 _ (by decide)]; exact h.hst, by rw [e2 _ (by decide)]; exact h.hac, by rw [e1]; exact h.har, by rw [e1]; exact h.hkn, by rw [e2 _ (by decide)]; exact h.hdo, by rw [e2 _ (by decide)]; exact h.hsu, ?_, ?_, h.hb5, ?_, ?_⟩
  · intro q hq
    have e3 : tellP (vtF s t p i) (nI q) (Ln (vtF s t p i)) = tellP s (nI q) (Ln s) := by
      unfold tellP
      rw [hLn, e2 _ (by decide), e2 _ (by decide)]
    rw [e3, hkn]
    exact h.hl q hq
  · obtain ⟨L, z1, z2⟩ := h.hP
    exact ⟨L, by rw [e1]; exact z1, by rw [hun]; exact z2⟩
  · intro j hj q
    rw [e2 _ (by omega)]
    exact h.hr j hj q
  · intro j hj q
    rw [e2 _ (by omega)]
    exact h.hw j hj q
end IV2
/-! The invariant over sheets that are added -/
section IV3
variable {s : ST} {c n b : Nat} {p q a m : Nat}
theorem INV_frame {s s' : ST} (h : INV s c n b) (e1 : s'.1 = s.1) (e2 : ∀ q, q < 64 → s'.2 q = s.2 q) (hr : ∀ a, a < 40 → ∀ p, rdv (s'.2 (67 + a) p)) (hw : ∀ t, t < 3 → ∀ p, wdv (s'.2 (64 + t) p)) : INV s' c n b := by
  have hkn : ∀ q, knw s' q = knw s q := fun q => by
    unfold knw
    rw [e1]
  have hun : unk s' = unk s := unkN_eq (fun q _ => hkn q)
  have hLn : Ln s' = Ln s := by
    unfold Ln
    rw [e1]
  refine ⟨by rw [e1]; exact h.hc, h.hc40, by rw [e1]; exact h.hn, h.hnc, by rw [e2 _ (by decide)]; exact h.hb, by rw [e2 _ (by decide)]; exact h.hbm, by rw [e2 _ (by decide)]; exact h.hm, by rw [e2 _ (by decide)]; exact h.hh, by rw [e2 _ (by decide)]; exact h.hmh, by rw [e2 _ (by decide)]; exact h.hmn, by rw [e2 _ (by decide)]; exact h.hk, by rw [e2 _ (by decide)]; exact h.hsw, by rw [e2 _ (by decide)]; exact h.hst, by rw [e2 _ (by decide)]; exact h.hac, by rw [e1]; exact h.har, by rw [e1]; exact h.hkn, by rw [e2 _ (by decide)]; exact h.hdo, by rw [e2 _ (by decide)]; exact h.hsu, ?_, ?_, h.hb5, hr, hw⟩
  · intro q hq
    have e3 : tellP s' (nI q) (Ln s') = tellP s (nI q) (Ln s) := by
      unfold tellP
      rw [hLn, e2 _ (by decide), e2 _ (by decide)]
    rw [e3, hkn]
    exact h.hl q hq
  · obtain ⟨L, z1, z2⟩ := h.hP
    exact ⟨L, by rw [e1]; exact z1, by rw [hun]; exact z2⟩
theorem INV_row {f : Nat → Int32} {i : Nat} (h : INV s c n b) (ha : a < 40) (hf : ∀ j, rdv (f j)) : INV (rowF s (67 + a) f i) c n b := by
  refine INV_frame h rowF_1 (fun q hq => rowF_2 (by omega)) ?_ ?_
  · intro a2 h2 p
    by_cases e : a2 = a
    · subst e
      have e3 : (rowF s (67 + a2) f i).2 (67 + a2) p = if p < i then f p else s.2 (67 + a2) p := by
        unfold rowF upR
        simp only [if_pos]
      rw [e3]
      split
      · exact hf p
      · exact h.hr a2 h2 p
    · rw [rowF_2 (by omega)]
      exact h.hr a2 h2 p
  · intro t ht p
    rw [rowF_2 (by omega)]
    exact h.hw t ht p
theorem INV_word {w : Int32} {t i : Nat} (h : INV s c n b) (ht : t < 3) (hw : wdv w) : INV (sA s (64 + t) i w) c n b := by
  refine INV_frame h (sA_1 _ _ _ _) (fun q hq => by rw [sA_2, if_neg (by omega)]) ?_ ?_
  · intro a ha p
    rw [sA_2, if_neg (by omega)]
    exact h.hr a ha p
  · intro t2 h2 p
    rw [sA_2]
    by_cases e : t2 = t
    · subst e
      rw [if_pos rfl]
      exact upd_all (P := wdv) (h.hw t2 h2) hw p
    · rw [if_neg (by omega)]
      exact h.hw t2 h2 p
theorem INV_batch (h : INV s c n b) (h2 : n + 1 ≤ 40) : INV (sI s 3 1 (nI (n + 1))) c (n + 1) b :=
  ⟨h.hc, h.hc40, by rw [sI_1, if_pos ⟨rfl, rfl⟩], h2, fun j hj => by
    obtain ⟨x, z1, z2⟩ := h.hb j hj
    exact ⟨x, by omega, z2⟩, h.hbm, h.hm, h.hh, h.hmh, h.hmn, h.hk, h.hsw, h.hst, h.hac, h.har, h.hkn, h.hdo, h.hsu, h.hl, h.hP, h.hb5, h.hr, h.hw⟩
theorem nI_sub1 {n : Nat} : nI (n + 1) - 1 = nI n := by
  rw [← nI_1, Int32.add_sub_cancel]
theorem INV_sheet {t k f : Int32} (h : INV s c (n + 1) b) (hc : c < 40) (hm : m < 4) : INV (sheetF s t k f (nI m) c) (c + 1) (n + 1) b := by
  have eb : (sheetF s t k f (nI m) c).2 11 = upd (s.2 11) c (nI n) := by
    have e : (sheetF s t k f (nI m) c).2 11 = upd (s.2 11) c (s.1 3 1 - 1) := id rfl
    rw [e, h.hn, nI_sub1]
  have hb : ∀ j, j < c + 1 → ∃ x, x < n + 1 ∧ (sheetF s t k f (nI m) c).2 11 j = nI x := by
    intro j hj
    rw [eb, upd_at]
    by_cases e : j = c
    · rw [if_pos e]
      exact ⟨n, by omega, rfl⟩
    · rw [if_neg e]
      exact h.hb j (by omega)
  refine ⟨by unfold sheetF; rw [sI_1, if_pos ⟨rfl, rfl⟩], by omega, h.hn, h.hnc, hb, ?_, upd_all (P := fun x => ∃ m, m < 4 ∧ x = nI m) h.hm ⟨m, hm, rfl⟩, h.hh, h.hmh, h.hmn, h.hk, h.hsw, h.hst, h.hac, h.har, h.hkn, h.hdo, h.hsu, h.hl, h.hP, h.hb5, hr_sA (hr_sA (hr_sA (hr_sA (hr_sA h.hr (by decide)) (by decide)) (by decide)) (by decide)) (by decide), hr_sA (hr_sA (hr_sA (hr_sA (hr_sA h.hw (by decide)) (by decide)) (by decide)) (by decide)) (by decide)⟩
  intro j l hj hl
  have h40 := h.hnc
  obtain ⟨x, hx, e⟩ := hb j (by omega)
  rw [e, nI_clamp (by omega), eb, upd_at]
  by_cases e2 : l = c
  · rw [if_pos e2, nI_clamp (by omega)]
    omega
  · rw [if_neg e2]
    have h3 := h.hbm j l hj (by omega)
    rw [eb, upd_at, if_neg (by omega)] at e
    rw [e, nI_clamp (by omega)] at h3
    exact h3
theorem rdv_cp {k : Int32} {j : Nat} (h : INV s c n b) (ha : a < 40) : rdv (cpF s a k j) := by
  have h1 : rdv (apF (s.2 8 j) (s.2 9 j) (rdg s a j)) := by
    unfold apF
    have hr : rdv (rdg s a j) := h.hr a ha j
    have hw : rdv (s.2 9 j) := rdv_w (h.hsw j)
    split
    · split
      · exact hr
      · exact hw
    · split
      · exact ⟨by decide, by decide⟩
      · split
        · split
          · exact hw
          · exact hr
        · exact hr
  unfold cpF
  split
  · exact ⟨by decide, by decide⟩
  · exact h1
theorem INV_mk {k : Int32} (h : INV s c (n + 1) b) (hc : c < 40) (ha : a < 40) (hm : m < 4) : INV (mkF s a k (nI m) c) (c + 1) (n + 1) b :=
  INV_row (INV_sheet h hc hm) hc (fun _ => rdv_cp (INV_sheet h hc hm) ha)
theorem INV_forget (h : INV s c n b) : INV (sFill s 8 12 (-1)) c n b := by
  have e2 : ∀ q, ¬ q = 8 → (sFill s 8 12 (-1)).2 q = s.2 q := fun q hq => if_neg hq
  refine ⟨h.hc, h.hc40, h.hn, h.hnc, h.hb, h.hbm, h.hm, h.hh, h.hmh, h.hmn, ?_, h.hsw, h.hst, h.hac, h.har, h.hkn, h.hdo, h.hsu, h.hl, h.hP, h.hb5, ?_, ?_⟩
  · intro j
    have e : (sFill s 8 12 (-1)).2 8 j = if j < 12 then -1 else s.2 8 j := id rfl
    rw [e]
    split
    · exact Or.inl rfl
    · exact h.hk j
  · intro a ha p
    rw [e2 _ (by omega)]
    exact h.hr a ha p
  · intro a ha p
    rw [e2 _ (by omega)]
    exact h.hw a ha p
end IV3
