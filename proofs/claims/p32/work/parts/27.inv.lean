/-! The invariant of the class's state -/
theorem inR_nat {x : Int32} {c : Nat} (hc : c < 2147483648) (h : inR x (nI c)) : ∃ n, n < c ∧ x = nI n := by
  refine ⟨x.toNatClampNeg, ?_, ?_⟩
  · have h1 := Int32.not_lt.mp h.1
    have h2 := h.2
    rw [Int32.lt_iff_toInt_lt] at h2
    rw [Int32.le_iff_toInt_le] at h1
    have e : (nI c).toInt = c := nI_toInt hc
    rw [e] at h2
    have e2 : x.toNatClampNeg = x.toInt.toNat := id rfl
    have h0 : (0 : Int32).toInt = 0 := id rfl
    omega
  · have h1 := Int32.not_lt.mp h.1
    rw [Int32.le_iff_toInt_le] at h1
    have h0 : (0 : Int32).toInt = 0 := id rfl
    have e2 : x.toNatClampNeg = x.toInt.toNat := id rfl
    apply Int32.toInt_inj.mp
    have h3 := x.toInt_lt
    rw [nI_toInt (by omega), e2]
    omega
def rdv (x : Int32) : Prop := ¬ x < -2 ∧ x < 100
def wdv (x : Int32) : Prop := ¬ x < 0 ∧ x < 100
theorem rdv_w {x : Int32} (h : wdv x) : rdv x := ⟨fun z => h.1 (Int32.lt_trans z (by decide)), h.2⟩
/-- how many lines there are -/
def Ln (s : ST) : Nat := (s.1 0 1).toNatClampNeg
def INV (s : ST) (c n b : Nat) : Prop :=
  (s.1 3 0 = nI c) ∧
  (c ≤ 40) ∧
  (s.1 3 1 = nI n) ∧
  (n ≤ 40) ∧
  (∀ j, j < c → ∃ b, b < n ∧ s.2 11 j = nI b) ∧
  (∀ j k, j < k → k < c → (s.2 11 j).toNatClampNeg ≤ (s.2 11 k).toNatClampNeg) ∧
  (∀ j, ∃ m, m < 4 ∧ s.2 14 j = nI m) ∧
  (∀ j, pv (s.2 15 j)) ∧
  (∀ j, pv (s.2 24 j)) ∧
  (∀ j, pv (s.2 25 j)) ∧
  (∀ j, kdv (s.2 8 j)) ∧
  (∀ j, wdv (s.2 9 j)) ∧
  (∀ j, ∃ m, m < 10 ∧ s.2 21 j = nI m) ∧
  (∀ j i, 10 ≤ i → i < 32 → bt (s.2 20 j) i = false) ∧
  (∀ i, 10 ≤ i → i < 32 → bt (s.1 2 0) i = false) ∧
  (∀ i, 10 ≤ i → i < 32 → bt (s.1 2 2) i = false) ∧
  (∀ j, pv (s.2 30 j)) ∧
  (∀ j, pv (s.2 31 j)) ∧
  (∀ p, p < 10 → (knw s p = true ↔ tellP s (nI p) (Ln s))) ∧
  (PB s b) ∧
  (b ≤ 522) ∧
  (∀ a, a < 40 → ∀ p, rdv (s.2 (67 + a) p)) ∧
  (∀ t, t < 3 → ∀ p, wdv (s.2 (64 + t) p))
theorem INV.hc {s : ST} {c n b : Nat} (h : INV s c n b) : s.1 3 0 = nI c := h.1
theorem INV.hc40 {s : ST} {c n b : Nat} (h : INV s c n b) : c ≤ 40 := h.2.1
theorem INV.hn {s : ST} {c n b : Nat} (h : INV s c n b) : s.1 3 1 = nI n := h.2.2.1
theorem INV.hnc {s : ST} {c n b : Nat} (h : INV s c n b) : n ≤ 40 := h.2.2.2.1
theorem INV.hb {s : ST} {c n b : Nat} (h : INV s c n b) : ∀ j, j < c → ∃ b, b < n ∧ s.2 11 j = nI b := h.2.2.2.2.1
theorem INV.hbm {s : ST} {c n b : Nat} (h : INV s c n b) : ∀ j k, j < k → k < c → (s.2 11 j).toNatClampNeg ≤ (s.2 11 k).toNatClampNeg := h.2.2.2.2.2.1
theorem INV.hm {s : ST} {c n b : Nat} (h : INV s c n b) : ∀ j, ∃ m, m < 4 ∧ s.2 14 j = nI m := h.2.2.2.2.2.2.1
theorem INV.hh {s : ST} {c n b : Nat} (h : INV s c n b) : ∀ j, pv (s.2 15 j) := h.2.2.2.2.2.2.2.1
theorem INV.hmh {s : ST} {c n b : Nat} (h : INV s c n b) : ∀ j, pv (s.2 24 j) := h.2.2.2.2.2.2.2.2.1
theorem INV.hmn {s : ST} {c n b : Nat} (h : INV s c n b) : ∀ j, pv (s.2 25 j) := h.2.2.2.2.2.2.2.2.2.1
theorem INV.hk {s : ST} {c n b : Nat} (h : INV s c n b) : ∀ j, kdv (s.2 8 j) := h.2.2.2.2.2.2.2.2.2.2.1
theorem INV.hsw {s : ST} {c n b : Nat} (h : INV s c n b) : ∀ j, wdv (s.2 9 j) := h.2.2.2.2.2.2.2.2.2.2.2.1
theorem INV.hst {s : ST} {c n b : Nat} (h : INV s c n b) : ∀ j, ∃ m, m < 10 ∧ s.2 21 j = nI m := h.2.2.2.2.2.2.2.2.2.2.2.2.1
theorem INV.hac {s : ST} {c n b : Nat} (h : INV s c n b) : ∀ j i, 10 ≤ i → i < 32 → bt (s.2 20 j) i = false := h.2.2.2.2.2.2.2.2.2.2.2.2.2.1
theorem INV.har {s : ST} {c n b : Nat} (h : INV s c n b) : ∀ i, 10 ≤ i → i < 32 → bt (s.1 2 0) i = false := h.2.2.2.2.2.2.2.2.2.2.2.2.2.2.1
theorem INV.hkn {s : ST} {c n b : Nat} (h : INV s c n b) : ∀ i, 10 ≤ i → i < 32 → bt (s.1 2 2) i = false := h.2.2.2.2.2.2.2.2.2.2.2.2.2.2.2.1
theorem INV.hdo {s : ST} {c n b : Nat} (h : INV s c n b) : ∀ j, pv (s.2 30 j) := h.2.2.2.2.2.2.2.2.2.2.2.2.2.2.2.2.1
theorem INV.hsu {s : ST} {c n b : Nat} (h : INV s c n b) : ∀ j, pv (s.2 31 j) := h.2.2.2.2.2.2.2.2.2.2.2.2.2.2.2.2.2.1
theorem INV.hl {s : ST} {c n b : Nat} (h : INV s c n b) : ∀ p, p < 10 → (knw s p = true ↔ tellP s (nI p) (Ln s)) := h.2.2.2.2.2.2.2.2.2.2.2.2.2.2.2.2.2.2.1
theorem INV.hP {s : ST} {c n b : Nat} (h : INV s c n b) : PB s b := h.2.2.2.2.2.2.2.2.2.2.2.2.2.2.2.2.2.2.2.1
theorem INV.hb5 {s : ST} {c n b : Nat} (h : INV s c n b) : b ≤ 522 := h.2.2.2.2.2.2.2.2.2.2.2.2.2.2.2.2.2.2.2.2.1
theorem INV.hr {s : ST} {c n b : Nat} (h : INV s c n b) : ∀ a, a < 40 → ∀ p, rdv (s.2 (67 + a) p) := h.2.2.2.2.2.2.2.2.2.2.2.2.2.2.2.2.2.2.2.2.2.1
theorem INV.hw {s : ST} {c n b : Nat} (h : INV s c n b) : ∀ t, t < 3 → ∀ p, wdv (s.2 (64 + t) p) := h.2.2.2.2.2.2.2.2.2.2.2.2.2.2.2.2.2.2.2.2.2.2
theorem upd_all {P : Int32 → Prop} {f : Nat → Int32} {i : Nat} {v : Int32} (h : ∀ j, P (f j)) (hv : P v) : ∀ j, P (upd f i v j) := by
  intro j
  rw [upd_at]
  split
  · exact hv
  · exact h j
theorem hr_sA {P : Int32 → Prop} {s : ST} {q i : Nat} {v : Int32} {B N : Nat} (h : ∀ a, a < N → ∀ p, P (s.2 (B + a) p)) (hq : q < B) : ∀ a, a < N → ∀ p, P ((sA s q i v).2 (B + a) p) := by
  intro a ha p
  rw [sA_2, if_neg (by omega)]
  exact h a ha p
section IV
variable {s : ST} {c n b i : Nat} {v : Int32}
theorem INV_S_holders (h : INV s c n b) (hv : pv v) : INV (sA s 15 i v) c n b := ⟨h.hc, h.hc40, h.hn, h.hnc, h.hb, h.hbm, h.hm, upd_all (P := pv) h.hh hv, h.hmh, h.hmn, h.hk, h.hsw, h.hst, h.hac, h.har, h.hkn, h.hdo, h.hsu, h.hl, h.hP, h.hb5, hr_sA h.hr (by decide), hr_sA h.hw (by decide)⟩
theorem INV_S_hours (h : INV s c n b) : INV (sA s 17 i v) c n b := ⟨h.hc, h.hc40, h.hn, h.hnc, h.hb, h.hbm, h.hm, h.hh, h.hmh, h.hmn, h.hk, h.hsw, h.hst, h.hac, h.har, h.hkn, h.hdo, h.hsu, h.hl, h.hP, h.hb5, hr_sA h.hr (by decide), hr_sA h.hw (by decide)⟩
theorem INV_S_everHad (h : INV s c n b) : INV (sA s 18 i v) c n b := ⟨h.hc, h.hc40, h.hn, h.hnc, h.hb, h.hbm, h.hm, h.hh, h.hmh, h.hmn, h.hk, h.hsw, h.hst, h.hac, h.har, h.hkn, h.hdo, h.hsu, h.hl, h.hP, h.hb5, hr_sA h.hr (by decide), hr_sA h.hw (by decide)⟩
theorem INV_S_seized (h : INV s c n b) : INV (sA s 16 i v) c n b := ⟨h.hc, h.hc40, h.hn, h.hnc, h.hb, h.hbm, h.hm, h.hh, h.hmh, h.hmn, h.hk, h.hsw, h.hst, h.hac, h.har, h.hkn, h.hdo, h.hsu, h.hl, h.hP, h.hb5, hr_sA h.hr (by decide), hr_sA h.hw (by decide)⟩
theorem INV_S_texts (h : INV s c n b) : INV (sA s 10 i v) c n b := ⟨h.hc, h.hc40, h.hn, h.hnc, h.hb, h.hbm, h.hm, h.hh, h.hmh, h.hmn, h.hk, h.hsw, h.hst, h.hac, h.har, h.hkn, h.hdo, h.hsu, h.hl, h.hP, h.hb5, hr_sA h.hr (by decide), hr_sA h.hw (by decide)⟩
theorem INV_S_copies (h : INV s c n b) : INV (sA s 12 i v) c n b := ⟨h.hc, h.hc40, h.hn, h.hnc, h.hb, h.hbm, h.hm, h.hh, h.hmh, h.hmn, h.hk, h.hsw, h.hst, h.hac, h.har, h.hkn, h.hdo, h.hsu, h.hl, h.hP, h.hb5, hr_sA h.hr (by decide), hr_sA h.hw (by decide)⟩
theorem INV_S_sources (h : INV s c n b) : INV (sA s 13 i v) c n b := ⟨h.hc, h.hc40, h.hn, h.hnc, h.hb, h.hbm, h.hm, h.hh, h.hmh, h.hmn, h.hk, h.hsw, h.hst, h.hac, h.har, h.hkn, h.hdo, h.hsu, h.hl, h.hP, h.hb5, hr_sA h.hr (by decide), hr_sA h.hw (by decide)⟩
theorem INV_S_machines (h : INV s c n b) (hv : ∃ m, m < 4 ∧ v = nI m) : INV (sA s 14 i v) c n b := ⟨h.hc, h.hc40, h.hn, h.hnc, h.hb, h.hbm, upd_all (P := fun x => ∃ m, m < 4 ∧ x = nI m) h.hm hv, h.hh, h.hmh, h.hmn, h.hk, h.hsw, h.hst, h.hac, h.har, h.hkn, h.hdo, h.hsu, h.hl, h.hP, h.hb5, hr_sA h.hr (by decide), hr_sA h.hw (by decide)⟩
theorem INV_K_holders (h : INV s c n b) (hv : pv v) : INV (sA s 24 i v) c n b := ⟨h.hc, h.hc40, h.hn, h.hnc, h.hb, h.hbm, h.hm, h.hh, upd_all (P := pv) h.hmh hv, h.hmn, h.hk, h.hsw, h.hst, h.hac, h.har, h.hkn, h.hdo, h.hsu, h.hl, h.hP, h.hb5, hr_sA h.hr (by decide), hr_sA h.hw (by decide)⟩
theorem INV_K_noted (h : INV s c n b) (hv : pv v) : INV (sA s 25 i v) c n b := ⟨h.hc, h.hc40, h.hn, h.hnc, h.hb, h.hbm, h.hm, h.hh, h.hmh, upd_all (P := pv) h.hmn hv, h.hk, h.hsw, h.hst, h.hac, h.har, h.hkn, h.hdo, h.hsu, h.hl, h.hP, h.hb5, hr_sA h.hr (by decide), hr_sA h.hw (by decide)⟩
theorem INV_K_seen (h : INV s c n b) : INV (sA s 26 i v) c n b := ⟨h.hc, h.hc40, h.hn, h.hnc, h.hb, h.hbm, h.hm, h.hh, h.hmh, h.hmn, h.hk, h.hsw, h.hst, h.hac, h.har, h.hkn, h.hdo, h.hsu, h.hl, h.hP, h.hb5, hr_sA h.hr (by decide), hr_sA h.hw (by decide)⟩
theorem INV_K_seized (h : INV s c n b) : INV (sA s 27 i v) c n b := ⟨h.hc, h.hc40, h.hn, h.hnc, h.hb, h.hbm, h.hm, h.hh, h.hmh, h.hmn, h.hk, h.hsw, h.hst, h.hac, h.har, h.hkn, h.hdo, h.hsu, h.hl, h.hP, h.hb5, hr_sA h.hr (by decide), hr_sA h.hw (by decide)⟩
theorem INV_L_kinds (h : INV s c n b) (hv : kdv v) : INV (sA s 8 i v) c n b := ⟨h.hc, h.hc40, h.hn, h.hnc, h.hb, h.hbm, h.hm, h.hh, h.hmh, h.hmn, upd_all (P := kdv) h.hk hv, h.hsw, h.hst, h.hac, h.har, h.hkn, h.hdo, h.hsu, h.hl, h.hP, h.hb5, hr_sA h.hr (by decide), hr_sA h.hw (by decide)⟩
theorem INV_L_words (h : INV s c n b) (hv : wdv v) : INV (sA s 9 i v) c n b := ⟨h.hc, h.hc40, h.hn, h.hnc, h.hb, h.hbm, h.hm, h.hh, h.hmh, h.hmn, h.hk, upd_all (P := wdv) h.hsw hv, h.hst, h.hac, h.har, h.hkn, h.hdo, h.hsu, h.hl, h.hP, h.hb5, hr_sA h.hr (by decide), hr_sA h.hw (by decide)⟩
theorem INV_P_strength (h : INV s c n b) (hv : ∃ m, m < 10 ∧ v = nI m) : INV (sA s 21 i v) c n b := ⟨h.hc, h.hc40, h.hn, h.hnc, h.hb, h.hbm, h.hm, h.hh, h.hmh, h.hmn, h.hk, h.hsw, upd_all (P := fun x => ∃ m, m < 10 ∧ x = nI m) h.hst hv, h.hac, h.har, h.hkn, h.hdo, h.hsu, h.hl, h.hP, h.hb5, hr_sA h.hr (by decide), hr_sA h.hw (by decide)⟩
theorem INV_P_arrestNights (h : INV s c n b) : INV (sA s 22 i v) c n b := ⟨h.hc, h.hc40, h.hn, h.hnc, h.hb, h.hbm, h.hm, h.hh, h.hmh, h.hmn, h.hk, h.hsw, h.hst, h.hac, h.har, h.hkn, h.hdo, h.hsu, h.hl, h.hP, h.hb5, hr_sA h.hr (by decide), hr_sA h.hw (by decide)⟩
theorem INV_P_isNamed (h : INV s c n b) : INV (sA s 23 i v) c n b := ⟨h.hc, h.hc40, h.hn, h.hnc, h.hb, h.hbm, h.hm, h.hh, h.hmh, h.hmn, h.hk, h.hsw, h.hst, h.hac, h.har, h.hkn, h.hdo, h.hsu, h.hl, h.hP, h.hb5, hr_sA h.hr (by decide), hr_sA h.hw (by decide)⟩
theorem INV_T_votes (h : INV s c n b) : INV (sA s 32 i v) c n b := ⟨h.hc, h.hc40, h.hn, h.hnc, h.hb, h.hbm, h.hm, h.hh, h.hmh, h.hmn, h.hk, h.hsw, h.hst, h.hac, h.har, h.hkn, h.hdo, h.hsu, h.hl, h.hP, h.hb5, hr_sA h.hr (by decide), hr_sA h.hw (by decide)⟩
theorem INV_P_acquaintances (h : INV s c n b) (hv : ∀ k, 10 ≤ k → k < 32 → bt v k = false) : INV (sA s 20 i v) c n b := ⟨h.hc, h.hc40, h.hn, h.hnc, h.hb, h.hbm, h.hm, h.hh, h.hmh, h.hmn, h.hk, h.hsw, h.hst, upd_all (P := fun x => ∀ k, 10 ≤ k → k < 32 → bt x k = false) h.hac hv, h.har, h.hkn, h.hdo, h.hsu, h.hl, h.hP, h.hb5, hr_sA h.hr (by decide), hr_sA h.hw (by decide)⟩
theorem INV_V_nights (h : INV s c n b) : INV (sA s 28 i v) c n b := ⟨h.hc, h.hc40, h.hn, h.hnc, h.hb, h.hbm, h.hm, h.hh, h.hmh, h.hmn, h.hk, h.hsw, h.hst, h.hac, h.har, h.hkn, h.hdo, h.hsu, h.hl, h.hP, h.hb5, hr_sA h.hr (by decide), hr_sA h.hw (by decide)⟩
theorem INV_V_doers (h : INV s c n b) (hv : pv v) : INV (sA s 30 i v) c n b := ⟨h.hc, h.hc40, h.hn, h.hnc, h.hb, h.hbm, h.hm, h.hh, h.hmh, h.hmn, h.hk, h.hsw, h.hst, h.hac, h.har, h.hkn, upd_all (P := pv) h.hdo hv, h.hsu, h.hl, h.hP, h.hb5, hr_sA h.hr (by decide), hr_sA h.hw (by decide)⟩
end IV
