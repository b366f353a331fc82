/-! The model's cells and the class's -/
def PM (σ s : ST) : Prop :=
  (s.1 6 0 = σ.1 5 7) ∧
  (s.1 6 2 = σ.1 3 0) ∧
  (s.1 6 17 = σ.1 2 0) ∧
  (s.1 6 18 = σ.1 2 1) ∧
  (s.1 6 19 = σ.1 2 2) ∧
  (s.1 6 28 = σ.1 0 1) ∧
  (s.1 6 30 = σ.1 0 0) ∧
  (s.2 34 = σ.2 10) ∧
  (s.2 36 = σ.2 11) ∧
  (s.2 37 = σ.2 12) ∧
  (s.2 38 = σ.2 13) ∧
  (s.2 39 = σ.2 14) ∧
  (s.2 40 = σ.2 15) ∧
  (s.2 41 = σ.2 16) ∧
  (s.2 42 = σ.2 17) ∧
  (s.2 43 = σ.2 18) ∧
  (s.2 44 = σ.2 8) ∧
  (s.2 45 = σ.2 9) ∧
  (s.2 46 = σ.2 20) ∧
  (s.2 47 = σ.2 21) ∧
  (s.2 48 = σ.2 22) ∧
  (s.2 49 = σ.2 24) ∧
  (s.2 50 = σ.2 25) ∧
  (s.2 51 = σ.2 26) ∧
  (s.2 52 = σ.2 27) ∧
  (∀ t, t < 3 → ∀ p, p < 12 → s.2 33 (12 * t + p) = σ.2 (64 + t) p) ∧
  (∀ a, a < 40 → ∀ p, p < 12 → s.2 35 (12 * a + p) = σ.2 (67 + a) p) ∧
  (∀ l, l < 522 → s.2 53 (4 * l) = σ.2 28 l) ∧
  (∀ l, l < 522 → s.2 53 (4 * l + 1) = σ.2 29 l) ∧
  (∀ l, l < 522 → s.2 53 (4 * l + 2) = σ.2 30 l) ∧
  (∀ l, l < 522 → s.2 53 (4 * l + 3) = σ.2 31 l) ∧
  (∀ p, p < 10 → (bt (s.1 6 22 &&& (s.1 6 23 ^^^ -1)) p = true ↔ σ.2 23 p = 0))
theorem PM.f_night {σ s : ST} (h : PM σ s) : s.1 6 0 = σ.1 5 7 := h.1
theorem PM.f_sheets {σ s : ST} (h : PM σ s) : s.1 6 2 = σ.1 3 0 := h.2.1
theorem PM.f_arrested {σ s : ST} (h : PM σ s) : s.1 6 17 = σ.1 2 0 := h.2.2.1
theorem PM.f_informers {σ s : ST} (h : PM σ s) : s.1 6 18 = σ.1 2 1 := h.2.2.2.1
theorem PM.f_known {σ s : ST} (h : PM σ s) : s.1 6 19 = σ.1 2 2 := h.2.2.2.2.1
theorem PM.f_lines {σ s : ST} (h : PM σ s) : s.1 6 28 = σ.1 0 1 := h.2.2.2.2.2.1
theorem PM.f_isOpen {σ s : ST} (h : PM σ s) : s.1 6 30 = σ.1 0 0 := h.2.2.2.2.2.2.1
theorem PM.r_text {σ s : ST} (h : PM σ s) : s.2 34 = σ.2 10 := h.2.2.2.2.2.2.2.1
theorem PM.r_batch {σ s : ST} (h : PM σ s) : s.2 36 = σ.2 11 := h.2.2.2.2.2.2.2.2.1
theorem PM.r_copy {σ s : ST} (h : PM σ s) : s.2 37 = σ.2 12 := h.2.2.2.2.2.2.2.2.2.1
theorem PM.r_parent {σ s : ST} (h : PM σ s) : s.2 38 = σ.2 13 := h.2.2.2.2.2.2.2.2.2.2.1
theorem PM.r_machineOf {σ s : ST} (h : PM σ s) : s.2 39 = σ.2 14 := h.2.2.2.2.2.2.2.2.2.2.2.1
theorem PM.r_with {σ s : ST} (h : PM σ s) : s.2 40 = σ.2 15 := h.2.2.2.2.2.2.2.2.2.2.2.2.1
theorem PM.r_isSeized {σ s : ST} (h : PM σ s) : s.2 41 = σ.2 16 := h.2.2.2.2.2.2.2.2.2.2.2.2.2.1
theorem PM.r_hours {σ s : ST} (h : PM σ s) : s.2 42 = σ.2 17 := h.2.2.2.2.2.2.2.2.2.2.2.2.2.2.1
theorem PM.r_had {σ s : ST} (h : PM σ s) : s.2 43 = σ.2 18 := h.2.2.2.2.2.2.2.2.2.2.2.2.2.2.2.1
theorem PM.r_slip {σ s : ST} (h : PM σ s) : s.2 44 = σ.2 8 := h.2.2.2.2.2.2.2.2.2.2.2.2.2.2.2.2.1
theorem PM.r_slipWord {σ s : ST} (h : PM σ s) : s.2 45 = σ.2 9 := h.2.2.2.2.2.2.2.2.2.2.2.2.2.2.2.2.2.1
theorem PM.r_knows {σ s : ST} (h : PM σ s) : s.2 46 = σ.2 20 := h.2.2.2.2.2.2.2.2.2.2.2.2.2.2.2.2.2.2.1
theorem PM.r_strong {σ s : ST} (h : PM σ s) : s.2 47 = σ.2 21 := h.2.2.2.2.2.2.2.2.2.2.2.2.2.2.2.2.2.2.2.1
theorem PM.r_since {σ s : ST} (h : PM σ s) : s.2 48 = σ.2 22 := h.2.2.2.2.2.2.2.2.2.2.2.2.2.2.2.2.2.2.2.2.1
theorem PM.r_at {σ s : ST} (h : PM σ s) : s.2 49 = σ.2 24 := h.2.2.2.2.2.2.2.2.2.2.2.2.2.2.2.2.2.2.2.2.2.1
theorem PM.r_noted {σ s : ST} (h : PM σ s) : s.2 50 = σ.2 25 := h.2.2.2.2.2.2.2.2.2.2.2.2.2.2.2.2.2.2.2.2.2.2.1
theorem PM.r_wasSeen {σ s : ST} (h : PM σ s) : s.2 51 = σ.2 26 := h.2.2.2.2.2.2.2.2.2.2.2.2.2.2.2.2.2.2.2.2.2.2.2.1
theorem PM.r_isGone {σ s : ST} (h : PM σ s) : s.2 52 = σ.2 27 := h.2.2.2.2.2.2.2.2.2.2.2.2.2.2.2.2.2.2.2.2.2.2.2.2.1
theorem PM.word {σ s : ST} (h : PM σ s) : ∀ t, t < 3 → ∀ p, p < 12 → s.2 33 (12 * t + p) = σ.2 (64 + t) p := h.2.2.2.2.2.2.2.2.2.2.2.2.2.2.2.2.2.2.2.2.2.2.2.2.2.1
theorem PM.reading {σ s : ST} (h : PM σ s) : ∀ a, a < 40 → ∀ p, p < 12 → s.2 35 (12 * a + p) = σ.2 (67 + a) p := h.2.2.2.2.2.2.2.2.2.2.2.2.2.2.2.2.2.2.2.2.2.2.2.2.2.2.1
theorem PM.line0 {σ s : ST} (h : PM σ s) : ∀ l, l < 522 → s.2 53 (4 * l) = σ.2 28 l := h.2.2.2.2.2.2.2.2.2.2.2.2.2.2.2.2.2.2.2.2.2.2.2.2.2.2.2.1
theorem PM.line1 {σ s : ST} (h : PM σ s) : ∀ l, l < 522 → s.2 53 (4 * l + 1) = σ.2 29 l := h.2.2.2.2.2.2.2.2.2.2.2.2.2.2.2.2.2.2.2.2.2.2.2.2.2.2.2.2.1
theorem PM.line2 {σ s : ST} (h : PM σ s) : ∀ l, l < 522 → s.2 53 (4 * l + 2) = σ.2 30 l := h.2.2.2.2.2.2.2.2.2.2.2.2.2.2.2.2.2.2.2.2.2.2.2.2.2.2.2.2.2.1
theorem PM.line3 {σ s : ST} (h : PM σ s) : ∀ l, l < 522 → s.2 53 (4 * l + 3) = σ.2 31 l := h.2.2.2.2.2.2.2.2.2.2.2.2.2.2.2.2.2.2.2.2.2.2.2.2.2.2.2.2.2.2.1
theorem PM.name {σ s : ST} (h : PM σ s) : ∀ p, p < 10 → (bt (s.1 6 22 &&& (s.1 6 23 ^^^ -1)) p = true ↔ σ.2 23 p = 0) := h.2.2.2.2.2.2.2.2.2.2.2.2.2.2.2.2.2.2.2.2.2.2.2.2.2.2.2.2.2.2.2
/-- the class's cells are as they were -/
def FC (s0 s : ST) : Prop := (∀ c k, ¬ c = 6 ∨ k = 3 ∨ k = 33 → s.1 c k = s0.1 c k) ∧ ∀ q, (q < 33 ∨ 64 ≤ q) → s.2 q = s0.2 q
def PF (σ s0 s : ST) : Prop := PM σ s ∧ FC s0 s
section PMS
variable {σ s s0 : ST} {i : Nat} {v : Int32}
theorem FC_sA {q : Nat} (h : FC s0 s) (h1 : 33 ≤ q) (h2 : q < 64) : FC s0 (sA s q i v) := ⟨h.1, fun r hr => by
  rw [sA_2, if_neg (by omega)]
  exact h.2 r hr⟩
theorem FC_sI {k : Nat} (h : FC s0 s) (hk : ¬ k = 3 ∧ ¬ k = 33 := by decide) : FC s0 (sI s 6 k v) := ⟨fun c j hc => by
  rw [sI_1, if_neg (fun w => hc.elim (fun z => z w.1) (fun z => z.elim (fun z => hk.1 (by rw [← w.2, z])) (fun z => hk.2 (by rw [← w.2, z]))))]
  exact h.1 c j hc, h.2⟩
theorem FC_refl (s : ST) : FC s s := ⟨fun _ _ _ => rfl, fun _ _ => rfl⟩
theorem rd_sA {g : Nat → Int32} {B N q : Nat} (h : ∀ a, a < N → ∀ p, p < 12 → g (12 * a + p) = σ.2 (B + a) p) (hq : q < B) : ∀ a, a < N → ∀ p, p < 12 → g (12 * a + p) = (sA σ q i v).2 (B + a) p := by
  intro a ha p hp
  rw [sA_2, if_neg (by omega)]
  exact h a ha p hp
theorem PF_text (h : PF σ s0 s) : PF (sA σ 10 i v) s0 (sA s 34 i v) := ⟨⟨h.1.f_night, h.1.f_sheets, h.1.f_arrested, h.1.f_informers, h.1.f_known, h.1.f_lines, h.1.f_isOpen, congrArg (fun r => upd r i v) h.1.r_text, h.1.r_batch, h.1.r_copy, h.1.r_parent, h.1.r_machineOf, h.1.r_with, h.1.r_isSeized, h.1.r_hours, h.1.r_had, h.1.r_slip, h.1.r_slipWord, h.1.r_knows, h.1.r_strong, h.1.r_since, h.1.r_at, h.1.r_noted, h.1.r_wasSeen, h.1.r_isGone, rd_sA h.1.word (by decide), rd_sA h.1.reading (by decide), h.1.line0, h.1.line1, h.1.line2, h.1.line3, h.1.name⟩, FC_sA h.2 (by decide) (by decide)⟩
theorem PF_batch (h : PF σ s0 s) : PF (sA σ 11 i v) s0 (sA s 36 i v) := ⟨⟨h.1.f_night, h.1.f_sheets, h.1.f_arrested, h.1.f_informers, h.1.f_known, h.1.f_lines, h.1.f_isOpen, h.1.r_text, congrArg (fun r => upd r i v) h.1.r_batch, h.1.r_copy, h.1.r_parent, h.1.r_machineOf, h.1.r_with, h.1.r_isSeized, h.1.r_hours, h.1.r_had, h.1.r_slip, h.1.r_slipWord, h.1.r_knows, h.1.r_strong, h.1.r_since, h.1.r_at, h.1.r_noted, h.1.r_wasSeen, h.1.r_isGone, rd_sA h.1.word (by decide), rd_sA h.1.reading (by decide), h.1.line0, h.1.line1, h.1.line2, h.1.line3, h.1.name⟩, FC_sA h.2 (by decide) (by decide)⟩
theorem PF_copy (h : PF σ s0 s) : PF (sA σ 12 i v) s0 (sA s 37 i v) := ⟨⟨h.1.f_night, h.1.f_sheets, h.1.f_arrested, h.1.f_informers, h.1.f_known, h.1.f_lines, h.1.f_isOpen, h.1.r_text, h.1.r_batch, congrArg (fun r => upd r i v) h.1.r_copy, h.1.r_parent, h.1.r_machineOf, h.1.r_with, h.1.r_isSeized, h.1.r_hours, h.1.r_had, h.1.r_slip, h.1.r_slipWord, h.1.r_knows, h.1.r_strong, h.1.r_since, h.1.r_at, h.1.r_noted, h.1.r_wasSeen, h.1.r_isGone, rd_sA h.1.word (by decide), rd_sA h.1.reading (by decide), h.1.line0, h.1.line1, h.1.line2, h.1.line3, h.1.name⟩, FC_sA h.2 (by decide) (by decide)⟩
theorem PF_parent (h : PF σ s0 s) : PF (sA σ 13 i v) s0 (sA s 38 i v) := ⟨⟨h.1.f_night, h.1.f_sheets, h.1.f_arrested, h.1.f_informers, h.1.f_known, h.1.f_lines, h.1.f_isOpen, h.1.r_text, h.1.r_batch, h.1.r_copy, congrArg (fun r => upd r i v) h.1.r_parent, h.1.r_machineOf, h.1.r_with, h.1.r_isSeized, h.1.r_hours, h.1.r_had, h.1.r_slip, h.1.r_slipWord, h.1.r_knows, h.1.r_strong, h.1.r_since, h.1.r_at, h.1.r_noted, h.1.r_wasSeen, h.1.r_isGone, rd_sA h.1.word (by decide), rd_sA h.1.reading (by decide), h.1.line0, h.1.line1, h.1.line2, h.1.line3, h.1.name⟩, FC_sA h.2 (by decide) (by decide)⟩
theorem PF_machineOf (h : PF σ s0 s) : PF (sA σ 14 i v) s0 (sA s 39 i v) := ⟨⟨h.1.f_night, h.1.f_sheets, h.1.f_arrested, h.1.f_informers, h.1.f_known, h.1.f_lines, h.1.f_isOpen, h.1.r_text, h.1.r_batch, h.1.r_copy, h.1.r_parent, congrArg (fun r => upd r i v) h.1.r_machineOf, h.1.r_with, h.1.r_isSeized, h.1.r_hours, h.1.r_had, h.1.r_slip, h.1.r_slipWord, h.1.r_knows, h.1.r_strong, h.1.r_since, h.1.r_at, h.1.r_noted, h.1.r_wasSeen, h.1.r_isGone, rd_sA h.1.word (by decide), rd_sA h.1.reading (by decide), h.1.line0, h.1.line1, h.1.line2, h.1.line3, h.1.name⟩, FC_sA h.2 (by decide) (by decide)⟩
theorem PF_with (h : PF σ s0 s) : PF (sA σ 15 i v) s0 (sA s 40 i v) := ⟨⟨h.1.f_night, h.1.f_sheets, h.1.f_arrested, h.1.f_informers, h.1.f_known, h.1.f_lines, h.1.f_isOpen, h.1.r_text, h.1.r_batch, h.1.r_copy, h.1.r_parent, h.1.r_machineOf, congrArg (fun r => upd r i v) h.1.r_with, h.1.r_isSeized, h.1.r_hours, h.1.r_had, h.1.r_slip, h.1.r_slipWord, h.1.r_knows, h.1.r_strong, h.1.r_since, h.1.r_at, h.1.r_noted, h.1.r_wasSeen, h.1.r_isGone, rd_sA h.1.word (by decide), rd_sA h.1.reading (by decide), h.1.line0, h.1.line1, h.1.line2, h.1.line3, h.1.name⟩, FC_sA h.2 (by decide) (by decide)⟩
theorem PF_isSeized (h : PF σ s0 s) : PF (sA σ 16 i v) s0 (sA s 41 i v) := ⟨⟨h.1.f_night, h.1.f_sheets, h.1.f_arrested, h.1.f_informers, h.1.f_known, h.1.f_lines, h.1.f_isOpen, h.1.r_text, h.1.r_batch, h.1.r_copy, h.1.r_parent, h.1.r_machineOf, h.1.r_with, congrArg (fun r => upd r i v) h.1.r_isSeized, h.1.r_hours, h.1.r_had, h.1.r_slip, h.1.r_slipWord, h.1.r_knows, h.1.r_strong, h.1.r_since, h.1.r_at, h.1.r_noted, h.1.r_wasSeen, h.1.r_isGone, rd_sA h.1.word (by decide), rd_sA h.1.reading (by decide), h.1.line0, h.1.line1, h.1.line2, h.1.line3, h.1.name⟩, FC_sA h.2 (by decide) (by decide)⟩
theorem PF_hours (h : PF σ s0 s) : PF (sA σ 17 i v) s0 (sA s 42 i v) := ⟨⟨h.1.f_night, h.1.f_sheets, h.1.f_arrested, h.1.f_informers, h.1.f_known, h.1.f_lines, h.1.f_isOpen, h.1.r_text, h.1.r_batch, h.1.r_copy, h.1.r_parent, h.1.r_machineOf, h.1.r_with, h.1.r_isSeized, congrArg (fun r => upd r i v) h.1.r_hours, h.1.r_had, h.1.r_slip, h.1.r_slipWord, h.1.r_knows, h.1.r_strong, h.1.r_since, h.1.r_at, h.1.r_noted, h.1.r_wasSeen, h.1.r_isGone, rd_sA h.1.word (by decide), rd_sA h.1.reading (by decide), h.1.line0, h.1.line1, h.1.line2, h.1.line3, h.1.name⟩, FC_sA h.2 (by decide) (by decide)⟩
theorem PF_had (h : PF σ s0 s) : PF (sA σ 18 i v) s0 (sA s 43 i v) := ⟨⟨h.1.f_night, h.1.f_sheets, h.1.f_arrested, h.1.f_informers, h.1.f_known, h.1.f_lines, h.1.f_isOpen, h.1.r_text, h.1.r_batch, h.1.r_copy, h.1.r_parent, h.1.r_machineOf, h.1.r_with, h.1.r_isSeized, h.1.r_hours, congrArg (fun r => upd r i v) h.1.r_had, h.1.r_slip, h.1.r_slipWord, h.1.r_knows, h.1.r_strong, h.1.r_since, h.1.r_at, h.1.r_noted, h.1.r_wasSeen, h.1.r_isGone, rd_sA h.1.word (by decide), rd_sA h.1.reading (by decide), h.1.line0, h.1.line1, h.1.line2, h.1.line3, h.1.name⟩, FC_sA h.2 (by decide) (by decide)⟩
theorem PF_slip (h : PF σ s0 s) : PF (sA σ 8 i v) s0 (sA s 44 i v) := ⟨⟨h.1.f_night, h.1.f_sheets, h.1.f_arrested, h.1.f_informers, h.1.f_known, h.1.f_lines, h.1.f_isOpen, h.1.r_text, h.1.r_batch, h.1.r_copy, h.1.r_parent, h.1.r_machineOf, h.1.r_with, h.1.r_isSeized, h.1.r_hours, h.1.r_had, congrArg (fun r => upd r i v) h.1.r_slip, h.1.r_slipWord, h.1.r_knows, h.1.r_strong, h.1.r_since, h.1.r_at, h.1.r_noted, h.1.r_wasSeen, h.1.r_isGone, rd_sA h.1.word (by decide), rd_sA h.1.reading (by decide), h.1.line0, h.1.line1, h.1.line2, h.1.line3, h.1.name⟩, FC_sA h.2 (by decide) (by decide)⟩
theorem PF_slipWord (h : PF σ s0 s) : PF (sA σ 9 i v) s0 (sA s 45 i v) := ⟨⟨h.1.f_night, h.1.f_sheets, h.1.f_arrested, h.1.f_informers, h.1.f_known, h.1.f_lines, h.1.f_isOpen, h.1.r_text, h.1.r_batch, h.1.r_copy, h.1.r_parent, h.1.r_machineOf, h.1.r_with, h.1.r_isSeized, h.1.r_hours, h.1.r_had, h.1.r_slip, congrArg (fun r => upd r i v) h.1.r_slipWord, h.1.r_knows, h.1.r_strong, h.1.r_since, h.1.r_at, h.1.r_noted, h.1.r_wasSeen, h.1.r_isGone, rd_sA h.1.word (by decide), rd_sA h.1.reading (by decide), h.1.line0, h.1.line1, h.1.line2, h.1.line3, h.1.name⟩, FC_sA h.2 (by decide) (by decide)⟩
theorem PF_knows (h : PF σ s0 s) : PF (sA σ 20 i v) s0 (sA s 46 i v) := ⟨⟨h.1.f_night, h.1.f_sheets, h.1.f_arrested, h.1.f_informers, h.1.f_known, h.1.f_lines, h.1.f_isOpen, h.1.r_text, h.1.r_batch, h.1.r_copy, h.1.r_parent, h.1.r_machineOf, h.1.r_with, h.1.r_isSeized, h.1.r_hours, h.1.r_had, h.1.r_slip, h.1.r_slipWord, congrArg (fun r => upd r i v) h.1.r_knows, h.1.r_strong, h.1.r_since, h.1.r_at, h.1.r_noted, h.1.r_wasSeen, h.1.r_isGone, rd_sA h.1.word (by decide), rd_sA h.1.reading (by decide), h.1.line0, h.1.line1, h.1.line2, h.1.line3, h.1.name⟩, FC_sA h.2 (by decide) (by decide)⟩
theorem PF_strong (h : PF σ s0 s) : PF (sA σ 21 i v) s0 (sA s 47 i v) := ⟨⟨h.1.f_night, h.1.f_sheets, h.1.f_arrested, h.1.f_informers, h.1.f_known, h.1.f_lines, h.1.f_isOpen, h.1.r_text, h.1.r_batch, h.1.r_copy, h.1.r_parent, h.1.r_machineOf, h.1.r_with, h.1.r_isSeized, h.1.r_hours, h.1.r_had, h.1.r_slip, h.1.r_slipWord, h.1.r_knows, congrArg (fun r => upd r i v) h.1.r_strong, h.1.r_since, h.1.r_at, h.1.r_noted, h.1.r_wasSeen, h.1.r_isGone, rd_sA h.1.word (by decide), rd_sA h.1.reading (by decide), h.1.line0, h.1.line1, h.1.line2, h.1.line3, h.1.name⟩, FC_sA h.2 (by decide) (by decide)⟩
theorem PF_since (h : PF σ s0 s) : PF (sA σ 22 i v) s0 (sA s 48 i v) := ⟨⟨h.1.f_night, h.1.f_sheets, h.1.f_arrested, h.1.f_informers, h.1.f_known, h.1.f_lines, h.1.f_isOpen, h.1.r_text, h.1.r_batch, h.1.r_copy, h.1.r_parent, h.1.r_machineOf, h.1.r_with, h.1.r_isSeized, h.1.r_hours, h.1.r_had, h.1.r_slip, h.1.r_slipWord, h.1.r_knows, h.1.r_strong, congrArg (fun r => upd r i v) h.1.r_since, h.1.r_at, h.1.r_noted, h.1.r_wasSeen, h.1.r_isGone, rd_sA h.1.word (by decide), rd_sA h.1.reading (by decide), h.1.line0, h.1.line1, h.1.line2, h.1.line3, h.1.name⟩, FC_sA h.2 (by decide) (by decide)⟩
theorem PF_at (h : PF σ s0 s) : PF (sA σ 24 i v) s0 (sA s 49 i v) := ⟨⟨h.1.f_night, h.1.f_sheets, h.1.f_arrested, h.1.f_informers, h.1.f_known, h.1.f_lines, h.1.f_isOpen, h.1.r_text, h.1.r_batch, h.1.r_copy, h.1.r_parent, h.1.r_machineOf, h.1.r_with, h.1.r_isSeized, h.1.r_hours, h.1.r_had, h.1.r_slip, h.1.r_slipWord, h.1.r_knows, h.1.r_strong, h.1.r_since, congrArg (fun r => upd r i v) h.1.r_at, h.1.r_noted, h.1.r_wasSeen, h.1.r_isGone, rd_sA h.1.word (by decide), rd_sA h.1.reading (by decide), h.1.line0, h.1.line1, h.1.line2, h.1.line3, h.1.name⟩, FC_sA h.2 (by decide) (by decide)⟩
theorem PF_noted (h : PF σ s0 s) : PF (sA σ 25 i v) s0 (sA s 50 i v) := ⟨⟨h.1.f_night, h.1.f_sheets, h.1.f_arrested, h.1.f_informers, h.1.f_known, h.1.f_lines, h.1.f_isOpen, h.1.r_text, h.1.r_batch, h.1.r_copy, h.1.r_parent, h.1.r_machineOf, h.1.r_with, h.1.r_isSeized, h.1.r_hours, h.1.r_had, h.1.r_slip, h.1.r_slipWord, h.1.r_knows, h.1.r_strong, h.1.r_since, h.1.r_at, congrArg (fun r => upd r i v) h.1.r_noted, h.1.r_wasSeen, h.1.r_isGone, rd_sA h.1.word (by decide), rd_sA h.1.reading (by decide), h.1.line0, h.1.line1, h.1.line2, h.1.line3, h.1.name⟩, FC_sA h.2 (by decide) (by decide)⟩
theorem PF_wasSeen (h : PF σ s0 s) : PF (sA σ 26 i v) s0 (sA s 51 i v) := ⟨⟨h.1.f_night, h.1.f_sheets, h.1.f_arrested, h.1.f_informers, h.1.f_known, h.1.f_lines, h.1.f_isOpen, h.1.r_text, h.1.r_batch, h.1.r_copy, h.1.r_parent, h.1.r_machineOf, h.1.r_with, h.1.r_isSeized, h.1.r_hours, h.1.r_had, h.1.r_slip, h.1.r_slipWord, h.1.r_knows, h.1.r_strong, h.1.r_since, h.1.r_at, h.1.r_noted, congrArg (fun r => upd r i v) h.1.r_wasSeen, h.1.r_isGone, rd_sA h.1.word (by decide), rd_sA h.1.reading (by decide), h.1.line0, h.1.line1, h.1.line2, h.1.line3, h.1.name⟩, FC_sA h.2 (by decide) (by decide)⟩
theorem PF_isGone (h : PF σ s0 s) : PF (sA σ 27 i v) s0 (sA s 52 i v) := ⟨⟨h.1.f_night, h.1.f_sheets, h.1.f_arrested, h.1.f_informers, h.1.f_known, h.1.f_lines, h.1.f_isOpen, h.1.r_text, h.1.r_batch, h.1.r_copy, h.1.r_parent, h.1.r_machineOf, h.1.r_with, h.1.r_isSeized, h.1.r_hours, h.1.r_had, h.1.r_slip, h.1.r_slipWord, h.1.r_knows, h.1.r_strong, h.1.r_since, h.1.r_at, h.1.r_noted, h.1.r_wasSeen, congrArg (fun r => upd r i v) h.1.r_isGone, rd_sA h.1.word (by decide), rd_sA h.1.reading (by decide), h.1.line0, h.1.line1, h.1.line2, h.1.line3, h.1.name⟩, FC_sA h.2 (by decide) (by decide)⟩
theorem PF_night (h : PF σ s0 s) : PF (sI σ 5 7 v) s0 (sI s 6 0 v) := ⟨⟨by rw [sI_1, sI_1, if_pos ⟨rfl, rfl⟩, if_pos ⟨rfl, rfl⟩], h.1.f_sheets, h.1.f_arrested, h.1.f_informers, h.1.f_known, h.1.f_lines, h.1.f_isOpen, h.1.r_text, h.1.r_batch, h.1.r_copy, h.1.r_parent, h.1.r_machineOf, h.1.r_with, h.1.r_isSeized, h.1.r_hours, h.1.r_had, h.1.r_slip, h.1.r_slipWord, h.1.r_knows, h.1.r_strong, h.1.r_since, h.1.r_at, h.1.r_noted, h.1.r_wasSeen, h.1.r_isGone, h.1.word, h.1.reading, h.1.line0, h.1.line1, h.1.line2, h.1.line3, h.1.name⟩, FC_sI h.2⟩
theorem PF_sheets (h : PF σ s0 s) : PF (sI σ 3 0 v) s0 (sI s 6 2 v) := ⟨⟨h.1.f_night, by rw [sI_1, sI_1, if_pos ⟨rfl, rfl⟩, if_pos ⟨rfl, rfl⟩], h.1.f_arrested, h.1.f_informers, h.1.f_known, h.1.f_lines, h.1.f_isOpen, h.1.r_text, h.1.r_batch, h.1.r_copy, h.1.r_parent, h.1.r_machineOf, h.1.r_with, h.1.r_isSeized, h.1.r_hours, h.1.r_had, h.1.r_slip, h.1.r_slipWord, h.1.r_knows, h.1.r_strong, h.1.r_since, h.1.r_at, h.1.r_noted, h.1.r_wasSeen, h.1.r_isGone, h.1.word, h.1.reading, h.1.line0, h.1.line1, h.1.line2, h.1.line3, h.1.name⟩, FC_sI h.2⟩
theorem PF_arrested (h : PF σ s0 s) : PF (sI σ 2 0 v) s0 (sI s 6 17 v) := ⟨⟨h.1.f_night, h.1.f_sheets, by rw [sI_1, sI_1, if_pos ⟨rfl, rfl⟩, if_pos ⟨rfl, rfl⟩], h.1.f_informers, h.1.f_known, h.1.f_lines, h.1.f_isOpen, h.1.r_text, h.1.r_batch, h.1.r_copy, h.1.r_parent, h.1.r_machineOf, h.1.r_with, h.1.r_isSeized, h.1.r_hours, h.1.r_had, h.1.r_slip, h.1.r_slipWord, h.1.r_knows, h.1.r_strong, h.1.r_since, h.1.r_at, h.1.r_noted, h.1.r_wasSeen, h.1.r_isGone, h.1.word, h.1.reading, h.1.line0, h.1.line1, h.1.line2, h.1.line3, h.1.name⟩, FC_sI h.2⟩
theorem PF_informers (h : PF σ s0 s) : PF (sI σ 2 1 v) s0 (sI s 6 18 v) := ⟨⟨h.1.f_night, h.1.f_sheets, h.1.f_arrested, by rw [sI_1, sI_1, if_pos ⟨rfl, rfl⟩, if_pos ⟨rfl, rfl⟩], h.1.f_known, h.1.f_lines, h.1.f_isOpen, h.1.r_text, h.1.r_batch, h.1.r_copy, h.1.r_parent, h.1.r_machineOf, h.1.r_with, h.1.r_isSeized, h.1.r_hours, h.1.r_had, h.1.r_slip, h.1.r_slipWord, h.1.r_knows, h.1.r_strong, h.1.r_since, h.1.r_at, h.1.r_noted, h.1.r_wasSeen, h.1.r_isGone, h.1.word, h.1.reading, h.1.line0, h.1.line1, h.1.line2, h.1.line3, h.1.name⟩, FC_sI h.2⟩
theorem PF_known (h : PF σ s0 s) : PF (sI σ 2 2 v) s0 (sI s 6 19 v) := ⟨⟨h.1.f_night, h.1.f_sheets, h.1.f_arrested, h.1.f_informers, by rw [sI_1, sI_1, if_pos ⟨rfl, rfl⟩, if_pos ⟨rfl, rfl⟩], h.1.f_lines, h.1.f_isOpen, h.1.r_text, h.1.r_batch, h.1.r_copy, h.1.r_parent, h.1.r_machineOf, h.1.r_with, h.1.r_isSeized, h.1.r_hours, h.1.r_had, h.1.r_slip, h.1.r_slipWord, h.1.r_knows, h.1.r_strong, h.1.r_since, h.1.r_at, h.1.r_noted, h.1.r_wasSeen, h.1.r_isGone, h.1.word, h.1.reading, h.1.line0, h.1.line1, h.1.line2, h.1.line3, h.1.name⟩, FC_sI h.2⟩
theorem PF_lines (h : PF σ s0 s) : PF (sI σ 0 1 v) s0 (sI s 6 28 v) := ⟨⟨h.1.f_night, h.1.f_sheets, h.1.f_arrested, h.1.f_informers, h.1.f_known, by rw [sI_1, sI_1, if_pos ⟨rfl, rfl⟩, if_pos ⟨rfl, rfl⟩], h.1.f_isOpen, h.1.r_text, h.1.r_batch, h.1.r_copy, h.1.r_parent, h.1.r_machineOf, h.1.r_with, h.1.r_isSeized, h.1.r_hours, h.1.r_had, h.1.r_slip, h.1.r_slipWord, h.1.r_knows, h.1.r_strong, h.1.r_since, h.1.r_at, h.1.r_noted, h.1.r_wasSeen, h.1.r_isGone, h.1.word, h.1.reading, h.1.line0, h.1.line1, h.1.line2, h.1.line3, h.1.name⟩, FC_sI h.2⟩
theorem PF_isOpen (h : PF σ s0 s) : PF (sI σ 0 0 v) s0 (sI s 6 30 v) := ⟨⟨h.1.f_night, h.1.f_sheets, h.1.f_arrested, h.1.f_informers, h.1.f_known, h.1.f_lines, by rw [sI_1, sI_1, if_pos ⟨rfl, rfl⟩, if_pos ⟨rfl, rfl⟩], h.1.r_text, h.1.r_batch, h.1.r_copy, h.1.r_parent, h.1.r_machineOf, h.1.r_with, h.1.r_isSeized, h.1.r_hours, h.1.r_had, h.1.r_slip, h.1.r_slipWord, h.1.r_knows, h.1.r_strong, h.1.r_since, h.1.r_at, h.1.r_noted, h.1.r_wasSeen, h.1.r_isGone, h.1.word, h.1.reading, h.1.line0, h.1.line1, h.1.line2, h.1.line3, h.1.name⟩, FC_sI h.2⟩
theorem PM_thrown (h : PM σ s) : PM σ (sI s 6 33 v) := ⟨h.f_night, h.f_sheets, h.f_arrested, h.f_informers, h.f_known, h.f_lines, h.f_isOpen, h.r_text, h.r_batch, h.r_copy, h.r_parent, h.r_machineOf, h.r_with, h.r_isSeized, h.r_hours, h.r_had, h.r_slip, h.r_slipWord, h.r_knows, h.r_strong, h.r_since, h.r_at, h.r_noted, h.r_wasSeen, h.r_isGone, h.word, h.reading, h.line0, h.line1, h.line2, h.line3, h.name⟩
theorem PF_cb (h : PF σ s0 s) : PF (sI σ 3 1 v) s0 s := ⟨⟨h.1.f_night, h.1.f_sheets, h.1.f_arrested, h.1.f_informers, h.1.f_known, h.1.f_lines, h.1.f_isOpen, h.1.r_text, h.1.r_batch, h.1.r_copy, h.1.r_parent, h.1.r_machineOf, h.1.r_with, h.1.r_isSeized, h.1.r_hours, h.1.r_had, h.1.r_slip, h.1.r_slipWord, h.1.r_knows, h.1.r_strong, h.1.r_since, h.1.r_at, h.1.r_noted, h.1.r_wasSeen, h.1.r_isGone, h.1.word, h.1.reading, h.1.line0, h.1.line1, h.1.line2, h.1.line3, h.1.name⟩, h.2⟩
theorem PM_batches (h : PM σ s) : PM σ (sI s 6 3 v) := ⟨h.f_night, h.f_sheets, h.f_arrested, h.f_informers, h.f_known, h.f_lines, h.f_isOpen, h.r_text, h.r_batch, h.r_copy, h.r_parent, h.r_machineOf, h.r_with, h.r_isSeized, h.r_hours, h.r_had, h.r_slip, h.r_slipWord, h.r_knows, h.r_strong, h.r_since, h.r_at, h.r_noted, h.r_wasSeen, h.r_isGone, h.word, h.reading, h.line0, h.line1, h.line2, h.line3, h.name⟩
theorem PF_mvotes (h : PF σ s0 s) : PF σ s0 (sA s 54 i v) := ⟨⟨h.1.f_night, h.1.f_sheets, h.1.f_arrested, h.1.f_informers, h.1.f_known, h.1.f_lines, h.1.f_isOpen, h.1.r_text, h.1.r_batch, h.1.r_copy, h.1.r_parent, h.1.r_machineOf, h.1.r_with, h.1.r_isSeized, h.1.r_hours, h.1.r_had, h.1.r_slip, h.1.r_slipWord, h.1.r_knows, h.1.r_strong, h.1.r_since, h.1.r_at, h.1.r_noted, h.1.r_wasSeen, h.1.r_isGone, h.1.word, h.1.reading, h.1.line0, h.1.line1, h.1.line2, h.1.line3, h.1.name⟩, FC_sA h.2 (by decide) (by decide)⟩
theorem PF_mearliest (h : PF σ s0 s) : PF σ s0 (sA s 55 i v) := ⟨⟨h.1.f_night, h.1.f_sheets, h.1.f_arrested, h.1.f_informers, h.1.f_known, h.1.f_lines, h.1.f_isOpen, h.1.r_text, h.1.r_batch, h.1.r_copy, h.1.r_parent, h.1.r_machineOf, h.1.r_with, h.1.r_isSeized, h.1.r_hours, h.1.r_had, h.1.r_slip, h.1.r_slipWord, h.1.r_knows, h.1.r_strong, h.1.r_since, h.1.r_at, h.1.r_noted, h.1.r_wasSeen, h.1.r_isGone, h.1.word, h.1.reading, h.1.line0, h.1.line1, h.1.line2, h.1.line3, h.1.name⟩, FC_sA h.2 (by decide) (by decide)⟩
theorem l4_sA {q : Nat} {g : Nat → Int32} (h : ∀ l, l < 522 → g l = σ.2 q l) : ∀ l, l < 522 → g l = σ.2 q l := h
/-- one line more -/
theorem PF_add {t k d j : Int32} {L : Nat} (h : PF σ s0 s) (hL : L < 522) : PF (addF σ t k d j L) s0 (sI (sA (sA (sA (sA s 53 (4 * L) t) 53 (4 * L + 1) k) 53 (4 * L + 2) d) 53 (4 * L + 3) j) 6 28 (nI (L + 1))) := by
  have e : ∀ i, (sI (sA (sA (sA (sA s 53 (4 * L) t) 53 (4 * L + 1) k) 53 (4 * L + 2) d) 53 (4 * L + 3) j) 6 28 (nI (L + 1))).2 53 i = if i = 4 * L + 3 then j else if i = 4 * L + 2 then d else if i = 4 * L + 1 then k else if i = 4 * L then t else s.2 53 i := fun i => id rfl
  have e28 : ∀ i, (addF σ t k d j L).2 28 i = if i = L then t else σ.2 28 i := fun i => id rfl
  have e29 : ∀ i, (addF σ t k d j L).2 29 i = if i = L then k else σ.2 29 i := fun i => id rfl
  have e30 : ∀ i, (addF σ t k d j L).2 30 i = if i = L then d else σ.2 30 i := fun i => id rfl
  have e31 : ∀ i, (addF σ t k d j L).2 31 i = if i = L then j else σ.2 31 i := fun i => id rfl
  refine ⟨⟨h.1.f_night, h.1.f_sheets, h.1.f_arrested, h.1.f_informers, h.1.f_known, ?_, h.1.f_isOpen, h.1.r_text, h.1.r_batch, h.1.r_copy, h.1.r_parent, h.1.r_machineOf, h.1.r_with, h.1.r_isSeized, h.1.r_hours, h.1.r_had, h.1.r_slip, h.1.r_slipWord, h.1.r_knows, h.1.r_strong, h.1.r_since, h.1.r_at, h.1.r_noted, h.1.r_wasSeen, h.1.r_isGone, rd_sA (rd_sA (rd_sA (rd_sA h.1.word (by decide)) (by decide)) (by decide)) (by decide), rd_sA (rd_sA (rd_sA (rd_sA h.1.reading (by decide)) (by decide)) (by decide)) (by decide), ?_, ?_, ?_, ?_, h.1.name⟩, FC_sI (FC_sA (FC_sA (FC_sA (FC_sA h.2 (by decide) (by decide)) (by decide) (by decide)) (by decide) (by decide)) (by decide) (by decide))⟩
  · unfold addF
    rw [sI_1, sI_1, if_pos ⟨rfl, rfl⟩, if_pos ⟨rfl, rfl⟩]
  · intro l hl
    rw [e, e28]
    by_cases x : l = L
    · rw [if_neg (by omega), if_neg (by omega), if_neg (by omega), if_pos (by omega), if_pos x]
    · rw [if_neg (by omega), if_neg (by omega), if_neg (by omega), if_neg (by omega), if_neg x]
      exact h.1.line0 l hl
  · intro l hl
    rw [e, e29]
    by_cases x : l = L
    · rw [if_neg (by omega), if_neg (by omega), if_pos (by omega), if_pos x]
    · rw [if_neg (by omega), if_neg (by omega), if_neg (by omega), if_neg (by omega), if_neg x]
      exact h.1.line1 l hl
  · intro l hl
    rw [e, e30]
    by_cases x : l = L
    · rw [if_neg (by omega), if_pos (by omega), if_pos x]
    · rw [if_neg (by omega), if_neg (by omega), if_neg (by omega), if_neg (by omega), if_neg x]
      exact h.1.line2 l hl
  · intro l hl
    rw [e, e31]
    by_cases x : l = L
    · rw [if_pos (by omega), if_pos x]
    · rw [if_neg (by omega), if_neg (by omega), if_neg (by omega), if_neg (by omega), if_neg x]
      exact h.1.line3 l hl
theorem PF_word {t p : Nat} (h : PF σ s0 s) (ht : t < 3) (hp : p < 12) : PF (sA σ (64 + t) p v) s0 (sA s 33 (12 * t + p) v) := by
  have e : ∀ q, q < 64 → (sA σ (64 + t) p v).2 q = σ.2 q := fun q hq => by rw [sA_2, if_neg (by omega)]
  refine ⟨⟨h.1.f_night, h.1.f_sheets, h.1.f_arrested, h.1.f_informers, h.1.f_known, h.1.f_lines, h.1.f_isOpen, by rw [e _ (by decide)]; exact h.1.r_text, by rw [e _ (by decide)]; exact h.1.r_batch, by rw [e _ (by decide)]; exact h.1.r_copy, by rw [e _ (by decide)]; exact h.1.r_parent, by rw [e _ (by decide)]; exact h.1.r_machineOf, by rw [e _ (by decide)]; exact h.1.r_with, by rw [e _ (by decide)]; exact h.1.r_isSeized, by rw [e _ (by decide)]; exact h.1.r_hours, by rw [e _ (by decide)]; exact h.1.r_had, by rw [e _ (by decide)]; exact h.1.r_slip, by rw [e _ (by decide)]; exact h.1.r_slipWord, by rw [e _ (by decide)]; exact h.1.r_knows, by rw [e _ (by decide)]; exact h.1.r_strong, by rw [e _ (by decide)]; exact h.1.r_since, by rw [e _ (by decide)]; exact h.1.r_at, by rw [e _ (by decide)]; exact h.1.r_noted, by rw [e _ (by decide)]; exact h.1.r_wasSeen, by rw [e _ (by decide)]; exact h.1.r_isGone, ?_, ?_, by rw [e _ (by decide)]; exact h.1.line0, by rw [e _ (by decide)]; exact h.1.line1, by rw [e _ (by decide)]; exact h.1.line2, by rw [e _ (by decide)]; exact h.1.line3, by rw [e _ (by decide)]; exact h.1.name⟩, FC_sA h.2 (by decide) (by decide)⟩
  · intro t2 h2 p2 hp2
    have e2 : (sA s 33 (12 * t + p) v).2 33 = upd (s.2 33) (12 * t + p) v := id rfl
    rw [e2, sA_2, upd_at]
    by_cases x : t2 = t
    · subst x
      rw [if_pos rfl, upd_at]
      by_cases y : p2 = p
      · rw [if_pos (by omega), if_pos y]
      · rw [if_neg (by omega), if_neg y]
        exact h.1.word t2 h2 p2 hp2
    · rw [if_neg (by omega), if_neg (by omega)]
      exact h.1.word t2 h2 p2 hp2
  · intro a ha p2 hp2
    have e3 : (sA σ (64 + t) p v).2 (67 + a) = σ.2 (67 + a) := by rw [sA_2, if_neg (by omega)]
    rw [e3]
    exact h.1.reading a ha p2 hp2
theorem PF_reading {a p : Nat} (h : PF σ s0 s) (ha : a < 40) (hp : p < 12) : PF (sA σ (67 + a) p v) s0 (sA s 35 (12 * a + p) v) := by
  have e : ∀ q, q < 64 → (sA σ (67 + a) p v).2 q = σ.2 q := fun q hq => by rw [sA_2, if_neg (by omega)]
  refine ⟨⟨h.1.f_night, h.1.f_sheets, h.1.f_arrested, h.1.f_informers, h.1.f_known, h.1.f_lines, h.1.f_isOpen, by rw [e _ (by decide)]; exact h.1.r_text, by rw [e _ (by decide)]; exact h.1.r_batch, by rw [e _ (by decide)]; exact h.1.r_copy, by rw [e _ (by decide)]; exact h.1.r_parent, by rw [e _ (by decide)]; exact h.1.r_machineOf, by rw [e _ (by decide)]; exact h.1.r_with, by rw [e _ (by decide)]; exact h.1.r_isSeized, by rw [e _ (by decide)]; exact h.1.r_hours, by rw [e _ (by decide)]; exact h.1.r_had, by rw [e _ (by decide)]; exact h.1.r_slip, by rw [e _ (by decide)]; exact h.1.r_slipWord, by rw [e _ (by decide)]; exact h.1.r_knows, by rw [e _ (by decide)]; exact h.1.r_strong, by rw [e _ (by decide)]; exact h.1.r_since, by rw [e _ (by decide)]; exact h.1.r_at, by rw [e _ (by decide)]; exact h.1.r_noted, by rw [e _ (by decide)]; exact h.1.r_wasSeen, by rw [e _ (by decide)]; exact h.1.r_isGone, ?_, ?_, by rw [e _ (by decide)]; exact h.1.line0, by rw [e _ (by decide)]; exact h.1.line1, by rw [e _ (by decide)]; exact h.1.line2, by rw [e _ (by decide)]; exact h.1.line3, by rw [e _ (by decide)]; exact h.1.name⟩, FC_sA h.2 (by decide) (by decide)⟩
  · intro t ht p2 hp2
    have e3 : (sA σ (67 + a) p v).2 (64 + t) = σ.2 (64 + t) := by rw [sA_2, if_neg (by omega)]
    rw [e3]
    exact h.1.word t ht p2 hp2
  · intro t2 h2 p2 hp2
    have e2 : (sA s 35 (12 * a + p) v).2 35 = upd (s.2 35) (12 * a + p) v := id rfl
    rw [e2, sA_2, upd_at]
    by_cases x : t2 = a
    · subst x
      rw [if_pos rfl, upd_at]
      by_cases y : p2 = p
      · rw [if_pos (by omega), if_pos y]
      · rw [if_neg (by omega), if_neg y]
        exact h.1.reading t2 h2 p2 hp2
    · rw [if_neg (by omega), if_neg (by omega)]
      exact h.1.reading t2 h2 p2 hp2
theorem PF_σ {σ' : ST} (h : PF σ s0 s) (e1 : σ'.1 = σ.1) (e2 : ∀ q, ¬ q = 32 → σ'.2 q = σ.2 q) : PF σ' s0 s := by
  refine ⟨⟨by rw [e1]; exact h.1.f_night, by rw [e1]; exact h.1.f_sheets, by rw [e1]; exact h.1.f_arrested, by rw [e1]; exact h.1.f_informers, by rw [e1]; exact h.1.f_known, by rw [e1]; exact h.1.f_lines, by rw [e1]; exact h.1.f_isOpen, by rw [e2 _ (by decide)]; exact h.1.r_text, by rw [e2 _ (by decide)]; exact h.1.r_batch, by rw [e2 _ (by decide)]; exact h.1.r_copy, by rw [e2 _ (by decide)]; exact h.1.r_parent, by rw [e2 _ (by decide)]; exact h.1.r_machineOf, by rw [e2 _ (by decide)]; exact h.1.r_with, by rw [e2 _ (by decide)]; exact h.1.r_isSeized, by rw [e2 _ (by decide)]; exact h.1.r_hours, by rw [e2 _ (by decide)]; exact h.1.r_had, by rw [e2 _ (by decide)]; exact h.1.r_slip, by rw [e2 _ (by decide)]; exact h.1.r_slipWord, by rw [e2 _ (by decide)]; exact h.1.r_knows, by rw [e2 _ (by decide)]; exact h.1.r_strong, by rw [e2 _ (by decide)]; exact h.1.r_since, by rw [e2 _ (by decide)]; exact h.1.r_at, by rw [e2 _ (by decide)]; exact h.1.r_noted, by rw [e2 _ (by decide)]; exact h.1.r_wasSeen, by rw [e2 _ (by decide)]; exact h.1.r_isGone, ?_, ?_, by rw [e2 _ (by decide)]; exact h.1.line0, by rw [e2 _ (by decide)]; exact h.1.line1, by rw [e2 _ (by decide)]; exact h.1.line2, by rw [e2 _ (by decide)]; exact h.1.line3, by rw [e2 _ (by decide)]; exact h.1.name⟩, h.2⟩
  · intro a ha p hp
    rw [e2 _ (by omega)]
    exact h.1.word a ha p hp
  · intro a ha p hp
    rw [e2 _ (by omega)]
    exact h.1.reading a ha p hp
theorem PF_alive {p : Nat} {x y : Int32} (h : PF σ s0 s) (hx : ∀ r, r < 10 → (bt (x &&& (y ^^^ -1)) r = true ↔ upd (σ.2 23) p v r = 0)) : PF (sA σ 23 p v) s0 (sI (sI s 6 22 x) 6 23 y) :=
  ⟨⟨h.1.f_night, h.1.f_sheets, h.1.f_arrested, h.1.f_informers, h.1.f_known, h.1.f_lines, h.1.f_isOpen, h.1.r_text, h.1.r_batch, h.1.r_copy, h.1.r_parent, h.1.r_machineOf, h.1.r_with, h.1.r_isSeized, h.1.r_hours, h.1.r_had, h.1.r_slip, h.1.r_slipWord, h.1.r_knows, h.1.r_strong, h.1.r_since, h.1.r_at, h.1.r_noted, h.1.r_wasSeen, h.1.r_isGone, rd_sA h.1.word (by decide), rd_sA h.1.reading (by decide), h.1.line0, h.1.line1, h.1.line2, h.1.line3, hx⟩, FC_sI (FC_sI h.2)⟩
theorem PF_thr (h : PM σ s) : PF σ (sI s 6 33 v) (sI s 6 33 v) := ⟨PM_thrown h, FC_refl _⟩
/-- what a call of the model leaves -/
def MP (σ s : ST) (v : Int32) (u : ST) : Prop := PM σ u ∧ u.1 6 3 = σ.1 3 1 ∧ u.1 6 33 = v ∧ (∀ c k, ¬ c = 6 → u.1 c k = s.1 c k) ∧ ∀ q, (q < 33 ∨ 64 ≤ q) → u.2 q = s.2 q
theorem MP_of {u : ST} (hb : s.1 6 3 = σ.1 3 1) (h : PF σ (sI s 6 33 v) u) : MP σ s v u := by
  refine ⟨h.1, ?_, ?_, fun c k hc => ?_, fun q hq => h.2.2 q hq⟩
  · rw [h.2.1 _ _ (Or.inr (Or.inl rfl)), sI_1, if_neg (by decide)]
    exact hb
  · rw [h.2.1 _ _ (Or.inr (Or.inr rfl)), sI_1, if_pos ⟨rfl, rfl⟩]
  · rw [h.2.1 _ _ (Or.inl hc), sI_1, if_neg (fun w => hc w.1)]
theorem MP_b {u : ST} {x : Int32} (hb : σ.1 3 1 = x) (h : PF σ (sI s 6 33 v) u) : MP σ s v (sI u 6 3 x) := by
  refine ⟨PM_batches h.1, ?_, ?_, fun c k hc => ?_, fun q hq => h.2.2 q hq⟩
  · rw [sI_1, if_pos ⟨rfl, rfl⟩, hb]
  · rw [sI_1, if_neg (by decide), h.2.1 _ _ (Or.inr (Or.inr rfl)), sI_1, if_pos ⟨rfl, rfl⟩]
  · rw [sI_1, if_neg (fun w => hc w.1), h.2.1 _ _ (Or.inl hc), sI_1, if_neg (fun w => hc w.1)]
theorem MP_tr {τ u w : ST} (h : MP σ s v u) (hb : τ.1 3 1 = σ.1 3 1) (h2 : PF τ u w) : MP τ s v w :=
  ⟨h2.1, by rw [h2.2.1 _ _ (Or.inr (Or.inl rfl)), hb]; exact h.2.1, by rw [h2.2.1 _ _ (Or.inr (Or.inr rfl))]; exact h.2.2.1, fun c k hc => by rw [h2.2.1 _ _ (Or.inl hc)]; exact h.2.2.2.1 c k hc, fun q hq => by rw [h2.2.2 q hq]; exact h.2.2.2.2 q hq⟩
def MdQ (K : Out → SG → Prop) (J : Nat → Nat → Int64) (s : ST) (r : Int32 × Int32 × ST) : Prop := ∀ u, MP r.2.2 s r.1 u → K (.inl (some (.int r.2.1))) (GS u J)
def MdV (K : Out → SG → Prop) (J : Nat → Nat → Int64) (s : ST) (r : Int32 × Int32 × ST) : Prop := ∀ u, MP r.2.2 s r.1 u → K (.inl none) (GS u J)
end PMS
