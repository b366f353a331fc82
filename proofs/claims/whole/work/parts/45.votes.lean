/-! The model's restored: the most votes, by words, are the most votes by batches -/
section MR
/-- what the class's count comes to -/
def rsP (f : Nat → Int32) (n i : Nat) (r : Int32 × Int32) : Prop :=
  (r.1 = -1 ∧ r.2 = 0 ∧ ∀ b, b < i → f b = -1) ∨ ∃ b, b < i ∧ r.1 = f b ∧ ¬ f b = -1 ∧ r.2 = nI (cvN f (f b) n) ∧ (∀ x, x < i → cvN f (f x) n ≤ cvN f (f b) n) ∧ ∀ x, x < b → ¬ f x = -1 → cvN f (f x) n < cvN f (f b) n
theorem cv_m1 {f : Nat → Int32} : ∀ n, cvN f (-1) n = 0
  | 0 => id rfl
  | n + 1 => by
    unfold cvN
    rw [cv_m1 n, if_neg (fun w => w.1 rfl)]
theorem cv_pos {f : Nat → Int32} {w : Int32} (hw : ¬ w = -1) : ∀ {n b}, b < n → f b = w → 0 < cvN f w n := by
  intro n
  induction n with
  | zero =>
    intro b h
    omega
  | succ n ih =>
    intro b h e
    unfold cvN
    by_cases e2 : b = n
    · subst e2
      rw [if_pos ⟨hw, e⟩]
      omega
    · have := ih (b := b) (by omega) e
      omega
theorem cv_no {f : Nat → Int32} {w : Int32} : ∀ {n}, (∀ b, b < n → ¬ f b = w) → cvN f w n = 0 := by
  intro n
  induction n with
  | zero => exact fun _ => rfl
  | succ n ih =>
    intro h
    unfold cvN
    rw [ih (fun b hb => h b (by omega)), if_neg (fun w => h n (by omega) w.2)]
theorem nI_le_iff {x y : Nat} (hx : x < 1000) (hy : y < 1000) : nI x ≤ nI y ↔ x ≤ y := by
  rw [Int32.le_iff_toInt_le, nI_toInt (by omega), nI_toInt (by omega)]
  omega
theorem rs_at {f : Nat → Int32} {n : Nat} (hn : n ≤ 40) : ∀ i, i ≤ n → rsP f n i (rsF f n i)
  | 0 => fun _ => Or.inl ⟨rfl, rfl, fun b h => absurd h (Nat.not_lt_zero b)⟩
  | i + 1 => fun hi => by
    have ih := rs_at (f := f) hn i (by omega)
    have hc := fun w => cvN_le f w n
    unfold rsF
    rcases ih with ⟨h1, h2, h3⟩ | ⟨b, hb, h1, h2, h3, h4, h5⟩
    · by_cases e : f i = -1
      · rw [if_neg (fun w => w (by rw [h2, e, cv_m1]; exact Int32.le_refl 0))]
        refine Or.inl ⟨h1, h2, fun b h => ?_⟩
        by_cases e2 : b = i
        · rw [e2]
          exact e
        · exact h3 b (by omega)
      · have hp := cv_pos (f := f) (w := f i) e (show i < n by omega) rfl
        have h0 : (0 : Int32) = nI 0 := id rfl
        rw [if_pos (by
          rw [h2, h0, nI_le_iff (by have := hc (f i); omega) (by omega)]
          omega)]
        refine Or.inr ⟨i, by omega, rfl, e, rfl, fun x hx => ?_, fun x hx hx2 => absurd (h3 x hx) hx2⟩
        by_cases e2 : x = i
        · rw [e2]
          exact Nat.le_refl _
        · rw [h3 x (by omega), cv_m1]
          omega
    · by_cases e : cvN f (f i) n ≤ cvN f (f b) n
      · rw [if_neg (fun w => w (by
          rw [h3, nI_le_iff (by have := hc (f i); omega) (by have := hc (f b); omega)]
          exact e))]
        refine Or.inr ⟨b, by omega, h1, h2, h3, fun x hx => ?_, h5⟩
        by_cases e2 : x = i
        · rw [e2]
          exact e
        · exact h4 x (by omega)
      · rw [if_pos (fun w => e (by
          rw [h3, nI_le_iff (by have := hc (f i); omega) (by have := hc (f b); omega)] at w
          exact w))]
        refine Or.inr ⟨i, by omega, rfl, fun w => e (by rw [w, cv_m1]; omega), rfl, fun x hx => ?_, fun x hx _ => ?_⟩
        · by_cases e2 : x = i
          · rw [e2]
            exact Nat.le_refl _
          · have := h4 x (by omega)
            omega
        · have := h4 x (by omega)
          omega
/-- what the model's count comes to, over the words below w -/
def wbP (f : Nat → Int32) (n : Nat) (E : Nat → Nat) (w : Nat) (best : Int32) : Prop :=
  (best = -1 ∧ ∀ x, x < w → cvN f (nI x) n = 0) ∨ ∃ x, x < w ∧ best = nI x ∧ 0 < cvN f (nI x) n ∧ ∀ y, y < w → 0 < cvN f (nI y) n → (cvN f (nI y) n < cvN f (nI x) n ∨ (cvN f (nI y) n = cvN f (nI x) n ∧ E x ≤ E y))
/-- the earliest batch of each word -/
def erP (f : Nat → Int32) (n : Nat) (E : Nat → Nat) : Prop := ∀ x, x < 100 → 0 < cvN f (nI x) n → E x < n ∧ f (E x) = nI x ∧ ∀ b, b < n → f b = nI x → E x ≤ b
theorem best_eq {f : Nat → Int32} {n : Nat} {E : Nat → Nat} {best : Int32} (hn : n ≤ 40) (hf : ∀ b, b < n → f b = -1 ∨ ∃ x, x < 100 ∧ f b = nI x) (hE : erP f n E) (h : wbP f n E 100 best) : best = (rsF f n n).1 := by
  rcases rs_at (f := f) hn n (Nat.le_refl n) with ⟨h1, h2, h3⟩ | ⟨b, hb, h1, h2, h3, h4, h5⟩
  · rw [h1]
    rcases h with ⟨e, _⟩ | ⟨x, hx, e, hp, _⟩
    · exact e
    · have e2 := cv_no (f := f) (w := nI x) (n := n) (fun b hb w => by
        rw [h3 b hb] at w
        exact nI_m1 (k := x) (by omega) w.symm)
      omega
  · rw [h1]
    obtain ⟨wb, hwb, eb⟩ : ∃ x, x < 100 ∧ f b = nI x := by
      rcases hf b hb with e | e
      · exact absurd e h2
      · exact e
    have hp := cv_pos (f := f) (w := f b) h2 hb rfl
    rcases h with ⟨_, h6⟩ | ⟨x, hx, e, hp2, h6⟩
    · have := h6 wb hwb
      rw [← eb] at this
      omega
    · obtain ⟨e1, e2, e3⟩ := hE x hx hp2
      have h7 := h4 (E x) e1
      rw [e2] at h7
      have h8 := h6 wb hwb (by rw [← eb]; exact hp)
      rw [← eb] at h8
      obtain ⟨b1, b2, b3⟩ := hE wb hwb (by rw [← eb]; exact hp)
      have h9 := b3 b hb eb
      have h10 : ¬ E x < b := fun w => by
        have := h5 (E x) w (by rw [e2]; exact nI_m1 (by omega))
        rw [e2] at this
        omega
      have h11 : E x = b := by omega
      rw [e, ← e2, h11]
end MR
