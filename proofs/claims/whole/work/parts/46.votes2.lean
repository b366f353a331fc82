/-! The model's restored -/
section MS
theorem cv_upd {f : Nat → Int32} {v w : Int32} {b : Nat} (hv : ¬ v = -1) (hb : f b = -1) : ∀ n, cvN (upd f b v) w n = cvN f w n + (if b < n ∧ w = v then 1 else 0)
  | 0 => by
    rw [if_neg (fun z => absurd z.1 (Nat.not_lt_zero b))]
    rfl
  | n + 1 => by
    have ih := cv_upd (w := w) hv hb n
    unfold cvN
    rw [ih, upd_at]
    by_cases e : n = b
    · subst e
      have a1 : ¬ (¬ w = -1 ∧ (-1 : Int32) = w) := fun z => z.1 z.2.symm
      have a2 : ¬ (n < n ∧ w = v) := fun z => absurd z.1 (Nat.lt_irrefl n)
      rw [if_pos rfl, hb, if_neg a1, if_neg a2]
      by_cases e2 : w = v
      · have a3 : ¬ w = -1 ∧ v = w := ⟨by rw [e2]; exact hv, e2.symm⟩
        have a4 : n < n + 1 ∧ w = v := ⟨Nat.lt_succ_self n, e2⟩
        rw [if_pos a3, if_pos a4]
      · have a3 : ¬ (¬ w = -1 ∧ v = w) := fun z => e2 z.2.symm
        have a4 : ¬ (n < n + 1 ∧ w = v) := fun z => e2 z.2
        rw [if_neg a3, if_neg a4]
    · rw [if_neg e]
      by_cases e2 : b < n ∧ w = v
      · have a4 : b < n + 1 ∧ w = v := ⟨by omega, e2.2⟩
        rw [if_pos e2, if_pos a4]
        omega
      · have a4 : ¬ (b < n + 1 ∧ w = v) := fun z => e2 ⟨by omega, z.2⟩
        rw [if_neg e2, if_neg a4]
        omega
/-- votes, earliest and last, after some sheets -/
def rvP (f : Nat → Int32) (n : Nat) (B : Nat → Prop) (mv me : Nat → Int32) (last : Int32) : Prop :=
  (∀ x, x < 100 → mv x = nI (cvN f (nI x) n)) ∧ (∃ E, erP f n E ∧ ∀ x, x < 100 → 0 < cvN f (nI x) n → me x = nI (E x)) ∧ (∀ b, b < n → f b = -1 ∨ ∃ x, x < 100 ∧ f b = nI x) ∧
  ((last = -1 ∧ ∀ b, b < n → f b = -1) ∨ ∃ l, l < n ∧ last = nI l ∧ ¬ f l = -1 ∧ (∀ b, l < b → b < n → f b = -1) ∧ B l)
theorem rv_step {f : Nat → Int32} {n : Nat} {B B2 : Nat → Prop} {mv me : Nat → Int32} {last : Int32} (h : rvP f n B mv me last) (hn : n ≤ 40) {d x : Nat} (hd : d < n) (hx : x < 100) (hf : f d = -1) (hl : ∀ b, d < b → b < n → f b = -1) (hB : B2 d) : rvP (upd f d (nI x)) n B2 (upd mv x (mv x + 1)) (upd me x (if mv x = 0 then nI d else me x)) (nI d) := by
  obtain ⟨h1, ⟨E, h2, h3⟩, h4, h5⟩ := h
  have nm : ∀ y, y < 100 → ¬ nI y = -1 := fun y hy => nI_m1 (by omega)
  have cu : ∀ y, y < 100 → cvN (upd f d (nI x)) (nI y) n = cvN f (nI y) n + (if y = x then 1 else 0) := by
    intro y hy
    rw [cv_upd (nm x hx) hf]
    by_cases e : y = x
    · subst e
      rw [if_pos ⟨hd, rfl⟩, if_pos rfl]
    · rw [if_neg e, if_neg (fun z => e (nI_inj (by omega) (by omega) z.2))]
  have up : ∀ b, upd f d (nI x) b = if b = d then nI x else f b := fun b => upd_at f d b (nI x)
  refine ⟨fun y hy => ?_, ⟨fun y => if y = x ∧ cvN f (nI x) n = 0 then d else E y, ?_, ?_⟩, fun b hb => ?_, Or.inr ⟨d, hd, rfl, ?_, fun b h6 h7 => ?_, hB⟩⟩
  · rw [cu y hy, upd_at]
    by_cases e : y = x
    · subst e
      rw [if_pos rfl, if_pos rfl, h1 y hy, nI_1]
    · rw [if_neg e, if_neg e]
      exact h1 y hy
  · intro y hy hp
    rw [cu y hy] at hp
    show (if y = x ∧ cvN f (nI x) n = 0 then d else E y) < n ∧ upd f d (nI x) (if y = x ∧ cvN f (nI x) n = 0 then d else E y) = nI y ∧ ∀ b, b < n → upd f d (nI x) b = nI y → (if y = x ∧ cvN f (nI x) n = 0 then d else E y) ≤ b
    by_cases e : y = x ∧ cvN f (nI x) n = 0
    · rw [if_pos e, up, if_pos rfl, e.1]
      refine ⟨hd, rfl, fun b hb hb2 => ?_⟩
      rw [up] at hb2
      by_cases e2 : b = d
      · omega
      · rw [if_neg e2] at hb2
        have := cv_pos (nm x hx) hb hb2
        omega
    · rw [if_neg e]
      have hp2 : 0 < cvN f (nI y) n := by
        by_cases e2 : y = x
        · subst e2
          have : ¬ cvN f (nI y) n = 0 := fun z => e ⟨rfl, z⟩
          omega
        · rw [if_neg e2] at hp
          omega
      obtain ⟨g1, g2, g3⟩ := h2 y hy hp2
      have g4 : ¬ E y = d := fun z => by
        rw [z, hf] at g2
        exact nm y hy g2.symm
      refine ⟨g1, by rw [up, if_neg g4]; exact g2, fun b hb hb2 => ?_⟩
      rw [up] at hb2
      by_cases e2 : b = d
      · by_cases e3 : E y ≤ b
        · exact e3
        · have := hl (E y) (by omega) g1
          rw [g2] at this
          exact absurd this (nm y hy)
      · rw [if_neg e2] at hb2
        exact g3 b hb hb2
  · intro y hy hp
    rw [cu y hy] at hp
    show upd me x (if mv x = 0 then nI d else me x) y = nI (if y = x ∧ cvN f (nI x) n = 0 then d else E y)
    rw [upd_at]
    have h0 : (0 : Int32) = nI 0 := id rfl
    have hcl := cvN_le f (nI x) n
    have hz : mv x = 0 ↔ cvN f (nI x) n = 0 := by
      rw [h1 x hx, h0]
      constructor
      · intro z
        exact nI_inj (by omega) (by omega) z
      · intro z
        rw [z]
    by_cases e : y = x
    · subst e
      rw [if_pos rfl]
      by_cases e2 : mv y = 0
      · rw [if_pos e2, if_pos ⟨rfl, hz.mp e2⟩]
      · have e3 : ¬ cvN f (nI y) n = 0 := fun z => e2 (hz.mpr z)
        rw [if_neg e2, if_neg (fun z => e3 z.2)]
        exact h3 y hy (by omega)
    · rw [if_neg e, if_neg (fun z => e z.1)]
      rw [if_neg e] at hp
      exact h3 y hy (by omega)
  · rw [up]
    by_cases e : b = d
    · rw [if_pos e]
      exact Or.inr ⟨x, hx, rfl⟩
    · rw [if_neg e]
      exact h4 b hb
  · rw [up, if_pos rfl]
    exact nm x hx
  · rw [up, if_neg (by omega)]
    exact hl b h6 h7
end MS
