/-! the law's restored: its votes by the sheets, the class's by the batches -/
section RV
/-- what the class's count comes to -/
def rsP (f : Nat → Int32) (n i : Nat) (r : Int32 × Int32) : Prop :=
  (r.1 = -1 ∧ r.2 = 0 ∧ ∀ b, b < i → f b = -1) ∨ ∃ b, b < i ∧ r.1 = f b ∧ ¬ f b = -1 ∧ r.2 = nI (cvN f (f b) n) ∧ (∀ x, x < i → cvN f (f x) n ≤ cvN f (f b) n) ∧ ∀ x, x < b → ¬ f x = -1 → cvN f (f x) n < cvN f (f b) n
theorem cv_m1 {f : Nat → Int32} : ∀ n, cvN f (-1) n = 0
  | 0 => id rfl
  | n + 1 => by
    unfold cvN
    rw [cv_m1 n, if_neg (fun w => w.1 rfl)]
theorem cv_pos {f : Nat → Int32} {w : Int32} (hw : ¬ w = -1) : ∀ {n b}, b < n → f b = w → 0 < cvN f w n := by
  intro n
  induction n with
  | zero =>
    intro b h
    omega
  | succ n ih =>
    intro b h e
    unfold cvN
    by_cases e2 : b = n
    · subst e2
      rw [if_pos ⟨hw, e⟩]
      omega
    · have := ih (b := b) (by omega) e
      omega
theorem cv_no {f : Nat → Int32} {w : Int32} : ∀ {n}, (∀ b, b < n → ¬ f b = w) → cvN f w n = 0 := by
  intro n
  induction n with
  | zero => exact fun _ => rfl
  | succ n ih =>
    intro h
    unfold cvN
    rw [ih (fun b hb => h b (by omega)), if_neg (fun w => h n (by omega) w.2)]
theorem nI_le_iff {x y : Nat} (hx : x < 1000) (hy : y < 1000) : nI x ≤ nI y ↔ x ≤ y := by
  rw [Int32.le_iff_toInt_le, nI_toInt (by omega), nI_toInt (by omega)]
  omega
theorem rs_at {f : Nat → Int32} {n : Nat} (hn : n ≤ 40) : ∀ i, i ≤ n → rsP f n i (rsF f n i)
  | 0 => fun _ => Or.inl ⟨rfl, rfl, fun b h => absurd h (Nat.not_lt_zero b)⟩
  | i + 1 => fun hi => by
    have ih := rs_at (f := f) hn i (by omega)
    have hc := fun w => cvN_le f w n
    unfold rsF
    rcases ih with ⟨h1, h2, h3⟩ | ⟨b, hb, h1, h2, h3, h4, h5⟩
    · by_cases e : f i = -1
      · rw [if_neg (fun w => w (by rw [h2, e, cv_m1]; exact Int32.le_refl 0))]
        refine Or.inl ⟨h1, h2, fun b h => ?_⟩
        by_cases e2 : b = i
        · rw [e2]
          exact e
        · exact h3 b (by omega)
      · have hp := cv_pos (f := f) (w := f i) e (show i < n by omega) rfl
        have h0 : (0 : Int32) = nI 0 := id rfl
        rw [if_pos (by
          rw [h2, h0, nI_le_iff (by have := hc (f i); omega) (by omega)]
          omega)]
        refine Or.inr ⟨i, by omega, rfl, e, rfl, fun x hx => ?_, fun x hx hx2 => absurd (h3 x hx) hx2⟩
        by_cases e2 : x = i
        · rw [e2]
          exact Nat.le_refl _
        · rw [h3 x (by omega), cv_m1]
          omega
    · by_cases e : cvN f (f i) n ≤ cvN f (f b) n
      · rw [if_neg (fun w => w (by
          rw [h3, nI_le_iff (by have := hc (f i); omega) (by have := hc (f b); omega)]
          exact e))]
        refine Or.inr ⟨b, by omega, h1, h2, h3, fun x hx => ?_, h5⟩
        by_cases e2 : x = i
        · rw [e2]
          exact e
        · exact h4 x (by omega)
      · rw [if_pos (fun w => e (by
          rw [h3, nI_le_iff (by have := hc (f i); omega) (by have := hc (f b); omega)] at w
          exact w))]
        refine Or.inr ⟨i, by omega, rfl, fun w => e (by rw [w, cv_m1]; omega), rfl, fun x hx => ?_, fun x hx _ => ?_⟩
        · by_cases e2 : x = i
          · rw [e2]
            exact Nat.le_refl _
          · have := h4 x (by omega)
            omega
        · have := h4 x (by omega)
          omega
theorem cv_upd {f : Nat → Int32} {v w : Int32} {b : Nat} (hv : ¬ v = -1) (hb : f b = -1) : ∀ n, cvN (upd f b v) w n = cvN f w n + (if b < n ∧ w = v then 1 else 0)
  | 0 => by
    rw [if_neg (fun z => absurd z.1 (Nat.not_lt_zero b))]
    rfl
  | n + 1 => by
    have ih := cv_upd (w := w) hv hb n
    unfold cvN
    rw [ih, upd_at]
    by_cases e : n = b
    · subst e
      have a1 : ¬ (¬ w = -1 ∧ (-1 : Int32) = w) := fun z => z.1 z.2.symm
      have a2 : ¬ (n < n ∧ w = v) := fun z => absurd z.1 (Nat.lt_irrefl n)
      rw [if_pos rfl, hb, if_neg a1, if_neg a2]
      by_cases e2 : w = v
      · have a3 : ¬ w = -1 ∧ v = w := ⟨by rw [e2]; exact hv, e2.symm⟩
        have a4 : n < n + 1 ∧ w = v := ⟨Nat.lt_succ_self n, e2⟩
        rw [if_pos a3, if_pos a4]
      · have a3 : ¬ (¬ w = -1 ∧ v = w) := fun z => e2 z.2.symm
        have a4 : ¬ (n < n + 1 ∧ w = v) := fun z => e2 z.2
        rw [if_neg a3, if_neg a4]
    · rw [if_neg e]
      by_cases e2 : b < n ∧ w = v
      · have a4 : b < n + 1 ∧ w = v := ⟨by omega, e2.2⟩
        rw [if_pos e2, if_pos a4]
        omega
      · have a4 : ¬ (b < n + 1 ∧ w = v) := fun z => e2 ⟨by omega, z.2⟩
        rw [if_neg e2, if_neg a4]
        omega
/-- the earliest batch that is for w -/
def erl (f : Nat → Int32) (n : Nat) (w : Int32) (e : Nat) : Prop := e < n ∧ f e = w ∧ ∀ b, b < e → ¬ f b = w
theorem cv_ex {f : Nat → Int32} {w : Int32} : ∀ {n}, 0 < cvN f w n → ∃ e, erl f n w e := by
  intro n
  induction n with
  | zero =>
    intro h
    exact absurd h (Nat.lt_irrefl 0)
  | succ n ih =>
    intro h
    by_cases e : 0 < cvN f w n
    · obtain ⟨e0, h1, h2, h3⟩ := ih e
      exact ⟨e0, by omega, h2, h3⟩
    · have e1 : cvN f w n = 0 := by omega
      unfold cvN at h
      rw [e1] at h
      have hw : ¬ w = -1 ∧ f n = w := by
        by_cases z : ¬ w = -1 ∧ f n = w
        · exact z
        · rw [if_neg z] at h
          omega
      refine ⟨n, by omega, hw.2, fun b hb z => ?_⟩
      have := cv_pos (f := f) (w := w) hw.1 hb z
      omega
/-- the law's best of the first i sheets, whose words are W -/
def LPb (f W : Nat → Int32) (n i : Nat) (best votes first : Int32) : Prop :=
  (best = -1 ∧ votes = nI 0 ∧ ∀ m, m < i → cvN f (W m) n = 0) ∨ ∃ m0 e, m0 < i ∧ best = W m0 ∧ votes = nI (cvN f (W m0) n) ∧ first = nI e ∧ erl f n (W m0) e ∧ 0 < cvN f (W m0) n ∧ ∀ m, m < i → cvN f (W m) n < cvN f (W m0) n ∨ (cvN f (W m) n = cvN f (W m0) n ∧ ∀ e2, erl f n (W m) e2 → e ≤ e2)
theorem best_is {f W : Nat → Int32} {n c : Nat} {best votes first : Int32} (hn : n ≤ 40) (hf : ∀ b, b < n → f b = -1 ∨ ∃ m, m < c ∧ f b = W m) (h : LPb f W n c best votes first) : best = (rsF f n n).1 := by
  rcases rs_at (f := f) hn n (Nat.le_refl n) with ⟨h1, h2, h3⟩ | ⟨b, hb, h1, h2, h3, h4, h5⟩
  · rw [h1]
    rcases h with ⟨e, _⟩ | ⟨m0, e, hm, e1, e2, e3, e4, e5, e6⟩
    · exact e
    · have w0 : ¬ W m0 = -1 := fun z => by
        rw [z, cv_m1] at e5
        omega
      have := h3 e e4.1
      rw [e4.2.1] at this
      exact absurd this w0
  · rw [h1]
    obtain ⟨mb, hmb, eb⟩ : ∃ m, m < c ∧ f b = W m := by
      rcases hf b hb with e | e
      · exact absurd e h2
      · exact e
    have hp := cv_pos (f := f) (w := f b) h2 hb rfl
    rcases h with ⟨_, _, h6⟩ | ⟨m0, e, hm, e1, e2, e3, e4, e5, e6⟩
    · have := h6 mb hmb
      rw [← eb] at this
      omega
    · have a1 := h4 e e4.1
      rw [e4.2.1] at a1
      have a2 := e6 mb hmb
      rw [← eb] at a2
      have a3 : cvN f (W m0) n = cvN f (f b) n := by
        rcases a2 with a2 | a2
        · omega
        · exact a2.1.symm
      have hbE : erl f n (f b) b := ⟨hb, rfl, fun x hx z => by
        have := h5 x hx (by rw [z]; exact h2)
        rw [z] at this
        omega⟩
      have a4 : e ≤ b := by
        rcases a2 with a2 | a2
        · omega
        · exact a2.2 b hbE
      have w0 : ¬ f e = -1 := by
        rw [e4.2.1]
        intro z
        rw [z, cv_m1] at e5
        omega
      have a5 : ¬ e < b := fun z => by
        have := h5 e z w0
        rw [e4.2.1] at this
        omega
      have : e = b := by omega
      rw [e1, ← e4.2.1, this]
/-- how many, the earliest and the last, for the word w, after some sheets -/
def VPk (f : Nat → Int32) (n : Nat) (B : Nat → Prop) (w many early batch : Int32) : Prop :=
  many = nI (cvN f w n) ∧ ((early = -1 ∧ ∀ b, b < n → ¬ f b = w) ∨ ∃ e, early = nI e ∧ erl f n w e) ∧
  ((batch = -1 ∧ ∀ b, b < n → f b = -1) ∨ ∃ l, l < n ∧ batch = nI l ∧ ¬ f l = -1 ∧ (∀ b, l < b → b < n → f b = -1) ∧ B l)
theorem VP_step {f : Nat → Int32} {n : Nat} {B B2 : Nat → Prop} {w x many early batch : Int32} (h : VPk f n B w many early batch) (hn : n ≤ 40) (hw : ¬ w = -1) (hx : ¬ x = -1) {d : Nat} (hd : d < n) (hf : f d = -1) (hl : ∀ b, d < b → b < n → f b = -1) (hB : B2 d) : VPk (upd f d x) n B2 w (if x = w then many + 1 else many) (if x = w ∧ ¬ 0 ≤ early then nI d else early) (nI d) := by
  obtain ⟨h1, h2, h3⟩ := h
  have up : ∀ b, upd f d x b = if b = d then x else f b := fun b => upd_at f d b x
  refine ⟨?_, ?_, Or.inr ⟨d, hd, rfl, ?_, fun b h6 h7 => ?_, hB⟩⟩
  · rw [cv_upd hx hf]
    by_cases e : x = w
    · rw [if_pos e, if_pos ⟨hd, e.symm⟩, h1, nI_1]
    · rw [if_neg e, if_neg (fun z => e z.2.symm), Nat.add_zero]
      exact h1
  · rcases h2 with ⟨e1, e2⟩ | ⟨e, e1, e2⟩
    · by_cases z : x = w
      · rw [if_pos ⟨z, by rw [e1]; decide⟩]
        refine Or.inr ⟨d, rfl, hd, by rw [up, if_pos rfl]; exact z, fun b hb => ?_⟩
        rw [up, if_neg (by omega)]
        exact e2 b (by omega)
      · rw [if_neg (fun y => z y.1)]
        refine Or.inl ⟨e1, fun b hb => ?_⟩
        rw [up]
        by_cases y : b = d
        · rw [if_pos y]
          exact z
        · rw [if_neg y]
          exact e2 b hb
    · have he := e2.1
      rw [if_neg (fun y => y.2 (by rw [e1]; exact nI_pos' (by omega)))]
      have ed : ¬ e = d := fun y => by
        have := e2.2.1
        rw [y, hf] at this
        exact hw this.symm
      have e3 : e < d := by
        by_cases y : d < e
        · have := hl e y he
          rw [e2.2.1] at this
          exact absurd this hw
        · omega
      refine Or.inr ⟨e, e1, he, by rw [up, if_neg ed]; exact e2.2.1, fun b hb => ?_⟩
      rw [up, if_neg (by omega)]
      exact e2.2.2 b hb
  · rw [up, if_pos rfl]
    exact hx
  · rw [up, if_neg (by omega)]
    exact hl b h6 h7
theorem VP_er {f : Nat → Int32} {n : Nat} {B : Nat → Prop} {w many early batch : Int32} (h : VPk f n B w many early batch) : 0 < cvN f w n → ∃ e, early = nI e ∧ erl f n w e := by
  intro hp
  rcases h.2.1 with ⟨-, z⟩ | z
  · have := cv_no z
    omega
  · exact z
theorem LP_step {f W : Nat → Int32} {n i : Nat} {best votes first many early : Int32} (h : LPb f W n i best votes first) (hn : n ≤ 40) (v1 : many = nI (cvN f (W i) n)) (er : 0 < cvN f (W i) n → ∃ e, early = nI e ∧ erl f n (W i) e) : ((votes < many ∨ (many = votes ∧ ¬ many ≤ 0 ∧ ¬ first ≤ early)) → LPb f W n (i + 1) (W i) many early) ∧ (¬ (votes < many ∨ (many = votes ∧ ¬ many ≤ 0 ∧ ¬ first ≤ early)) → LPb f W n (i + 1) best votes first) := by
  have hc := fun w => cvN_le f w n
  have hci := hc (W i)
  have erU : ∀ {w : Int32} {e e2 : Nat}, erl f n w e → erl f n w e2 → e = e2 := by
    intro w e e2 g1 g2
    by_cases y : e < e2
    · exact absurd g1.2.1 (g2.2.2 e y)
    · by_cases y2 : e2 < e
      · exact absurd g2.2.1 (g1.2.2 e2 y2)
      · omega
  rcases h with ⟨e1, e2, e3⟩ | ⟨m0, e0, hm0, e1, e2, e3, e4, e5, e6⟩
  · rw [v1, e2]
    rw [nlt (by omega) (by omega), neq (by omega) (by omega), qb_0 (by omega)]
    refine ⟨fun z => ?_, fun z => ?_⟩
    · have hp : 0 < cvN f (W i) n := by omega
      obtain ⟨e, ee, ee2⟩ := er hp
      refine Or.inr ⟨i, e, by omega, rfl, rfl, ee, ee2, hp, fun m hm => ?_⟩
      by_cases y : m = i
      · subst y
        exact Or.inr ⟨rfl, fun e2 g => by rw [erU ee2 g]; exact Nat.le_refl _⟩
      · rw [e3 m (by omega)]
        exact Or.inl hp
    · refine Or.inl ⟨e1, rfl, fun m hm => ?_⟩
      by_cases y : m = i
      · subst y
        omega
      · exact e3 m (by omega)
  · have hc0 := hc (W m0)
    rw [v1, e2, e3]
    rw [nlt (by omega) (by omega), neq (by omega) (by omega), qb_0 (by omega)]
    have hfe : 0 < cvN f (W i) n → ∃ e, early = nI e ∧ erl f n (W i) e ∧ ((nI e0 ≤ early) = (e0 ≤ e)) := by
      intro hp
      obtain ⟨e, ee, ee2⟩ := er hp
      have := ee2.1
      have := e4.1
      exact ⟨e, ee, ee2, by rw [ee, nle (by omega) (by omega)]⟩
    refine ⟨fun z => ?_, fun z => ?_⟩
    · have hp : 0 < cvN f (W i) n := by omega
      obtain ⟨e, ee, ee2, ee3⟩ := hfe hp
      rw [ee3] at z
      refine Or.inr ⟨i, e, by omega, rfl, rfl, ee, ee2, hp, fun m hm => ?_⟩
      by_cases y : m = i
      · subst y
        exact Or.inr ⟨rfl, fun e2 g => by rw [erU ee2 g]; exact Nat.le_refl _⟩
      · rcases z with z | z
        · rcases e6 m (by omega) with g | g
          · exact Or.inl (by omega)
          · exact Or.inl (by omega)
        · rcases e6 m (by omega) with g | g
          · exact Or.inl (by omega)
          · exact Or.inr ⟨by omega, fun e2 g2 => by
              have := g.2 e2 g2
              omega⟩
    · refine Or.inr ⟨m0, e0, by omega, e1, rfl, rfl, e4, e5, fun m hm => ?_⟩
      by_cases y : m = i
      · subst y
        by_cases hp : 0 < cvN f (W m) n
        · obtain ⟨e, ee, ee2, ee3⟩ := hfe hp
          rw [ee3] at z
          by_cases q : cvN f (W m) n = cvN f (W m0) n
          · refine Or.inr ⟨q, fun e2 g => ?_⟩
            rw [← erU ee2 g]
            omega
          · exact Or.inl (by omega)
        · exact Or.inl (by omega)
      · exact e6 m (by omega)
end RV
