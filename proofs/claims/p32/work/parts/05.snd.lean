/-! THE ABSTRACT MACHINE IS RIGHT: helpers -/
theorem AO_nodup : AO.Nodup := by decide +kernel
theorem AO_len : AO.length = NB := by decide +kernel
theorem bnn_mem {nb q : Nat} (h : bnn nb q = true) : q ∈ AO.take nb := by
  unfold bnn at h
  simpa using h
theorem bnn_NB {q : Nat} (h : q ∈ AO) : bnn NB q = true := by
  unfold bnn
  rw [List.take_of_length_le (by rw [AO_len]; exact Nat.le_refl _)]
  simpa using h
theorem wld_at {t : Nat → ClassId} {ad : Nat → Nat} {g : SG} {q : Nat} (h : bnn g.1 q = true) : ∃ i : Nat, (AO.take g.1)[i]? = some q ∧ (wld t ad g)[i]? = some (ad q, cel t ad g q) := by
  obtain ⟨i, hi⟩ := List.getElem?_of_mem (bnn_mem h)
  refine ⟨i, hi, ?_⟩
  unfold wld
  rw [List.getElem?_map, hi]
  rfl
theorem take_inj {n i j q : Nat} (h1 : (AO.take n)[i]? = some q) (h2 : (AO.take n)[j]? = some q) : i = j := by
  have hn : (AO.take n).Nodup := List.Nodup.sublist (List.take_sublist n AO) AO_nodup
  obtain ⟨a1, b1⟩ := List.getElem?_eq_some_iff.mp h1
  obtain ⟨a2, b2⟩ := List.getElem?_eq_some_iff.mp h2
  exact (List.getElem_inj hn).mp (b1.trans b2.symm)
theorem wld_set {t : Nat → ClassId} {ad : Nat → Nat} {g g2 : SG} {q i : Nat} (hi : (AO.take g.1)[i]? = some q) (h1 : g2.1 = g.1) (ho : ∀ z, z ≠ q → cel t ad g2 z = cel t ad g z) :
    (wld t ad g).set i (ad q, cel t ad g2 q) = wld t ad g2 := by
  unfold wld
  rw [h1]
  apply List.ext_getElem?
  intro j
  rw [List.getElem?_set]
  by_cases hj : i = j
  · subst hj
    have hl : i < (AO.take g.1).length := (List.getElem?_eq_some_iff.mp hi).1
    rw [if_pos rfl, if_pos (by rw [List.length_map]; exact hl), List.getElem?_map, hi]
    rfl
  · rw [if_neg hj, List.getElem?_map, List.getElem?_map]
    cases hz : (AO.take g.1)[j]? with
    | none => rfl
    | some z =>
      have hne : z ≠ q := fun e => hj (take_inj hi (by rw [hz, e]))
      simp [ho z hne]
theorem lvh_get {lsM : Array Slot} {nL : Nat} {ad : Nat → Nat} {ls : LC} (h : lvh lsM nL ad ls) {a : Nat} {v : Value} (e : ls[a]? = some (some v)) : lsM[a]? = some (.val (cv ad v)) := (h.2 a v e).1
def lvL (ad : Nat → Nat) (ls : LC) : List (Nat × Value) := (List.range ls.length).filterMap fun a => (ls[a]?).bind fun o => o.map fun v => (a, cv ad v)
theorem lvL_mem {ad : Nat → Nat} {ls : LC} {a : Nat} {v : Value} (e : ls[a]? = some (some v)) : (a, cv ad v) ∈ lvL ad ls := by
  unfold lvL
  refine List.mem_filterMap.mpr ⟨a, List.mem_range.mpr (List.getElem?_eq_some_iff.mp e).1, ?_⟩
  rw [e]
  rfl
theorem lvL_of {ad : Nat → Nat} {ls : LC} {x : Nat × Value} (h : x ∈ lvL ad ls) : ∃ v, ls[x.1]? = some (some v) ∧ x.2 = cv ad v := by
  unfold lvL at h
  obtain ⟨a, -, e⟩ := List.mem_filterMap.mp h
  cases hq : ls[a]? with
  | none => rw [hq] at e; cases e
  | some o =>
    rw [hq] at e
    cases o with
    | none => cases e
    | some v =>
      cases e
      exact ⟨v, hq, rfl⟩
theorem lvh_L {lsM : Array Slot} {nL : Nat} {ad : Nat → Nat} {ls : LC} (h : lvh lsM nL ad ls) : lv_has lsM nL (lvL ad ls) := by
  refine ⟨h.1.1, h.1.2.1, fun x hx => ?_⟩
  obtain ⟨v, e, he⟩ := lvL_of hx
  rw [he]
  exact (h.2 _ _ e).1
theorem lvh_nil {lsM : Array Slot} {nL : Nat} {l : List (Nat × Value)} (h : lv_has lsM nL l) : lv_has lsM nL [] := ⟨h.1, h.2.1, fun _ h => by cases h⟩
/-- behind a store -/
theorem lvh_set {lsM lsM' : Array Slot} {nL a : Nat} {ad : Nat → Nat} {ls : LC} {v : Value} (h : lvh lsM nL ad ls) (hc : v.category = 1)
    (h' : lv_has lsM' nL ((a, cv ad v) :: (lvL ad ls).filter (fun q => !(q.1 == a) && !(q.1 + 1 == a && q.2.category == 2)))) : lvh lsM' nL ad (ls.set a (some v)) := by
  refine ⟨lvh_nil h', fun b w e => ?_⟩
  rw [List.getElem?_set] at e
  by_cases hb : a = b
  · subst hb
    rw [if_pos rfl] at e
    split at e
    · cases e
      exact ⟨h'.2.2 (a, cv ad v) List.mem_cons_self, hc⟩
    · cases e
  · rw [if_neg hb] at e
    obtain ⟨-, hw⟩ := h.2 b w e
    refine ⟨h'.2.2 (b, cv ad w) (List.mem_cons_of_mem _ (List.mem_filter.mpr ⟨lvL_mem e, ?_⟩)), hw⟩
    have h1 : (cv ad w).category = 1 := by rw [cv_cat]; exact hw
    simp [h1, Ne.symm hb]
theorem lvh_clear {lsM : Array Slot} {nL a : Nat} {ad : Nat → Nat} {ls : LC} (h : lvh lsM nL ad ls) : lvh lsM nL ad (ls.set a none) := by
  refine ⟨h.1, fun b w e => ?_⟩
  rw [List.getElem?_set] at e
  by_cases hb : a = b
  · subst hb
    rw [if_pos rfl] at e
    split at e <;> cases e
  · rw [if_neg hb] at e
    exact h.2 b w e
theorem cel_noteq_A {t : Nat → ClassId} {ad : Nat → Nat} {nb : Nat} {Rf : Nat → Nat → Value} {I A : Nat → Nat → Int32} {J : Nat → Nat → Int32} {q : Nat} {r : Nat → Int32} {z : Nat} (h : z ≠ q) : cel t ad (nb, Rf, I, upR A q r, J) z = cel t ad (nb, Rf, I, A, J) z := by
  unfold cel fval upR
  simp only [if_neg h]
theorem cel_noteq_J {t : Nat → ClassId} {ad : Nat → Nat} {nb : Nat} {Rf : Nat → Nat → Value} {I A : Nat → Nat → Int32} {J : Nat → Nat → Int32} {q : Nat} {r : Nat → Int32} {z : Nat} (h : z ≠ q) : cel t ad (nb, Rf, I, A, upR J q r) z = cel t ad (nb, Rf, I, A, J) z := by
  unfold cel fval upR
  simp only [if_neg h]
theorem cel_noteq_I {t : Nat → ClassId} {ad : Nat → Nat} {nb : Nat} {Rf : Nat → Nat → Value} {I A : Nat → Nat → Int32} {J : Nat → Nat → Int32} {c k : Nat} {x : Int32} {z : Nat} (h : z ≠ c) : cel t ad (nb, Rf, up2 I c k x, A, J) z = cel t ad (nb, Rf, I, A, J) z := by
  have e : fval ad (nb, Rf, up2 I c k x, A, J) z = fval ad (nb, Rf, I, A, J) z := by
    funext j
    unfold fval up2
    simp only [if_neg h]
  unfold cel
  rw [e]
theorem cel_noteq_R {t : Nat → ClassId} {ad : Nat → Nat} {nb : Nat} {Rf : Nat → Nat → Value} {I A : Nat → Nat → Int32} {J : Nat → Nat → Int32} {c k : Nat} {x : Value} {z : Nat} (h : z ≠ c) : cel t ad (nb, up2 Rf c k x, I, A, J) z = cel t ad (nb, Rf, I, A, J) z := by
  have e : fval ad (nb, up2 Rf c k x, I, A, J) z = fval ad (nb, Rf, I, A, J) z := by
    funext j
    unfold fval up2
    simp only [if_neg h]
  unfold cel
  rw [e]
theorem cel_obj {t : Nat → ClassId} {ad : Nat → Nat} {g : SG} {q : Nat} (h : kin q = 6) : cel t ad g q = .inr (q, (List.range (lnn q)).map (fval ad g q)) := by
  unfold cel
  rw [if_pos h]
theorem cel_int {t : Nat → ClassId} {ad : Nat → Nat} {g : SG} {q : Nat} (h : kin q = 1) : cel t ad g q = .inl (t 0, lnn q, .inl (g.2.2.2.1 q)) := by
  unfold cel
  rw [h]
  rfl
theorem cel_bool {t : Nat → ClassId} {ad : Nat → Nat} {g : SG} {q : Nat} (h : kin q = 2) : cel t ad g q = .inl (t 1, lnn q, .inl (g.2.2.2.1 q)) := by
  unfold cel
  rw [h]
  rfl
theorem cel_long {t : Nat → ClassId} {ad : Nat → Nat} {g : SG} {q : Nat} (h : kin q = 3) : cel t ad g q = .inl (t 0, lnn q, .inl (g.2.2.2.2 q)) := by
  unfold cel
  rw [h]
  rfl
theorem cel_ref {t : Nat → ClassId} {ad : Nat → Nat} {g : SG} {q : Nat} (h : kin q = 4) : cel t ad g q = .inl (t 3, lnn q, .inr (.inr (.inr (.inr (fun i => if i < lnn q then some (ad (bss q + i)) else none))))) := by
  unfold cel
  rw [h]
  rfl
theorem PIC_to {D : va_G} {t : Nat → ClassId} {ad : Nat → Nat} {A : Nat → Prop} {g g2 : SG} {H H1 : Heap} (h : PIC D t ad A g H) (h1 : g2.1 = g.1) (hz : H1.size = H.size) (hP : va_P D vwCl (wld t ad g2) H1) (hD : va_D A (wld t ad g2)) : PIC D t ad A g2 H1 :=
  ⟨hP, hD, fun j q hj hq => by rw [hz, h1]; exact h.2.2 j q (by rw [← h1]; exact hj) hq⟩
