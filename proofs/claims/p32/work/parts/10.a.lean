/-! calls -/
theorem over_warm {s U : State} (hW : s.WarmedH U.vm) (h : (Cond.arrayOver (.array .int)).before #[] s = true) : (Cond.arrayOver (.array .int)).before #[] U = true := by
  have e := Cond.arrayOver_setVmC (args := #[]) hW.alike (.array .int)
  rw [h] at e
  exact e
theorem KS_warm {D : va_G} {t : Nat → ClassId} {s U : State} (hW : s.WarmedH U.vm) (h : KS D t s) : KS D t U := by
  obtain ⟨h1, h2, h3, h4, h5, h6, h7⟩ := h
  refine ⟨va_K.moved hW.alike h1, fun w hw => nw_warm (NWL_ok hw) hW (h2 w hw), fun x hx => ?_, h4.moved hW.alike, h5.moved hW.alike, h6.moved hW.alike, over_warm hW h7⟩
  obtain ⟨a, ha⟩ := h3 x hx
  exact ⟨a, ha.warm hW⟩
theorem KS_same {D : va_G} {t : Nat → ClassId} {s U : State} (hv : s.vm = U.vm) (h : KS D t s) : KS D t U := KS_warm (by rw [← hv]; exact State.WarmedH.refl s) h
theorem ZQ_to {A B : Nat → Prop} {s U : State} {H : Heap} {locs : List Loc} (hZ : ZQ A s s.heap) (hS : va_S A s.heap H locs) (hvm : s.vm.Alike U.vm) (hAB : ∀ q, B q → A q) : ZQ B U H :=
  ⟨vx_Zq.narrow (vx_Zq.moved hvm (hZ.1.kept hS.2.1)) hAB, vx_Zq.narrow (vx_Zq.moved hvm (hZ.2.kept hS.2.1)) hAB⟩
theorem PRE_blind {S : Nat × (Nat → Int32)} {M : Nat} {D : va_G} {t : Nat → ClassId} {ad : Nat → Nat} {g : SG} {sz : Nat} {as : List Value} : FrameBlind (va_Pc as (PRE S M D t ad g sz)) := by
  intro a U g0 mk h
  obtain ⟨h1, h2, h3, h4, h5, h6⟩ := h
  exact ⟨h1, h2, KS_same (s := U) (U := U.calling g0 mk a) rfl h3, h4, ⟨vx_Zq.moved (Vm.Alike.refl U.vm) h5.1, vx_Zq.moved (Vm.Alike.refl U.vm) h5.2⟩, fun z => ⟨(h6 z).1.moved (Vm.Alike.refl U.vm), (h6 z).2⟩⟩
theorem wA_sub {A : Nat → Prop} {t : Nat → ClassId} {ad : Nat → Nat} {g : SG} {H0 H : Heap} {locs : List Loc} (hD : va_D A (wld t ad g)) (hS : va_S A H0 H locs) (hA : ∀ q, H0.size ≤ q → A q) : ∀ q, wA t ad g H.size q → A q := by
  intro q h
  rcases h with ⟨k, e, h⟩ | h
  · exact hD.2 k _ h
  · exact hA q (Nat.le_trans hS.1 h)
theorem PRE_at {S S2 : Nat × (Nat → Int32)} {M j : Nat} {D : va_G} {t : Nat → ClassId} {ad : Nat → Nat} {A : Nat → Prop} {g : SG} {s U : State} {H : Heap} {locs : List Loc} (hKS : KS D t s) (hA : ∀ q, s.heap.size ≤ q → A q) (hZ : ZQ A s s.heap) (hscr : scM M = true → va_X (ad SCR) S.1 S.2 s s.heap ∧ ad SCR < s.heap.size ∧ ¬ A (ad SCR)) (hj : scM j = true → S2 = S ∧ scM M = true) (hP : PIC D t ad A g H) (hS : va_S A s.heap H locs) (hU : U.heap = H) (hW : s.WarmedH U.vm) : PRE S2 j D t ad g H.size U := by
  refine ⟨by rw [hU], KS_warm hW hKS, ⟨by rw [hU]; exact hP.1, hP.2.1.self, by rw [hU]; exact hP.2.2⟩, ?_, fun z => ?_⟩
  · rw [hU]
    exact ZQ_to hZ hS hW.alike (wA_sub hP.2.1 hS hA)
  · obtain ⟨e1, e2⟩ := hj z
    obtain ⟨h1, h2, h3⟩ := hscr e2
    rw [e1, hU]
    exact ⟨(h1.kept (hS.2.1 _ h2 h3)).moved hW.alike, Nat.lt_of_lt_of_le h2 hS.1, fun w => h3 (wA_sub hP.2.1 hS hA _ w)⟩
/-- what is owed behind a call -/
def CNT (S : Nat × (Nat → Int32)) (M pc v : Nat) (hs : List Nat) (ls : LC) (st : List Value) (n k : Nat) (K : Out → SG → Prop) : Out → SG → Prop := fun o g => match o with
  | .inl none => X S M (pc + 3) ls st g n k K
  | .inl (some w) => X S M (pc + 3) ls (w :: st) g n k K
  | .inr E => if hs = [] then (cH M = [] ∧ n ≤ (rmM M).cells ∧ k ≤ (rmM M).slots ∧ K (.inr E) g) else ∃ h, hs[E]? = some h ∧ hchk M pc E v h = true ∧ X S M h (ls.set v none) [] g n k K
section SC
variable {S : Nat × (Nat → Int32)} {M pc : Nat} {ls : LC} {st : List Value} {g : SG} {n k : Nat} {K : Out → SG → Prop}
theorem call_close {j v : Nat} {hs : List Nat} {p : Program} {l : Launch} {e : Env} {R : Room} {s : State} {m : MethodId} {args : Array Value} {below : List Frame} {meth : Method} {c : Code} {D : va_G} {t : Nat → ClassId} {ad : Nat → Nat} {A : Nat → Prop} {Q : State → Prop} (C : CTX S M p l e R s m args below meth c D t ad A Q K)
    {H : Heap} {locs : List Loc} {lsM : Array Slot} {st0 : List Value} {a : Array Value} (hl : lvh lsM (cN M) ad ls) (hP : PIC D t ad A g H) (hS : va_S A s.heap H locs)
    (hrun : vx_Run p l e R s m args below meth c H locs n k (rmM j).cells (rmM j).slots (F0 m pc lsM st0) (st.map (cv ad)) (QC j D t ad (wA t ad g H.size) (CNT S M pc v hs ls st (n + (rmM j).cells) (k + (rmM j).slots) K) a) (XCK D t ad (wA t ad g H.size) (CNT S M pc v hs ls st (n + (rmM j).cells) (k + (rmM j).slots) K)) (wA t ad g H.size)) :
    W p l e R s m args below meth c H locs n k Q (F0 m pc lsM st0) := by
  obtain ⟨hx, hb0, hml, hown, hts, hlocks, hr, hini, hR, htr, hex, hKS, hA, hZ, hscr⟩ := C.1
  have hsub := wA_sub hP.2.1 hS hA
  have hup : ∀ {u : SG} {T : State} {H1 : Heap}, T.heap = H1 → PIC D t ad (wA t ad g H.size) u T.heap → PIC D t ad A u H1 := by
    intro u T H1 ht hB
    rw [ht] at hB
    exact ⟨hB.1, hB.2.1.weaken (fun _ q _ h => hsub _ h), hB.2.2⟩
  have kx : ∀ (E : String) (ce : Cell) (q9 : Addr) (u : Nat × SG) (T : State) (H1 : Heap) (locs1 : List Loc), T.heap = H1 → s.vm.Alike T.vm → CNT S M pc v hs ls st (n + (rmM j).cells) (k + (rmM j).slots) K (.inr u.1) u.2 → (E = exN u.1 ∧ PIC D t ad (wA t ad g H.size) u.2 T.heap) → H.size ≤ H1.size → (∀ q : Nat, q < H.size → ¬ wA t ad g H.size q → H1[q]? = H[q]?) → va_S A s.heap H1 locs1 → H1[q9]? = some ce → ce.vm = .none → s.vm.findClass E = some ce.cls →
      vx_W p l e R s m args below meth c H1 locs1 (n + (rmM j).cells) (k + (rmM j).slots) Q (F0 m pc lsM (st.map (cv ad))) q9 := by
    intro E ce q9 u T H1 locs1 ht hvm hpx hB hz hk1 hS1 hce hcv hcl
    obtain ⟨rfl, hB⟩ := hB
    unfold CNT at hpx
    dsimp only at hpx
    split at hpx
    · obtain ⟨h1, h2, h3, h4⟩ := hpx
      exact C.2.2.1 u.1 u.2 H1 locs1 _ _ pc lsM _ q9 ce h4 (hup ht hB) hS1 h2 h3 h1 hce hcv hcl
    · obtain ⟨h, h1, h2, h3⟩ := hpx
      exact sd_catch h2 h3 C hl (hup ht hB) hS1 hce hcv hcl
  unfold QC at hrun
  cases hcr : cR j with
  | none =>
    rw [hcr] at hrun
    exact vx_callv hrun hS (fun q _ h => hsub q h) hsub (fun q _ h => hsub q h) kx (fun u T H1 locs1 ht hvm hp hB hz hk1 hS1 => hp p l e R s m args below meth c D t ad A Q C H1 locs1 lsM hl (hup ht hB) hS1)
  | some ty =>
    rw [hcr] at hrun
    exact vx_calli hrun hS (fun q _ h => hsub q h) hsub (fun q _ h => hsub q h) kx (fun r u T H1 locs1 ht hvm hp hB hz hk1 hS1 => hp p l e R s m args below meth c D t ad A Q C H1 locs1 lsM hl (hup ht hB) hS1)
end SC
def inW (w : Cond) : Bool := decide (w ∈ lw_tbl) && goodWord w
theorem inW_ok {w : Cond} (h : inW w = true) : w ∈ GW := by
  unfold inW at h
  simp only [Bool.and_eq_true, decide_eq_true_eq] at h
  exact GW_in h.1 h.2
theorem wat_mem {s i : Nat} {w : Cond} (h : wat s i = some w) : w ∈ lw_tbl ∧ (s ≠ 0 → w ∈ tables_1) := by
  have up : w ∈ tables_1 → w ∈ lw_tbl ∧ (s ≠ 0 → w ∈ tables_1) := fun h => ⟨List.mem_append_right _ h, fun _ => h⟩
  unfold wat at h
  split at h
  · exact ⟨List.mem_append_left _ (List.mem_of_getElem? h), fun z => absurd rfl z⟩
  · refine up ?_; unfold tables_1; simp only [List.mem_append]; exact Or.inl (List.mem_of_getElem? h)
  · refine up ?_; unfold tables_1; simp only [List.mem_append]; exact Or.inr (Or.inl (List.mem_of_getElem? h))
  · refine up ?_; unfold tables_1; simp only [List.mem_append]; exact Or.inr (Or.inr (List.mem_of_getElem? h))
  · cases h
def inH (h : List (Nat × Nat)) (i : Nat) (w : Cond) : Bool := decide (wat (h.getD i (9, 0)).1 (h.getD i (9, 0)).2 = some w) && goodWord w
def inN (h : List (Nat × Nat)) (i : Nat) (w : Cond) : Bool := decide (wat (h.getD i (9, 0)).1 (h.getD i (9, 0)).2 = some w) && (h.getD i (9, 0)).1 != 0
theorem inH_ok {h : List (Nat × Nat)} {i : Nat} {w : Cond} (e : inH h i w = true) : w ∈ GW := by
  unfold inH at e
  simp only [Bool.and_eq_true, decide_eq_true_eq] at e
  exact GW_in (wat_mem e.1).1 e.2
theorem inN_ok {h : List (Nat × Nat)} {i : Nat} {w : Cond} (e : inN h i w = true) : w ∈ tables_1 := by
  unfold inN at e
  simp only [Bool.and_eq_true, decide_eq_true_eq, bne_iff_ne] at e
  exact (wat_mem e.1).2 e.2
/-- a row of the links to methods: kinds 0 of an object, 1 static, 2 <init>, 3 static of a nest mate, 4 <init> of a nest mate, 5 static with handlers -/
def mchk (x : Nat × Nat × Nat × Nat) (h : List (Nat × Nat)) : Bool :=
  inH h 0 (Cond.initialized (cY x.2.2.1).cls) && ((cY x.2.2.1).cls != "java/lang/invoke/MethodHandle" && ((cY x.2.2.1).cls != "java/lang/invoke/VarHandle" && (decide ((parseMethodDescriptor (cY x.2.2.1).desc).map (fun d => d.parameters.length) = some (cP x.2.2.1)) && (match x.2.2.2 with
    | 0 => inH h 1 (Cond.methodLink (cNm x.1) x.2.1 (cY x.2.2.1)) && inH h 2 (Cond.instanceMethod (cY x.2.2.1)) && inH h 4 (Cond.selects (cY x.2.2.1).cls (cY x.2.2.1) (cY x.2.2.1)) && inH h 3 (Cond.code (cY x.2.2.1) (cB x.2.2.1) (cN x.2.2.1) (cR x.2.2.1)) && (cH x.2.2.1).isEmpty && (cNm (cC x.2.2.1) == (cY x.2.2.1).cls) && decide (cC x.2.2.1 < 6) && (kin (cC x.2.2.1) == 6)
    | 1 => inH h 1 (Cond.methodLink (cNm x.1) x.2.1 (cY x.2.2.1)) && inH h 2 (Cond.static (cY x.2.2.1)) && inH h 3 (Cond.code (cY x.2.2.1) (cB x.2.2.1) (cN x.2.2.1) (cR x.2.2.1)) && (cH x.2.2.1).isEmpty
    | 2 => inH h 1 (Cond.methodLink (cNm x.1) x.2.1 (cY x.2.2.1)) && inH h 2 (Cond.instanceMethod (cY x.2.2.1)) && inH h 3 (Cond.code (cY x.2.2.1) (cB x.2.2.1) (cN x.2.2.1) none) && (cH x.2.2.1).isEmpty && ((cY x.2.2.1).name == "<init>") && (cR x.2.2.1).isNone
    | 3 => inN h 1 (Cond.methodLinkNest (cNm x.1) x.2.1 (cY x.2.2.1) RX5) && inH h 2 (Cond.static (cY x.2.2.1)) && inH h 3 (Cond.code (cY x.2.2.1) (cB x.2.2.1) (cN x.2.2.1) (cR x.2.2.1)) && (cH x.2.2.1).isEmpty
    | 4 => inN h 1 (Cond.methodLinkNest (cNm x.1) x.2.1 (cY x.2.2.1) RX5) && inH h 2 (Cond.instanceMethod (cY x.2.2.1)) && inH h 3 (Cond.code (cY x.2.2.1) (cB x.2.2.1) (cN x.2.2.1) none) && (cH x.2.2.1).isEmpty && ((cY x.2.2.1).name == "<init>") && (cR x.2.2.1).isNone
    | 5 => inH h 1 (Cond.methodLink (cNm x.1) x.2.1 (cY x.2.2.1)) && inH h 2 (Cond.static (cY x.2.2.1)) && inH h 3 (Cond.codeWith (cY x.2.2.1) (cB x.2.2.1) (cN x.2.2.1) (cR x.2.2.1) (cH x.2.2.1)) && !(cH x.2.2.1).isEmpty
    | _ => false))))
