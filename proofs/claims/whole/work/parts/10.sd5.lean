/-! calls -/
theorem over_warm {s U : State} (hW : s.WarmedH U.vm) (h : (Cond.arrayOver (.array .int)).before #[] s = true) : (Cond.arrayOver (.array .int)).before #[] U = true := by
  have e := Cond.arrayOver_setVmC (args := #[]) hW.alike (.array .int)
  rw [h] at e
  exact e
theorem KS_warm {D : va_G} {t : Nat → ClassId} {s U : State} (hW : s.WarmedH U.vm) (h : KS D t s) : KS D t U := by
  obtain ⟨h1, h2, h3, h4, h5, h6, h7⟩ := h
  refine ⟨va_K.moved hW.alike h1, fun w hw => nw_warm (NWL_ok hw) hW (h2 w hw), fun x hx => ?_, h4.moved hW.alike, h5.moved hW.alike, h6.moved hW.alike, over_warm hW h7⟩
  obtain ⟨a, ha⟩ := h3 x hx
  exact ⟨a, ha.warm hW⟩
theorem KS_same {D : va_G} {t : Nat → ClassId} {s U : State} (hv : s.vm = U.vm) (h : KS D t s) : KS D t U := KS_warm (by rw [← hv]; exact State.WarmedH.refl s) h
theorem ZQ_to {A B : Nat → Prop} {s U : State} {H : Heap} {locs : List Loc} (hZ : ZQ A s s.heap) (hS : va_S A s.heap H locs) (hvm : s.vm.Alike U.vm) (hAB : ∀ q, B q → A q) : ZQ B U H :=
  ⟨vx_Zq.narrow (vx_Zq.moved hvm (hZ.1.kept hS.2.1)) hAB, vx_Zq.narrow (vx_Zq.moved hvm (hZ.2.kept hS.2.1)) hAB⟩
theorem PRE_blind {D : va_G} {t : Nat → ClassId} {ad : Nat → Nat} {g : SG} {sz : Nat} {as : List Value} : FrameBlind (va_Pc as (PRE D t ad g sz)) := by
  intro a U g0 mk h
  obtain ⟨h1, h2, h3, h4, h5⟩ := h
  exact ⟨h1, h2, KS_same (s := U) (U := U.calling g0 mk a) rfl h3, h4, ⟨vx_Zq.moved (Vm.Alike.refl U.vm) h5.1, vx_Zq.moved (Vm.Alike.refl U.vm) h5.2⟩⟩
theorem wA_sub {A : Nat → Prop} {t : Nat → ClassId} {ad : Nat → Nat} {g : SG} {H0 H : Heap} {locs : List Loc} (hD : va_D A (wld t ad g)) (hS : va_S A H0 H locs) (hA : ∀ q, H0.size ≤ q → A q) : ∀ q, wA t ad g H.size q → A q := by
  intro q h
  rcases h with ⟨k, e, h⟩ | h
  · exact hD.2 k _ h
  · exact hA q (Nat.le_trans hS.1 h)
theorem PRE_at {D : va_G} {t : Nat → ClassId} {ad : Nat → Nat} {A : Nat → Prop} {g : SG} {s U : State} {H : Heap} {locs : List Loc} (hKS : KS D t s) (hA : ∀ q, s.heap.size ≤ q → A q) (hZ : ZQ A s s.heap) (hP : PIC D t ad A g H) (hS : va_S A s.heap H locs) (hU : U.heap = H) (hW : s.WarmedH U.vm) : PRE D t ad g H.size U := by
  refine ⟨by rw [hU], KS_warm hW hKS, ⟨by rw [hU]; exact hP.1, hP.2.1.self, by rw [hU]; exact hP.2.2⟩, ?_⟩
  rw [hU]
  exact ZQ_to hZ hS hW.alike (wA_sub hP.2.1 hS hA)
/-- what is owed behind a call -/
def CNT (S : Nat × (Nat → Int32)) (M pc v : Nat) (hs : List Nat) (ls : LC) (st : List Value) (n k : Nat) (K : Out → SG → Prop) : Out → SG → Prop := fun o g => match o with
  | .inl none => X S M (pc + 3) ls st g n k K
  | .inl (some w) => X S M (pc + 3) ls (w :: st) g n k K
  | .inr E => if hs = [] then (cH M = [] ∧ n ≤ (rmM M).cells ∧ k ≤ (rmM M).slots ∧ K (.inr E) g) else ∃ h, hs[E]? = some h ∧ hchk M pc E v h = true ∧ X S M h (ls.set v none) [] g n k K
section SC
variable {S : Nat × (Nat → Int32)} {M pc : Nat} {ls : LC} {st : List Value} {g : SG} {n k : Nat} {K : Out → SG → Prop}
theorem call_close {j v : Nat} {hs : List Nat} {p : Program} {l : Launch} {e : Env} {R : Room} {s : State} {m : MethodId} {args : Array Value} {below : List Frame} {meth : Method} {c : Code} {D : va_G} {t : Nat → ClassId} {ad : Nat → Nat} {A : Nat → Prop} {Q : State → Prop} (C : CTX S M p l e R s m args below meth c D t ad A Q K)
    {H : Heap} {locs : List Loc} {lsM : Array Slot} {st0 : List Value} {a : Array Value} (hl : lvh lsM (cN M) ad ls) (hP : PIC D t ad A g H) (hS : va_S A s.heap H locs)
    (hrun : vx_Run p l e R s m args below meth c H locs n k (rmM j).cells (rmM j).slots (F0 m pc lsM st0) (st.map (cv ad)) (QC j D t ad (wA t ad g H.size) (CNT S M pc v hs ls st (n + (rmM j).cells) (k + (rmM j).slots) K) a) (XCK D t ad (wA t ad g H.size) (CNT S M pc v hs ls st (n + (rmM j).cells) (k + (rmM j).slots) K)) (wA t ad g H.size)) :
    W p l e R s m args below meth c H locs n k Q (F0 m pc lsM st0) := by
  obtain ⟨hx, hb0, hml, hown, hts, hlocks, hr, hini, hR, htr, hex, hKS, hA, hZ, hscr⟩ := C.1
  have hsub := wA_sub hP.2.1 hS hA
  have hup : ∀ {u : SG} {T : State} {H1 : Heap}, T.heap = H1 → PIC D t ad (wA t ad g H.size) u T.heap → PIC D t ad A u H1 := by
    intro u T H1 ht hB
    rw [ht] at hB
    exact ⟨hB.1, hB.2.1.weaken (fun _ q _ h => hsub _ h), hB.2.2⟩
  have kx : ∀ (E : String) (ce : Cell) (q9 : Addr) (u : Nat × SG) (T : State) (H1 : Heap) (locs1 : List Loc), T.heap = H1 → s.vm.Alike T.vm → CNT S M pc v hs ls st (n + (rmM j).cells) (k + (rmM j).slots) K (.inr u.1) u.2 → (E = exN u.1 ∧ PIC D t ad (wA t ad g H.size) u.2 T.heap) → H.size ≤ H1.size → (∀ q : Nat, q < H.size → ¬ wA t ad g H.size q → H1[q]? = H[q]?) → va_S A s.heap H1 locs1 → H1[q9]? = some ce → ce.vm = .none → s.vm.findClass E = some ce.cls →
      vx_W p l e R s m args below meth c H1 locs1 (n + (rmM j).cells) (k + (rmM j).slots) Q (F0 m pc lsM (st.map (cv ad))) q9 := by
    intro E ce q9 u T H1 locs1 ht hvm hpx hB hz hk1 hS1 hce hcv hcl
    obtain ⟨rfl, hB⟩ := hB
    unfold CNT at hpx
    dsimp only at hpx
    split at hpx
    · obtain ⟨h1, h2, h3, h4⟩ := hpx
      exact C.2.2.1 u.1 u.2 H1 locs1 _ _ pc lsM _ q9 ce h4 (hup ht hB) hS1 h2 h3 h1 hce hcv hcl
    · obtain ⟨h, h1, h2, h3⟩ := hpx
      exact sd_catch h2 h3 C hl (hup ht hB) hS1 hce hcv hcl
  unfold QC at hrun
  cases hcr : cR j with
  | none =>
    rw [hcr] at hrun
    exact vx_callv hrun hS (fun q _ h => hsub q h) hsub (fun q _ h => hsub q h) kx (fun u T H1 locs1 ht hvm hp hB hz hk1 hS1 => hp p l e R s m args below meth c D t ad A Q C H1 locs1 lsM hl (hup ht hB) hS1)
  | some ty =>
    rw [hcr] at hrun
    exact vx_calli hrun hS (fun q _ h => hsub q h) hsub (fun q _ h => hsub q h) kx (fun r u T H1 locs1 ht hvm hp hB hz hk1 hS1 => hp p l e R s m args below meth c D t ad A Q C H1 locs1 lsM hl (hup ht hB) hS1)
end SC
def inW (w : Cond) : Bool := decide (w ∈ lw_tbl) && goodWord w
theorem inW_ok {w : Cond} (h : inW w = true) : w ∈ GW := by
  unfold inW at h
  simp only [Bool.and_eq_true, decide_eq_true_eq] at h
  exact GW_in h.1 h.2
theorem wat_mem {s i : Nat} {w : Cond} (h : wat s i = some w) : w ∈ lw_tbl ∧ (s ≠ 0 → w ∈ tables_1) := by
  have up : w ∈ tables_1 → w ∈ lw_tbl ∧ (s ≠ 0 → w ∈ tables_1) := fun h => ⟨List.mem_append_right _ h, fun _ => h⟩
  unfold wat at h
  split at h
  · exact ⟨List.mem_append_left _ (List.mem_of_getElem? h), fun z => absurd rfl z⟩
  · refine up ?_; unfold tables_1; simp only [List.mem_append]; exact Or.inl (List.mem_of_getElem? h)
  · refine up ?_; unfold tables_1; simp only [List.mem_append]; exact Or.inr (Or.inl (List.mem_of_getElem? h))
  · refine up ?_; unfold tables_1; simp only [List.mem_append]; exact Or.inr (Or.inr (Or.inl (List.mem_of_getElem? h)))
  · refine up ?_; unfold tables_1; simp only [List.mem_append]; exact Or.inr (Or.inr (Or.inr (Or.inl (List.mem_of_getElem? h))))
  · refine up ?_; unfold tables_1; simp only [List.mem_append]; exact Or.inr (Or.inr (Or.inr (Or.inr (List.mem_of_getElem? h))))
  · cases h
def inH (h : List (Nat × Nat)) (i : Nat) (w : Cond) : Bool := decide (wat (h.getD i (9, 0)).1 (h.getD i (9, 0)).2 = some w) && goodWord w
def inN (h : List (Nat × Nat)) (i : Nat) (w : Cond) : Bool := decide (wat (h.getD i (9, 0)).1 (h.getD i (9, 0)).2 = some w) && (h.getD i (9, 0)).1 != 0
theorem inH_ok {h : List (Nat × Nat)} {i : Nat} {w : Cond} (e : inH h i w = true) : w ∈ GW := by
  unfold inH at e
  simp only [Bool.and_eq_true, decide_eq_true_eq] at e
  exact GW_in (wat_mem e.1).1 e.2
theorem inN_ok {h : List (Nat × Nat)} {i : Nat} {w : Cond} (e : inN h i w = true) : w ∈ tables_1 := by
  unfold inN at e
  simp only [Bool.and_eq_true, decide_eq_true_eq, bne_iff_ne] at e
  exact (wat_mem e.1).2 e.2
/-- a row of the links to methods: kinds 0 of an object, 1 static, 2 <init>, 3 static of a nest mate, 4 <init> of a nest mate, 5 static with handlers -/
def mchk (x : Nat × Nat × Nat × Nat) (h : List (Nat × Nat)) : Bool :=
  inH h 0 (Cond.initialized (cY x.2.2.1).cls) && ((cY x.2.2.1).cls != "java/lang/invoke/MethodHandle" && ((cY x.2.2.1).cls != "java/lang/invoke/VarHandle" && (decide ((parseMethodDescriptor (cY x.2.2.1).desc).map (fun d => d.parameters.length) = some (cP x.2.2.1)) && (match x.2.2.2 with
    | 0 => inH h 1 (Cond.methodLink (cNm x.1) x.2.1 (cY x.2.2.1)) && inH h 2 (Cond.instanceMethod (cY x.2.2.1)) && inH h 4 (Cond.selects (cY x.2.2.1).cls (cY x.2.2.1) (cY x.2.2.1)) && inH h 3 (Cond.code (cY x.2.2.1) (cB x.2.2.1) (cN x.2.2.1) (cR x.2.2.1)) && (cH x.2.2.1).isEmpty && (cNm (cC x.2.2.1) == (cY x.2.2.1).cls) && decide (cC x.2.2.1 < 7) && (kin (cC x.2.2.1) == 6)
    | 1 => inH h 1 (Cond.methodLink (cNm x.1) x.2.1 (cY x.2.2.1)) && inH h 2 (Cond.static (cY x.2.2.1)) && inH h 3 (Cond.code (cY x.2.2.1) (cB x.2.2.1) (cN x.2.2.1) (cR x.2.2.1)) && (cH x.2.2.1).isEmpty
    | 2 => inH h 1 (Cond.methodLink (cNm x.1) x.2.1 (cY x.2.2.1)) && inH h 2 (Cond.instanceMethod (cY x.2.2.1)) && inH h 3 (Cond.code (cY x.2.2.1) (cB x.2.2.1) (cN x.2.2.1) none) && (cH x.2.2.1).isEmpty && ((cY x.2.2.1).name == "<init>") && (cR x.2.2.1).isNone
    | 3 => inN h 1 (Cond.methodLinkNest (cNm x.1) x.2.1 (cY x.2.2.1) RX5) && inH h 2 (Cond.static (cY x.2.2.1)) && inH h 3 (Cond.code (cY x.2.2.1) (cB x.2.2.1) (cN x.2.2.1) (cR x.2.2.1)) && (cH x.2.2.1).isEmpty
    | 4 => inN h 1 (Cond.methodLinkNest (cNm x.1) x.2.1 (cY x.2.2.1) RX5) && inH h 2 (Cond.instanceMethod (cY x.2.2.1)) && inH h 3 (Cond.code (cY x.2.2.1) (cB x.2.2.1) (cN x.2.2.1) none) && (cH x.2.2.1).isEmpty && ((cY x.2.2.1).name == "<init>") && (cR x.2.2.1).isNone
    | 5 => inH h 1 (Cond.methodLink (cNm x.1) x.2.1 (cY x.2.2.1)) && inH h 2 (Cond.static (cY x.2.2.1)) && inH h 3 (Cond.codeWith (cY x.2.2.1) (cB x.2.2.1) (cN x.2.2.1) (cR x.2.2.1) (cH x.2.2.1)) && !(cH x.2.2.1).isEmpty
    | _ => false))))
theorem mT_all_0 : (mTH_0.all fun q => mchk q.1 q.2) = true := by decide +kernel
theorem mT_all_1 : (mTH_1.all fun q => mchk q.1 q.2) = true := by decide +kernel
theorem mT_all_2 : (mTH_2.all fun q => mchk q.1 q.2) = true := by decide +kernel
theorem mT_all_3 : (mTH_3.all fun q => mchk q.1 q.2) = true := by decide +kernel
theorem mT_all_4 : (mTH_4.all fun q => mchk q.1 q.2) = true := by decide +kernel
theorem mT_all_5 : (mTH_5.all fun q => mchk q.1 q.2) = true := by decide +kernel
theorem mT_all_6 : (mTH_6.all fun q => mchk q.1 q.2) = true := by decide +kernel
theorem mT_all_7 : (mTH_7.all fun q => mchk q.1 q.2) = true := by decide +kernel
theorem mT_all_8 : (mTH_8.all fun q => mchk q.1 q.2) = true := by decide +kernel
theorem mT_all_9 : (mTH_9.all fun q => mchk q.1 q.2) = true := by decide +kernel
theorem mT_all_10 : (mTH_10.all fun q => mchk q.1 q.2) = true := by decide +kernel
theorem mT_all_11 : (mTH_11.all fun q => mchk q.1 q.2) = true := by decide +kernel
theorem mT_all_12 : (mTH_12.all fun q => mchk q.1 q.2) = true := by decide +kernel
theorem mT_all_13 : (mTH_13.all fun q => mchk q.1 q.2) = true := by decide +kernel
theorem mT_all_14 : (mTH_14.all fun q => mchk q.1 q.2) = true := by decide +kernel
theorem mT_all_15 : (mTH_15.all fun q => mchk q.1 q.2) = true := by decide +kernel
theorem mT_all_16 : (mTH_16.all fun q => mchk q.1 q.2) = true := by decide +kernel
theorem mT_all_17 : (mTH_17.all fun q => mchk q.1 q.2) = true := by decide +kernel
theorem mT_all_18 : (mTH_18.all fun q => mchk q.1 q.2) = true := by decide +kernel
theorem mT_all_19 : (mTH_19.all fun q => mchk q.1 q.2) = true := by decide +kernel
theorem mT_all_20 : (mTH_20.all fun q => mchk q.1 q.2) = true := by decide +kernel
theorem mT_all_21 : (mTH_21.all fun q => mchk q.1 q.2) = true := by decide +kernel
theorem mT_all_22 : (mTH_22.all fun q => mchk q.1 q.2) = true := by decide +kernel
theorem mT_all_23 : (mTH_23.all fun q => mchk q.1 q.2) = true := by decide +kernel
theorem mT_all_24 : (mTH_24.all fun q => mchk q.1 q.2) = true := by decide +kernel
theorem mT_all_25 : (mTH_25.all fun q => mchk q.1 q.2) = true := by decide +kernel
theorem mT_all_26 : (mTH_26.all fun q => mchk q.1 q.2) = true := by decide +kernel
theorem mT_all : (mTH.all fun q => mchk q.1 q.2) = true := by
  unfold mTH
  simp only [List.all_append, Bool.and_eq_true]
  exact ⟨mT_all_0, ⟨mT_all_1, ⟨mT_all_2, ⟨mT_all_3, ⟨mT_all_4, ⟨mT_all_5, ⟨mT_all_6, ⟨mT_all_7, ⟨mT_all_8, ⟨mT_all_9, ⟨mT_all_10, ⟨mT_all_11, ⟨mT_all_12, ⟨mT_all_13, ⟨mT_all_14, ⟨mT_all_15, ⟨mT_all_16, ⟨mT_all_17, ⟨mT_all_18, ⟨mT_all_19, ⟨mT_all_20, ⟨mT_all_21, ⟨mT_all_22, ⟨mT_all_23, ⟨mT_all_24, ⟨mT_all_25, mT_all_26⟩⟩⟩⟩⟩⟩⟩⟩⟩⟩⟩⟩⟩⟩⟩⟩⟩⟩⟩⟩⟩⟩⟩⟩⟩⟩
theorem mT_map : mTL = mTH.map (fun q => q.1) := by decide +kernel
theorem mT_get {x : Nat × Nat × Nat × Nat} (hx : x ∈ mTL) : ∃ h, mchk x h = true := by
  rw [mT_map] at hx
  obtain ⟨q, hq, rfl⟩ := List.mem_map.mp hx
  exact ⟨q.2, List.all_eq_true.mp mT_all q hq⟩
theorem GW_goes {ws : List Cond} {args : Array Value} {s : State} (h0 : ∀ w ∈ ws, w ∈ GW) (hts : ∀ w ∈ GW, w.before args s = true) : ∀ w ∈ ws, ∀ (a' : Array Value) (U : State), s.WarmedH U.vm → w.before a' U = true :=
  pay_in hts (fun w hw => ⟨h0 w hw, good_of_word (List.mem_filter.mp (h0 w hw)).2⟩)
theorem cW_code {j : Nat} (h : cH j = []) : cW j = Cond.code (cY j) (cB j) (cN j) (cR j) :: GW := if_pos h
theorem cW_with {j : Nat} (h : cH j ≠ []) : cW j = Cond.codeWith (cY j) (cB j) (cN j) (cR j) (cH j) :: GW := if_neg h
theorem cW_in {j : Nat} {w0 : Cond} (e : cW j = w0 :: GW) (h : w0 ∈ GW) : ∀ w ∈ cW j, w ∈ GW := by
  rw [e]
  intro w hw
  rcases List.mem_cons.mp hw with rfl | h1
  · exact h
  · exact h1
section SC2
variable {S : Nat × (Nat → Int32)} {M pc : Nat} {ls : LC} {st : List Value} {g : SG} {n k : Nat} {K : Out → SG → Prop}
/-- which instruction a kind of call is -/
def cIns (kd ix : Nat) : Instr := match kd with
  | 0 => .invokevirtual ix
  | 2 => .invokespecial ix
  | 4 => .invokespecial ix
  | _ => .invokestatic ix
/-- which arguments a kind of call wants -/
def cArg (kd j nb : Nat) (as : List Value) : Prop := match kd with
  | 0 => ∃ tl, as = .ref (cC j) :: tl ∧ tl.length = cP j ∧ bnn nb (cC j) = true
  | 2 => ∃ o tl, as = .ref o :: tl ∧ tl.length = cP j
  | 4 => ∃ o tl, as = .ref o :: tl ∧ tl.length = cP j
  | _ => as.length = cP j
theorem sd_call {ix j kd v : Nat} {hs : List Nat} {as : List Value} (hd : decode (cB M) pc = .ok (cIns kd ix, 3)) (hm : (cC M, ix, j, kd) ∈ mTL) (hC : cArg kd j g.1 as) (hst : st.length ≤ 4) (r1 : (rmM j).frames + 1 ≤ (rmM M).frames) (r2 : 8 + (cN j + 11) + (rmM j).locals ≤ (rmM M).locals) (r3 : n + (rmM j).cells ≤ (rmM M).cells) (r4 : k + (rmM j).slots ≤ (rmM M).slots)
    (h : CT j as g (CNT S M pc v hs ls st (n + (rmM j).cells) (k + (rmM j).slots) K)) : X S M pc ls (as.reverse ++ st) g n k K := by
  intro p l e R s m args below meth c D t ad A Q C H locs lsM hl hP hS
  obtain ⟨hx, hb0, hml, hown, hts, hlocks, hr, hini, hR, htr, hex, hKS, hA, hZ, hscr⟩ := C.1
  have hM := h l D t ad H.size htr
  obtain ⟨hh0, hmk⟩ := mT_get hm
  unfold mchk at hmk
  simp only [Bool.and_eq_true, decide_eq_true_eq, bne_iff_ne] at hmk
  obtain ⟨hini0, hy1, hy2, hpar, hkd⟩ := hmk
  have hpar2 : ∀ sig, parseMethodDescriptor (cY j).desc = some sig → cP j = sig.parameters.length := by
    intro sig hsig
    rw [hsig] at hpar
    exact (Option.some.inj hpar).symm
  have hsum : ((st.map (cv ad)).map fun v => v.category).sum ≤ 8 := by
    rw [List.map_map]
    exact cat_sum st hst _ (fun v => by show (cv ad v).category ≤ 2; rw [cv_cat]; exact cat_le v)
  have hsum2 : 2 * (F0 m pc lsM ((as.reverse ++ st).map (cv ad))).monitorRoom + ((st.map (cv ad)).map fun v => v.category).sum ≤ 8 := by
    show 2 * 0 + _ ≤ 8
    omega
  have hrevm : (as.reverse ++ st).map (cv ad) = (as.map (cv ad)).reverse ++ st.map (cv ad) := by
    rw [List.map_append, List.map_reverse]
  have hrm : (rmM j).frames + 1 ≤ R.frames ∧ 8 + (cN j + 11) + (rmM j).locals ≤ R.locals := by rw [hR]; exact ⟨r1, r2⟩
  have hcs : n + (rmM j).cells ≤ R.cells ∧ k + (rmM j).slots ≤ R.slots := by rw [hR]; exact ⟨r3, r4⟩
  have hini1 := hts _ (inH_ok hini0)
  have hfix : CallFix p m c (cB M) (cN M) s args GW (cNm (cC M)) := ⟨hx, hb0, hml, hown, hts⟩
  have hpre : ∀ U : State, U.heap = H → s.WarmedH U.vm → va_Pc (as.map (cv ad)) (PRE D t ad g H.size) (as.map (cv ad)).toArray U := fun U hU hW => ⟨rfl, PRE_at hKS hA hZ hP hS hU hW⟩
  rw [hrevm]
  rw [hrevm] at hsum2
  match kd, hd, hm, hC, hkd with
  | 0, hd, hm, hC, hkd =>
    simp only [Bool.and_eq_true, decide_eq_true_eq, beq_iff_eq, List.isEmpty_iff] at hkd
    obtain ⟨⟨⟨⟨⟨⟨⟨k1, k2⟩, k3⟩, k4⟩, k5⟩, k6⟩, k7⟩, k8⟩ := hkd
    obtain ⟨tl, rfl, htl, hbn⟩ := hC
    have hcode := inH_ok k4
    have hrecv : ∃ cellB : Cell, H[ad (cC j)]? = some cellB ∧ cellB.vm.isStatics = false ∧ s.vm.findClass (cY j).cls = some cellB.cls := by
      obtain ⟨i, -, hw⟩ := wld_at (t := t) (ad := ad) hbn
      rw [cel_obj k8] at hw
      rw [← k6]
      exact va_recv hKS.1 hP.1 (cl_ok _ k7) hw
    have e1 := cW_code k5
    have hcb : CallW R s args (cNm (cC M)) (cY j).cls ix (cY j) (cB j) (cN j) (cR j) (cW j) (rmM j) (rmM j).cells (rmM j).slots (cP j) :=
      ⟨⟨rfl, rfl, hrm.1, hrm.2, GW_goes (cW_in e1 hcode) hts, by rw [e1]; exact List.mem_cons_self, hts _ hcode, hini1, ⟨hy1, hy2⟩, hpar2, hts _ (inH_ok k1)⟩, hts _ (inH_ok k2), hts _ (inH_ok k3)⟩
    rw [List.map_cons, List.reverse_cons, List.append_assoc] at hsum2 ⊢
    exact call_close C hl hP hS (vx_runV (As := tl.map (cv ad)) (b := ad (cC j)) hfix hM hcb ⟨PRE_blind, hrecv, hpre⟩ rfl (by rw [List.length_map]; exact htl) hl.1.1 rfl hsum2 hd hcs)
  | 1, hd, hm, hC, hkd =>
    simp only [Bool.and_eq_true, decide_eq_true_eq, List.isEmpty_iff] at hkd
    obtain ⟨⟨⟨k1, k2⟩, k3⟩, k4⟩ := hkd
    have hcode := inH_ok k3
    have e1 := cW_code k4
    exact call_close C hl hP hS (vx_runS (As := as.map (cv ad)) (n := cP j) hfix hM ⟨⟨rfl, rfl, hrm.1, hrm.2, GW_goes (cW_in e1 hcode) hts, by rw [e1]; exact List.mem_cons_self, hts _ hcode, hini1, ⟨hy1, hy2⟩, hpar2, hts _ (inH_ok k1)⟩, hts _ (inH_ok k2)⟩ ⟨PRE_blind, hpre⟩ rfl (by rw [List.length_map]; exact hC) hl.1.1 rfl hsum2 hd hcs)
  | 2, hd, hm, hC, hkd =>
    simp only [Bool.and_eq_true, decide_eq_true_eq, beq_iff_eq, List.isEmpty_iff, Option.isNone_iff_eq_none] at hkd
    obtain ⟨⟨⟨⟨⟨k1, k2⟩, k3⟩, k4⟩, k5⟩, k6⟩ := hkd
    obtain ⟨o, tl, rfl, htl⟩ := hC
    have hcode := inH_ok k3
    have e1 := cW_code k4
    rw [k6] at e1
    rw [List.map_cons, List.reverse_cons, List.append_assoc] at hsum2 ⊢
    exact call_close C hl hP hS (vx_runI (As := tl.map (cv ad)) (b := ad o) (n := cP j) hfix hM ⟨⟨rfl, rfl, hrm.1, hrm.2, GW_goes (cW_in e1 hcode) hts, by rw [e1]; exact List.mem_cons_self, hts _ hcode, hini1, ⟨hy1, hy2⟩, hpar2, hts _ (inH_ok k1)⟩, k5, hts _ (inH_ok k2)⟩ ⟨PRE_blind, hpre⟩ rfl (by rw [List.length_map]; exact htl) hl.1.1 rfl hsum2 hd hcs)
  | 3, hd, hm, hC, hkd =>
    simp only [Bool.and_eq_true, decide_eq_true_eq, List.isEmpty_iff] at hkd
    obtain ⟨⟨⟨k1, k2⟩, k3⟩, k4⟩ := hkd
    have hcode := inH_ok k3
    have e1 := cW_code k4
    exact call_close C hl hP hS (vx_runSN (As := as.map (cv ad)) (n := cP j) (host := RX5) hfix hM ⟨⟨⟨rfl, rfl, hrm.1, hrm.2, GW_goes (cW_in e1 hcode) hts, by rw [e1]; exact List.mem_cons_self⟩, hts _ hcode, hini1, ⟨hy1, hy2⟩, hpar2, (hKS.2.1 _ (List.mem_filter.mpr ⟨inN_ok k1, rfl⟩)).use rfl⟩, hts _ (inH_ok k2), trivial⟩ ⟨PRE_blind, hpre⟩ rfl (by rw [List.length_map]; exact hC) hl.1.1 rfl hsum2 hd hcs)
  | 4, hd, hm, hC, hkd =>
    simp only [Bool.and_eq_true, decide_eq_true_eq, beq_iff_eq, List.isEmpty_iff, Option.isNone_iff_eq_none] at hkd
    obtain ⟨⟨⟨⟨⟨k1, k2⟩, k3⟩, k4⟩, k5⟩, k6⟩ := hkd
    obtain ⟨o, tl, rfl, htl⟩ := hC
    have hcode := inH_ok k3
    have e1 := cW_code k4
    rw [k6] at e1
    rw [List.map_cons, List.reverse_cons, List.append_assoc] at hsum2 ⊢
    exact call_close C hl hP hS (vx_runIN (As := tl.map (cv ad)) (b := ad o) (n := cP j) (host := RX5) hfix hM ⟨⟨⟨rfl, rfl, hrm.1, hrm.2, GW_goes (cW_in e1 hcode) hts, by rw [e1]; exact List.mem_cons_self⟩, hts _ hcode, hini1, ⟨hy1, hy2⟩, hpar2, (hKS.2.1 _ (List.mem_filter.mpr ⟨inN_ok k1, rfl⟩)).use rfl⟩, k5, hts _ (inH_ok k2)⟩ ⟨PRE_blind, hpre⟩ rfl (by rw [List.length_map]; exact htl) hl.1.1 rfl hsum2 hd hcs)
  | 5, hd, hm, hC, hkd =>
    simp only [Bool.and_eq_true, decide_eq_true_eq, Bool.not_eq_true'] at hkd
    obtain ⟨⟨⟨k1, k2⟩, k3⟩, k4⟩ := hkd
    have hcode := inH_ok k3
    have e1 := cW_with (j := j) (fun z => by rw [z] at k4; cases k4)
    exact call_close C hl hP hS (vx_runSX (As := as.map (cv ad)) (n := cP j) (hh := cH j) hfix hM ⟨⟨rfl, rfl, hrm.1, hrm.2, GW_goes (cW_in e1 hcode) hts, by rw [e1]; exact List.mem_cons_self⟩, hts _ hcode, hini1, ⟨hy1, hy2⟩, hpar2, hts _ (inH_ok k1), hts _ (inH_ok k2)⟩ ⟨PRE_blind, hpre⟩ rfl (by rw [List.length_map]; exact hC) hl.1.1 rfl hsum2 hd hcs)
  | (q + 6), hd, hm, hC, hkd => cases hkd
end SC2
