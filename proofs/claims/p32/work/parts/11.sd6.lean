/-! from a walk of the body to the call -/
theorem plain_ok : ∀ j, j < nMeth → plainName (cY j).cls = true := by decide +kernel
theorem own_ok : ∀ j, j < nMeth - 1 → cNm (cC j) = (cY j).cls := by decide +kernel
theorem ini_ok : ∀ j, j < nMeth - 1 → cI j = true → (cY j).name = "<init>" := by decide +kernel
theorem hh_ret : ∀ j, j < nMeth - 1 → cH j ≠ [] ∨ cH j = [] := fun j _ => by cases h : cH j <;> simp
/-- where an exception is made: its words -/
def thrC : List (Nat × Nat × Nat × Nat × Nat × Nat × Bool) := (List.range nMeth).filterMap fun j => (thT j).map fun x => (j, x)
def tchk (x : Nat × Nat × Nat × Nat × Nat × Nat × Bool) : Bool :=
  let j := x.1; let E := x.2.1; let pc := x.2.2.1; let ik := x.2.2.2.1; let is := x.2.2.2.2.1; let ic := x.2.2.2.2.2.1; let wd := x.2.2.2.2.2.2
  decide (cC j = 5) && (cH j).isEmpty && Bundle.fit (exN E) && inW (Cond.classLink RX5 ik (exN E)) && inW (Cond.initialized (exN E)) && ((vx_atS RX5 ic (exN E) ["java/lang/RuntimeException", "java/lang/Exception"]).all fun w => inW w || (nwOk w && decide (w ∈ tables_1))) &&
  ((Cond.classLink RX5 ik (exN E) :: Cond.initialized (exN E) :: vx_atS RX5 ic (exN E) ["java/lang/RuntimeException", "java/lang/Exception"]).all vx_ot) && decide (5 < (rmM j).frames) && decide (82 ≤ (rmM j).locals) && (strL.any fun z => z.1 == is) &&
  (if wd then decide (decode (cB j) pc = .ok (.new ik, 3)) && decide (decode (cB j) (pc + 3) = .ok (.dup, 1)) && decide (decode (cB j) (pc + 4) = .ok (.ldc_w is, 3)) && decide (decode (cB j) (pc + 7) = .ok (.invokespecial ic, 3)) && decide (decode (cB j) (pc + 10) = .ok (.athrow, 1))
   else decide (decode (cB j) pc = .ok (.new ik, 3)) && decide (decode (cB j) (pc + 3) = .ok (.dup, 1)) && decide (decode (cB j) (pc + 4) = .ok (.ldc is, 2)) && decide (decode (cB j) (pc + 6) = .ok (.invokespecial ic, 3)) && decide (decode (cB j) (pc + 9) = .ok (.athrow, 1)))
theorem tchk_0 : (thT mX5_needIndex).all (fun x => tchk (mX5_needIndex, x)) = true := by decide +kernel
theorem tchk_1 : (thT mX5_needArgument).all (fun x => tchk (mX5_needArgument, x)) = true := by decide +kernel
theorem tchk_2 : (thT mX5_needState).all (fun x => tchk (mX5_needState, x)) = true := by decide +kernel
theorem thT_3 {j : Nat} {x : Nat × Nat × Nat × Nat × Nat × Bool} (h : thT j = some x) : j = mX5_needIndex ∨ j = mX5_needArgument ∨ j = mX5_needState := by
  unfold thT at h
  split at h
  · exact Or.inl rfl
  · exact Or.inr (Or.inl rfl)
  · exact Or.inr (Or.inr rfl)
  · cases h
theorem tchk_ok {j : Nat} {x : Nat × Nat × Nat × Nat × Nat × Bool} (h : thT j = some x) : tchk (j, x) = true := by
  rcases thT_3 h with rfl | rfl | rfl
  · have := tchk_0; rw [h] at this; exact this
  · have := tchk_1; rw [h] at this; exact this
  · have := tchk_2; rw [h] at this; exact this
/-- the locals at a method's start -/
def ent (j : Nat) (as : List Value) : LC := as.map some ++ List.replicate (cN j - as.length) none
theorem lvargs_get : ∀ (as : List Value) (i a : Nat) (v : Value), (∀ w ∈ as, w.category = 1) → as[a]? = some v → (i + a, v) ∈ lv_args i as
  | [], i, a, v, _, h => by simp at h
  | w :: r, i, 0, v, _, h => by
    simp at h
    subst h
    unfold lv_args
    exact List.mem_cons_self
  | w :: r, i, a + 1, v, hc, h => by
    rw [List.getElem?_cons_succ] at h
    unfold lv_args
    refine List.mem_cons_of_mem _ ?_
    rw [hc w List.mem_cons_self]
    have := lvargs_get r (i + 1) a v (fun w hw => hc w (List.mem_cons_of_mem _ hw)) h
    rw [show i + (a + 1) = i + 1 + a by omega]
    exact this
theorem lgsl_len : ∀ (as : List Value), (∀ w ∈ as, w.category = 1) → (lg_sl as).length = as.length
  | [], _ => rfl
  | w :: r, hc => by
    have h1 := lgsl_len r (fun w hw => hc w (List.mem_cons_of_mem _ hw))
    have h2 := hc w List.mem_cons_self
    have e : lg_sl (w :: r) = (if w.category = 2 then [Slot.val w, Slot.second] else [Slot.val w]) ++ lg_sl r := rfl
    rw [e, if_neg (by omega), List.length_append, h1, List.length_cons, List.length_cons, List.length_nil]
    omega
theorem ent_lvh {j : Nat} {ad : Nat → Nat} {as : List Value} (hc : ∀ w ∈ as, w.category = 1) (hn : as.length ≤ cN j) :
    lvh ((lg_sl (as.map (cv ad)) ++ List.replicate (cN j - (lg_sl (as.map (cv ad))).length) Slot.unset).toArray) (cN j) ad (ent j as) := by
  have hc2 : ∀ w ∈ as.map (cv ad), w.category = 1 := by
    intro w hw
    obtain ⟨v, hv, rfl⟩ := List.mem_map.mp hw
    rw [cv_cat]
    exact hc v hv
  have hlen := lgsl_len (as.map (cv ad)) hc2
  have hl := lv_entry (as.map (cv ad)) (n := cN j) (by rw [hlen, List.length_map]; exact hn)
  refine ⟨lvh_nil hl, fun a v e => ?_⟩
  unfold ent at e
  by_cases ha : a < as.length
  · rw [List.getElem?_append_left (by rw [List.length_map]; exact ha), List.getElem?_map] at e
    cases hq : as[a]? with
    | none => rw [hq] at e; cases e
    | some w =>
      rw [hq] at e
      cases e
      have := lvargs_get (as.map (cv ad)) 0 a (cv ad v) hc2 (by rw [List.getElem?_map, hq]; rfl)
      rw [Nat.zero_add] at this
      exact ⟨hl.2.2 _ this, hc v (List.mem_of_getElem? hq)⟩
  · rw [List.getElem?_append_right (by rw [List.length_map]; omega), List.getElem?_replicate] at e
    split at e <;> cases e
theorem tableOf_nil {hh : List (Nat × Nat × Nat × Nat)} (h : hh = []) : tableOf hh = [] := by
  subst h
  rfl
set_option maxHeartbeats 4000000 in
theorem CTS_of {S : Nat × (Nat → Int32)} {j : Nat} {as : List Value} {g : SG} {K : Out → SG → Prop} (hj : j < nMeth - 1) (hc : ∀ w ∈ as, w.category = 1) (hn : as.length ≤ cN j) (h : X S j 0 (ent j as) [] g 0 0 K) : CTS S j as g K := by
  intro l D t ad sz htr
  have hplain := plain_ok j (by omega)
  have body : ∀ (p : Program) (e : Env) (s : State) (m : MethodId) (args : Array Value) (below : List Frame) (meth : Method) (c : Code) (s₁ : State),
      BodyLoose p l (cY j) (headSpec (cW j) (rmM j)) (cB j) (cN j) (cR j) e s m args below meth c s₁ → c.maxLocals = cN j → c.exceptionTable.toList = tableOf (cH j) → va_Pc (as.map (cv ad)) (PRE S j D t ad g sz) args s →
      W p l e (headSpec (cW j) (rmM j)).room s m args below meth c s.heap [] 0 0 (vx_MQ below (QC j D t ad (wA t ad g sz) K) (XCK D t ad (wA t ad g sz) K) args s (rmM j).cells (rmM j).slots (wA t ad g sz)) (entryFrame m args (cN j)) := by
    intro p e s m args below meth c s₁ B hml hex hv
    obtain ⟨rfl, hsz, hKS, hP, hZ, hscr⟩ := hv
    have hws := atoms_spec (ws := cW j) B.pre
    have hts : ∀ w ∈ GW, w.before (as.map (cv ad)).toArray s = true := by
      intro w hw
      refine hws w ?_
      unfold cW
      split <;> exact List.mem_cons_of_mem _ hw
    have hown : s.vm.findClass (cNm (cC j)) = some m.cls := by
      rw [own_ok j hj]
      exact findClass_of_methodNamed B.named
    have hA : ∀ q, s.heap.size ≤ q → wA t ad g sz q := fun q hq => Or.inr (by rw [← hsz]; exact hq)
    have hup : ∀ {U : SG} {T : State} {H1 : Heap}, T.heap = H1 → PIC D t ad (wA t ad g sz) U H1 → PIC D t ad (wA t ad g sz) U T.heap := by
      intro U T H1 ht hB
      rw [ht]
      exact hB
    have C : CTX S j p l e (rmM j) s m (as.map (cv ad)).toArray below meth c D t ad (wA t ad g sz) (vx_MQ below (QC j D t ad (wA t ad g sz) K) (XCK D t ad (wA t ad g sz) K) (as.map (cv ad)).toArray s (rmM j).cells (rmM j).slots (wA t ad g sz)) K := by
      refine ⟨⟨B.exec, B.bytes, hml, hown, hts, B.notSynchronized, B.returns, fun hI => ((name_of_methodNamed B.named B.method).1).trans (ini_ok j hj hI), rfl, htr, hex, hKS, hA, hZ, fun z => by rw [hsz]; exact hscr z⟩, ?_, ?_, ?_⟩
      · intro v g2 H2 locs n k pc lsM hK hP2 hS2 hn2 hk2 hr2
        refine W.widen hn2 hk2 (vx_ret ?_)
        cases v with
        | none =>
          obtain ⟨hr3, hd⟩ := hr2
          refine W.vret B.exec B.bytes (B.returns.trans hr3) (fun T hT hW => ?_) hS2.2.2 hd B.notSynchronized
          unfold QC
          rw [hr3]
          exact ⟨⟨g2, rfl, hK, hup hT hP2⟩, hS2.F hT⟩
        | some x =>
          obtain ⟨⟨ty, hr3, hnw⟩, hd⟩ := hr2
          refine W.zret B.exec B.bytes (B.returns.trans hr3) hnw (fun T hT hW => ?_) hS2.2.2 hd B.notSynchronized
          unfold QC
          rw [hr3]
          exact ⟨⟨x, g2, rfl, hK, hup hT hP2⟩, hS2.F hT⟩
      · intro E g2 H2 locs n k pc lsM rest q ce hK hP2 hS2 hn2 hk2 hH hce hcv hcl
        refine vx_out (E := exN E) (fun x hx => ?_) B.notSynchronized hce hcv hcl (fun T hT hW => ?_) hS2.2.2 hn2 hk2
        · rw [hex, tableOf_nil hH] at hx
          cases hx
        · exact ⟨(E, g2), hK, ⟨rfl, hup hT hP2⟩, hS2.F hT⟩
      · intro E g2 H2 locs n k pc lsM ik is ic wd hK hP2 hg2 hS2 hn2 hk2 hth hls
        have ht := tchk_ok hth
        unfold tchk at ht
        simp only [Bool.and_eq_true, decide_eq_true_eq, List.isEmpty_iff] at ht
        obtain ⟨⟨⟨⟨⟨⟨⟨⟨⟨⟨t1, t2⟩, t3⟩, t4⟩, t5⟩, t6⟩, t7⟩, t8⟩, t9⟩, t10⟩, t11⟩ := ht
        have hown5 : s.vm.findClass RX5 = some m.cls := by
          have := hown
          rw [t1] at this
          exact this
        obtain ⟨z, hz, hzi⟩ := List.any_eq_true.mp t10
        obtain ⟨a, ha⟩ := hKS.2.2.1 z hz
        have hzi2 : z.1 = is := by simpa using hzi
        rw [hzi2] at ha
        have hat : ∀ w ∈ vx_atS RX5 ic (exN E) ["java/lang/RuntimeException", "java/lang/Exception"], w.before (as.map (cv ad)).toArray s = true := by
          intro w hw
          have h1 := List.all_eq_true.mp t6 w hw
          simp only [Bool.or_eq_true, Bool.and_eq_true, decide_eq_true_eq] at h1
          rcases h1 with h1 | ⟨h1, h2⟩
          · exact hts _ (inW_ok h1)
          · exact (hKS.2.1 w (List.mem_filter.mpr ⟨h2, h1⟩)).use (nw_tab h1)
        have hno : c.exceptionTable.toList = [] := by rw [hex, tableOf_nil t2]
        have hfresh : ∀ T : State, s.vm.Alike T.vm → H2.size ≤ T.heap.size → (∀ q : Nat, q < H2.size → T.heap[q]? = H2[q]?) → XCK D t ad (wA t ad g sz) K (exN E) s T := by
          intro T hW hz1 hz2
          refine ⟨(E, g2), hK, ⟨rfl, ⟨hP2.1.kept (fun k x hx => hz2 x.1 ((hP2.1 k x hx).lt)), hP2.2.1, fun i q hi hq => ?_⟩⟩, Nat.le_trans hS2.1 hz1, fun q h1 h2 => (hz2 q (Nat.lt_of_lt_of_le h1 hS2.1)).trans (hS2.2.1 q h1 h2)⟩
          have h9 := (List.getElem?_eq_some_iff.mp hq).1
          rw [AO_len] at h9
          have hi2 : g2.1 ≤ i := hi
          exact absurd h9 (by omega)
        have hfitn : ∀ n ∈ ["java/lang/RuntimeException", "java/lang/Exception"], Bundle.fit n = true := by decide +kernel
        by_cases hwd : wd = true
        · rw [if_pos hwd] at t11
          simp only [Bool.and_eq_true, decide_eq_true_eq] at t11
          obtain ⟨⟨⟨⟨d0, d3⟩, d4⟩, d7⟩, d10⟩ := t11
          exact vx_throwSW (text := z.2) (sa := a) B.exec B.bytes htr hown5 t3 hfitn (hts _ (inW_ok t4)) (hts _ (inW_ok t5)) ha hat (fun w hw => List.all_eq_true.mp t7 w hw) hZ.1 hZ.2 hS2 (hls.trans hml.symm) d0 d3 d4 d7 d10 (fun x hx => by rw [hno] at hx; cases hx) t8 (by show 0 + _ ≤ _; exact t9) hn2 hk2 B.notSynchronized hfresh hS2.2.2 hn2 hk2
        · rw [if_neg hwd] at t11
          simp only [Bool.and_eq_true, decide_eq_true_eq] at t11
          obtain ⟨⟨⟨⟨d0, d3⟩, d4⟩, d6⟩, d9⟩ := t11
          exact vx_throwS (text := z.2) (sa := a) B.exec B.bytes htr hown5 t3 hfitn (hts _ (inW_ok t4)) (hts _ (inW_ok t5)) ha hat (fun w hw => List.all_eq_true.mp t7 w hw) hZ.1 hZ.2 hS2 (hls.trans hml.symm) d0 d3 d4 d6 d9 (fun x hx => by rw [hno] at hx; cases hx) t8 (by show 0 + _ ≤ _; exact t9) hn2 hk2 B.notSynchronized hfresh hS2.2.2 hn2 hk2
    rw [lg_entry_eq]
    exact h p l e (rmM j) s m _ below meth c D t ad (wA t ad g sz) _ C s.heap [] _ (ent_lvh hc hn) hP va_S.rf
  by_cases hH : cH j = []
  · exact vx_ofW hplain (cW_code hH) (fun p e s m args below meth c s₁ B hml hnone hv => body p e s m args below meth c s₁ B hml (by
      rw [tableOf_nil hH]
      exact List.eq_nil_iff_forall_not_mem.mpr hnone) hv)
  · refine vx_ofWH hplain (cW_with hH) (fun p e s m args below meth c s₁ B hml hv => ?_)
    have hmem : Cond.codeWith (cY j) (cB j) (cN j) (cR j) (cH j) ∈ cW j := by
      rw [cW_with hH]
      exact List.mem_cons_self
    exact body p e s m args below meth c s₁ B hml (vx_table (x := cY j) B (atoms_spec (ws := cW j) B.pre _ hmem)) hv
theorem CT_of {j : Nat} {as : List Value} {g : SG} {K : Out → SG → Prop} (hj : j < nMeth - 1) (hc : ∀ w ∈ as, w.category = 1) (hn : as.length ≤ cN j) (h : X S00 j 0 (ent j as) [] g 0 0 K) : CT j as g K := CTS_of hj hc hn h
theorem CTS_mono {S : Nat × (Nat → Int32)} {j : Nat} {as : List Value} {g : SG} {K K2 : Out → SG → Prop} (h : CTS S j as g K) (hK : ∀ o u, K o u → K2 o u) : CTS S j as g K2 := by
  intro l D t ad sz htr
  have h1 := h l D t ad sz htr
  refine MetFree.mono h1 (fun a s hp => hp) (fun _ _ _ _ _ z => z) ?_
  intro a s o T _ hq
  rcases hq with ⟨hq, hL⟩ | ⟨q, ho, E, ce, L, hx, h2⟩
  · refine Or.inl ⟨?_, hL⟩
    unfold QC at hq ⊢
    cases hcr : cR j with
    | none =>
      rw [hcr] at hq
      obtain ⟨⟨u, e1, e2, e3⟩, hF⟩ := hq
      exact ⟨⟨u, e1, hK _ _ e2, e3⟩, hF⟩
    | some ty =>
      rw [hcr] at hq
      obtain ⟨⟨r, u, e1, e2, e3⟩, hF⟩ := hq
      exact ⟨⟨r, u, e1, hK _ _ e2, e3⟩, hF⟩
  · obtain ⟨u, e1, e2⟩ := hx
    exact Or.inr ⟨q, ho, E, ce, L, ⟨u, hK _ _ e1, e2⟩, h2⟩
theorem CT_mono {j : Nat} {as : List Value} {g : SG} {K K2 : Out → SG → Prop} (h : CT j as g K) (hK : ∀ o u, K o u → K2 o u) : CT j as g K2 := CTS_mono h hK
