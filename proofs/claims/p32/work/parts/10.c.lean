theorem mT_all : (mTH.all fun q => mchk q.1 q.2) = true := by
  unfold mTH
  simp only [List.all_append, Bool.and_eq_true]
  exact ⟨mT_all_0, ⟨mT_all_1, ⟨mT_all_2, ⟨mT_all_3, ⟨mT_all_4, ⟨mT_all_5, ⟨mT_all_6, ⟨mT_all_7, ⟨mT_all_8, ⟨mT_all_9, ⟨mT_all_10, ⟨mT_all_11, ⟨mT_all_12, ⟨mT_all_13, ⟨mT_all_14, ⟨mT_all_15, ⟨mT_all_16, ⟨mT_all_17, ⟨mT_all_18, ⟨mT_all_19, ⟨mT_all_20, ⟨mT_all_21, ⟨mT_all_22, ⟨mT_all_23, ⟨mT_all_24, ⟨mT_all_25, ⟨mT_all_26, ⟨mT_all_27, ⟨mT_all_28, ⟨mT_all_29, ⟨mT_all_30, ⟨mT_all_31, ⟨mT_all_32, ⟨mT_all_33, ⟨mT_all_34, ⟨mT_all_35, ⟨mT_all_36, ⟨mT_all_37, ⟨mT_all_38, ⟨mT_all_39, ⟨mT_all_40, ⟨mT_all_41, ⟨mT_all_42, mT_all_43⟩⟩⟩⟩⟩⟩⟩⟩⟩⟩⟩⟩⟩⟩⟩⟩⟩⟩⟩⟩⟩⟩⟩⟩⟩⟩⟩⟩⟩⟩⟩⟩⟩⟩⟩⟩⟩⟩⟩⟩⟩⟩⟩
theorem mT_map : mTL = mTH.map (fun q => q.1) := by decide +kernel
theorem mT_get {x : Nat × Nat × Nat × Nat} (hx : x ∈ mTL) : ∃ h, mchk x h = true := by
  rw [mT_map] at hx
  obtain ⟨q, hq, rfl⟩ := List.mem_map.mp hx
  exact ⟨q.2, List.all_eq_true.mp mT_all q hq⟩
theorem GW_goes {ws : List Cond} {args : Array Value} {s : State} (h0 : ∀ w ∈ ws, w ∈ GW) (hts : ∀ w ∈ GW, w.before args s = true) : ∀ w ∈ ws, ∀ (a' : Array Value) (U : State), s.WarmedH U.vm → w.before a' U = true :=
  pay_in hts (fun w hw => ⟨h0 w hw, good_of_word (List.mem_filter.mp (h0 w hw)).2⟩)
theorem cW_code {j : Nat} (h : cH j = []) : cW j = Cond.code (cY j) (cB j) (cN j) (cR j) :: GW := if_pos h
theorem cW_with {j : Nat} (h : cH j ≠ []) : cW j = Cond.codeWith (cY j) (cB j) (cN j) (cR j) (cH j) :: GW := if_neg h
theorem cW_in {j : Nat} {w0 : Cond} (e : cW j = w0 :: GW) (h : w0 ∈ GW) : ∀ w ∈ cW j, w ∈ GW := by
  rw [e]
  intro w hw
  rcases List.mem_cons.mp hw with rfl | h1
  · exact h
  · exact h1
section SC2
variable {S : Nat × (Nat → Int32)} {M pc : Nat} {ls : LC} {st : List Value} {g : SG} {n k : Nat} {K : Out → SG → Prop}
/-- which instruction a kind of call is -/
def cIns (kd ix : Nat) : Instr := match kd with
  | 0 => .invokevirtual ix
  | 2 => .invokespecial ix
  | 4 => .invokespecial ix
  | _ => .invokestatic ix
/-- which arguments a kind of call wants -/
def cArg (kd j nb : Nat) (as : List Value) : Prop := match kd with
  | 0 => ∃ tl, as = .ref (cC j) :: tl ∧ tl.length = cP j ∧ bnn nb (cC j) = true
  | 2 => ∃ o tl, as = .ref o :: tl ∧ tl.length = cP j
  | 4 => ∃ o tl, as = .ref o :: tl ∧ tl.length = cP j
  | _ => as.length = cP j
theorem sd_call {S2 : Nat × (Nat → Int32)} {ix j kd v : Nat} {hs : List Nat} {as : List Value} (hd : decode (cB M) pc = .ok (cIns kd ix, 3)) (hm : (cC M, ix, j, kd) ∈ mTL) (hC : cArg kd j g.1 as) (hst : (st.map Value.category).sum ≤ 8) (hj : scM j = true → S2 = S ∧ scM M = true) (r1 : (rmM j).frames + 1 ≤ (rmM M).frames) (r2 : 8 + (cN j + 11) + (rmM j).locals ≤ (rmM M).locals) (r3 : n + (rmM j).cells ≤ (rmM M).cells) (r4 : k + (rmM j).slots ≤ (rmM M).slots)
    (h : CTS S2 j as g (CNT S M pc v hs ls st (n + (rmM j).cells) (k + (rmM j).slots) K)) : X S M pc ls (as.reverse ++ st) g n k K := by
  intro p l e R s m args below meth c D t ad A Q C H locs lsM hl hP hS
  obtain ⟨hx, hb0, hml, hown, hts, hlocks, hr, hini, hR, htr, hex, hKS, hA, hZ, hscr⟩ := C.1
  have hM := h l D t ad H.size htr
  obtain ⟨hh0, hmk⟩ := mT_get hm
  unfold mchk at hmk
  simp only [Bool.and_eq_true, decide_eq_true_eq, bne_iff_ne] at hmk
  obtain ⟨hini0, hy1, hy2, hpar, hkd⟩ := hmk
  have hpar2 : ∀ sig, parseMethodDescriptor (cY j).desc = some sig → cP j = sig.parameters.length := by
    intro sig hsig
    rw [hsig] at hpar
    exact (Option.some.inj hpar).symm
  have hsum : ((st.map (cv ad)).map fun v => v.category).sum ≤ 8 := by
    rw [List.map_map]
    have e : ((fun v => v.category) ∘ cv ad) = Value.category := funext fun v => cv_cat ad v
    rw [e]
    exact hst
  have hsum2 : 2 * (F0 m pc lsM ((as.reverse ++ st).map (cv ad))).monitorRoom + ((st.map (cv ad)).map fun v => v.category).sum ≤ 8 := by
    show 2 * 0 + _ ≤ 8
    omega
  have hrevm : (as.reverse ++ st).map (cv ad) = (as.map (cv ad)).reverse ++ st.map (cv ad) := by
    rw [List.map_append, List.map_reverse]
  have hrm : (rmM j).frames + 1 ≤ R.frames ∧ 8 + (cN j + 11) + (rmM j).locals ≤ R.locals := by rw [hR]; exact ⟨r1, r2⟩
  have hcs : n + (rmM j).cells ≤ R.cells ∧ k + (rmM j).slots ≤ R.slots := by rw [hR]; exact ⟨r3, r4⟩
  have hini1 := hts _ (inH_ok hini0)
  have hfix : CallFix p m c (cB M) (cN M) s args GW (cNm (cC M)) := ⟨hx, hb0, hml, hown, hts⟩
  have hpre : ∀ U : State, U.heap = H → s.WarmedH U.vm → va_Pc (as.map (cv ad)) (PRE S2 j D t ad g H.size) (as.map (cv ad)).toArray U := fun U hU hW => ⟨rfl, PRE_at hKS hA hZ hscr hj hP hS hU hW⟩
  rw [hrevm]
  rw [hrevm] at hsum2
  match kd, hd, hm, hC, hkd with
  | 0, hd, hm, hC, hkd =>
    simp only [Bool.and_eq_true, decide_eq_true_eq, beq_iff_eq, List.isEmpty_iff] at hkd
    obtain ⟨⟨⟨⟨⟨⟨⟨k1, k2⟩, k3⟩, k4⟩, k5⟩, k6⟩, k7⟩, k8⟩ := hkd
    obtain ⟨tl, rfl, htl, hbn⟩ := hC
    have hcode := inH_ok k4
    have hrecv : ∃ cellB : Cell, H[ad (cC j)]? = some cellB ∧ cellB.vm.isStatics = false ∧ s.vm.findClass (cY j).cls = some cellB.cls := by
      obtain ⟨i, -, hw⟩ := wld_at (t := t) (ad := ad) hbn
      rw [cel_obj k8] at hw
      rw [← k6]
      exact va_recv hKS.1 hP.1 (cl_ok _ k7) hw
    have e1 := cW_code k5
    have hcb : CallW R s args (cNm (cC M)) (cY j).cls ix (cY j) (cB j) (cN j) (cR j) (cW j) (rmM j) (rmM j).cells (rmM j).slots (cP j) :=
      ⟨⟨rfl, rfl, hrm.1, hrm.2, GW_goes (cW_in e1 hcode) hts, by rw [e1]; exact List.mem_cons_self, hts _ hcode, hini1, ⟨hy1, hy2⟩, hpar2, hts _ (inH_ok k1)⟩, hts _ (inH_ok k2), hts _ (inH_ok k3)⟩
    rw [List.map_cons, List.reverse_cons, List.append_assoc] at hsum2 ⊢
    exact call_close C hl hP hS (vx_runV (As := tl.map (cv ad)) (b := ad (cC j)) hfix hM hcb ⟨PRE_blind, hrecv, hpre⟩ rfl (by rw [List.length_map]; exact htl) hl.1.1 rfl hsum2 hd hcs)
  | 1, hd, hm, hC, hkd =>
    simp only [Bool.and_eq_true, decide_eq_true_eq, List.isEmpty_iff] at hkd
    obtain ⟨⟨⟨k1, k2⟩, k3⟩, k4⟩ := hkd
    have hcode := inH_ok k3
    have e1 := cW_code k4
    exact call_close C hl hP hS (vx_runS (As := as.map (cv ad)) (n := cP j) hfix hM ⟨⟨rfl, rfl, hrm.1, hrm.2, GW_goes (cW_in e1 hcode) hts, by rw [e1]; exact List.mem_cons_self, hts _ hcode, hini1, ⟨hy1, hy2⟩, hpar2, hts _ (inH_ok k1)⟩, hts _ (inH_ok k2)⟩ ⟨PRE_blind, hpre⟩ rfl (by rw [List.length_map]; exact hC) hl.1.1 rfl hsum2 hd hcs)
  | 2, hd, hm, hC, hkd =>
    simp only [Bool.and_eq_true, decide_eq_true_eq, beq_iff_eq, List.isEmpty_iff, Option.isNone_iff_eq_none] at hkd
    obtain ⟨⟨⟨⟨⟨k1, k2⟩, k3⟩, k4⟩, k5⟩, k6⟩ := hkd
    obtain ⟨o, tl, rfl, htl⟩ := hC
    have hcode := inH_ok k3
    have e1 := cW_code k4
    rw [k6] at e1
    rw [List.map_cons, List.reverse_cons, List.append_assoc] at hsum2 ⊢
    exact call_close C hl hP hS (vx_runI (As := tl.map (cv ad)) (b := ad o) (n := cP j) hfix hM ⟨⟨rfl, rfl, hrm.1, hrm.2, GW_goes (cW_in e1 hcode) hts, by rw [e1]; exact List.mem_cons_self, hts _ hcode, hini1, ⟨hy1, hy2⟩, hpar2, hts _ (inH_ok k1)⟩, k5, hts _ (inH_ok k2)⟩ ⟨PRE_blind, hpre⟩ rfl (by rw [List.length_map]; exact htl) hl.1.1 rfl hsum2 hd hcs)
  | 3, hd, hm, hC, hkd =>
    simp only [Bool.and_eq_true, decide_eq_true_eq, List.isEmpty_iff] at hkd
    obtain ⟨⟨⟨k1, k2⟩, k3⟩, k4⟩ := hkd
    have hcode := inH_ok k3
    have e1 := cW_code k4
    exact call_close C hl hP hS (vx_runSN (As := as.map (cv ad)) (n := cP j) (host := RX5) hfix hM ⟨⟨⟨rfl, rfl, hrm.1, hrm.2, GW_goes (cW_in e1 hcode) hts, by rw [e1]; exact List.mem_cons_self⟩, hts _ hcode, hini1, ⟨hy1, hy2⟩, hpar2, (hKS.2.1 _ (List.mem_filter.mpr ⟨inN_ok k1, rfl⟩)).use rfl⟩, hts _ (inH_ok k2), trivial⟩ ⟨PRE_blind, hpre⟩ rfl (by rw [List.length_map]; exact hC) hl.1.1 rfl hsum2 hd hcs)
  | 4, hd, hm, hC, hkd =>
    simp only [Bool.and_eq_true, decide_eq_true_eq, beq_iff_eq, List.isEmpty_iff, Option.isNone_iff_eq_none] at hkd
    obtain ⟨⟨⟨⟨⟨k1, k2⟩, k3⟩, k4⟩, k5⟩, k6⟩ := hkd
    obtain ⟨o, tl, rfl, htl⟩ := hC
    have hcode := inH_ok k3
    have e1 := cW_code k4
    rw [k6] at e1
    rw [List.map_cons, List.reverse_cons, List.append_assoc] at hsum2 ⊢
    exact call_close C hl hP hS (vx_runIN (As := tl.map (cv ad)) (b := ad o) (n := cP j) (host := RX5) hfix hM ⟨⟨⟨rfl, rfl, hrm.1, hrm.2, GW_goes (cW_in e1 hcode) hts, by rw [e1]; exact List.mem_cons_self⟩, hts _ hcode, hini1, ⟨hy1, hy2⟩, hpar2, (hKS.2.1 _ (List.mem_filter.mpr ⟨inN_ok k1, rfl⟩)).use rfl⟩, k5, hts _ (inH_ok k2)⟩ ⟨PRE_blind, hpre⟩ rfl (by rw [List.length_map]; exact htl) hl.1.1 rfl hsum2 hd hcs)
  | 5, hd, hm, hC, hkd =>
    simp only [Bool.and_eq_true, decide_eq_true_eq, Bool.not_eq_true'] at hkd
    obtain ⟨⟨⟨k1, k2⟩, k3⟩, k4⟩ := hkd
    have hcode := inH_ok k3
    have e1 := cW_with (j := j) (fun z => by rw [z] at k4; cases k4)
    exact call_close C hl hP hS (vx_runSX (As := as.map (cv ad)) (n := cP j) (hh := cH j) hfix hM ⟨⟨rfl, rfl, hrm.1, hrm.2, GW_goes (cW_in e1 hcode) hts, by rw [e1]; exact List.mem_cons_self⟩, hts _ hcode, hini1, ⟨hy1, hy2⟩, hpar2, hts _ (inH_ok k1), hts _ (inH_ok k2)⟩ ⟨PRE_blind, hpre⟩ rfl (by rw [List.length_map]; exact hC) hl.1.1 rfl hsum2 hd hcs)
  | (q + 6), hd, hm, hC, hkd => cases hkd
end SC2
