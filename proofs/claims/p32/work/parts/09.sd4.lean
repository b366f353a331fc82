/-! returns, throws, switches, calls -/
section SR
variable {S : Nat × (Nat → Int32)} {M pc : Nat} {ls : LC} {st : List Value} {g : SG} {n k : Nat} {K : Out → SG → Prop}
theorem sd_iret {x : Int32} (hd : decode (cB M) pc = .ok (.ireturn, 1)) (hr : ∃ ty, cR M = some ty ∧ narrow ty (.int x) = .int x) (hc : n ≤ (rmM M).cells) (hs : k ≤ (rmM M).slots) (h : K (.inl (some (.int x))) g) : X S M pc ls [.int x] g n k K := by
  intro p l e R s m args below meth c D t ad A Q C H locs lsM hl hP hS
  exact C.2.1 (some x) g H locs n k pc lsM h hP hS hc hs ⟨hr, hd⟩
theorem sd_vret (hd : decode (cB M) pc = .ok (.return_, 1)) (hr : cR M = none) (hc : n ≤ (rmM M).cells) (hs : k ≤ (rmM M).slots) (h : K (.inl none) g) : X S M pc ls [] g n k K := by
  intro p l e R s m args below meth c D t ad A Q C H locs lsM hl hP hS
  exact C.2.1 none g H locs n k pc lsM h hP hS hc hs ⟨hr, hd⟩
theorem sd_throw {E ik is ic : Nat} {wd : Bool} (ht : thT M = some (E, pc, ik, is, ic, wd)) (hg : g.1 = NB) (hc : n + 1 ≤ (rmM M).cells) (hs : k + 6 ≤ (rmM M).slots) (h : K (.inr E) g) : X S M pc ls [] g n k K := by
  intro p l e R s m args below meth c D t ad A Q C H locs lsM hl hP hS
  exact C.2.2.2 E g H locs n k pc lsM ik is ic wd h hP hg hS hc hs ht hl.1.1
theorem sd_switch {dflt lo hi : Int} {offs : Array Int} {len : Nat} {x : Int32} {hs : List Nat} {a : Nat} (hd : decode (cB M) pc = .ok (.tableswitch dflt lo hi offs, len)) (hhi : hi = lo + hs.length - 1) (hofs : ∀ j : Nat, j < hs.length → ∃ off : Int, offs[j]? = some off ∧ (pc : Int) + off = ((hs.getD j 0 : Nat) : Int)) (ht : (pc : Int) + dflt = (a : Int))
    (h1 : ∀ j tgt : Nat, hs[j]? = some tgt → x.toInt = lo + j → X S M tgt ls st g n k K) (h2 : (x.toInt < lo ∨ hi < x.toInt) → X S M a ls st g n k K) : X S M pc ls (.int x :: st) g n k K := by
  intro p l e R s m args below meth c D t ad A Q C H locs lsM hl hP hS
  by_cases hq : x.toInt < lo ∨ hi < x.toInt
  · exact lv_tableOut C.1.1 C.1.2.1 hd hq ht (h2 hq p l e R s m args below meth c D t ad A Q C H locs lsM hl hP hS)
  · have hq1 : ¬ x.toInt < lo := fun z => hq (Or.inl z)
    have hq2 : ¬ hi < x.toInt := fun z => hq (Or.inr z)
    have hj : (x.toInt - lo).toNat < hs.length := by omega
    obtain ⟨off, ho, he⟩ := hofs _ hj
    have hget : hs[(x.toInt - lo).toNat]? = some (hs.getD (x.toInt - lo).toNat 0) := by
      rw [List.getD_eq_getElem?_getD, List.getElem?_eq_getElem hj]
      rfl
    exact lv_tableIn C.1.1 C.1.2.1 hd hq1 hq2 ho he (h1 _ _ hget (by omega) p l e R s m args below meth c D t ad A Q C H locs lsM hl hP hS)
end SR
/-! handlers -/
def xT (o j : Nat) : Option Nat := (xTL.find? fun e => e.1 == o && e.2.1 == j).map fun e => e.2.2
theorem xT_all : (xTL.all fun e => decide (Cond.classLink (cNm e.1) e.2.1 (exN e.2.2) ∈ lw_tbl) && goodWord (Cond.classLink (cNm e.1) e.2.1 (exN e.2.2)) && decide (Cond.castable (exN e.2.2) (exN e.2.2) ∈ tables_1) && decide (e.2.2 < 3)) = true := by decide +kernel
theorem xT_ok {o j E : Nat} (h : xT o j = some E) : Cond.classLink (cNm o) j (exN E) ∈ GW ∧ Cond.castable (exN E) (exN E) ∈ NWL ∧ E < 3 := by
  unfold xT at h
  cases hf : xTL.find? (fun e => e.1 == o && e.2.1 == j) with
  | none => rw [hf] at h; cases h
  | some e =>
    rw [hf] at h
    cases h
    have h1 := List.find?_some hf
    have h2 := List.all_eq_true.mp xT_all e (List.mem_of_find?_eq_some hf)
    simp only [Bool.and_eq_true, decide_eq_true_eq, beq_iff_eq] at h1 h2
    obtain ⟨⟨⟨a1, a2⟩, a3⟩, a5⟩ := h2
    rw [h1.1, h1.2] at a1 a2
    exact ⟨GW_in a1 a2, List.mem_filter.mpr ⟨a3, rfl⟩, a5⟩
def hgo (o E pc : Nat) : List (Nat × Nat × Nat × Nat) → Option Nat
  | [] => none
  | (f, t, h, c) :: r => if f ≤ pc ∧ pc < t then (if c = 0 then none else (match xT o c with
      | none => none
      | some E2 => if E2 = E then some h else if E2 < E then hgo o E pc r else none)) else hgo o E pc r
theorem covers_iff (f t h c pc : Nat) : covers ⟨f, t, h, c⟩ pc = decide (f ≤ pc ∧ pc < t) := by
  unfold covers
  simp only [Bool.decide_and]
theorem hgo_spec {o E pc : Nat} : ∀ {hh : List (Nat × Nat × Nat × Nat)} {h : Nat}, hgo o E pc hh = some h → ∃ (pre : List ExceptionTableEntry) (x : ExceptionTableEntry) (suf : List ExceptionTableEntry), tableOf hh = pre ++ x :: suf ∧ (∀ z ∈ pre, covers z pc = false ∨ (z.catchType ≠ 0 ∧ ∃ E2, E2 < E ∧ xT o z.catchType = some E2)) ∧ covers x pc = true ∧ x.catchType ≠ 0 ∧ xT o x.catchType = some E ∧ x.handlerPc = h
  | [], h, e => by cases e
  | (f, t, h0, c) :: r, h, e => by
    unfold hgo at e
    split at e
    · rename_i hc
      split at e
      · cases e
      · rename_i hz
        split at e
        · cases e
        · rename_i E2 hx
          split at e
          · rename_i hE
            cases e
            subst hE
            refine ⟨[], ⟨f, t, h0, c⟩, tableOf r, rfl, (fun z hz => by cases hz), ?_, hz, hx, rfl⟩
            rw [covers_iff]
            exact decide_eq_true hc
          · split at e
            · rename_i hlt
              obtain ⟨pre, x, suf, e1, e2, e3⟩ := hgo_spec e
              refine ⟨⟨f, t, h0, c⟩ :: pre, x, suf, by show _ :: tableOf r = _; rw [e1]; rfl, fun z hz2 => ?_, e3⟩
              rcases List.mem_cons.mp hz2 with rfl | hz3
              · exact Or.inr ⟨hz, E2, hlt, hx⟩
              · exact e2 z hz3
            · cases e
    · rename_i hc
      obtain ⟨pre, x, suf, e1, e2, e3⟩ := hgo_spec e
      refine ⟨⟨f, t, h0, c⟩ :: pre, x, suf, by show _ :: tableOf r = _; rw [e1]; rfl, fun z hz2 => ?_, e3⟩
      rcases List.mem_cons.mp hz2 with rfl | hz3
      · refine Or.inl ?_
        rw [covers_iff]
        exact decide_eq_false hc
      · exact e2 z hz3
theorem nc_of {D : va_G} {t : Nat → ClassId} {s : State} (h : KS D t s) {E E2 : Nat} (h1 : E2 < E) (h2 : E < 3) : va_Nc (exN E) (exN E2) s := by
  match E, E2, h1, h2 with
  | 1, 0, _, _ => exact h.2.2.2.1
  | 2, 0, _, _ => exact h.2.2.2.2.1
  | 2, 1, _, _ => exact h.2.2.2.2.2.1
/-- where a handler goes on: behind the store of what was caught -/
def hchk (M pc E v h : Nat) : Bool := match hgo (cC M) E pc (cH M) with
  | none => false
  | some hp => decide (v < cN M) && (match decode (cB M) hp with
      | .ok (.astore j, 2) => (j == v) && (hp + 2 == h)
      | .ok (.astore_n j, 1) => (j.val == v) && (hp + 1 == h)
      | _ => false)
section SH
variable {S : Nat × (Nat → Int32)} {M pc : Nat} {ls : LC} {st : List Value} {g : SG} {n k : Nat} {K : Out → SG → Prop}
theorem sd_catch {E v h : Nat} (hh : hchk M pc E v h = true) (hX : X S M h (ls.set v none) [] g n k K)
    {p : Program} {l : Launch} {e : Env} {R : Room} {s : State} {m : MethodId} {args : Array Value} {below : List Frame} {meth : Method} {c : Code} {D : va_G} {t : Nat → ClassId} {ad : Nat → Nat} {A : Nat → Prop} {Q : State → Prop} (C : CTX S M p l e R s m args below meth c D t ad A Q K)
    {H : Heap} {locs : List Loc} {lsM : Array Slot} (hl : lvh lsM (cN M) ad ls) (hP : PIC D t ad A g H) (hS : va_S A s.heap H locs) {q : Addr} {ce : Cell} {rest : List Value} (hce : H[q]? = some ce) (hcv : ce.vm = .none) (hcl : s.vm.findClass (exN E) = some ce.cls) :
    vx_W p l e R s m args below meth c H locs n k Q (F0 m pc lsM rest) q := by
  obtain ⟨hx, hb0, hml, hown, hts, hlocks, hr, hini, hR, htr, hex, hKS, hA, hZ, hscr⟩ := C.1
  unfold hchk at hh
  split at hh
  · cases hh
  · rename_i hp hgo0
    obtain ⟨pre, x, suf, e1, e2, e3, e4, e5, e6⟩ := hgo_spec hgo0
    obtain ⟨w1, w2, w3⟩ := xT_ok e5
    simp only [Bool.and_eq_true, decide_eq_true_eq] at hh
    refine vx_catch (name := exN E) (E := exN E) hown pre x suf (hex.trans e1) (fun z hz => ?_) e3 e4 (hts _ w1) ((hKS.2.1 _ w2).use rfl) hce hcv hcl ?_
    · rcases e2 z hz with h0 | ⟨h0, E2, h1, h2⟩
      · exact Or.inl h0
      · exact Or.inr ⟨h0, exN E2, hts _ (xT_ok h2).1, nc_of hKS h1 w3⟩
    · rw [e6]
      have hgo2 : ∀ lsM2, lv_has lsM2 (cN M) ((v, cv (fun _ => q) (.ref 0)) :: (lvL ad ls).filter (fun q => !(q.1 == v) && !(q.1 + 1 == v && q.2.category == 2))) → lvh lsM2 (cN M) ad (ls.set v none) := by
        intro lsM2 hl2
        refine ⟨lvh_nil hl2, fun b w eb => ?_⟩
        rw [List.getElem?_set] at eb
        by_cases hb : v = b
        · subst hb
          rw [if_pos rfl] at eb
          split at eb <;> cases eb
        · rw [if_neg hb] at eb
          obtain ⟨-, hw⟩ := hl.2 b w eb
          refine ⟨hl2.2.2 (b, cv ad w) (List.mem_cons_of_mem _ (List.mem_filter.mpr ⟨lvL_mem eb, ?_⟩)), hw⟩
          have h1 : (cv ad w).category = 1 := by rw [cv_cat]; exact hw
          simp [h1, Ne.symm hb]
      obtain ⟨hv, hm⟩ := hh
      split at hm
      · rename_i j hdj
        simp only [Bool.and_eq_true, beq_iff_eq] at hm
        obtain ⟨rfl, rfl⟩ := hm
        exact lv_astore hx hb0 hdj (lvh_L hl) hv rfl (fun lsM2 hl2 => hX p l e R s m args below meth c D t ad A Q C H locs lsM2 (hgo2 lsM2 hl2) hP hS)
      · rename_i j hdj
        simp only [Bool.and_eq_true, beq_iff_eq] at hm
        obtain ⟨hj, rfl⟩ := hm
        exact lv_astore_n hx hb0 hdj hj (lvh_L hl) hv rfl (fun lsM2 hl2 => hX p l e R s m args below meth c D t ad A Q C H locs lsM2 (hgo2 lsM2 hl2) hP hS)
      · cases hm
end SH
