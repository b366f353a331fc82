/-! THE ABSTRACT MACHINE: objects have small numbers (their classes' for the seven single objects, AO's for arrays); a state is how many are made, the reference fields, the number fields, the rows, the long rows. X: from a place of a method, with locals, stack and state, the machine comes to an end that K allows. CT: a call does. -/
abbrev SG : Type := Nat × (Nat → Nat → Value) × (Nat → Nat → Int32) × (Nat → Nat → Int32) × (Nat → Nat → Int32)
abbrev Out : Type := Option Value ⊕ Nat
abbrev LC : Type := List (Option Value)
abbrev AI : Type := Nat × Nat × Nat × Int32 × List Nat
def cv (ad : Nat → Nat) : Value → Value
  | .ref i => .ref (ad i)
  | .retAddr n => .ref (ad (ROWB + n))
  | .int x => .int x
  | .long x => .long x
  | .float x => .float x
  | .double x => .double x
  | .null => .null
theorem cv_cat (ad : Nat → Nat) (v : Value) : (cv ad v).category = v.category := by cases v <;> rfl
def up2 {α : Type} (f : Nat → Nat → α) (a k : Nat) (v : α) : Nat → Nat → α := fun b j => if b = a then (if j = k then v else f a j) else f b j
def upR {α : Type} (f : Nat → Nat → α) (a : Nat) (r : Nat → α) : Nat → Nat → α := fun b => if b = a then r else f b
def upN {α : Type} (f : Nat → Nat → α) (a n : Nat) (r : Nat → α) : Nat → Nat → α := fun b => if a ≤ b ∧ b < a + n then r else f b
def kin (q : Nat) : Nat := kinL.getD q 0
def lnn (q : Nat) : Nat := lnL.getD q 0
def bss (q : Nat) : Nat := bsL.getD q 0
def isR (c k : Nat) : Bool := (isRL.getD c []).getD k 0 == 1
def R0 (c k : Nat) : Value := (R0L.getD c []).getD k .null
def iarr (q : Nat) : Option Nat := if kin q = 1 then some (lnn q) else none
def zarr (q : Nat) : Option Nat := if kin q = 2 then some (lnn q) else none
def jarr (q : Nat) : Option Nat := if kin q = 3 then some (lnn q) else none
def rarr (q : Nat) : Option Nat := if kin q = 4 then some (lnn q) else none
def bnn (nb q : Nat) : Bool := (AO.take nb).contains q
def fval (ad : Nat → Nat) (g : SG) (c k : Nat) : Value := if isR c k then cv ad (g.2.1 c k) else .int (g.2.2.1 c k)
def cel (t : Nat → ClassId) (ad : Nat → Nat) (g : SG) (q : Nat) : va_E :=
  if kin q = 6 then .inr (q, (List.range (lnn q)).map (fval ad g q))
  else if kin q = 4 then .inl (t 3, lnn q, .inr (.inr (.inr (.inr (fun i => if i < lnn q then some (ad (bss q + i)) else none)))))
  else if kin q = 3 then .inl (t 0, lnn q, .inl (g.2.2.2.2 q))
  else if kin q = 2 then .inl (t 1, lnn q, .inl (g.2.2.2.1 q))
  else .inl (t 0, lnn q, .inl (g.2.2.2.1 q))
def wld (t : Nat → ClassId) (ad : Nat → Nat) (g : SG) : va_W := (AO.take g.1).map fun q => (ad q, cel t ad g q)
/-- the words of the tables that a callee may take along -/
def GW : List Cond := lw_tbl.filter goodWord
def exN : Nat → String
  | 0 => "java/lang/IndexOutOfBoundsException"
  | 1 => "java/lang/IllegalArgumentException"
  | _ => "java/lang/IllegalStateException"
def ZQ (A : Nat → Prop) (s : State) (H : Heap) : Prop := vx_Zq Bundle.tN "UNASSIGNED_STACK" Bundle.steD A s H ∧ vx_Zq Bundle.tN "SUPPRESSED_SENTINEL" Bundle.listD A s H
def tysOf (t : Nat → ClassId) : List (ClassId × FieldType) := [(t 0, .int), (t 1, .boolean), (t 3, .array .int)]
/-- words of the tables that a callee may take along, but by their own rows -/
def nwOk : Cond → Bool
  | .castable _ _ => true
  | .methodLinkNest _ _ _ _ => true
  | .declares _ => true
  | _ => false
def NWL : List Cond := tables_1.filter nwOk
theorem nw_warm {w : Cond} (h : nwOk w = true) {s U : State} (hW : s.WarmedH U.vm) (hw : va_Nw w s) : va_Nw w U := by
  cases w <;> first | exact hw.warmC hW | exact hw.warmM hW | exact hw.warmD hW | cases h
theorem nw_tab {w : Cond} (h : nwOk w = true) : w.onTables = true := by
  cases w <;> first | rfl | cases h
theorem NWL_ok {w : Cond} (h : w ∈ NWL) : nwOk w = true := (List.mem_filter.mp h).2
def KS (D : va_G) (t : Nat → ClassId) (s : State) : Prop :=
  va_K D vwCl (tysOf t) s ∧ (∀ w ∈ NWL, va_Nw w s) ∧ (∀ x ∈ strL, ∃ a : Nat, vk_R RX5 x.1 x.2 a s) ∧ va_Nc (exN 1) (exN 0) s ∧ va_Nc (exN 2) (exN 0) s ∧ va_Nc (exN 2) (exN 1) s ∧ (Cond.arrayOver (.array .int)).before #[] s = true
def PIC (D : va_G) (t : Nat → ClassId) (ad : Nat → Nat) (A : Nat → Prop) (g : SG) (H : Heap) : Prop :=
  va_P D vwCl (wld t ad g) H ∧ va_D A (wld t ad g) ∧ ∀ j q : Nat, g.1 ≤ j → AO[j]? = some q → ad q = H.size + (j - g.1)
def lvh (lsM : Array Slot) (nL : Nat) (ad : Nat → Nat) (ls : LC) : Prop := lv_has lsM nL [] ∧ ∀ (a : Nat) (v : Value), ls[a]? = some (some v) → lsM[a]? = some (.val (cv ad v)) ∧ v.category = 1
/-- the methods that see the script -/
def scM (M : Nat) : Bool := M == mL_law || M == mL_part
def CX (S : Nat × (Nat → Int32)) (M : Nat) (p : Program) (l : Launch) (R : Room) (s : State) (m : MethodId) (args : Array Value) (meth : Method) (c : Code) (D : va_G) (t : Nat → ClassId) (ad : Nat → Nat) (A : Nat → Prop) : Prop :=
  p.tables.exec = Jvm.exec ∧ c.code = cB M ∧ c.maxLocals = cN M ∧ s.vm.findClass (cNm (cC M)) = some m.cls ∧ (∀ w ∈ GW, w.before args s = true) ∧ meth.locks = false ∧ meth.sig.returnType = cR M ∧ (cI M = true → meth.name = "<init>") ∧
  R = rmM M ∧ l.stackTraces = false ∧ c.exceptionTable.toList = tableOf (cH M) ∧ KS D t s ∧ (∀ q, s.heap.size ≤ q → A q) ∧ ZQ A s s.heap ∧ (scM M = true → va_X (ad SCR) S.1 S.2 s s.heap ∧ ad SCR < s.heap.size ∧ ¬ A (ad SCR))
def retOk (M : Nat) (v : Option Int32) (pc : Nat) : Prop := match v with
  | none => cR M = none ∧ decode (cB M) pc = .ok (.return_, 1)
  | some x => (∃ ty, cR M = some ty ∧ narrow ty (.int x) = .int x) ∧ decode (cB M) pc = .ok (.ireturn, 1)
/-- the context of a walk, and what is to be had at its ends -/
def CTX (S : Nat × (Nat → Int32)) (M : Nat) (p : Program) (l : Launch) (e : Env) (R : Room) (s : State) (m : MethodId) (args : Array Value) (below : List Frame) (meth : Method) (c : Code) (D : va_G) (t : Nat → ClassId) (ad : Nat → Nat) (A : Nat → Prop) (Q : State → Prop) (K : Out → SG → Prop) : Prop :=
  CX S M p l R s m args meth c D t ad A ∧
  (∀ (v : Option Int32) (g : SG) (H : Heap) (locs : List Loc) (n k pc : Nat) (lsM : Array Slot), K (.inl (v.map Value.int)) g → PIC D t ad A g H → va_S A s.heap H locs → n ≤ (rmM M).cells → k ≤ (rmM M).slots → retOk M v pc → W p l e R s m args below meth c H locs n k Q (F0 m pc lsM (v.map Value.int).toList)) ∧
  (∀ (E : Nat) (g : SG) (H : Heap) (locs : List Loc) (n k pc : Nat) (lsM : Array Slot) (rest : List Value) (q : Addr) (ce : Cell), K (.inr E) g → PIC D t ad A g H → va_S A s.heap H locs → n ≤ (rmM M).cells → k ≤ (rmM M).slots → cH M = [] → H[q]? = some ce → ce.vm = .none → s.vm.findClass (exN E) = some ce.cls → vx_W p l e R s m args below meth c H locs n k Q (F0 m pc lsM rest) q) ∧
  (∀ (E : Nat) (g : SG) (H : Heap) (locs : List Loc) (n k pc : Nat) (lsM : Array Slot) (ik is ic : Nat) (wd : Bool), K (.inr E) g → PIC D t ad A g H → g.1 = NB → va_S A s.heap H locs → n + 1 ≤ (rmM M).cells → k + 6 ≤ (rmM M).slots → thT M = some (E, pc, ik, is, ic, wd) → lsM.size = cN M → W p l e R s m args below meth c H locs n k Q (F0 m pc lsM []))
/-- from this place the method comes to an end that K allows -/
def X (S : Nat × (Nat → Int32)) (M pc : Nat) (ls : LC) (st : List Value) (g : SG) (n k : Nat) (K : Out → SG → Prop) : Prop :=
  ∀ (p : Program) (l : Launch) (e : Env) (R : Room) (s : State) (m : MethodId) (args : Array Value) (below : List Frame) (meth : Method) (c : Code) (D : va_G) (t : Nat → ClassId) (ad : Nat → Nat) (A : Nat → Prop) (Q : State → Prop),
    CTX S M p l e R s m args below meth c D t ad A Q K → ∀ (H : Heap) (locs : List Loc) (lsM : Array Slot), lvh lsM (cN M) ad ls → PIC D t ad A g H → va_S A s.heap H locs →
      W p l e R s m args below meth c H locs n k Q (F0 m pc lsM (st.map (cv ad)))
def cW (j : Nat) : List Cond := if cH j = [] then Cond.code (cY j) (cB j) (cN j) (cR j) :: GW else Cond.codeWith (cY j) (cB j) (cN j) (cR j) (cH j) :: GW
def wA (t : Nat → ClassId) (ad : Nat → Nat) (g : SG) (sz : Nat) : Nat → Prop := va_A (wld t ad g) sz
def PRE (S : Nat × (Nat → Int32)) (M : Nat) (D : va_G) (t : Nat → ClassId) (ad : Nat → Nat) (g : SG) (sz : Nat) (U : State) : Prop :=
  U.heap.size = sz ∧ KS D t U ∧ PIC D t ad (wA t ad g sz) g U.heap ∧ ZQ (wA t ad g sz) U U.heap ∧ (scM M = true → va_X (ad SCR) S.1 S.2 U U.heap ∧ ad SCR < sz ∧ ¬ wA t ad g sz (ad SCR))
def QC (j : Nat) (D : va_G) (t : Nat → ClassId) (ad : Nat → Nat) (A : Nat → Prop) (K : Out → SG → Prop) : Array Value → State → Outcome → State → Prop := match cR j with
  | none => va_Qv (fun u : SG => K (.inl none) u) (fun u T => PIC D t ad A u T.heap) A
  | some _ => va_Qi (fun (r : Int32) (u : SG) => K (.inl (some (.int r))) u) (fun u T => PIC D t ad A u T.heap) A
def XCK (D : va_G) (t : Nat → ClassId) (ad : Nat → Nat) (A : Nat → Prop) (K : Out → SG → Prop) : String → State → State → Prop :=
  vx_X (fun u : Nat × SG => K (.inr u.1) u.2) (fun E u T => E = exN u.1 ∧ PIC D t ad A u.2 T.heap) A
/-- the call j(as), at the state g, comes to an end that K allows -/
def CTS (S : Nat × (Nat → Int32)) (j : Nat) (as : List Value) (g : SG) (K : Out → SG → Prop) : Prop :=
  ∀ (l : Launch) (D : va_G) (t : Nat → ClassId) (ad : Nat → Nat) (sz : Nat), l.stackTraces = false →
    vx_Met l (cY j) (cW j) (rmM j) (va_Pc (as.map (cv ad)) (PRE S j D t ad g sz)) (QC j D t ad (wA t ad g sz) K) (XCK D t ad (wA t ad g sz) K) (rmM j).cells (rmM j).slots (wA t ad g sz)
def S00 : Nat × (Nat → Int32) := (0, fun _ => 0)
abbrev CT (j : Nat) (as : List Value) (g : SG) (K : Out → SG → Prop) : Prop := CTS S00 j as g K
