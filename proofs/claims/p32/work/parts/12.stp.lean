/-! one step of the abstract machine, as what it owes; op codes: see wip/whole/gen.py -/
abbrev CC : Type := LC → List Value → SG → Nat → Nat → Prop
/-- what is owed behind a call, by what comes then -/
def cntC (S : Nat × (Nat → Int32)) (M v : Nat) (hs : List Nat) (ls : LC) (st : List Value) (n k : Nat) (K : Out → SG → Prop) (c : CC) : Out → SG → Prop := fun o g => match o with
  | .inl none => c ls st g n k
  | .inl (some w) => c ls (w :: st) g n k
  | .inr E => if hs = [] then (cH M = [] ∧ n ≤ (rmM M).cells ∧ k ≤ (rmM M).slots ∧ K (.inr E) g) else ∃ h, hs[E]? = some h ∧ h ≠ 0 ∧ X S M h (ls.set v none) [] g n k K
def cRec (j nb : Nat) (kd : Nat) (as : List Value) : Bool := match kd with
  | 0 => (match as with
    | .ref o :: tl => o == cC j && (tl.length == cP j && bnn nb o)
    | _ => false)
  | 2 => (match as with
    | .ref _ :: tl => tl.length == cP j
    | _ => false)
  | 4 => (match as with
    | .ref _ :: tl => tl.length == cP j
    | _ => false)
  | _ => as.length == cP j
def kdOf (o j : Nat) : Nat := match (mTL.find? fun e => e.1 == o && e.2.2.1 == j) with
  | some e => e.2.2.2
  | none => 9
def stp (S : Nat × (Nat → Int32)) (M op a b : Nat) (v : Int32) (hs : List Nat) (ls : LC) (st : List Value) (g : SG) (n k : Nat) (K : Out → SG → Prop) (c : CC) : Prop := match op with
  | 0 => (match ls[a]? with
    | some (some (.int x)) => c ls (.int x :: st) g n k
    | _ => False)
  | 1 => (match ls[a]? with
    | some (some (.ref x)) => c ls (.ref x :: st) g n k
    | some (some (.retAddr x)) => c ls (.retAddr x :: st) g n k
    | _ => False)
  | 2 => (match st with
    | .int x :: r => c (ls.set a (some (.int x))) r g n k
    | _ => False)
  | 3 => (match st with
    | .ref x :: r => c (ls.set a (some (.ref x))) r g n k
    | .retAddr x :: r => c (ls.set a (some (.retAddr x))) r g n k
    | _ => False)
  | 4 => c ls (.int v :: st) g n k
  | 5 => (match st with
    | .ref o :: r => o = a ∧ bnn g.1 a = true ∧ c ls (.int (g.2.2.1 a b) :: r) g n k
    | _ => False)
  | 6 => (match st with
    | .ref o :: r => o = a ∧ bnn g.1 a = true ∧ c ls (g.2.1 a b :: r) g n k
    | _ => False)
  | 7 => (match st with
    | .int x :: .ref o :: r => o = a ∧ bnn g.1 a = true ∧ c ls r (g.1, g.2.1, up2 g.2.2.1 a b x, g.2.2.2) n k
    | _ => False)
  | 56 => (match st with
    | .int x :: .ref o :: r => o = a ∧ bnn g.1 a = true ∧ (x = 0 ∨ x = 1) ∧ c ls r (g.1, g.2.1, up2 g.2.2.1 a b x, g.2.2.2) n k
    | _ => False)
  | 8 => (match st with
    | .ref x :: .ref o :: r => o = a ∧ bnn g.1 a = true ∧ c ls r (g.1, up2 g.2.1 a b (.ref x), g.2.2.1, g.2.2.2) n k
    | _ => False)
  | 9 => (match st with
    | .int i :: .ref q :: r => if q = SCR then (scM M = true ∧ vp_in i S.1 ∧ c ls (.int (S.2 i.toNatClampNeg) :: r) g n k) else if kin q = 3 then (bnn g.1 q = true ∧ vp_in i (lnn q) ∧ c ls (.int (g.2.2.2.2 q i.toNatClampNeg) :: r) g n k) else (kin q = 1 ∧ bnn g.1 q = true ∧ vp_in i (lnn q) ∧ c ls (.int (g.2.2.2.1 q i.toNatClampNeg) :: r) g n k)
    | .int i :: .retAddr q :: r => (kin (ROWB + q) = 1 ∧ lnn (ROWB + q) = 12 ∧ bnn g.1 (ROWB + q) = true) ∧ vp_in i 12 ∧ c ls (.int (g.2.2.2.1 (ROWB + q) i.toNatClampNeg) :: r) g n k
    | _ => False)
  | 10 => (match st with
    | .int i :: .ref q :: r => kin q = 2 ∧ bnn g.1 q = true ∧ vp_in i (lnn q) ∧ c ls (.int (g.2.2.2.1 q i.toNatClampNeg) :: r) g n k
    | _ => False)
  | 11 => (match st with
    | .int x :: .int i :: .ref q :: r => if kin q = 3 then (bnn g.1 q = true ∧ vp_in i (lnn q) ∧ c ls r (g.1, g.2.1, g.2.2.1, g.2.2.2.1, upR g.2.2.2.2 q (upd (g.2.2.2.2 q) i.toNatClampNeg x)) n k) else (kin q = 1 ∧ bnn g.1 q = true ∧ vp_in i (lnn q) ∧ c ls r (g.1, g.2.1, g.2.2.1, upR g.2.2.2.1 q (upd (g.2.2.2.1 q) i.toNatClampNeg x), g.2.2.2.2) n k)
    | .int x :: .int i :: .retAddr q :: r => (kin (ROWB + q) = 1 ∧ lnn (ROWB + q) = 12 ∧ bnn g.1 (ROWB + q) = true) ∧ vp_in i 12 ∧ c ls r (g.1, g.2.1, g.2.2.1, upR g.2.2.2.1 (ROWB + q) (upd (g.2.2.2.1 (ROWB + q)) i.toNatClampNeg x), g.2.2.2.2) n k
    | _ => False)
  | 12 => (match st with
    | .int x :: .int i :: .ref q :: r => kin q = 2 ∧ bnn g.1 q = true ∧ vp_in i (lnn q) ∧ c ls r (g.1, g.2.1, g.2.2.1, upR g.2.2.2.1 q (upd (g.2.2.2.1 q) i.toNatClampNeg (x &&& 1)), g.2.2.2.2) n k
    | _ => False)
  | 13 => (match st with
    | .int i :: .ref q :: r => kin q = 4 ∧ bnn g.1 q = true ∧ ROWB ≤ bss q ∧ vp_in i (lnn q) ∧ c ls (.retAddr (bss q - ROWB + i.toNatClampNeg) :: r) g n k
    | _ => False)
  | 16 => (match st with
    | .ref q :: r => if q = SCR then (scM M = true ∧ c ls (.int (Int32.ofNat S.1) :: r) g n k) else (kin q = 1 ∧ bnn g.1 q = true ∧ c ls (.int (Int32.ofNat (lnn q)) :: r) g n k)
    | _ => False)
  | 17 => (match st with
    | .int x :: r => ∃ q, AO[g.1]? = some q ∧ kin q = a ∧ ¬ x < 0 ∧ x.toNatClampNeg = lnn q ∧ lnn q < 10000 ∧ n + 1 ≤ (rmM M).cells ∧ k + lnn q ≤ (rmM M).slots ∧ c ls (.ref q :: r) (g.1 + 1, g.2.1, g.2.2.1, (if a = 3 then g.2.2.2.1 else upR g.2.2.2.1 q (fun _ => 0)), (if a = 3 then upR g.2.2.2.2 q (fun _ => 0) else g.2.2.2.2)) (n + 1) (k + lnn q)
    | _ => False)
  | 18 => AO[g.1]? = some a ∧ n + 1 ≤ (rmM M).cells ∧ k + lnn a ≤ (rmM M).slots ∧ c ls (.ref a :: st) (g.1 + 1, upR g.2.1 a (fun _ => .null), upR g.2.2.1 a (fun _ => 0), g.2.2.2) (n + 1) (k + lnn a)
  | 19 => (match st with
    | .int y :: .int x :: r => ∃ q, AO[g.1]? = some q ∧ kin q = 4 ∧ ¬ x < 0 ∧ x.toNatClampNeg = lnn q ∧ y = 12 ∧ lnn q < 100 ∧ (∀ i, i < lnn q → AO[g.1 + 1 + i]? = some (bss q + i) ∧ kin (bss q + i) = 1 ∧ lnn (bss q + i) = 12) ∧ n + (1 + lnn q) ≤ (rmM M).cells ∧ k + (lnn q + lnn q * 12) ≤ (rmM M).slots ∧ c ls (.ref q :: r) (g.1 + 1 + lnn q, g.2.1, g.2.2.1, upN g.2.2.2.1 (bss q) (lnn q) (fun _ => 0), g.2.2.2.2) (n + 1 + lnn q) (k + lnn q + lnn q * 12)
    | _ => False)
  | 20 => (match st with
    | x :: r => x.category = 1 ∧ c ls (x :: x :: r) g n k
    | _ => False)
  | 21 => (match st with
    | x :: y :: r => (x.category = 1 ∧ y.category = 1) ∧ c ls (x :: y :: x :: y :: r) g n k
    | _ => False)
  | 22 => (match st with
    | x :: r => x.category = 1 ∧ c ls r g n k
    | _ => False)
  | 23 => (match st with
    | .int y :: .int x :: r => c ls (.int (x + y) :: r) g n k
    | _ => False)
  | 24 => (match st with
    | .int y :: .int x :: r => c ls (.int (x - y) :: r) g n k
    | _ => False)
  | 25 => (match st with
    | .int y :: .int x :: r => c ls (.int (x * y) :: r) g n k
    | _ => False)
  | 27 => (match st with
    | .int y :: .int x :: r => c ls (.int (x &&& y) :: r) g n k
    | _ => False)
  | 28 => (match st with
    | .int y :: .int x :: r => c ls (.int (x ||| y) :: r) g n k
    | _ => False)
  | 29 => (match st with
    | .int y :: .int x :: r => c ls (.int (x ^^^ y) :: r) g n k
    | _ => False)
  | 30 => (match st with
    | .int y :: .int x :: r => c ls (.int (x <<< (y &&& 31)) :: r) g n k
    | _ => False)
  | 31 => (match st with
    | .int y :: .int x :: r => c ls (.int (x >>> (y &&& 31)) :: r) g n k
    | _ => False)
  | 32 => (match st with
    | .int y :: .int x :: r => c ls (.int ((x.toUInt32 >>> (y.toUInt32 &&& Int32.toUInt32 31)).toInt32) :: r) g n k
    | _ => False)
  | 26 => (match st with
    | .int y :: .int x :: r => ¬ y = 0 ∧ c ls (.int (x - x / y * y) :: r) g n k
    | _ => False)
  | 33 => (match ls[a]? with
    | some (some (.int x)) => c (ls.set a (some (.int (x + v)))) st g n k
    | _ => False)
  | 34 => (match st with
    | .int x :: r => c ls (.long x.toInt64 :: r) g n k
    | _ => False)
  | 35 => c ls (.long v.toInt64 :: st) g n k
  | 36 => (match st with
    | .long y :: .long x :: r => c ls (.int (lg_cmp x y) :: r) g n k
    | _ => False)
  | 37 => X S M a ls st g n k K
  | 38 => (match st with
    | .int x :: r => (x = 0 → X S M a ls r g n k K) ∧ (¬ x = 0 → c ls r g n k)
    | _ => False)
  | 39 => (match st with
    | .int x :: r => (¬ x = 0 → X S M a ls r g n k K) ∧ (x = 0 → c ls r g n k)
    | _ => False)
  | 40 => (match st with
    | .int x :: r => (x < 0 → X S M a ls r g n k K) ∧ (¬ x < 0 → c ls r g n k)
    | _ => False)
  | 41 => (match st with
    | .int x :: r => (0 ≤ x → X S M a ls r g n k K) ∧ (¬ 0 ≤ x → c ls r g n k)
    | _ => False)
  | 42 => (match st with
    | .int x :: r => (0 < x → X S M a ls r g n k K) ∧ (¬ 0 < x → c ls r g n k)
    | _ => False)
  | 43 => (match st with
    | .int x :: r => (x ≤ 0 → X S M a ls r g n k K) ∧ (¬ x ≤ 0 → c ls r g n k)
    | _ => False)
  | 44 => (match st with
    | .int y :: .int x :: r => (x = y → X S M a ls r g n k K) ∧ (¬ x = y → c ls r g n k)
    | _ => False)
  | 45 => (match st with
    | .int y :: .int x :: r => (¬ x = y → X S M a ls r g n k K) ∧ (x = y → c ls r g n k)
    | _ => False)
  | 46 => (match st with
    | .int y :: .int x :: r => (x < y → X S M a ls r g n k K) ∧ (¬ x < y → c ls r g n k)
    | _ => False)
  | 47 => (match st with
    | .int y :: .int x :: r => (y ≤ x → X S M a ls r g n k K) ∧ (¬ y ≤ x → c ls r g n k)
    | _ => False)
  | 48 => (match st with
    | .int y :: .int x :: r => (y < x → X S M a ls r g n k K) ∧ (¬ y < x → c ls r g n k)
    | _ => False)
  | 49 => (match st with
    | .int y :: .int x :: r => (x ≤ y → X S M a ls r g n k K) ∧ (¬ x ≤ y → c ls r g n k)
    | _ => False)
  | 50 => (match st with
    | [.int x] => n ≤ (rmM M).cells ∧ k ≤ (rmM M).slots ∧ K (.inl (some (.int x))) g
    | _ => False)
  | 57 => (match st with
    | [.int x] => n ≤ (rmM M).cells ∧ k ≤ (rmM M).slots ∧ (x = 0 ∨ x = 1) ∧ K (.inl (some (.int x))) g
    | _ => False)
  | 51 => (match st with
    | [] => n ≤ (rmM M).cells ∧ k ≤ (rmM M).slots ∧ K (.inl none) g
    | _ => False)
  | 52 => b ≤ st.length ∧ ((st.drop b).map Value.category).sum ≤ 8 ∧ cRec a g.1 (kdOf (cC M) a) (st.take b).reverse = true ∧ n + (rmM a).cells ≤ (rmM M).cells ∧ k + (rmM a).slots ≤ (rmM M).slots ∧ CT a (st.take b).reverse g (cntC S M v.toNatClampNeg hs ls (st.drop b) (n + (rmM a).cells) (k + (rmM a).slots) K c)
  | 60 => b ≤ st.length ∧ ((st.drop b).map Value.category).sum ≤ 8 ∧ cRec a g.1 (kdOf (cC M) a) (st.take b).reverse = true ∧ n + (rmM a).cells ≤ (rmM M).cells ∧ k + (rmM a).slots ≤ (rmM M).slots ∧ CTS S a (st.take b).reverse g (cntC S M v.toNatClampNeg hs ls (st.drop b) (n + (rmM a).cells) (k + (rmM a).slots) K c)
  | 58 => (match st with
    | .int y :: .int x :: r => ¬ y = 0 ∧ c ls (.int (x / y) :: r) g n k
    | _ => False)
  | 59 => (match st with
    | .int x :: r => c ls (.int (-x) :: r) g n k
    | _ => False)
  | 53 => (match st with
    | [] => g.1 = NB ∧ n + 1 ≤ (rmM M).cells ∧ k + 6 ≤ (rmM M).slots ∧ K (.inr a) g
    | _ => False)
  | 54 => (match st with
    | .int x :: r => (∀ j tgt : Nat, hs[j]? = some tgt → x.toInt = v.toInt + j → X S M tgt ls r g n k K) ∧ ((x.toInt < v.toInt ∨ v.toInt + hs.length - 1 < x.toInt) → X S M a ls r g n k K)
    | _ => False)
  | 55 => (match st with
    | .ref _ :: r => r.length ≤ 4 ∧ c ls r g n k
    | _ => False)
  | _ => False
/-- an instruction of the listing is what the machine decodes there -/
def okI (M pc op a b : Nat) (v : Int32) (hs : List Nat) (ins : Instr) (len : Nat) : Bool := match op with
  | 0 => (match ins with
    | .iload j => j == a && len == 2
    | .iload_n j => j.val == a && len == 1
    | _ => false)
  | 1 => (match ins with
    | .aload j => j == a && len == 2
    | .aload_n j => j.val == a && len == 1
    | _ => false)
  | 2 => decide (a < cN M) && (match ins with
    | .istore j => j == a && len == 2
    | .istore_n j => j.val == a && len == 1
    | _ => false)
  | 3 => decide (a < cN M) && (match ins with
    | .astore j => j == a && len == 2
    | .astore_n j => j.val == a && len == 1
    | _ => false)
  | 4 => (match ins with
    | .iconst j => decide (Int32.ofInt j = v) && len == 1
    | .bipush j => decide ((Int8.ofInt j).toInt32 = v) && len == 2
    | .sipush j => decide ((Int16.ofInt j).toInt32 = v) && len == 3
    | .ldc j => decide ((cC M, j, v) ∈ kTL) && len == 2
    | .ldc_w j => decide ((cC M, j, v) ∈ kTL) && len == 3
    | _ => false)
  | 5 => (match ins with
    | .getfield j => decide ((cC M, j, a, b) ∈ fTL) && !(isR a b) && len == 3
    | _ => false)
  | 6 => (match ins with
    | .getfield j => decide ((cC M, j, a, b) ∈ fTL) && isR a b && len == 3
    | _ => false)
  | 7 => (match ins with
    | .putfield j => decide ((cC M, j, a, b) ∈ fTL) && !(isR a b) && len == 3 && decide (cTy a b = .int) && !(cTt a b).2.2.2
    | _ => false)
  | 56 => (match ins with
    | .putfield j => decide ((cC M, j, a, b) ∈ fTL) && !(isR a b) && len == 3 && decide (cTy a b = .boolean) && !(cTt a b).2.2.2
    | _ => false)
  | 8 => (match ins with
    | .putfield j => decide ((cC M, j, a, b) ∈ fTL) && isR a b && len == 3 && (cTt a b).2.2.2 && cI M && ((cTt a b).1 == cNm (cC M))
    | _ => false)
  | 9 => decide (ins = .iaload) && len == 1
  | 10 => decide (ins = .baload) && len == 1
  | 11 => decide (ins = .iastore) && len == 1
  | 12 => decide (ins = .bastore) && len == 1
  | 13 => decide (ins = .aaload) && len == 1
  | 16 => decide (ins = .arraylength) && len == 1
  | 17 => (match ins with
    | .newarray .int => (a == 1 || a == 3) && len == 2
    | .newarray .boolean => a == 2 && len == 2
    | _ => false)
  | 18 => (match ins with
    | .new j => decide ((cC M, j, a) ∈ cTL) && len == 3
    | _ => false)
  | 19 => (match ins with
    | .multianewarray j 2 => inW (Cond.classLink (cNm (cC M)) j "[[I") && len == 4
    | _ => false)
  | 20 => decide (ins = .dup) && len == 1
  | 21 => decide (ins = .dup2) && len == 1
  | 22 => decide (ins = .pop) && len == 1
  | 23 => decide (ins = .iadd) && len == 1
  | 24 => decide (ins = .isub) && len == 1
  | 25 => decide (ins = .imul) && len == 1
  | 27 => decide (ins = .iand) && len == 1
  | 28 => decide (ins = .ior) && len == 1
  | 29 => decide (ins = .ixor) && len == 1
  | 30 => decide (ins = .ishl) && len == 1
  | 31 => decide (ins = .ishr) && len == 1
  | 32 => decide (ins = .iushr) && len == 1
  | 26 => decide (ins = .irem) && len == 1
  | 33 => (match ins with
    | .iinc j w => j == a && decide (Int32.ofInt w = v) && decide (a < cN M) && len == 3
    | _ => false)
  | 34 => decide (ins = .i2l) && len == 1
  | 35 => (match ins with
    | .lconst j => decide (Int64.ofNat j.val = v.toInt64) && len == 1
    | _ => false)
  | 36 => decide (ins = .lcmp) && len == 1
  | 37 => (match ins with
    | .goto off => decide ((pc : Int) + off = (a : Int)) && len == 3
    | _ => false)
  | 38 => (match ins with
    | .ifCond .eq off => decide ((pc : Int) + off = (a : Int)) && len == 3
    | _ => false)
  | 39 => (match ins with
    | .ifCond .ne off => decide ((pc : Int) + off = (a : Int)) && len == 3
    | _ => false)
  | 40 => (match ins with
    | .ifCond .lt off => decide ((pc : Int) + off = (a : Int)) && len == 3
    | _ => false)
  | 41 => (match ins with
    | .ifCond .ge off => decide ((pc : Int) + off = (a : Int)) && len == 3
    | _ => false)
  | 42 => (match ins with
    | .ifCond .gt off => decide ((pc : Int) + off = (a : Int)) && len == 3
    | _ => false)
  | 43 => (match ins with
    | .ifCond .le off => decide ((pc : Int) + off = (a : Int)) && len == 3
    | _ => false)
  | 44 => (match ins with
    | .if_icmp .eq off => decide ((pc : Int) + off = (a : Int)) && len == 3
    | _ => false)
  | 45 => (match ins with
    | .if_icmp .ne off => decide ((pc : Int) + off = (a : Int)) && len == 3
    | _ => false)
  | 46 => (match ins with
    | .if_icmp .lt off => decide ((pc : Int) + off = (a : Int)) && len == 3
    | _ => false)
  | 47 => (match ins with
    | .if_icmp .ge off => decide ((pc : Int) + off = (a : Int)) && len == 3
    | _ => false)
  | 48 => (match ins with
    | .if_icmp .gt off => decide ((pc : Int) + off = (a : Int)) && len == 3
    | _ => false)
  | 49 => (match ins with
    | .if_icmp .le off => decide ((pc : Int) + off = (a : Int)) && len == 3
    | _ => false)
  | 50 => decide (ins = .ireturn) && len == 1 && decide (cR M = some .int)
  | 57 => decide (ins = .ireturn) && len == 1 && decide (cR M = some .boolean)
  | 51 => decide (ins = .return_) && len == 1 && decide (cR M = none)
  | 52 => !(scM a) && (len == 3 && decide ((rmM a).frames + 1 ≤ (rmM M).frames) && decide (8 + (cN a + 11) + (rmM a).locals ≤ (rmM M).locals) && (match ins with
    | .invokevirtual j => decide ((cC M, j, a, kdOf (cC M) a) ∈ mTL) && decide (ins = cIns (kdOf (cC M) a) j)
    | .invokestatic j => decide ((cC M, j, a, kdOf (cC M) a) ∈ mTL) && decide (ins = cIns (kdOf (cC M) a) j)
    | .invokespecial j => decide ((cC M, j, a, kdOf (cC M) a) ∈ mTL) && decide (ins = cIns (kdOf (cC M) a) j)
    | _ => false) && (hs.zipIdx.all fun q => q.1 == 0 || hchk M pc q.2 v.toNatClampNeg q.1))
  | 60 => scM M && (len == 3 && decide ((rmM a).frames + 1 ≤ (rmM M).frames) && decide (8 + (cN a + 11) + (rmM a).locals ≤ (rmM M).locals) && (match ins with
    | .invokevirtual j => decide ((cC M, j, a, kdOf (cC M) a) ∈ mTL) && decide (ins = cIns (kdOf (cC M) a) j)
    | .invokestatic j => decide ((cC M, j, a, kdOf (cC M) a) ∈ mTL) && decide (ins = cIns (kdOf (cC M) a) j)
    | .invokespecial j => decide ((cC M, j, a, kdOf (cC M) a) ∈ mTL) && decide (ins = cIns (kdOf (cC M) a) j)
    | _ => false) && (hs.zipIdx.all fun q => q.1 == 0 || hchk M pc q.2 v.toNatClampNeg q.1))
  | 58 => decide (ins = .idiv) && len == 1
  | 59 => decide (ins = .ineg) && len == 1
  | 53 => (match thT M with
    | some (E, p0, _) => E == a && p0 == pc
    | none => false)
  | 54 => (match ins with
    | .tableswitch dflt lo hi offs => decide (lo = v.toInt) && decide (hi = lo + hs.length - 1) && decide ((pc : Int) + dflt = (a : Int)) && ((List.range hs.length).all fun j => match offs[j]? with
      | some off => decide ((pc : Int) + off = ((hs.getD j 0 : Nat) : Int))
      | none => false)
    | _ => false)
  | 55 => (match ins with
    | .invokespecial j => inW (Cond.methodLink (cNm (cC M)) j Lib.objectInit) && len == 3 && decide (1 ≤ (rmM M).frames) && decide (20 ≤ (rmM M).locals)
    | _ => false)
  | _ => false
