/-! The constructors: the cells' contents at their end are there from the beginning, so that the state changes little -/
def VI (_ _ : Nat) : Int32 := 0
def ZR : Nat → Int32 := fun _ => 0
def flr (N : Nat) (x : Int32) : Nat → Int32 := fun j => if j < N then x else 0
def VA (q : Nat) : Nat → Int32 :=
  if q = 8 then flr 12 (-1)
  else if q = 21 then flr 10 3
  else if q = 24 ∨ q = 25 then flr 4 (-1)
  else if q = 64 ∨ q = 65 ∨ q = 66 then (fun j => if j < 12 then nI j else 0)
  else ZR
theorem VA_Z {q : Nat} (h : ¬ q ∈ [8, 21, 24, 25, 64, 65, 66]) : VA q = ZR := by
  simp only [List.mem_cons, List.not_mem_nil, or_false, not_or] at h
  unfold VA
  rw [if_neg (by omega), if_neg (by omega), if_neg (by omega), if_neg (by omega)]
def Rp (R : Nat → Nat → Value) (c m : Nat) : Nat → Nat → Value := fun b k => if b = c then (if k < m then R c k else .null) else R b k
def isNl (v : Value) : Bool := match v with
  | .null => true
  | _ => false
theorem isNl_eq {v : Value} (h : isNl v = true) : v = .null := by
  cases v <;> first | rfl | cases h
section RP
variable {R : Nat → Nat → Value} {I A : Nat → Nat → Int32} {c m q N i : Nat}
theorem rp_new : upR R c (fun _ => .null) = Rp R c 0 := by
  funext b k
  unfold upR Rp
  by_cases h : b = c
  · rw [if_pos h, if_pos h, if_neg (Nat.not_lt_zero k)]
  · rw [if_neg h, if_neg h]
theorem rp_put {k : Nat} {x : Value} (hc : R c = R0 c) (hm : m ≤ k) (h : ∀ j, j < k → m ≤ j → isNl (R0 c j) = true) (hx : R0 c k = x) : up2 (Rp R c m) c k x = Rp R c (k + 1) := by
  funext b j
  unfold up2 Rp
  by_cases e : b = c
  · subst e
    simp only [if_pos]
    rw [hc]
    by_cases e2 : j = k
    · subst e2
      rw [if_pos rfl, if_pos (by omega), hx]
    · rw [if_neg e2]
      by_cases e3 : j < m
      · rw [if_pos e3, if_pos (by omega)]
      · rw [if_neg e3]
        by_cases e4 : j < k
        · rw [if_pos (by omega), isNl_eq (h j e4 (by omega))]
        · rw [if_neg (by omega)]
  · simp only [if_neg e]
theorem rp_all (hc : R c = R0 c) (h : ∀ k, N ≤ k → isNl (R0 c k) = true) : Rp R c N = R := by
  funext b j
  unfold Rp
  by_cases e : b = c
  · subst e
    rw [if_pos rfl]
    by_cases e2 : j < N
    · rw [if_pos e2]
    · rw [if_neg e2, hc, isNl_eq (h j (by omega))]
  · rw [if_neg e]
theorem rp_ne {b : Nat} (h : ¬ b = c) : Rp R c m b = R b := by
  funext j
  unfold Rp
  rw [if_neg h]
theorem R0_nl {k : Nat} (h : (isRL.getD c []).length ≤ k) (h2 : (R0L.getD c []).length ≤ k) : isNl (R0 c k) = true := by
  show isNl (((R0L.getD c [])[k]?).getD .null) = true
  rw [List.getElem?_eq_none h2]
  rfl
theorem upR_self {α : Type} {f : Nat → Nat → α} {r : Nat → α} (h : f q = r) : upR f q r = f := by
  funext b
  unfold upR
  by_cases e : b = q
  · rw [if_pos e, e, h]
  · rw [if_neg e]
theorem up2_self {f : Nat → Nat → Int32} {k : Nat} {x : Int32} (h : f c k = x) : up2 f c k x = f := by
  funext b j
  unfold up2
  by_cases e : b = c
  · rw [if_pos e]
    by_cases e2 : j = k
    · rw [if_pos e2, e2, e, h]
    · rw [if_neg e2, e]
  · rw [if_neg e]
/-- the row q is there as far as N -/
def CU (A : Nat → Nat → Int32) (q N : Nat) : Nat → Nat → Int32 := fun b => if b = q then (fun j => if j < N then A q j else 0) else A b
theorem cu_at {b : Nat} (h : ¬ b = q) : CU A q N b = A b := by
  unfold CU
  rw [if_neg h]
theorem cu_0 : upR A q ZR = CU A q 0 := by
  funext b j
  unfold upR CU
  by_cases e : b = q
  · rw [if_pos e, if_pos e, if_neg (Nat.not_lt_zero j)]
    rfl
  · rw [if_neg e, if_neg e]
theorem cu_up {b : Nat} {r : Nat → Int32} (h : ¬ b = q) : upR (CU A q N) b r = CU (upR A b r) q N := by
  funext z
  unfold upR CU
  by_cases e : z = q
  · have e2 : ¬ z = b := fun w => h (w.symm.trans e)
    have e3 : ¬ q = b := fun w => h w.symm
    simp only [if_neg e2, if_pos e, if_neg e3]
  · by_cases e2 : z = b
    · simp only [if_pos e2, if_neg e]
    · simp only [if_neg e2, if_neg e]
theorem cu_all (h : ∀ j, N ≤ j → A q j = 0) : CU A q N = A := by
  funext b j
  unfold CU
  by_cases e : b = q
  · rw [if_pos e, e]
    by_cases e2 : j < N
    · rw [if_pos e2]
    · rw [if_neg e2, h j (by omega)]
  · rw [if_neg e]
theorem cu_step {x : Int32} (h : A q i = x) : upR (CU A q i) q (upd (CU A q i q) i x) = CU A q (i + 1) := by
  funext b j
  unfold upR CU
  by_cases e : b = q
  · rw [if_pos e, if_pos e, upd_at, if_pos rfl]
    by_cases e2 : j = i
    · rw [if_pos e2, if_pos (by omega), e2, h]
    · rw [if_neg e2]
      by_cases e3 : j < i
      · rw [if_pos e3, if_pos (by omega)]
      · rw [if_neg e3, if_neg (by omega)]
  · rw [if_neg e, if_neg e, if_neg e]
theorem cu_fill {x : Int32} (h : A q = flr N x) : upR (CU A q 0) q (fun j => if j < N then x else CU A q 0 q j) = A := by
  funext b j
  unfold upR CU
  by_cases e : b = q
  · rw [if_pos e, e, h]
    unfold flr
    simp only [if_true, if_neg (Nat.not_lt_zero j)]
  · rw [if_neg e, if_neg e]
end RP
section PH
variable {S : Nat × (Nat → Int32)} {M pe : Nat} {is : List AI} {r : LC} {c b1 b2 b3 b4 b5 a1 a2 a3 a4 a5 : Nat} {v1 v2 v3 v4 v5 : Int32} {s1 s2 s3 s4 s5 : List Nat} {nb n k : Nat} {R R' : Nat → Nat → Value} {I I' A A' : Nat → Nat → Int32} {J : Nat → Nat → Int32} {K : Out → SG → Prop}
theorem p_oinit {g : SG} (h : tr S M pe is (some (.ref c) :: r) [] g n k K) : tr S M pe ((1, 0, b1, v1, s1) :: (55, a2, b2, v2, s2) :: is) (some (.ref c) :: r) [] g n k K :=
  ⟨Nat.zero_le _, h⟩
theorem p_put {f : Nat} {x : Int32} (hb : bnn nb c = true) (hI : up2 I c f x = I') (h : tr S M pe is (some (.ref c) :: r) [] (nb, R, I', A, J) n k K) : tr S M pe ((1, 0, b1, v1, s1) :: (4, a2, b2, x, s2) :: (7, c, f, v3, s3) :: is) (some (.ref c) :: r) [] (nb, R, I, A, J) n k K := by
  show c = c ∧ bnn nb c = true ∧ tr S M pe is (some (.ref c) :: r) [] (nb, R, up2 I c f x, A, J) n k K
  rw [hI]
  exact ⟨rfl, hb, h⟩
theorem p_putZ {f : Nat} (hb : bnn nb c = true) (hI : up2 I c f 0 = I') (h : tr S M pe is (some (.ref c) :: r) [] (nb, R, I', A, J) n k K) : tr S M pe ((1, 0, b1, v1, s1) :: (4, a2, b2, 0, s2) :: (56, c, f, v3, s3) :: is) (some (.ref c) :: r) [] (nb, R, I, A, J) n k K := by
  show c = c ∧ bnn nb c = true ∧ ((0 : Int32) = 0 ∨ (0 : Int32) = 1) ∧ tr S M pe is (some (.ref c) :: r) [] (nb, R, up2 I c f 0, A, J) n k K
  rw [hI]
  exact ⟨rfl, hb, Or.inl rfl, h⟩
theorem p_newa {f q kd : Nat} {L : Int32} (h1 : AO[nb]? = some q) (h2 : kin q = kd) (h3 : ¬ kd = 3) (h4 : ¬ L < 0) (h4' : L.toNatClampNeg = lnn q) (h5 : lnn q < 10000) (h6 : bnn (nb + 1) c = true) (hA : upR A q ZR = A') (hR : up2 R c f (.ref q) = R') (hn : n + 1 ≤ (rmM M).cells) (hk : k + lnn q ≤ (rmM M).slots) (h : tr S M pe is (some (.ref c) :: r) [] (nb + 1, R', I, A', J) (n + 1) (k + lnn q) K) :
    tr S M pe ((1, 0, b1, v1, s1) :: (4, a2, b2, L, s2) :: (17, kd, b3, v3, s3) :: (8, c, f, v4, s4) :: is) (some (.ref c) :: r) [] (nb, R, I, A, J) n k K := by
  refine ⟨q, h1, h2, h4, h4', h5, hn, hk, ?_⟩
  show c = c ∧ bnn (nb + 1) c = true ∧ tr S M pe is (some (.ref c) :: r) [] (nb + 1, up2 R c f (.ref q), I, (if kd = 3 then A else upR A q ZR), (if kd = 3 then upR J q (fun _ => 0) else J)) (n + 1) (k + lnn q) K
  rw [if_neg h3, if_neg h3, hA, hR]
  exact ⟨rfl, h6, h⟩
theorem p_mnew {f q : Nat} {L : Int32} (h1 : AO[nb]? = some q) (h2 : kin q = 4) (h4 : ¬ L < 0) (h4' : L.toNatClampNeg = lnn q) (h5 : lnn q < 100) (hrows : ∀ i, i < lnn q → AO[nb + 1 + i]? = some (bss q + i) ∧ kin (bss q + i) = 1 ∧ lnn (bss q + i) = 12) (h6 : bnn (nb + 1 + lnn q) c = true) (hA : upN A (bss q) (lnn q) ZR = A') (hR : up2 R c f (.ref q) = R') (hn : n + (1 + lnn q) ≤ (rmM M).cells) (hk : k + (lnn q + lnn q * 12) ≤ (rmM M).slots) (h : tr S M pe is (some (.ref c) :: r) [] (nb + 1 + lnn q, R', I, A', J) (n + 1 + lnn q) (k + lnn q + lnn q * 12) K) :
    tr S M pe ((1, 0, b1, v1, s1) :: (4, a2, b2, L, s2) :: (4, a3, b3, 12, s3) :: (19, a4, b4, v4, s4) :: (8, c, f, v5, s5) :: is) (some (.ref c) :: r) [] (nb, R, I, A, J) n k K := by
  refine ⟨q, h1, h2, h4, h4', rfl, h5, hrows, hn, hk, ?_⟩
  show c = c ∧ bnn (nb + 1 + lnn q) c = true ∧ tr S M pe is (some (.ref c) :: r) [] (nb + 1 + lnn q, up2 R c f (.ref q), I, upN A (bss q) (lnn q) ZR, J) (n + 1 + lnn q) (k + lnn q + lnn q * 12) K
  rw [hA, hR]
  exact ⟨rfl, h6, h⟩
theorem p_fill {f q N : Nat} {x : Int32} (h6 : bnn nb c = true) (hR : R c f = .ref q) (hq : ¬ q = SCR) (hk1 : kin q = 1) (hN : lnn q = N) (hb : bnn nb q = true) (h9 : N < 10000) (hM : cRec 71 nb (kdOf (cC M) 71) [.ref q, .int x] = true) (hn : n ≤ (rmM M).cells) (hk : k ≤ (rmM M).slots) (hA : upR A q (fun j => if j < N then x else A q j) = A') (h : tr S M pe is (some (.ref c) :: r) [] (nb, R, I, A', J) n k K) :
    tr S M pe ((1, 0, b1, v1, s1) :: (6, c, f, v2, s2) :: (4, a3, b3, x, s3) :: (52, 71, 2, v4, []) :: is) (some (.ref c) :: r) [] (nb, R, I, A, J) n k K := by
  show c = c ∧ bnn nb c = true ∧ tr S M pe ((4, a3, b3, x, s3) :: (52, 71, 2, v4, []) :: is) (some (.ref c) :: r) [R c f] (nb, R, I, A, J) n k K
  refine ⟨rfl, h6, ?_⟩
  rw [hR, tc]
  refine callz_2 (Nat.zero_le _) hM hn hk rfl rfl (ct_fill hq hk1 hN hb h9 ?_)
  rw [cnt_v]
  show tr S M pe is (some (.ref c) :: r) [] (nb, R, I, upR A q (fun j => if j < N then x else A q j), J) n k K
  rw [hA]
  exact h
theorem p_new {c2 f j nb' : Nat} (h1 : AO[nb]? = some c2) (h6 : bnn nb' 5 = true) (h52 : cRec j (nb + 1) (kdOf (cC M) j) [.ref c2] = true) (hI : upR I c2 (fun _ => 0) = I') (hn1 : n + 1 ≤ (rmM M).cells) (hk1 : k + lnn c2 ≤ (rmM M).slots) (hn : n + 1 + (rmM j).cells ≤ (rmM M).cells) (hk : k + lnn c2 + (rmM j).slots ≤ (rmM M).slots) (hj : ∀ K' : Out → SG → Prop, K' (.inl none) (nb', R, I', A', J) → CT j [.ref c2] (nb + 1, Rp R c2 0, I', A, J) K') (hR : up2 R 5 f (.ref c2) = R') (h : tr S M pe is (some (.ref 5) :: r) [] (nb', R', I', A', J) (n + 1 + (rmM j).cells) (k + lnn c2 + (rmM j).slots) K) :
    tr S M pe ((1, 0, b1, v1, s1) :: (18, c2, b2, v2, s2) :: (20, a3, b3, v3, s3) :: (52, j, 1, v4, []) :: (8, 5, f, v5, s5) :: is) (some (.ref 5) :: r) [] (nb, R, I, A, J) n k K := by
  refine ⟨h1, hn1, hk1, rfl, ?_⟩
  show tr S M pe ((52, j, 1, v4, []) :: (8, 5, f, v5, s5) :: is) (some (.ref 5) :: r) [.ref c2, .ref c2, .ref 5] (nb + 1, upR R c2 (fun _ => .null), upR I c2 (fun _ => 0), A, J) (n + 1) (k + lnn c2) K
  rw [rp_new, hI]
  refine call_1 (Nat.le_of_ble_eq_true rfl) h52 hn hk (hj _ ?_)
  rw [cnt_v]
  show 5 = 5 ∧ bnn nb' 5 = true ∧ tr S M pe is (some (.ref 5) :: r) [] (nb', up2 R 5 f (.ref c2), I', A', J) (n + 1 + (rmM j).cells) (k + lnn c2 + (rmM j).slots) K
  rw [hR]
  exact ⟨rfl, h6, h⟩
theorem y_getR {g : SG} {o a b : Nat} {ls : LC} {st : List Value} : tr S M pe ((6, a, b, v1, s1) :: is) ls (.ref o :: st) g n k K = (o = a ∧ bnn g.1 a = true ∧ tr S M pe is ls (g.2.1 a b :: st) g n k K) := propext Iff.rfl
theorem y_aal {g : SG} {a b q : Nat} {i : Int32} {ls : LC} {st : List Value} : tr S M pe ((13, a, b, v1, s1) :: is) ls (.int i :: .ref q :: st) g n k K = (kin q = 4 ∧ bnn g.1 q = true ∧ ROWB ≤ bss q ∧ vp_in i (lnn q) ∧ tr S M pe is ls (.retAddr (bss q - ROWB + i.toNatClampNeg) :: st) g n k K) := propext Iff.rfl
theorem y_rS {g : SG} {a b q : Nat} {i x : Int32} {ls : LC} {st : List Value} : tr S M pe ((11, a, b, v1, s1) :: is) ls (.int x :: .int i :: .retAddr q :: st) g n k K = ((kin (ROWB + q) = 1 ∧ lnn (ROWB + q) = 12 ∧ bnn g.1 (ROWB + q) = true) ∧ vp_in i 12 ∧ tr S M pe is ls st (g.1, g.2.1, g.2.2.1, upR g.2.2.2.1 (ROWB + q) (upd (g.2.2.2.1 (ROWB + q)) i.toNatClampNeg x), g.2.2.2.2) n k K) := propext Iff.rfl
end PH
section KI
variable {R : Nat → Nat → Value} {I A : Nat → Nat → Int32} {J : Nat → Nat → Int32} {K : Out → SG → Prop}
theorem k_X4 (hR : R 4 = R0 4) (hI : I 4 = fun _ => 0) (hA : ∀ q, (q < 33 ∨ 67 ≤ q) → A q = VA q) (h : K (.inl none) (8, R, I, A, J)) : CT mX4_init [.ref 4] (6, Rp R 4 0, I, A, J) K := by
  refine enX4_init (bX4_init_0 ?_)
  refine p_oinit ?_
  refine p_newa (q := 8) (A' := (CU A 8 0)) (R' := Rp R 4 1) rfl rfl (by decide) (by decide) rfl (Nat.le_of_ble_eq_true rfl) rfl (by rw [cu_0]) (rp_put hR (by decide) (fun j h1 h2 => by first | (exfalso; omega) | (revert h1 h2; revert j; decide)) rfl) (Nat.le_of_ble_eq_true rfl) (Nat.le_of_ble_eq_true rfl) ?_
  refine p_newa (q := 9) (A' := (CU A 8 0)) (R' := Rp R 4 2) rfl rfl (by decide) (by decide) rfl (Nat.le_of_ble_eq_true rfl) rfl (upR_self (by rw [cu_at (by decide), hA 9 (Or.inl (by decide))]; exact VA_Z (by decide))) (rp_put hR (by decide) (fun j h1 h2 => by first | (exfalso; omega) | (revert h1 h2; revert j; decide)) rfl) (Nat.le_of_ble_eq_true rfl) (Nat.le_of_ble_eq_true rfl) ?_
  refine p_fill (q := 8) (A' := A) rfl (by show (if 4 = 4 then (if 0 < 2 then R 4 0 else .null) else R 4 0) = _; rw [if_pos rfl, if_pos (by decide), hR]; rfl) (by decide) rfl rfl rfl (Nat.le_of_ble_eq_true rfl) rfl (Nat.le_of_ble_eq_true rfl) (Nat.le_of_ble_eq_true rfl) (cu_fill (by rw [hA 8 (Or.inl (by decide))]; rfl)) ?_
  rw [rp_all hR (fun k hk => R0_nl (show 2 ≤ k by omega) (show 2 ≤ k by omega))]
  exact ⟨(Nat.le_of_ble_eq_true rfl), (Nat.le_of_ble_eq_true rfl), h⟩
theorem rowsZ (hA : ∀ q, (q < 33 ∨ 67 ≤ q) → A q = VA q) : upN A (bss 19) (lnn 19) ZR = A := by
  have e1 : bss 19 = 67 := id rfl
  have e2 : lnn 19 = 40 := id rfl
  rw [e1, e2]
  funext b
  unfold upN
  by_cases h : 67 ≤ b ∧ b < 67 + 40
  · rw [if_pos h, hA b (Or.inr h.1)]
    exact (VA_Z (by simp only [List.mem_cons, List.not_mem_nil, or_false]; omega)).symm
  · rw [if_neg h]
theorem k_X3 (hR : R 3 = R0 3) (hI : I 3 = fun _ => 0) (hA : ∀ q, (q < 33 ∨ 67 ≤ q) → A q = VA q) (h : K (.inl none) (59, R, I, A, J)) : CT mX3_init [.ref 3] (9, Rp R 3 0, I, A, J) K := by
  refine enX3_init (bX3_init_0 ?_)
  refine p_oinit ?_
  refine p_put (I' := I) rfl (up2_self (congrFun hI 0)) ?_
  refine p_put (I' := I) rfl (up2_self (congrFun hI 1)) ?_
  refine p_newa (q := 10) (A' := A) (R' := Rp R 3 3) rfl rfl (by decide) (by decide) rfl (Nat.le_of_ble_eq_true rfl) rfl (upR_self (by rw [hA 10 (Or.inl (by decide))]; exact VA_Z (by decide))) (rp_put hR (by decide) (fun j h1 h2 => by first | (exfalso; omega) | (revert h1 h2; revert j; decide)) rfl) (Nat.le_of_ble_eq_true rfl) (Nat.le_of_ble_eq_true rfl) ?_
  refine p_newa (q := 11) (A' := A) (R' := Rp R 3 4) rfl rfl (by decide) (by decide) rfl (Nat.le_of_ble_eq_true rfl) rfl (upR_self (by rw [hA 11 (Or.inl (by decide))]; exact VA_Z (by decide))) (rp_put hR (by decide) (fun j h1 h2 => by first | (exfalso; omega) | (revert h1 h2; revert j; decide)) rfl) (Nat.le_of_ble_eq_true rfl) (Nat.le_of_ble_eq_true rfl) ?_
  refine p_newa (q := 12) (A' := A) (R' := Rp R 3 5) rfl rfl (by decide) (by decide) rfl (Nat.le_of_ble_eq_true rfl) rfl (upR_self (by rw [hA 12 (Or.inl (by decide))]; exact VA_Z (by decide))) (rp_put hR (by decide) (fun j h1 h2 => by first | (exfalso; omega) | (revert h1 h2; revert j; decide)) rfl) (Nat.le_of_ble_eq_true rfl) (Nat.le_of_ble_eq_true rfl) ?_
  refine p_newa (q := 13) (A' := A) (R' := Rp R 3 6) rfl rfl (by decide) (by decide) rfl (Nat.le_of_ble_eq_true rfl) rfl (upR_self (by rw [hA 13 (Or.inl (by decide))]; exact VA_Z (by decide))) (rp_put hR (by decide) (fun j h1 h2 => by first | (exfalso; omega) | (revert h1 h2; revert j; decide)) rfl) (Nat.le_of_ble_eq_true rfl) (Nat.le_of_ble_eq_true rfl) ?_
  refine p_newa (q := 14) (A' := A) (R' := Rp R 3 7) rfl rfl (by decide) (by decide) rfl (Nat.le_of_ble_eq_true rfl) rfl (upR_self (by rw [hA 14 (Or.inl (by decide))]; exact VA_Z (by decide))) (rp_put hR (by decide) (fun j h1 h2 => by first | (exfalso; omega) | (revert h1 h2; revert j; decide)) rfl) (Nat.le_of_ble_eq_true rfl) (Nat.le_of_ble_eq_true rfl) ?_
  refine p_newa (q := 15) (A' := A) (R' := Rp R 3 8) rfl rfl (by decide) (by decide) rfl (Nat.le_of_ble_eq_true rfl) rfl (upR_self (by rw [hA 15 (Or.inl (by decide))]; exact VA_Z (by decide))) (rp_put hR (by decide) (fun j h1 h2 => by first | (exfalso; omega) | (revert h1 h2; revert j; decide)) rfl) (Nat.le_of_ble_eq_true rfl) (Nat.le_of_ble_eq_true rfl) ?_
  refine p_newa (q := 16) (A' := A) (R' := Rp R 3 9) rfl rfl (by decide) (by decide) rfl (Nat.le_of_ble_eq_true rfl) rfl (upR_self (by rw [hA 16 (Or.inl (by decide))]; exact VA_Z (by decide))) (rp_put hR (by decide) (fun j h1 h2 => by first | (exfalso; omega) | (revert h1 h2; revert j; decide)) rfl) (Nat.le_of_ble_eq_true rfl) (Nat.le_of_ble_eq_true rfl) ?_
  refine p_newa (q := 17) (A' := A) (R' := Rp R 3 10) rfl rfl (by decide) (by decide) rfl (Nat.le_of_ble_eq_true rfl) rfl (upR_self (by rw [hA 17 (Or.inl (by decide))]; exact VA_Z (by decide))) (rp_put hR (by decide) (fun j h1 h2 => by first | (exfalso; omega) | (revert h1 h2; revert j; decide)) rfl) (Nat.le_of_ble_eq_true rfl) (Nat.le_of_ble_eq_true rfl) ?_
  refine p_newa (q := 18) (A' := A) (R' := Rp R 3 11) rfl rfl (by decide) (by decide) rfl (Nat.le_of_ble_eq_true rfl) rfl (upR_self (by rw [hA 18 (Or.inl (by decide))]; exact VA_Z (by decide))) (rp_put hR (by decide) (fun j h1 h2 => by first | (exfalso; omega) | (revert h1 h2; revert j; decide)) rfl) (Nat.le_of_ble_eq_true rfl) (Nat.le_of_ble_eq_true rfl) ?_
  refine p_mnew (q := 19) (A' := A) (R' := Rp R 3 12) rfl rfl (by decide) rfl (Nat.le_of_ble_eq_true rfl) (by decide) rfl (rowsZ hA) (rp_put hR (by decide) (fun j h1 h2 => by first | (exfalso; omega) | (revert h1 h2; revert j; decide)) rfl) (Nat.le_of_ble_eq_true rfl) (Nat.le_of_ble_eq_true rfl) ?_
  rw [rp_all hR (fun k hk => R0_nl (show 12 ≤ k by omega) (show 12 ≤ k by omega))]
  exact ⟨(Nat.le_of_ble_eq_true rfl), (Nat.le_of_ble_eq_true rfl), h⟩
theorem k_X2 (hR : R 2 = R0 2) (hI : I 2 = fun _ => 0) (hA : ∀ q, (q < 33 ∨ 67 ≤ q) → A q = VA q) (h : K (.inl none) (64, R, I, A, J)) : CT mX2_init [.ref 2] (60, Rp R 2 0, I, A, J) K := by
  refine enX2_init (bX2_init_0 ?_)
  refine p_oinit ?_
  refine p_put (I' := I) rfl (up2_self (congrFun hI 0)) ?_
  refine p_put (I' := I) rfl (up2_self (congrFun hI 1)) ?_
  refine p_put (I' := I) rfl (up2_self (congrFun hI 2)) ?_
  refine p_newa (q := 20) (A' := A) (R' := Rp R 2 4) rfl rfl (by decide) (by decide) rfl (Nat.le_of_ble_eq_true rfl) rfl (upR_self (by rw [hA 20 (Or.inl (by decide))]; exact VA_Z (by decide))) (rp_put hR (by decide) (fun j h1 h2 => by first | (exfalso; omega) | (revert h1 h2; revert j; decide)) rfl) (Nat.le_of_ble_eq_true rfl) (Nat.le_of_ble_eq_true rfl) ?_
  refine p_newa (q := 21) (A' := (CU A 21 0)) (R' := Rp R 2 5) rfl rfl (by decide) (by decide) rfl (Nat.le_of_ble_eq_true rfl) rfl (by rw [cu_0]) (rp_put hR (by decide) (fun j h1 h2 => by first | (exfalso; omega) | (revert h1 h2; revert j; decide)) rfl) (Nat.le_of_ble_eq_true rfl) (Nat.le_of_ble_eq_true rfl) ?_
  refine p_newa (q := 22) (A' := (CU A 21 0)) (R' := Rp R 2 6) rfl rfl (by decide) (by decide) rfl (Nat.le_of_ble_eq_true rfl) rfl (upR_self (by rw [cu_at (by decide), hA 22 (Or.inl (by decide))]; exact VA_Z (by decide))) (rp_put hR (by decide) (fun j h1 h2 => by first | (exfalso; omega) | (revert h1 h2; revert j; decide)) rfl) (Nat.le_of_ble_eq_true rfl) (Nat.le_of_ble_eq_true rfl) ?_
  refine p_newa (q := 23) (A' := (CU A 21 0)) (R' := Rp R 2 7) rfl rfl (by decide) (by decide) rfl (Nat.le_of_ble_eq_true rfl) rfl (upR_self (by rw [cu_at (by decide), hA 23 (Or.inl (by decide))]; exact VA_Z (by decide))) (rp_put hR (by decide) (fun j h1 h2 => by first | (exfalso; omega) | (revert h1 h2; revert j; decide)) rfl) (Nat.le_of_ble_eq_true rfl) (Nat.le_of_ble_eq_true rfl) ?_
  refine p_fill (q := 21) (A' := A) rfl (by show (if 2 = 2 then (if 4 < 7 then R 2 4 else .null) else R 2 4) = _; rw [if_pos rfl, if_pos (by decide), hR]; rfl) (by decide) rfl rfl rfl (Nat.le_of_ble_eq_true rfl) rfl (Nat.le_of_ble_eq_true rfl) (Nat.le_of_ble_eq_true rfl) (cu_fill (by rw [hA 21 (Or.inl (by decide))]; rfl)) ?_
  rw [rp_all hR (fun k hk => R0_nl (show 7 ≤ k by omega) (show 7 ≤ k by omega))]
  exact ⟨(Nat.le_of_ble_eq_true rfl), (Nat.le_of_ble_eq_true rfl), h⟩
theorem k_X1 (hR : R 1 = R0 1) (hI : I 1 = fun _ => 0) (hA : ∀ q, (q < 33 ∨ 67 ≤ q) → A q = VA q) (h : K (.inl none) (69, R, I, A, J)) : CT mX1_init [.ref 1] (65, Rp R 1 0, I, A, J) K := by
  refine enX1_init (bX1_init_0 ?_)
  refine p_oinit ?_
  refine p_newa (q := 24) (A' := (CU A 24 0)) (R' := Rp R 1 1) rfl rfl (by decide) (by decide) rfl (Nat.le_of_ble_eq_true rfl) rfl (by rw [cu_0]) (rp_put hR (by decide) (fun j h1 h2 => by first | (exfalso; omega) | (revert h1 h2; revert j; decide)) rfl) (Nat.le_of_ble_eq_true rfl) (Nat.le_of_ble_eq_true rfl) ?_
  refine p_newa (q := 25) (A' := (CU (CU A 25 0) 24 0)) (R' := Rp R 1 2) rfl rfl (by decide) (by decide) rfl (Nat.le_of_ble_eq_true rfl) rfl (by rw [cu_up (by decide), cu_0]) (rp_put hR (by decide) (fun j h1 h2 => by first | (exfalso; omega) | (revert h1 h2; revert j; decide)) rfl) (Nat.le_of_ble_eq_true rfl) (Nat.le_of_ble_eq_true rfl) ?_
  refine p_newa (q := 26) (A' := (CU (CU A 25 0) 24 0)) (R' := Rp R 1 3) rfl rfl (by decide) (by decide) rfl (Nat.le_of_ble_eq_true rfl) rfl (upR_self (by rw [cu_at (by decide), cu_at (by decide), hA 26 (Or.inl (by decide))]; exact VA_Z (by decide))) (rp_put hR (by decide) (fun j h1 h2 => by first | (exfalso; omega) | (revert h1 h2; revert j; decide)) rfl) (Nat.le_of_ble_eq_true rfl) (Nat.le_of_ble_eq_true rfl) ?_
  refine p_newa (q := 27) (A' := (CU (CU A 25 0) 24 0)) (R' := Rp R 1 4) rfl rfl (by decide) (by decide) rfl (Nat.le_of_ble_eq_true rfl) rfl (upR_self (by rw [cu_at (by decide), cu_at (by decide), hA 27 (Or.inl (by decide))]; exact VA_Z (by decide))) (rp_put hR (by decide) (fun j h1 h2 => by first | (exfalso; omega) | (revert h1 h2; revert j; decide)) rfl) (Nat.le_of_ble_eq_true rfl) (Nat.le_of_ble_eq_true rfl) ?_
  refine p_fill (q := 24) (A' := (CU A 25 0)) rfl (by show (if 1 = 1 then (if 0 < 4 then R 1 0 else .null) else R 1 0) = _; rw [if_pos rfl, if_pos (by decide), hR]; rfl) (by decide) rfl rfl rfl (Nat.le_of_ble_eq_true rfl) rfl (Nat.le_of_ble_eq_true rfl) (Nat.le_of_ble_eq_true rfl) (cu_fill (by rw [cu_at (by decide), hA 24 (Or.inl (by decide))]; rfl)) ?_
  refine p_fill (q := 25) (A' := A) rfl (by show (if 1 = 1 then (if 1 < 4 then R 1 1 else .null) else R 1 1) = _; rw [if_pos rfl, if_pos (by decide), hR]; rfl) (by decide) rfl rfl rfl (Nat.le_of_ble_eq_true rfl) rfl (Nat.le_of_ble_eq_true rfl) (Nat.le_of_ble_eq_true rfl) (cu_fill (by rw [hA 25 (Or.inl (by decide))]; rfl)) ?_
  rw [rp_all hR (fun k hk => R0_nl (show 4 ≤ k by omega) (show 4 ≤ k by omega))]
  exact ⟨(Nat.le_of_ble_eq_true rfl), (Nat.le_of_ble_eq_true rfl), h⟩
theorem k_X0 (hR : R 0 = R0 0) (hI : I 0 = fun _ => 0) (hA : ∀ q, (q < 33 ∨ 67 ≤ q) → A q = VA q) (h : K (.inl none) (74, R, I, A, J)) : CT mX0_init [.ref 0] (70, Rp R 0 0, I, A, J) K := by
  refine enX0_init (bX0_init_0 ?_)
  refine p_oinit ?_
  refine p_putZ (I' := I) rfl (up2_self (congrFun hI 0)) ?_
  refine p_put (I' := I) rfl (up2_self (congrFun hI 1)) ?_
  refine p_newa (q := 28) (A' := A) (R' := Rp R 0 3) rfl rfl (by decide) (by decide) rfl (Nat.le_of_ble_eq_true rfl) rfl (upR_self (by rw [hA 28 (Or.inl (by decide))]; exact VA_Z (by decide))) (rp_put hR (by decide) (fun j h1 h2 => by first | (exfalso; omega) | (revert h1 h2; revert j; decide)) rfl) (Nat.le_of_ble_eq_true rfl) (Nat.le_of_ble_eq_true rfl) ?_
  refine p_newa (q := 29) (A' := A) (R' := Rp R 0 4) rfl rfl (by decide) (by decide) rfl (Nat.le_of_ble_eq_true rfl) rfl (upR_self (by rw [hA 29 (Or.inl (by decide))]; exact VA_Z (by decide))) (rp_put hR (by decide) (fun j h1 h2 => by first | (exfalso; omega) | (revert h1 h2; revert j; decide)) rfl) (Nat.le_of_ble_eq_true rfl) (Nat.le_of_ble_eq_true rfl) ?_
  refine p_newa (q := 30) (A' := A) (R' := Rp R 0 5) rfl rfl (by decide) (by decide) rfl (Nat.le_of_ble_eq_true rfl) rfl (upR_self (by rw [hA 30 (Or.inl (by decide))]; exact VA_Z (by decide))) (rp_put hR (by decide) (fun j h1 h2 => by first | (exfalso; omega) | (revert h1 h2; revert j; decide)) rfl) (Nat.le_of_ble_eq_true rfl) (Nat.le_of_ble_eq_true rfl) ?_
  refine p_newa (q := 31) (A' := A) (R' := Rp R 0 6) rfl rfl (by decide) (by decide) rfl (Nat.le_of_ble_eq_true rfl) rfl (upR_self (by rw [hA 31 (Or.inl (by decide))]; exact VA_Z (by decide))) (rp_put hR (by decide) (fun j h1 h2 => by first | (exfalso; omega) | (revert h1 h2; revert j; decide)) rfl) (Nat.le_of_ble_eq_true rfl) (Nat.le_of_ble_eq_true rfl) ?_
  rw [rp_all hR (fun k hk => R0_nl (show 6 ≤ k by omega) (show 6 ≤ k by omega))]
  exact ⟨(Nat.le_of_ble_eq_true rfl), (Nat.le_of_ble_eq_true rfl), h⟩
/-- the words' rows as far as text t, place p -/
def WA (A : Nat → Nat → Int32) (t p : Nat) : Nat → Nat → Int32 := fun b => if 64 ≤ b ∧ b < 67 then (if b < 64 + t then A b else if b = 64 + t then (fun j => if j < p then A b j else 0) else ZR) else A b
theorem wa_0 : upN A (bss 7) (lnn 7) ZR = WA A 0 0 := by
  have e1 : bss 7 = 64 := id rfl
  have e2 : lnn 7 = 3 := id rfl
  rw [e1, e2]
  funext b j
  unfold upN WA
  by_cases h : 64 ≤ b ∧ b < 64 + 3
  · rw [if_pos h, if_pos (by omega), if_neg (by omega)]
    by_cases h2 : b = 64 + 0
    · rw [if_pos h2, if_neg (Nat.not_lt_zero j)]
      rfl
    · rw [if_neg h2]
  · rw [if_neg h, if_neg (by omega)]
theorem wa_out {t p b : Nat} (h : b < 64 ∨ 67 ≤ b) : WA A t p b = A b := by
  unfold WA
  rw [if_neg (by omega)]
theorem wa_step {t p : Nat} {x : Int32} (ht : t < 3) (h : A (64 + t) p = x) : upR (WA A t p) (64 + t) (upd (WA A t p (64 + t)) p x) = WA A t (p + 1) := by
  funext b j
  unfold upR
  by_cases e : b = 64 + t
  · subst e
    have w1 : 64 ≤ 64 + t ∧ 64 + t < 67 := by omega
    have w2 : ¬ 64 + t < 64 + t := by omega
    unfold WA
    simp only [if_pos w1, if_neg w2, if_true]
    rw [upd_at]
    by_cases e2 : j = p
    · rw [if_pos e2, if_pos (by omega), e2, h]
    · rw [if_neg e2]
      by_cases e3 : j < p
      · rw [if_pos e3, if_pos (by omega)]
      · rw [if_neg e3, if_neg (by omega)]
  · rw [if_neg e]
    unfold WA
    by_cases h1 : 64 ≤ b ∧ b < 67
    · rw [if_pos h1, if_pos h1]
      by_cases h2 : b < 64 + t
      · rw [if_pos h2, if_pos h2]
      · rw [if_neg h2, if_neg h2, if_neg e, if_neg e]
    · rw [if_neg h1, if_neg h1]
theorem wa_row {t : Nat} (ht : t < 3) (h : ∀ j, 12 ≤ j → A (64 + t) j = 0) : WA A t 12 = WA A (t + 1) 0 := by
  funext b j
  unfold WA
  by_cases h1 : 64 ≤ b ∧ b < 67
  · rw [if_pos h1, if_pos h1]
    by_cases h2 : b < 64 + t
    · rw [if_pos h2, if_pos (show b < 64 + (t + 1) by omega)]
    · rw [if_neg h2]
      by_cases h3 : b = 64 + t
      · rw [if_pos h3, if_pos (show b < 64 + (t + 1) by omega)]
        by_cases h4 : j < 12
        · simp only [if_pos h4]
        · simp only [if_neg h4]
          rw [h3, h j (by omega)]
      · rw [if_neg h3, if_neg (show ¬ b < 64 + (t + 1) by omega)]
        by_cases h4 : b = 64 + (t + 1)
        · rw [if_pos h4, if_neg (Nat.not_lt_zero j)]
          rfl
        · rw [if_neg h4]
  · rw [if_neg h1, if_neg h1]
theorem wa_all : WA A 3 0 = A := by
  funext b
  unfold WA
  by_cases h1 : 64 ≤ b ∧ b < 67
  · rw [if_pos h1, if_pos (by omega)]
  · rw [if_neg h1]
theorem VA_w {t : Nat} (ht : t < 3) : VA (64 + t) = fun j => if j < 12 then nI j else 0 := by
  unfold VA
  rw [if_neg (by omega), if_neg (by omega), if_neg (by omega), if_pos (by omega)]
theorem lp_w {t : Nat} {n k : Nat} {x : Int32} (hR : R 5 = R0 5) (ht : t < 3) (hA : ∀ t, t < 3 → A (64 + t) = VA (64 + t)) (h : X S00 mX5_init 113 [some (.ref 5), some (.int (nI t)), some (.int (nI 12))] [] (75, R, I, WA A t 12, J) n k K) : ∀ d p, p + d = 12 → X S00 mX5_init 92 [some (.ref 5), some (.int (nI t)), some (.int (nI p))] [] (75, R, I, WA A t p, J) n k K := by
  intro d
  induction d with
  | zero =>
    intro p hp
    have e : p = 12 := by omega
    subst e
    refine bX5_init_92 ?_
    simp only [y_getR, ti_0, ta_0, tR_0, si_0, sa_0, ii_0, ti_1, ta_1, tR_1, si_1, sa_1, ii_1, ti_2, ta_2, tR_2, si_2, sa_2, ii_2, ti_3, ta_3, tR_3, si_3, sa_3, ii_3, ti_4, ta_4, tR_4, si_4, sa_4, ii_4, ti_5, ta_5, tR_5, si_5, sa_5, ii_5, ti_6, ta_6, tR_6, si_6, sa_6, ii_6, ti_7, ta_7, tR_7, si_7, sa_7, ii_7, ti_8, ta_8, tR_8, si_8, sa_8, ii_8, ti_9, ta_9, tR_9, si_9, sa_9, ii_9, ti_10, ta_10, tR_10, si_10, sa_10, ii_10, ti_11, ta_11, tR_11, si_11, sa_11, ii_11, ti_12, ta_12, tR_12, si_12, sa_12, ii_12, ti_13, ta_13, tR_13, si_13, sa_13, ii_13, ti_14, ta_14, tR_14, si_14, sa_14, ii_14, ti_15, ta_15, tR_15, si_15, sa_15, ii_15, ti_16, ta_16, tR_16, si_16, sa_16, ii_16, ti_17, ta_17, tR_17, si_17, sa_17, ii_17, ti_18, ta_18, tR_18, si_18, sa_18, ii_18, ti_19, ta_19, tR_19, si_19, sa_19, ii_19, ti_20, ta_20, tR_20, si_20, sa_20, ii_20, ti_21, ta_21, tR_21, si_21, sa_21, ii_21, ti_22, ta_22, tR_22, si_22, sa_22, ii_22, ti_23, ta_23, tR_23, si_23, sa_23, ii_23, ti_24, ta_24, tR_24, si_24, sa_24, ii_24, ti_25, ta_25, tR_25, si_25, sa_25, ii_25, ti_26, ta_26, tR_26, si_26, sa_26, ii_26, tc, tnil, z_iadd, z_isub, z_imul, z_iand, z_ior, z_ixor, z_ishl, z_ishr, z_iushr, z_irem, z_idiv, z_ineg, z_i2l, z_lconst, z_lcmp, z_goto, z_if_eq, z_if_ne, z_if_lt, z_if_ge, z_if_gt, z_if_le, z_ic_eq, z_ic_ne, z_ic_lt, z_ic_ge, z_ic_gt, z_ic_le, z_iret, z_bret, z_vret, z_thr, z_dup_int, z_dup2_int, z_pop_int, z_dup_ref, z_dup2_ref, z_pop_ref, z_dup_row, z_dup2_row, z_pop_row, gI_0, pI_0, pZ_0, gI_1, pI_1, pZ_1, gI_2, pI_2, pZ_2, gI_3, pI_3, pZ_3, gI_4, pI_4, pZ_4, gI_5, pI_5, pZ_5, gR_0_2, gR_0_3, gR_0_4, gR_0_5, gR_1_0, gR_1_1, gR_1_2, gR_1_3, gR_2_3, gR_2_4, gR_2_5, gR_2_6, gR_3_2, gR_3_3, gR_3_4, gR_3_5, gR_3_6, gR_3_7, gR_3_8, gR_3_9, gR_3_10, gR_3_11, gR_4_0, gR_4_1, gR_5_0, gR_5_1, gR_5_2, gR_5_3, gR_5_4, gR_5_5, gR_5_6, aL_7, aL_8, aS_8, aL_9, aS_9, aL_10, aS_10, aL_11, aS_11, aL_12, aS_12, aL_13, aS_13, aL_14, aS_14, aL_15, aS_15, aL_16, aS_16, aL_17, aS_17, aL_18, aS_18, aL_19, aL_20, aS_20, aL_21, aS_21, aL_22, aS_22, aL_23, aS_23, aL_24, aS_24, aL_25, aS_25, aL_26, aS_26, aL_27, aS_27, aL_28, aS_28, aL_29, aS_29, aL_30, aS_30, aL_31, aS_31, aL_32, aS_32, aL_33, aS_33, aL_34, aS_34, aL_35, aS_35, aL_36, aS_36, aL_37, aS_37, aL_38, aS_38, aL_39, aS_39, aL_40, aS_40, aL_41, aS_41, aL_42, aS_42, aL_43, aS_43, rL, rS, z_switch, Nat.zero_le, or_true, true_or, or_false, false_or,  cnt_i, cnt_v, cnt_x, i0_eq, i1_eq, i01_eq, im1_0, ne_eq, not_true_eq_false, not_false_eq_true, true_implies, false_implies, implies_true, true_and, and_true, false_and, and_false, List.set_cons_zero, List.set_cons_succ]
    exact ⟨fun _ => h, fun z => absurd (nI_le (a := 12) (b := 12) (by omega) (by omega)) z⟩
  | succ d ih =>
    intro p hp
    have e7 : R 5 0 = .ref 7 := by
      rw [hR]
      rfl
    have hct : (nI t).toNatClampNeg = t := nI_clamp (by omega)
    have hcp : (nI p).toNatClampNeg = p := nI_clamp (by omega)
    have eb : bss 7 - ROWB + t = t := by
      have e1 : bss 7 = 64 := id rfl
      have e2 : ROWB = 64 := id rfl
      omega
    have ea : A (64 + t) p = nI p := by
      rw [hA t ht, VA_w ht]
      exact if_pos (show p < 12 by omega)
    have hrow : kin (ROWB + t) = 1 ∧ lnn (ROWB + t) = 12 ∧ bnn 75 (ROWB + t) = true := by
      have hr : ∀ t, t < 3 → kin (ROWB + t) = 1 ∧ lnn (ROWB + t) = 12 ∧ bnn 75 (ROWB + t) = true := by decide
      exact hr t ht
    refine bX5_init_92 ?_
    simp only [y_getR, e7, y_aal, ti_0, ta_0, tR_0, si_0, sa_0, ii_0, ti_1, ta_1, tR_1, si_1, sa_1, ii_1, ti_2, ta_2, tR_2, si_2, sa_2, ii_2, ti_3, ta_3, tR_3, si_3, sa_3, ii_3, ti_4, ta_4, tR_4, si_4, sa_4, ii_4, ti_5, ta_5, tR_5, si_5, sa_5, ii_5, ti_6, ta_6, tR_6, si_6, sa_6, ii_6, ti_7, ta_7, tR_7, si_7, sa_7, ii_7, ti_8, ta_8, tR_8, si_8, sa_8, ii_8, ti_9, ta_9, tR_9, si_9, sa_9, ii_9, ti_10, ta_10, tR_10, si_10, sa_10, ii_10, ti_11, ta_11, tR_11, si_11, sa_11, ii_11, ti_12, ta_12, tR_12, si_12, sa_12, ii_12, ti_13, ta_13, tR_13, si_13, sa_13, ii_13, ti_14, ta_14, tR_14, si_14, sa_14, ii_14, ti_15, ta_15, tR_15, si_15, sa_15, ii_15, ti_16, ta_16, tR_16, si_16, sa_16, ii_16, ti_17, ta_17, tR_17, si_17, sa_17, ii_17, ti_18, ta_18, tR_18, si_18, sa_18, ii_18, ti_19, ta_19, tR_19, si_19, sa_19, ii_19, ti_20, ta_20, tR_20, si_20, sa_20, ii_20, ti_21, ta_21, tR_21, si_21, sa_21, ii_21, ti_22, ta_22, tR_22, si_22, sa_22, ii_22, ti_23, ta_23, tR_23, si_23, sa_23, ii_23, ti_24, ta_24, tR_24, si_24, sa_24, ii_24, ti_25, ta_25, tR_25, si_25, sa_25, ii_25, ti_26, ta_26, tR_26, si_26, sa_26, ii_26, tc, tnil, z_iadd, z_isub, z_imul, z_iand, z_ior, z_ixor, z_ishl, z_ishr, z_iushr, z_irem, z_idiv, z_ineg, z_i2l, z_lconst, z_lcmp, z_goto, z_if_eq, z_if_ne, z_if_lt, z_if_ge, z_if_gt, z_if_le, z_ic_eq, z_ic_ne, z_ic_lt, z_ic_ge, z_ic_gt, z_ic_le, z_iret, z_bret, z_vret, z_thr, z_dup_int, z_dup2_int, z_pop_int, z_dup_ref, z_dup2_ref, z_pop_ref, z_dup_row, z_dup2_row, z_pop_row, gI_0, pI_0, pZ_0, gI_1, pI_1, pZ_1, gI_2, pI_2, pZ_2, gI_3, pI_3, pZ_3, gI_4, pI_4, pZ_4, gI_5, pI_5, pZ_5, gR_0_2, gR_0_3, gR_0_4, gR_0_5, gR_1_0, gR_1_1, gR_1_2, gR_1_3, gR_2_3, gR_2_4, gR_2_5, gR_2_6, gR_3_2, gR_3_3, gR_3_4, gR_3_5, gR_3_6, gR_3_7, gR_3_8, gR_3_9, gR_3_10, gR_3_11, gR_4_0, gR_4_1, gR_5_0, gR_5_1, gR_5_2, gR_5_3, gR_5_4, gR_5_5, gR_5_6, aL_7, aL_8, aS_8, aL_9, aS_9, aL_10, aS_10, aL_11, aS_11, aL_12, aS_12, aL_13, aS_13, aL_14, aS_14, aL_15, aS_15, aL_16, aS_16, aL_17, aS_17, aL_18, aS_18, aL_19, aL_20, aS_20, aL_21, aS_21, aL_22, aS_22, aL_23, aS_23, aL_24, aS_24, aL_25, aS_25, aL_26, aS_26, aL_27, aS_27, aL_28, aS_28, aL_29, aS_29, aL_30, aS_30, aL_31, aS_31, aL_32, aS_32, aL_33, aS_33, aL_34, aS_34, aL_35, aS_35, aL_36, aS_36, aL_37, aS_37, aL_38, aS_38, aL_39, aS_39, aL_40, aS_40, aL_41, aS_41, aL_42, aS_42, aL_43, aS_43, rL, rS, z_switch, Nat.zero_le, or_true, true_or, or_false, false_or,  cnt_i, cnt_v, cnt_x, i0_eq, i1_eq, i01_eq, im1_0, ne_eq, not_true_eq_false, not_false_eq_true, true_implies, false_implies, implies_true, true_and, and_true, false_and, and_false, List.set_cons_zero, List.set_cons_succ]
    refine ⟨fun z => absurd z (nI_ge (a := p) (b := 12) (by omega) (by omega)), fun _ => ?_⟩
    rw [hct, eb]
    simp only [y_rS, ti_0, ta_0, tR_0, si_0, sa_0, ii_0, ti_1, ta_1, tR_1, si_1, sa_1, ii_1, ti_2, ta_2, tR_2, si_2, sa_2, ii_2, ti_3, ta_3, tR_3, si_3, sa_3, ii_3, ti_4, ta_4, tR_4, si_4, sa_4, ii_4, ti_5, ta_5, tR_5, si_5, sa_5, ii_5, ti_6, ta_6, tR_6, si_6, sa_6, ii_6, ti_7, ta_7, tR_7, si_7, sa_7, ii_7, ti_8, ta_8, tR_8, si_8, sa_8, ii_8, ti_9, ta_9, tR_9, si_9, sa_9, ii_9, ti_10, ta_10, tR_10, si_10, sa_10, ii_10, ti_11, ta_11, tR_11, si_11, sa_11, ii_11, ti_12, ta_12, tR_12, si_12, sa_12, ii_12, ti_13, ta_13, tR_13, si_13, sa_13, ii_13, ti_14, ta_14, tR_14, si_14, sa_14, ii_14, ti_15, ta_15, tR_15, si_15, sa_15, ii_15, ti_16, ta_16, tR_16, si_16, sa_16, ii_16, ti_17, ta_17, tR_17, si_17, sa_17, ii_17, ti_18, ta_18, tR_18, si_18, sa_18, ii_18, ti_19, ta_19, tR_19, si_19, sa_19, ii_19, ti_20, ta_20, tR_20, si_20, sa_20, ii_20, ti_21, ta_21, tR_21, si_21, sa_21, ii_21, ti_22, ta_22, tR_22, si_22, sa_22, ii_22, ti_23, ta_23, tR_23, si_23, sa_23, ii_23, ti_24, ta_24, tR_24, si_24, sa_24, ii_24, ti_25, ta_25, tR_25, si_25, sa_25, ii_25, ti_26, ta_26, tR_26, si_26, sa_26, ii_26, tc, tnil, z_iadd, z_isub, z_imul, z_iand, z_ior, z_ixor, z_ishl, z_ishr, z_iushr, z_irem, z_idiv, z_ineg, z_i2l, z_lconst, z_lcmp, z_goto, z_if_eq, z_if_ne, z_if_lt, z_if_ge, z_if_gt, z_if_le, z_ic_eq, z_ic_ne, z_ic_lt, z_ic_ge, z_ic_gt, z_ic_le, z_iret, z_bret, z_vret, z_thr, z_dup_int, z_dup2_int, z_pop_int, z_dup_ref, z_dup2_ref, z_pop_ref, z_dup_row, z_dup2_row, z_pop_row, gI_0, pI_0, pZ_0, gI_1, pI_1, pZ_1, gI_2, pI_2, pZ_2, gI_3, pI_3, pZ_3, gI_4, pI_4, pZ_4, gI_5, pI_5, pZ_5, gR_0_2, gR_0_3, gR_0_4, gR_0_5, gR_1_0, gR_1_1, gR_1_2, gR_1_3, gR_2_3, gR_2_4, gR_2_5, gR_2_6, gR_3_2, gR_3_3, gR_3_4, gR_3_5, gR_3_6, gR_3_7, gR_3_8, gR_3_9, gR_3_10, gR_3_11, gR_4_0, gR_4_1, gR_5_0, gR_5_1, gR_5_2, gR_5_3, gR_5_4, gR_5_5, gR_5_6, aL_7, aL_8, aS_8, aL_9, aS_9, aL_10, aS_10, aL_11, aS_11, aL_12, aS_12, aL_13, aS_13, aL_14, aS_14, aL_15, aS_15, aL_16, aS_16, aL_17, aS_17, aL_18, aS_18, aL_19, aL_20, aS_20, aL_21, aS_21, aL_22, aS_22, aL_23, aS_23, aL_24, aS_24, aL_25, aS_25, aL_26, aS_26, aL_27, aS_27, aL_28, aS_28, aL_29, aS_29, aL_30, aS_30, aL_31, aS_31, aL_32, aS_32, aL_33, aS_33, aL_34, aS_34, aL_35, aS_35, aL_36, aS_36, aL_37, aS_37, aL_38, aS_38, aL_39, aS_39, aL_40, aS_40, aL_41, aS_41, aL_42, aS_42, aL_43, aS_43, rL, rS, z_switch, Nat.zero_le, or_true, true_or, or_false, false_or,  cnt_i, cnt_v, cnt_x, i0_eq, i1_eq, i01_eq, im1_0, ne_eq, not_true_eq_false, not_false_eq_true, true_implies, false_implies, implies_true, true_and, and_true, false_and, and_false, List.set_cons_zero, List.set_cons_succ]
    rw [hcp, nI_1]
    have es : upR (WA A t p) (ROWB + t) (upd (WA A t p (ROWB + t)) p (nI p)) = WA A t (p + 1) := wa_step ht ea
    rw [es]
    have hx := ih (p + 1) (by omega)
    exact ⟨rfl, rfl, rfl, Nat.le_refl _, vp_in_nI (by show t < 3; exact ht) (by decide), hrow, vp_in_nI (by omega) (by decide), hx⟩
theorem lp_t {n k : Nat} (hR : R 5 = R0 5) (hA : ∀ t, t < 3 → A (64 + t) = VA (64 + t)) (h : ∀ o2, X S00 mX5_init 119 [some (.ref 5), some (.int (nI 3)), o2] [] (75, R, I, A, J) n k K) : ∀ d t, t + d = 3 → ∀ o2, X S00 mX5_init 85 [some (.ref 5), some (.int (nI t)), o2] [] (75, R, I, WA A t 0, J) n k K := by
  intro d
  induction d with
  | zero =>
    intro t ht o2
    have e : t = 3 := by omega
    subst e
    refine bX5_init_85 ?_
    simp only [ti_0, ta_0, tR_0, si_0, sa_0, ii_0, ti_1, ta_1, tR_1, si_1, sa_1, ii_1, ti_2, ta_2, tR_2, si_2, sa_2, ii_2, ti_3, ta_3, tR_3, si_3, sa_3, ii_3, ti_4, ta_4, tR_4, si_4, sa_4, ii_4, ti_5, ta_5, tR_5, si_5, sa_5, ii_5, ti_6, ta_6, tR_6, si_6, sa_6, ii_6, ti_7, ta_7, tR_7, si_7, sa_7, ii_7, ti_8, ta_8, tR_8, si_8, sa_8, ii_8, ti_9, ta_9, tR_9, si_9, sa_9, ii_9, ti_10, ta_10, tR_10, si_10, sa_10, ii_10, ti_11, ta_11, tR_11, si_11, sa_11, ii_11, ti_12, ta_12, tR_12, si_12, sa_12, ii_12, ti_13, ta_13, tR_13, si_13, sa_13, ii_13, ti_14, ta_14, tR_14, si_14, sa_14, ii_14, ti_15, ta_15, tR_15, si_15, sa_15, ii_15, ti_16, ta_16, tR_16, si_16, sa_16, ii_16, ti_17, ta_17, tR_17, si_17, sa_17, ii_17, ti_18, ta_18, tR_18, si_18, sa_18, ii_18, ti_19, ta_19, tR_19, si_19, sa_19, ii_19, ti_20, ta_20, tR_20, si_20, sa_20, ii_20, ti_21, ta_21, tR_21, si_21, sa_21, ii_21, ti_22, ta_22, tR_22, si_22, sa_22, ii_22, ti_23, ta_23, tR_23, si_23, sa_23, ii_23, ti_24, ta_24, tR_24, si_24, sa_24, ii_24, ti_25, ta_25, tR_25, si_25, sa_25, ii_25, ti_26, ta_26, tR_26, si_26, sa_26, ii_26, tc, tnil, z_iadd, z_isub, z_imul, z_iand, z_ior, z_ixor, z_ishl, z_ishr, z_iushr, z_irem, z_idiv, z_ineg, z_i2l, z_lconst, z_lcmp, z_goto, z_if_eq, z_if_ne, z_if_lt, z_if_ge, z_if_gt, z_if_le, z_ic_eq, z_ic_ne, z_ic_lt, z_ic_ge, z_ic_gt, z_ic_le, z_iret, z_bret, z_vret, z_thr, z_dup_int, z_dup2_int, z_pop_int, z_dup_ref, z_dup2_ref, z_pop_ref, z_dup_row, z_dup2_row, z_pop_row, gI_0, pI_0, pZ_0, gI_1, pI_1, pZ_1, gI_2, pI_2, pZ_2, gI_3, pI_3, pZ_3, gI_4, pI_4, pZ_4, gI_5, pI_5, pZ_5, gR_0_2, gR_0_3, gR_0_4, gR_0_5, gR_1_0, gR_1_1, gR_1_2, gR_1_3, gR_2_3, gR_2_4, gR_2_5, gR_2_6, gR_3_2, gR_3_3, gR_3_4, gR_3_5, gR_3_6, gR_3_7, gR_3_8, gR_3_9, gR_3_10, gR_3_11, gR_4_0, gR_4_1, gR_5_0, gR_5_1, gR_5_2, gR_5_3, gR_5_4, gR_5_5, gR_5_6, aL_7, aL_8, aS_8, aL_9, aS_9, aL_10, aS_10, aL_11, aS_11, aL_12, aS_12, aL_13, aS_13, aL_14, aS_14, aL_15, aS_15, aL_16, aS_16, aL_17, aS_17, aL_18, aS_18, aL_19, aL_20, aS_20, aL_21, aS_21, aL_22, aS_22, aL_23, aS_23, aL_24, aS_24, aL_25, aS_25, aL_26, aS_26, aL_27, aS_27, aL_28, aS_28, aL_29, aS_29, aL_30, aS_30, aL_31, aS_31, aL_32, aS_32, aL_33, aS_33, aL_34, aS_34, aL_35, aS_35, aL_36, aS_36, aL_37, aS_37, aL_38, aS_38, aL_39, aS_39, aL_40, aS_40, aL_41, aS_41, aL_42, aS_42, aL_43, aS_43, rL, rS, z_switch, Nat.zero_le, or_true, true_or, or_false, false_or,  cnt_i, cnt_v, cnt_x, i0_eq, i1_eq, i01_eq, im1_0, ne_eq, not_true_eq_false, not_false_eq_true, true_implies, false_implies, implies_true, true_and, and_true, false_and, and_false, List.set_cons_zero, List.set_cons_succ]
    refine ⟨fun _ => ?_, fun z => absurd (nI_le (a := 3) (b := 3) (by omega) (by omega)) z⟩
    rw [wa_all]
    exact h _
  | succ d ih =>
    intro t ht o2
    refine bX5_init_85 ?_
    simp only [ti_0, ta_0, tR_0, si_0, sa_0, ii_0, ti_1, ta_1, tR_1, si_1, sa_1, ii_1, ti_2, ta_2, tR_2, si_2, sa_2, ii_2, ti_3, ta_3, tR_3, si_3, sa_3, ii_3, ti_4, ta_4, tR_4, si_4, sa_4, ii_4, ti_5, ta_5, tR_5, si_5, sa_5, ii_5, ti_6, ta_6, tR_6, si_6, sa_6, ii_6, ti_7, ta_7, tR_7, si_7, sa_7, ii_7, ti_8, ta_8, tR_8, si_8, sa_8, ii_8, ti_9, ta_9, tR_9, si_9, sa_9, ii_9, ti_10, ta_10, tR_10, si_10, sa_10, ii_10, ti_11, ta_11, tR_11, si_11, sa_11, ii_11, ti_12, ta_12, tR_12, si_12, sa_12, ii_12, ti_13, ta_13, tR_13, si_13, sa_13, ii_13, ti_14, ta_14, tR_14, si_14, sa_14, ii_14, ti_15, ta_15, tR_15, si_15, sa_15, ii_15, ti_16, ta_16, tR_16, si_16, sa_16, ii_16, ti_17, ta_17, tR_17, si_17, sa_17, ii_17, ti_18, ta_18, tR_18, si_18, sa_18, ii_18, ti_19, ta_19, tR_19, si_19, sa_19, ii_19, ti_20, ta_20, tR_20, si_20, sa_20, ii_20, ti_21, ta_21, tR_21, si_21, sa_21, ii_21, ti_22, ta_22, tR_22, si_22, sa_22, ii_22, ti_23, ta_23, tR_23, si_23, sa_23, ii_23, ti_24, ta_24, tR_24, si_24, sa_24, ii_24, ti_25, ta_25, tR_25, si_25, sa_25, ii_25, ti_26, ta_26, tR_26, si_26, sa_26, ii_26, tc, tnil, z_iadd, z_isub, z_imul, z_iand, z_ior, z_ixor, z_ishl, z_ishr, z_iushr, z_irem, z_idiv, z_ineg, z_i2l, z_lconst, z_lcmp, z_goto, z_if_eq, z_if_ne, z_if_lt, z_if_ge, z_if_gt, z_if_le, z_ic_eq, z_ic_ne, z_ic_lt, z_ic_ge, z_ic_gt, z_ic_le, z_iret, z_bret, z_vret, z_thr, z_dup_int, z_dup2_int, z_pop_int, z_dup_ref, z_dup2_ref, z_pop_ref, z_dup_row, z_dup2_row, z_pop_row, gI_0, pI_0, pZ_0, gI_1, pI_1, pZ_1, gI_2, pI_2, pZ_2, gI_3, pI_3, pZ_3, gI_4, pI_4, pZ_4, gI_5, pI_5, pZ_5, gR_0_2, gR_0_3, gR_0_4, gR_0_5, gR_1_0, gR_1_1, gR_1_2, gR_1_3, gR_2_3, gR_2_4, gR_2_5, gR_2_6, gR_3_2, gR_3_3, gR_3_4, gR_3_5, gR_3_6, gR_3_7, gR_3_8, gR_3_9, gR_3_10, gR_3_11, gR_4_0, gR_4_1, gR_5_0, gR_5_1, gR_5_2, gR_5_3, gR_5_4, gR_5_5, gR_5_6, aL_7, aL_8, aS_8, aL_9, aS_9, aL_10, aS_10, aL_11, aS_11, aL_12, aS_12, aL_13, aS_13, aL_14, aS_14, aL_15, aS_15, aL_16, aS_16, aL_17, aS_17, aL_18, aS_18, aL_19, aL_20, aS_20, aL_21, aS_21, aL_22, aS_22, aL_23, aS_23, aL_24, aS_24, aL_25, aS_25, aL_26, aS_26, aL_27, aS_27, aL_28, aS_28, aL_29, aS_29, aL_30, aS_30, aL_31, aS_31, aL_32, aS_32, aL_33, aS_33, aL_34, aS_34, aL_35, aS_35, aL_36, aS_36, aL_37, aS_37, aL_38, aS_38, aL_39, aS_39, aL_40, aS_40, aL_41, aS_41, aL_42, aS_42, aL_43, aS_43, rL, rS, z_switch, Nat.zero_le, or_true, true_or, or_false, false_or,  cnt_i, cnt_v, cnt_x, i0_eq, i1_eq, i01_eq, im1_0, ne_eq, not_true_eq_false, not_false_eq_true, true_implies, false_implies, implies_true, true_and, and_true, false_and, and_false, List.set_cons_zero, List.set_cons_succ]
    refine ⟨fun z => absurd z (nI_ge (a := t) (b := 3) (by omega) (by omega)), fun _ => ?_⟩
    refine lp_w (x := 0) hR (by omega) hA ?_ 12 0 (by omega)
    rw [wa_row (by omega) (fun j hj => by rw [hA t (by omega), VA_w (by omega)]; exact if_neg (show ¬ j < 12 by omega))]
    refine bX5_init_113 ?_
    simp only [ti_0, ta_0, tR_0, si_0, sa_0, ii_0, ti_1, ta_1, tR_1, si_1, sa_1, ii_1, ti_2, ta_2, tR_2, si_2, sa_2, ii_2, ti_3, ta_3, tR_3, si_3, sa_3, ii_3, ti_4, ta_4, tR_4, si_4, sa_4, ii_4, ti_5, ta_5, tR_5, si_5, sa_5, ii_5, ti_6, ta_6, tR_6, si_6, sa_6, ii_6, ti_7, ta_7, tR_7, si_7, sa_7, ii_7, ti_8, ta_8, tR_8, si_8, sa_8, ii_8, ti_9, ta_9, tR_9, si_9, sa_9, ii_9, ti_10, ta_10, tR_10, si_10, sa_10, ii_10, ti_11, ta_11, tR_11, si_11, sa_11, ii_11, ti_12, ta_12, tR_12, si_12, sa_12, ii_12, ti_13, ta_13, tR_13, si_13, sa_13, ii_13, ti_14, ta_14, tR_14, si_14, sa_14, ii_14, ti_15, ta_15, tR_15, si_15, sa_15, ii_15, ti_16, ta_16, tR_16, si_16, sa_16, ii_16, ti_17, ta_17, tR_17, si_17, sa_17, ii_17, ti_18, ta_18, tR_18, si_18, sa_18, ii_18, ti_19, ta_19, tR_19, si_19, sa_19, ii_19, ti_20, ta_20, tR_20, si_20, sa_20, ii_20, ti_21, ta_21, tR_21, si_21, sa_21, ii_21, ti_22, ta_22, tR_22, si_22, sa_22, ii_22, ti_23, ta_23, tR_23, si_23, sa_23, ii_23, ti_24, ta_24, tR_24, si_24, sa_24, ii_24, ti_25, ta_25, tR_25, si_25, sa_25, ii_25, ti_26, ta_26, tR_26, si_26, sa_26, ii_26, tc, tnil, z_iadd, z_isub, z_imul, z_iand, z_ior, z_ixor, z_ishl, z_ishr, z_iushr, z_irem, z_idiv, z_ineg, z_i2l, z_lconst, z_lcmp, z_goto, z_if_eq, z_if_ne, z_if_lt, z_if_ge, z_if_gt, z_if_le, z_ic_eq, z_ic_ne, z_ic_lt, z_ic_ge, z_ic_gt, z_ic_le, z_iret, z_bret, z_vret, z_thr, z_dup_int, z_dup2_int, z_pop_int, z_dup_ref, z_dup2_ref, z_pop_ref, z_dup_row, z_dup2_row, z_pop_row, gI_0, pI_0, pZ_0, gI_1, pI_1, pZ_1, gI_2, pI_2, pZ_2, gI_3, pI_3, pZ_3, gI_4, pI_4, pZ_4, gI_5, pI_5, pZ_5, gR_0_2, gR_0_3, gR_0_4, gR_0_5, gR_1_0, gR_1_1, gR_1_2, gR_1_3, gR_2_3, gR_2_4, gR_2_5, gR_2_6, gR_3_2, gR_3_3, gR_3_4, gR_3_5, gR_3_6, gR_3_7, gR_3_8, gR_3_9, gR_3_10, gR_3_11, gR_4_0, gR_4_1, gR_5_0, gR_5_1, gR_5_2, gR_5_3, gR_5_4, gR_5_5, gR_5_6, aL_7, aL_8, aS_8, aL_9, aS_9, aL_10, aS_10, aL_11, aS_11, aL_12, aS_12, aL_13, aS_13, aL_14, aS_14, aL_15, aS_15, aL_16, aS_16, aL_17, aS_17, aL_18, aS_18, aL_19, aL_20, aS_20, aL_21, aS_21, aL_22, aS_22, aL_23, aS_23, aL_24, aS_24, aL_25, aS_25, aL_26, aS_26, aL_27, aS_27, aL_28, aS_28, aL_29, aS_29, aL_30, aS_30, aL_31, aS_31, aL_32, aS_32, aL_33, aS_33, aL_34, aS_34, aL_35, aS_35, aL_36, aS_36, aL_37, aS_37, aL_38, aS_38, aL_39, aS_39, aL_40, aS_40, aL_41, aS_41, aL_42, aS_42, aL_43, aS_43, rL, rS, z_switch, Nat.zero_le, or_true, true_or, or_false, false_or,  cnt_i, cnt_v, cnt_x, i0_eq, i1_eq, i01_eq, im1_0, ne_eq, not_true_eq_false, not_false_eq_true, true_implies, false_implies, implies_true, true_and, and_true, false_and, and_false, List.set_cons_zero, List.set_cons_succ]
    rw [nI_1]
    exact ih (t + 1) (by omega) _
theorem R0_fin5 {k : Nat} (hk : 7 ≤ k) : isNl (R0 5 k) = true := by
  by_cases h : k < 8
  · have e : k = 7 := by omega
    subst e
    rfl
  · exact R0_nl (show 8 ≤ k by omega) (show 8 ≤ k by omega)
theorem k_X5 (hR : ∀ c, c < 6 → R c = R0 c) (hI : ∀ c, c < 6 → I c = fun _ => 0) (hA : ∀ q, (q < 33 ∨ 64 ≤ q) → A q = VA q) (h : K (.inl none) (75, R, I, A, J)) : CT mX5_init [.ref 5] (1, Rp R 5 0, I, A, J) K := by
  have hW : ∀ q, (q < 33 ∨ 67 ≤ q) → WA A 0 0 q = VA q := fun q hq => (wa_out (by omega)).trans (hA q (by omega))
  refine enX5_init (bX5_init_0 ?_)
  refine p_oinit ?_
  refine p_mnew (q := 7) (A' := WA A 0 0) (R' := Rp R 5 1) rfl rfl (by decide) rfl (Nat.le_of_ble_eq_true rfl) (by decide) rfl wa_0 (rp_put (hR 5 (by decide)) (by decide) (fun j h1 h2 => by first | (exfalso; omega) | (revert h1 h2; revert j; decide)) rfl) (Nat.le_of_ble_eq_true rfl) (Nat.le_of_ble_eq_true rfl) ?_
  refine p_new (c2 := 4) (nb' := 8) (I' := I) (A' := WA A 0 0) (R' := Rp R 5 2) rfl rfl rfl (upR_self (hI 4 (by decide))) (Nat.le_of_ble_eq_true rfl) (Nat.le_of_ble_eq_true rfl) (Nat.le_of_ble_eq_true rfl) (Nat.le_of_ble_eq_true rfl) (fun K' hK => k_X4 ((rp_ne (by decide)).trans (hR 4 (by decide))) (hI 4 (by decide)) hW hK) (rp_put (hR 5 (by decide)) (by decide) (fun j h1 h2 => by first | (exfalso; omega) | (revert h1 h2; revert j; decide)) rfl) ?_
  refine p_new (c2 := 3) (nb' := 59) (I' := I) (A' := WA A 0 0) (R' := Rp R 5 3) rfl rfl rfl (upR_self (hI 3 (by decide))) (Nat.le_of_ble_eq_true rfl) (Nat.le_of_ble_eq_true rfl) (Nat.le_of_ble_eq_true rfl) (Nat.le_of_ble_eq_true rfl) (fun K' hK => k_X3 ((rp_ne (by decide)).trans (hR 3 (by decide))) (hI 3 (by decide)) hW hK) (rp_put (hR 5 (by decide)) (by decide) (fun j h1 h2 => by first | (exfalso; omega) | (revert h1 h2; revert j; decide)) rfl) ?_
  refine p_new (c2 := 2) (nb' := 64) (I' := I) (A' := WA A 0 0) (R' := Rp R 5 4) rfl rfl rfl (upR_self (hI 2 (by decide))) (Nat.le_of_ble_eq_true rfl) (Nat.le_of_ble_eq_true rfl) (Nat.le_of_ble_eq_true rfl) (Nat.le_of_ble_eq_true rfl) (fun K' hK => k_X2 ((rp_ne (by decide)).trans (hR 2 (by decide))) (hI 2 (by decide)) hW hK) (rp_put (hR 5 (by decide)) (by decide) (fun j h1 h2 => by first | (exfalso; omega) | (revert h1 h2; revert j; decide)) rfl) ?_
  refine p_new (c2 := 1) (nb' := 69) (I' := I) (A' := WA A 0 0) (R' := Rp R 5 5) rfl rfl rfl (upR_self (hI 1 (by decide))) (Nat.le_of_ble_eq_true rfl) (Nat.le_of_ble_eq_true rfl) (Nat.le_of_ble_eq_true rfl) (Nat.le_of_ble_eq_true rfl) (fun K' hK => k_X1 ((rp_ne (by decide)).trans (hR 1 (by decide))) (hI 1 (by decide)) hW hK) (rp_put (hR 5 (by decide)) (by decide) (fun j h1 h2 => by first | (exfalso; omega) | (revert h1 h2; revert j; decide)) rfl) ?_
  refine p_new (c2 := 0) (nb' := 74) (I' := I) (A' := WA A 0 0) (R' := Rp R 5 6) rfl rfl rfl (upR_self (hI 0 (by decide))) (Nat.le_of_ble_eq_true rfl) (Nat.le_of_ble_eq_true rfl) (Nat.le_of_ble_eq_true rfl) (Nat.le_of_ble_eq_true rfl) (fun K' hK => k_X0 ((rp_ne (by decide)).trans (hR 0 (by decide))) (hI 0 (by decide)) hW hK) (rp_put (hR 5 (by decide)) (by decide) (fun j h1 h2 => by first | (exfalso; omega) | (revert h1 h2; revert j; decide)) rfl) ?_
  refine p_newa (q := 32) (A' := WA A 0 0) (R' := Rp R 5 7) rfl rfl (by decide) (by decide) rfl (Nat.le_of_ble_eq_true rfl) rfl (upR_self (by rw [hW 32 (by decide)]; exact VA_Z (by decide))) (rp_put (hR 5 (by decide)) (by decide) (fun j h1 h2 => by first | (exfalso; omega) | (revert h1 h2; revert j; decide)) rfl) (Nat.le_of_ble_eq_true rfl) (Nat.le_of_ble_eq_true rfl) ?_
  refine p_put (I' := I) rfl (up2_self (congrFun (hI 5 (by decide)) 7)) ?_
  rw [rp_all (hR 5 (by decide)) (fun k hk => R0_fin5 hk)]
  simp only [ti_0, ta_0, tR_0, si_0, sa_0, ii_0, ti_1, ta_1, tR_1, si_1, sa_1, ii_1, ti_2, ta_2, tR_2, si_2, sa_2, ii_2, ti_3, ta_3, tR_3, si_3, sa_3, ii_3, ti_4, ta_4, tR_4, si_4, sa_4, ii_4, ti_5, ta_5, tR_5, si_5, sa_5, ii_5, ti_6, ta_6, tR_6, si_6, sa_6, ii_6, ti_7, ta_7, tR_7, si_7, sa_7, ii_7, ti_8, ta_8, tR_8, si_8, sa_8, ii_8, ti_9, ta_9, tR_9, si_9, sa_9, ii_9, ti_10, ta_10, tR_10, si_10, sa_10, ii_10, ti_11, ta_11, tR_11, si_11, sa_11, ii_11, ti_12, ta_12, tR_12, si_12, sa_12, ii_12, ti_13, ta_13, tR_13, si_13, sa_13, ii_13, ti_14, ta_14, tR_14, si_14, sa_14, ii_14, ti_15, ta_15, tR_15, si_15, sa_15, ii_15, ti_16, ta_16, tR_16, si_16, sa_16, ii_16, ti_17, ta_17, tR_17, si_17, sa_17, ii_17, ti_18, ta_18, tR_18, si_18, sa_18, ii_18, ti_19, ta_19, tR_19, si_19, sa_19, ii_19, ti_20, ta_20, tR_20, si_20, sa_20, ii_20, ti_21, ta_21, tR_21, si_21, sa_21, ii_21, ti_22, ta_22, tR_22, si_22, sa_22, ii_22, ti_23, ta_23, tR_23, si_23, sa_23, ii_23, ti_24, ta_24, tR_24, si_24, sa_24, ii_24, ti_25, ta_25, tR_25, si_25, sa_25, ii_25, ti_26, ta_26, tR_26, si_26, sa_26, ii_26, tc, tnil, z_iadd, z_isub, z_imul, z_iand, z_ior, z_ixor, z_ishl, z_ishr, z_iushr, z_irem, z_idiv, z_ineg, z_i2l, z_lconst, z_lcmp, z_goto, z_if_eq, z_if_ne, z_if_lt, z_if_ge, z_if_gt, z_if_le, z_ic_eq, z_ic_ne, z_ic_lt, z_ic_ge, z_ic_gt, z_ic_le, z_iret, z_bret, z_vret, z_thr, z_dup_int, z_dup2_int, z_pop_int, z_dup_ref, z_dup2_ref, z_pop_ref, z_dup_row, z_dup2_row, z_pop_row, gI_0, pI_0, pZ_0, gI_1, pI_1, pZ_1, gI_2, pI_2, pZ_2, gI_3, pI_3, pZ_3, gI_4, pI_4, pZ_4, gI_5, pI_5, pZ_5, gR_0_2, gR_0_3, gR_0_4, gR_0_5, gR_1_0, gR_1_1, gR_1_2, gR_1_3, gR_2_3, gR_2_4, gR_2_5, gR_2_6, gR_3_2, gR_3_3, gR_3_4, gR_3_5, gR_3_6, gR_3_7, gR_3_8, gR_3_9, gR_3_10, gR_3_11, gR_4_0, gR_4_1, gR_5_0, gR_5_1, gR_5_2, gR_5_3, gR_5_4, gR_5_5, gR_5_6, aL_7, aL_8, aS_8, aL_9, aS_9, aL_10, aS_10, aL_11, aS_11, aL_12, aS_12, aL_13, aS_13, aL_14, aS_14, aL_15, aS_15, aL_16, aS_16, aL_17, aS_17, aL_18, aS_18, aL_19, aL_20, aS_20, aL_21, aS_21, aL_22, aS_22, aL_23, aS_23, aL_24, aS_24, aL_25, aS_25, aL_26, aS_26, aL_27, aS_27, aL_28, aS_28, aL_29, aS_29, aL_30, aS_30, aL_31, aS_31, aL_32, aS_32, aL_33, aS_33, aL_34, aS_34, aL_35, aS_35, aL_36, aS_36, aL_37, aS_37, aL_38, aS_38, aL_39, aS_39, aL_40, aS_40, aL_41, aS_41, aL_42, aS_42, aL_43, aS_43, rL, rS, z_switch, Nat.zero_le, or_true, true_or, or_false, false_or,  cnt_i, cnt_v, cnt_x, i0_eq, i1_eq, i01_eq, im1_0, ne_eq, not_true_eq_false, not_false_eq_true, true_implies, false_implies, implies_true, true_and, and_true, false_and, and_false, List.set_cons_zero, List.set_cons_succ]
  refine lp_t (hR 5 (by decide)) (fun t _ => hA (64 + t) (by omega)) (fun o2 => ?_) 3 0 (by decide) _
  refine bX5_init_119 ?_
  simp only [ti_0, ta_0, tR_0, si_0, sa_0, ii_0, ti_1, ta_1, tR_1, si_1, sa_1, ii_1, ti_2, ta_2, tR_2, si_2, sa_2, ii_2, ti_3, ta_3, tR_3, si_3, sa_3, ii_3, ti_4, ta_4, tR_4, si_4, sa_4, ii_4, ti_5, ta_5, tR_5, si_5, sa_5, ii_5, ti_6, ta_6, tR_6, si_6, sa_6, ii_6, ti_7, ta_7, tR_7, si_7, sa_7, ii_7, ti_8, ta_8, tR_8, si_8, sa_8, ii_8, ti_9, ta_9, tR_9, si_9, sa_9, ii_9, ti_10, ta_10, tR_10, si_10, sa_10, ii_10, ti_11, ta_11, tR_11, si_11, sa_11, ii_11, ti_12, ta_12, tR_12, si_12, sa_12, ii_12, ti_13, ta_13, tR_13, si_13, sa_13, ii_13, ti_14, ta_14, tR_14, si_14, sa_14, ii_14, ti_15, ta_15, tR_15, si_15, sa_15, ii_15, ti_16, ta_16, tR_16, si_16, sa_16, ii_16, ti_17, ta_17, tR_17, si_17, sa_17, ii_17, ti_18, ta_18, tR_18, si_18, sa_18, ii_18, ti_19, ta_19, tR_19, si_19, sa_19, ii_19, ti_20, ta_20, tR_20, si_20, sa_20, ii_20, ti_21, ta_21, tR_21, si_21, sa_21, ii_21, ti_22, ta_22, tR_22, si_22, sa_22, ii_22, ti_23, ta_23, tR_23, si_23, sa_23, ii_23, ti_24, ta_24, tR_24, si_24, sa_24, ii_24, ti_25, ta_25, tR_25, si_25, sa_25, ii_25, ti_26, ta_26, tR_26, si_26, sa_26, ii_26, tc, tnil, z_iadd, z_isub, z_imul, z_iand, z_ior, z_ixor, z_ishl, z_ishr, z_iushr, z_irem, z_idiv, z_ineg, z_i2l, z_lconst, z_lcmp, z_goto, z_if_eq, z_if_ne, z_if_lt, z_if_ge, z_if_gt, z_if_le, z_ic_eq, z_ic_ne, z_ic_lt, z_ic_ge, z_ic_gt, z_ic_le, z_iret, z_bret, z_vret, z_thr, z_dup_int, z_dup2_int, z_pop_int, z_dup_ref, z_dup2_ref, z_pop_ref, z_dup_row, z_dup2_row, z_pop_row, gI_0, pI_0, pZ_0, gI_1, pI_1, pZ_1, gI_2, pI_2, pZ_2, gI_3, pI_3, pZ_3, gI_4, pI_4, pZ_4, gI_5, pI_5, pZ_5, gR_0_2, gR_0_3, gR_0_4, gR_0_5, gR_1_0, gR_1_1, gR_1_2, gR_1_3, gR_2_3, gR_2_4, gR_2_5, gR_2_6, gR_3_2, gR_3_3, gR_3_4, gR_3_5, gR_3_6, gR_3_7, gR_3_8, gR_3_9, gR_3_10, gR_3_11, gR_4_0, gR_4_1, gR_5_0, gR_5_1, gR_5_2, gR_5_3, gR_5_4, gR_5_5, gR_5_6, aL_7, aL_8, aS_8, aL_9, aS_9, aL_10, aS_10, aL_11, aS_11, aL_12, aS_12, aL_13, aS_13, aL_14, aS_14, aL_15, aS_15, aL_16, aS_16, aL_17, aS_17, aL_18, aS_18, aL_19, aL_20, aS_20, aL_21, aS_21, aL_22, aS_22, aL_23, aS_23, aL_24, aS_24, aL_25, aS_25, aL_26, aS_26, aL_27, aS_27, aL_28, aS_28, aL_29, aS_29, aL_30, aS_30, aL_31, aS_31, aL_32, aS_32, aL_33, aS_33, aL_34, aS_34, aL_35, aS_35, aL_36, aS_36, aL_37, aS_37, aL_38, aS_38, aL_39, aS_39, aL_40, aS_40, aL_41, aS_41, aL_42, aS_42, aL_43, aS_43, rL, rS, z_switch, Nat.zero_le, or_true, true_or, or_false, false_or,  cnt_i, cnt_v, cnt_x, i0_eq, i1_eq, i01_eq, im1_0, ne_eq, not_true_eq_false, not_false_eq_true, true_implies, false_implies, implies_true, true_and, and_true, false_and, and_false, List.set_cons_zero, List.set_cons_succ]
  exact ⟨(Nat.le_of_ble_eq_true rfl), (Nat.le_of_ble_eq_true rfl), h⟩
end KI
