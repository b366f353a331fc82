/-! stretches of code -/
section ST
variable {S : Nat × (Nat → Int32)} {M pc a b : Nat} {v : Int32} {hs : List Nat} {ins : Instr} {len : Nat} {ls : LC} {st : List Value} {g : SG} {n k : Nat} {K : Out → SG → Prop} {c : CC}
theorem stp_snd {op : Nat} (hd : decode (cB M) pc = .ok (ins, len)) (hok : okI M pc op a b v hs ins len = true) (hc : ∀ ls st g n k, c ls st g n k → X S M (pc + len) ls st g n k K) (h : stp S M op a b v hs ls st g n k K c) : X S M pc ls st g n k K := by
  match op, hok, h with
  | 0, hok, h => exact so_0 hd hok hc h
  | 1, hok, h => exact so_1 hd hok hc h
  | 2, hok, h => exact so_2 hd hok hc h
  | 3, hok, h => exact so_3 hd hok hc h
  | 4, hok, h => exact so_4 hd hok hc h
  | 5, hok, h => exact so_5 hd hok hc h
  | 6, hok, h => exact so_6 hd hok hc h
  | 7, hok, h => exact so_7 hd hok hc h
  | 8, hok, h => exact so_8 hd hok hc h
  | 9, hok, h => exact so_9 hd hok hc h
  | 10, hok, h => exact so_10 hd hok hc h
  | 11, hok, h => exact so_11 hd hok hc h
  | 12, hok, h => exact so_12 hd hok hc h
  | 13, hok, h => exact so_13 hd hok hc h
  | 14, hok, h => exact h.elim
  | 15, hok, h => exact h.elim
  | 16, hok, h => exact so_16 hd hok hc h
  | 17, hok, h => exact so_17 hd hok hc h
  | 18, hok, h => exact so_18 hd hok hc h
  | 19, hok, h => exact so_19 hd hok hc h
  | 20, hok, h => exact so_20 hd hok hc h
  | 21, hok, h => exact so_21 hd hok hc h
  | 22, hok, h => exact so_22 hd hok hc h
  | 23, hok, h => exact so_23 hd hok hc h
  | 24, hok, h => exact so_24 hd hok hc h
  | 25, hok, h => exact so_25 hd hok hc h
  | 26, hok, h => exact so_26 hd hok hc h
  | 27, hok, h => exact so_27 hd hok hc h
  | 28, hok, h => exact so_28 hd hok hc h
  | 29, hok, h => exact so_29 hd hok hc h
  | 30, hok, h => exact so_30 hd hok hc h
  | 31, hok, h => exact so_31 hd hok hc h
  | 32, hok, h => exact so_32 hd hok hc h
  | 33, hok, h => exact so_33 hd hok hc h
  | 34, hok, h => exact so_34 hd hok hc h
  | 35, hok, h => exact so_35 hd hok hc h
  | 36, hok, h => exact so_36 hd hok hc h
  | 37, hok, h => exact so_37 hd hok hc h
  | 38, hok, h => exact so_38 hd hok hc h
  | 39, hok, h => exact so_39 hd hok hc h
  | 40, hok, h => exact so_40 hd hok hc h
  | 41, hok, h => exact so_41 hd hok hc h
  | 42, hok, h => exact so_42 hd hok hc h
  | 43, hok, h => exact so_43 hd hok hc h
  | 44, hok, h => exact so_44 hd hok hc h
  | 45, hok, h => exact so_45 hd hok hc h
  | 46, hok, h => exact so_46 hd hok hc h
  | 47, hok, h => exact so_47 hd hok hc h
  | 48, hok, h => exact so_48 hd hok hc h
  | 49, hok, h => exact so_49 hd hok hc h
  | 50, hok, h => exact so_50 hd hok hc h
  | 51, hok, h => exact so_51 hd hok hc h
  | 52, hok, h => exact so_52 hd hok hc h
  | 53, hok, h => exact so_53 hd hok hc h
  | 54, hok, h => exact so_54 hd hok hc h
  | 55, hok, h => exact so_55 hd hok hc h
  | 56, hok, h => exact so_56 hd hok hc h
  | 57, hok, h => exact so_57 hd hok hc h
  | 58, hok, h => exact so_58 hd hok hc h
  | 59, hok, h => exact so_59 hd hok hc h
  | 60, hok, h => exact so_60 hd hok hc h
  | (q + 61), hok, h => exact h.elim
end ST
def tr (S : Nat × (Nat → Int32)) (M pe : Nat) : List AI → LC → List Value → SG → Nat → Nat → (Out → SG → Prop) → Prop
  | [], ls, st, g, n, k, K => X S M pe ls st g n k K
  | i :: is, ls, st, g, n, k, K => stp S M i.1 i.2.1 i.2.2.1 i.2.2.2.1 i.2.2.2.2 ls st g n k K (fun ls st g n k => tr S M pe is ls st g n k K)
def segOk (M pe : Nat) : Nat → List AI → Bool
  | pc, [] => pc == pe
  | pc, i :: is => match decode (cB M) pc with
    | .ok (ins, len) => okI M pc i.1 i.2.1 i.2.2.1 i.2.2.2.1 i.2.2.2.2 ins len && segOk M pe (pc + len) is
    | _ => false
theorem tr_snd' {S : Nat × (Nat → Int32)} {M pe : Nat} {K : Out → SG → Prop} (is : List AI) : ∀ {pc : Nat} {ls : LC} {st : List Value} {g : SG} {n k : Nat}, segOk M pe pc is = true → tr S M pe is ls st g n k K → X S M pc ls st g n k K := by
  induction is with
  | nil =>
    intro pc ls st g n k h ht
    have e : pc = pe := eq_of_beq h
    subst e
    exact ht
  | cons i is ih =>
    intro pc ls st g n k h ht
    unfold segOk at h
    split at h
    · rename_i ins len hd
      simp only [Bool.and_eq_true] at h
      exact stp_snd hd h.1 (fun ls st g n k hc => ih h.2 hc) ht
    · cases h
theorem tr_snd {S : Nat × (Nat → Int32)} {M pe : Nat} {K : Out → SG → Prop} {is : List AI} {pc : Nat} {ls : LC} {st : List Value} {g : SG} {n k : Nat} (h : segOk M pe pc is = true) (ht : tr S M pe is ls st g n k K) : X S M pc ls st g n k K := tr_snd' is h ht
