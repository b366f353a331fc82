/-! new int[n][12]: the outer row, then its rows, one behind the other -/
theorem outer_arr (c : ClassId) (N h0 : Nat) : ∀ i : Nat, Jvm.Free.Multi.outerC c N h0 i = arrV c N (fun j => if j < i then .ref (h0 + 1 + j) else .null)
  | 0 => by
    have e : Jvm.Free.Multi.outerC c N h0 0 = ({ cls := c, slots := Array.replicate N .null, vm := .none } : Cell) := rfl
    rw [e, arrV_new]
    refine congrArg (arrV c N) (funext fun j => ?_)
    rw [if_neg (Nat.not_lt_zero j)]
  | i + 1 => by
    have e : Jvm.Free.Multi.outerC c N h0 (i + 1) = (Jvm.Free.Multi.outerC c N h0 i).setSlot i (.ref (h0 + 1 + i)) := rfl
    rw [e, outer_arr c N h0 i, arrV_store]
    refine congrArg (arrV c N) (funext fun j => ?_)
    show (if j = i then _ else if j < i then _ else _) = _
    by_cases h1 : j = i
    · subst h1
      rw [if_pos rfl, if_pos (Nat.lt_succ_self j)]
    · rw [if_neg h1]
      by_cases h2 : j < i
      · rw [if_pos h2, if_pos (by omega)]
      · rw [if_neg h2, if_neg (by omega)]
theorem cel_upN {t : Nat → ClassId} {ad : Nat → Nat} {g : SG} {b i z : Nat} (h : z ≠ b + i) : cel t ad (g.1 + 1 + (i + 1), g.2.1, g.2.2.1, upN g.2.2.2.1 b (i + 1) (fun _ => 0), g.2.2.2.2) z = cel t ad (g.1 + 1 + i, g.2.1, g.2.2.1, upN g.2.2.2.1 b i (fun _ => 0), g.2.2.2.2) z := by
  have e : upN g.2.2.2.1 b (i + 1) (fun _ => 0) z = upN g.2.2.2.1 b i (fun _ => 0) z := by
    unfold upN
    by_cases h1 : b ≤ z ∧ z < b + i
    · rw [if_pos h1, if_pos (by omega)]
    · rw [if_neg h1, if_neg (by omega)]
  unfold cel fval
  simp only [e]
theorem cel_nb {t : Nat → ClassId} {ad : Nat → Nat} {n1 n2 : Nat} {x : (Nat → Nat → Value) × (Nat → Nat → Int32) × (Nat → Nat → Int32) × (Nat → Nat → Int32)} : cel t ad (n1, x) = cel t ad (n2, x) := rfl
section SO2
variable {S : Nat × (Nat → Int32)} {M pc a b : Nat} {v : Int32} {hs : List Nat} {ins : Instr} {len : Nat} {ls : LC} {st : List Value} {g : SG} {n k : Nat} {K : Out → SG → Prop} {c : CC}
theorem mna_pic {D : va_G} {t : Nat → ClassId} {ad : Nat → Nat} {A : Nat → Prop} {H F : Heap} {q : Nat} (hP : PIC D t ad A g H) (hA : ∀ x, H.size ≤ x → A x) (hq : AO[g.1]? = some q) (hk : kin q = 4)
    (hrows : ∀ i, i < lnn q → AO[g.1 + 1 + i]? = some (bss q + i) ∧ kin (bss q + i) = 1 ∧ lnn (bss q + i) = 12) (hsz : F.size = H.size + 1 + lnn q) (hout : F[H.size]? = some (Jvm.Free.Multi.outerC (t 3) (lnn q) H.size (lnn q))) (hin : ∀ j, j < lnn q → F[H.size + 1 + j]? = some (Jvm.Free.Multi.innerC (t 0) 12 (.int 0))) (hold : ∀ x : Nat, x < H.size → F[x]? = H[x]?) :
    ∀ i, i ≤ lnn q → PIC D t ad A (g.1 + 1 + i, g.2.1, g.2.2.1, upN g.2.2.2.1 (bss q) i (fun _ => 0), g.2.2.2.2) (F.extract 0 (H.size + 1 + i)) ∧ ad q = H.size := by
  have hget : ∀ m x : Nat, x < m → (F.extract 0 m)[x]? = F[x]? := by
    intro m x hx
    rw [Array.getElem?_extract]
    by_cases h1 : x < min m F.size
    · rw [if_pos (by omega), Nat.zero_add]
    · rw [if_neg (by omega)]
      exact (Array.getElem?_eq_none (by omega)).symm
  have hsize : ∀ i, i ≤ lnn q → (F.extract 0 (H.size + 1 + i)).size = H.size + 1 + i := by
    intro i hi
    rw [Array.size_extract]
    omega
  intro i
  induction i with
  | zero =>
    intro h0
    have e0 : upN g.2.2.2.1 (bss q) 0 (fun _ => 0) = g.2.2.2.1 := by
      funext z
      unfold upN
      rw [if_neg (by omega)]
    rw [e0]
    refine PIC_push (g2 := (g.1 + 1 + 0, g.2.1, g.2.2.1, g.2.2.2.1, g.2.2.2.2)) hP hq rfl (fun z _ => rfl) ?_ (hsize 0 h0) (fun x hx => (hget _ x (by omega)).trans (hold x hx)) (hA _ (Nat.le_refl _))
    rw [cel_ref hk]
    show (F.extract 0 (H.size + 1 + 0))[H.size]? = some (vp_cell _ _)
    rw [hget _ _ (by omega), hout, outer_arr, vp_cell_q]
    refine congrArg some (congrArg (arrV _ _) (funext fun j => ?_))
    by_cases hj : j < lnn q
    · rw [if_pos hj, if_pos hj]
      have e := hP.2.2 (g.1 + 1 + j) (bss q + j) (by omega) (hrows j hj).1
      have e2 : ad (bss q + j) = H.size + 1 + j := by
        rw [e]
        omega
      show Value.ref (H.size + 1 + j) = Value.ref (ad (bss q + j))
      rw [e2]
    · rw [if_neg hj, if_neg hj]
      rfl
  | succ i ih =>
    intro hi
    obtain ⟨hPi, hae⟩ := ih (by omega)
    obtain ⟨r1, r2, r3⟩ := hrows i (by omega)
    have hz : (F.extract 0 (H.size + 1 + i)).size = H.size + 1 + i := hsize i (by omega)
    refine ⟨(PIC_push (g2 := (g.1 + 1 + (i + 1), g.2.1, g.2.2.1, upN g.2.2.2.1 (bss q) (i + 1) (fun _ => 0), g.2.2.2.2)) hPi (by exact r1) rfl (fun z hz => cel_upN hz) ?_ ?_ ?_ ?_).1, hae⟩
    · rw [cel_int r2, r3, hz]
      show (F.extract 0 (H.size + 1 + (i + 1)))[H.size + 1 + i]? = some (vp_cell _ _)
      rw [hget _ _ (by omega), hin i (by omega), vp_cell_i]
      have e : upN g.2.2.2.1 (bss q) (i + 1) (fun _ => 0) (bss q + i) = (fun _ => 0) := by
        unfold upN
        rw [if_pos (by omega)]
      show _ = some (arrV (t 0) 12 (fun j => .int (upN g.2.2.2.1 (bss q) (i + 1) (fun _ => 0) (bss q + i) j)))
      rw [e]
      exact congrArg some (arrV_new (t 0) 12 (.int 0))
    · rw [hz, hsize (i + 1) hi]
      omega
    · intro x hx
      rw [hz] at hx
      rw [hget _ x (by omega), hget _ x (by omega)]
    · rw [hz]
      exact hA _ (by omega)
theorem so_19 (hd : decode (cB M) pc = .ok (ins, len)) (hok : okI M pc 19 a b v hs ins len = true) (hc : ∀ ls st g n k, c ls st g n k → X S M (pc + len) ls st g n k K) (h : stp S M 19 a b v hs ls st g n k K c) : X S M pc ls st g n k K := by
  simp only [stp] at h
  simp only [okI] at hok
  split at h
  · rename_i y x r
    obtain ⟨q, h1, h2, h3, h4, rfl, h5, h6, h7, h8, h9⟩ := h
    split at hok <;> simp only [Bool.and_eq_true, beq_iff_eq, Bool.false_eq_true] at hok
    rename_i j
    obtain ⟨e1, rfl⟩ := hok
    intro p l e R s m args below meth c0 D t ad A Q C H locs lsM hl hP hS
    obtain ⟨hx, hb0, hml, hown, hts, hlocks, hr, hini, hR, htr, hex, hKS, hA, hZ, hscr⟩ := C.1
    intro T hT Xs
    have hover : (Cond.arrayOver (.array .int)).before args s = true := hKS.2.2.2.2.2.2
    obtain ⟨vm₁, cA, comp, hW, fA, fC, hO, hI, X', step⟩ := Xs.multianewarray2F hx hown (ty := .int) (hts _ (inW_ok e1)) hover (hts _ arr_w.1) (g := F0 m pc lsM (.int 12 :: .int x :: r.map (cv ad))) rfl (by rw [hb0]; exact hd) rfl h3 (by decide)
      (by rw [h4]; omega) (by decide) (by decide) rfl rfl (by rw [h4, hR]; exact h7) (by rw [h4, hR]; exact h8)
    have ecA : cA = t 3 := Option.some.inj (fA.symm.trans (hKS.1.2 2 _ rfl).2)
    have ecm : comp = t 0 := Option.some.inj (fC.symm.trans (hKS.1.2 0 _ rfl).2)
    subst ecA; subst ecm
    have hTh : (T.setVm vm₁).heap = H := hT
    rw [h4] at X' step
    have k12 : (12 : Int32).toNatClampNeg = 12 := by decide
    rw [k12] at X' step
    obtain ⟨f1, f2, -, -⟩ := Jvm.Free.Multi.fill_facts (T.setVm vm₁) (t 3) (t 0) (lnn q) 12 (defaultValue .int) (lnn q)
    have f3 := Jvm.Free.Multi.fill_inner (T.setVm vm₁) (t 3) (t 0) (lnn q) 12 (defaultValue .int) (lnn q)
    have f4 : ∀ x : Nat, x < H.size → (Jvm.Free.Multi.fill (T.setVm vm₁) (t 3) (t 0) (lnn q) 12 (defaultValue .int) (lnn q)).heap[x]? = H[x]? := fun x hx2 => by
      have := Jvm.Free.Multi.fill_old (T.setVm vm₁) (t 3) (t 0) (lnn q) 12 (defaultValue .int) (a := x) (by rw [hTh]; exact hx2) (lnn q)
      rw [hTh] at this
      exact this
    rw [hTh] at f1 f2 f3
    generalize hFe : Jvm.Free.Multi.fill (T.setVm vm₁) (t 3) (t 0) (lnn q) 12 (defaultValue .int) (lnn q) = F at X' step f1 f2 f3 f4
    obtain ⟨hPF, hae⟩ := mna_pic (F := F.heap) hP (fun z hz => hA z (Nat.le_trans hS.1 hz)) h1 h2 h6 f1 f2 f3 f4 (lnn q) (Nat.le_refl _)
    rw [show F.heap.extract 0 (H.size + 1 + lnn q) = F.heap by rw [← f1]; exact Array.extract_size] at hPF
    have hgo := hc _ _ _ _ _ h9 p l e R s m args below meth c0 D t ad A Q C F.heap locs lsM hl hPF ⟨Nat.le_trans hS.1 (by omega), fun z h1 h2 => (f4 z (Nat.lt_of_lt_of_le h1 hS.1)).trans (hS.2.1 z h1 h2), hS.2.2⟩
    rw [List.map_cons, show cv ad (.ref q) = .ref (ad q) from rfl, hae] at hgo
    obtain ⟨T2, a1, b1⟩ := hgo F rfl X'
    have e9 : T.heap.size = H.size := by rw [hT]
    exact ⟨T2, step T2 (by rw [e9]; exact a1), b1⟩
  · exact h.elim
end SO2
