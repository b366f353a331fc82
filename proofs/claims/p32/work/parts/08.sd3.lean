/-! rows are read and written, cells are made -/
theorem wld_push {t : Nat → ClassId} {ad : Nat → Nat} {g g2 : SG} {q : Nat} (hq : AO[g.1]? = some q) (h1 : g2.1 = g.1 + 1) (ho : ∀ z, z ≠ q → cel t ad g2 z = cel t ad g z) : wld t ad g2 = wld t ad g ++ [(ad q, cel t ad g2 q)] := by
  unfold wld
  rw [h1, List.take_add_one, hq, List.map_append]
  congr 1
  apply List.map_congr_left
  intro z hz
  rw [ho z]
  intro e
  subst e
  obtain ⟨i, hi⟩ := List.getElem?_of_mem hz
  have hl : i < g.1 := by
    have := (List.getElem?_eq_some_iff.mp hi).1
    rw [List.length_take] at this
    omega
  rw [List.getElem?_take_of_lt hl] at hi
  obtain ⟨a1, b1⟩ := List.getElem?_eq_some_iff.mp hi
  obtain ⟨a2, b2⟩ := List.getElem?_eq_some_iff.mp hq
  have := (List.getElem_inj AO_nodup).mp (b1.trans b2.symm)
  omega
theorem PIC_push {D : va_G} {t : Nat → ClassId} {ad : Nat → Nat} {A : Nat → Prop} {g g2 : SG} {H H1 : Heap} {q : Nat} (hP : PIC D t ad A g H) (hq : AO[g.1]? = some q) (h1 : g2.1 = g.1 + 1) (ho : ∀ z, z ≠ q → cel t ad g2 z = cel t ad g z)
    (hat : va_at D vwCl (H.size, cel t ad g2 q) H1) (z1 : H1.size = H.size + 1) (o1 : ∀ x : Nat, x < H.size → H1[x]? = H[x]?) (hA : A H.size) : PIC D t ad A g2 H1 ∧ ad q = H.size := by
  have e : ad q = H.size := by
    have := hP.2.2 g.1 q (Nat.le_refl _) hq
    omega
  refine ⟨⟨?_, ?_, ?_⟩, e⟩
  · rw [wld_push hq h1 ho]
    refine va_P.app (hP.1.kept (fun k x hx => o1 x.1 ((hP.1 k x hx).lt))) (fun k x hx => ?_)
    have hz : k < 1 := (List.getElem?_eq_some_iff.mp hx).1
    rw [show k = 0 by omega] at hx
    cases hx
    rw [e]
    exact hat
  · rw [wld_push hq h1 ho]
    exact hP.2.1.push hP.1 e (by rw [e]; exact hA)
  · intro j z hj hz
    have := hP.2.2 j z (by omega) hz
    omega
theorem va_S_push {A : Nat → Prop} {H0 H H1 : Heap} {locs : List Loc} (hS : va_S A H0 H locs) (z1 : H1.size = H.size + 1) (o1 : ∀ x : Nat, x < H.size → H1[x]? = H[x]?) : va_S A H0 H1 locs :=
  ⟨Nat.le_trans hS.1 (by omega), fun x h1 h2 => (o1 x (Nat.lt_of_lt_of_le h1 hS.1)).trans (hS.2.1 x h1 h2), hS.2.2⟩
theorem arr_upd (cA : ClassId) (N k : Nat) (f : Nat → Int32) (x : Int32) : (vp_cell cA (N, .inl f)).setSlot k (.int x) = vp_cell cA (N, .inl (upd f k x)) := by
  rw [vp_cell_i, vp_cell_i, arrV_store]
  congr 1
  funext j
  unfold updV upd
  split <;> rfl
theorem arr_updL (cA : ClassId) (N k : Nat) (f : Nat → Int64) (x : Int64) : (vp_cell cA (N, .inr (.inl f))).setSlot k (.long x) = vp_cell cA (N, .inr (.inl (vp_updL f k x))) := by
  rw [vp_cell_l, vp_cell_l, arrV_store]
  congr 1
  funext j
  unfold updV vp_updL
  split <;> rfl
theorem cat_le (v : Value) : v.category ≤ 2 := by
  rcases lv_cat v with h | h <;> omega
theorem cat_sum' (f : Value → Nat) (hf : ∀ v, f v ≤ 2) : ∀ st : List Value, (st.map f).sum ≤ 2 * st.length
  | [] => Nat.le_refl _
  | v :: r => by
    have h1 := cat_sum' f hf r
    have h2 := hf v
    rw [List.map_cons, List.sum_cons, List.length_cons]
    omega
theorem cat_sum (st : List Value) (h : st.length ≤ 4) (f : Value → Nat) (hf : ∀ v, f v ≤ 2) : (st.map f).sum ≤ 8 := Nat.le_trans (cat_sum' f hf st) (by omega)
section SA
variable {S : Nat × (Nat → Int32)} {M pc : Nat} {ls : LC} {st : List Value} {g : SG} {n k : Nat} {K : Out → SG → Prop}
theorem sd_iald {q N : Nat} {i : Int32} (hd : decode (cB M) pc = .ok (.iaload, 1)) (hk : kin q = 1) (hN : lnn q = N) (hb : bnn g.1 q = true) (hin : vp_in i N) (h : X S M (pc + 1) ls (.int (g.2.2.2.1 q i.toNatClampNeg) :: st) g n k K) : X S M pc ls (.int i :: .ref q :: st) g n k K := by
  intro p l e R s m args below meth c D t ad A Q C H locs lsM hl hP hS
  obtain ⟨hx, hb0, hml, hown, hts, hlocks, hr, hini, hR, htr, hex, hKS, hA, hZ, hscr⟩ := C.1
  obtain ⟨ix, -, hw⟩ := wld_at (t := t) (ad := ad) hb
  subst hN
  rw [cel_int hk] at hw
  exact va_iald hx hb0 hKS.1 hP.1 ix 0 hw rfl hin hd (h p l e R s m args below meth c D t ad A Q C H locs lsM hl hP hS)
theorem sd_iaRd {q N : Nat} {i : Int32} (hd : decode (cB M) pc = .ok (.iaload, 1)) (hk : kin (ROWB + q) = 1) (hN : lnn (ROWB + q) = N) (hb : bnn g.1 (ROWB + q) = true) (hin : vp_in i N) (h : X S M (pc + 1) ls (.int (g.2.2.2.1 (ROWB + q) i.toNatClampNeg) :: st) g n k K) : X S M pc ls (.int i :: .retAddr q :: st) g n k K := by
  intro p l e R s m args below meth c D t ad A Q C H locs lsM hl hP hS
  obtain ⟨hx, hb0, hml, hown, hts, hlocks, hr, hini, hR, htr, hex, hKS, hA, hZ, hscr⟩ := C.1
  obtain ⟨ix, -, hw⟩ := wld_at (t := t) (ad := ad) hb
  subst hN
  rw [cel_int hk] at hw
  exact va_iald hx hb0 hKS.1 hP.1 ix 0 hw rfl hin hd (h p l e R s m args below meth c D t ad A Q C H locs lsM hl hP hS)
theorem sd_zald {q N : Nat} {i : Int32} (hd : decode (cB M) pc = .ok (.baload, 1)) (hk : kin q = 2) (hN : lnn q = N) (hb : bnn g.1 q = true) (hin : vp_in i N) (h : X S M (pc + 1) ls (.int (g.2.2.2.1 q i.toNatClampNeg) :: st) g n k K) : X S M pc ls (.int i :: .ref q :: st) g n k K := by
  intro p l e R s m args below meth c D t ad A Q C H locs lsM hl hP hS
  obtain ⟨hx, hb0, hml, hown, hts, hlocks, hr, hini, hR, htr, hex, hKS, hA, hZ, hscr⟩ := C.1
  obtain ⟨ix, -, hw⟩ := wld_at (t := t) (ad := ad) hb
  subst hN
  rw [cel_bool hk] at hw
  exact va_zald hx hb0 hKS.1 hP.1 ix 1 hw rfl hin hd (h p l e R s m args below meth c D t ad A Q C H locs lsM hl hP hS)
theorem sd_lald {q N : Nat} {i : Int32} (hd : decode (cB M) pc = .ok (.iaload, 1)) (hk : kin q = 3) (hN : lnn q = N) (hb : bnn g.1 q = true) (hin : vp_in i N) (h : X S M (pc + 1) ls (.int (g.2.2.2.2 q i.toNatClampNeg) :: st) g n k K) : X S M pc ls (.int i :: .ref q :: st) g n k K := by
  intro p l e R s m args below meth c D t ad A Q C H locs lsM hl hP hS
  obtain ⟨hx, hb0, hml, hown, hts, hlocks, hr, hini, hR, htr, hex, hKS, hA, hZ, hscr⟩ := C.1
  obtain ⟨ix, -, hw⟩ := wld_at (t := t) (ad := ad) hb
  subst hN
  rw [cel_long hk] at hw
  exact va_iald hx hb0 hKS.1 hP.1 ix 0 hw rfl hin hd (h p l e R s m args below meth c D t ad A Q C H locs lsM hl hP hS)
theorem sd_aald {q N r : Nat} {i : Int32} (hd : decode (cB M) pc = .ok (.aaload, 1)) (hk : kin q = 4) (hN : lnn q = N) (hr0 : bss q = ROWB + r) (hb : bnn g.1 q = true) (hin : vp_in i N) (h : X S M (pc + 1) ls (.retAddr (r + i.toNatClampNeg) :: st) g n k K) : X S M pc ls (.int i :: .ref q :: st) g n k K := by
  intro p l e R s m args below meth c D t ad A Q C H locs lsM hl hP hS
  obtain ⟨hx, hb0, hml, hown, hts, hlocks, hr, hini, hR, htr, hex, hKS, hA, hZ, hscr⟩ := C.1
  obtain ⟨ix, -, hw⟩ := wld_at (t := t) (ad := ad) hb
  subst hN
  rw [cel_ref hk] at hw
  have hlt : i.toNatClampNeg < lnn q := Nat.not_le.mp fun z => hin (Or.inr z)
  refine W.aald (v := .ref (ad (ROWB + (r + i.toNatClampNeg)))) (ty := .array .int) hx hb0 (hP.1 ix _ hw) ((hKS.1.2 2 _ rfl).1 (lnn q) (fun j => va_rf (if j < lnn q then some (ad (bss q + j)) else none))) rfl (fun z => by cases z) (by show ¬ (i < 0 ∨ (arrV _ _ _).slots.size ≤ _); rw [arrV_size]; exact hin) ?_ rfl rfl hd (h p l e R s m args below meth c D t ad A Q C H locs lsM hl hP hS)
  show (arrV _ _ _).slots[_]? = _
  rw [arrV_read _ _ hlt]
  show some (va_rf (if i.toNatClampNeg < lnn q then some (ad (bss q + i.toNatClampNeg)) else none)) = _
  rw [if_pos hlt, hr0, Nat.add_assoc]
  rfl
theorem sd_alen {q N : Nat} (hd : decode (cB M) pc = .ok (.arraylength, 1)) (hk : kin q = 1) (hN : lnn q = N) (hb : bnn g.1 q = true) (h : X S M (pc + 1) ls (.int (Int32.ofNat N) :: st) g n k K) : X S M pc ls (.ref q :: st) g n k K := by
  intro p l e R s m args below meth c D t ad A Q C H locs lsM hl hP hS
  obtain ⟨hx, hb0, hml, hown, hts, hlocks, hr, hini, hR, htr, hex, hKS, hA, hZ, hscr⟩ := C.1
  obtain ⟨ix, -, hw⟩ := wld_at (t := t) (ad := ad) hb
  subst hN
  rw [cel_int hk] at hw
  exact va_alen hx hb0 hKS.1 hP.1 ix 0 hw rfl rfl hd (h p l e R s m args below meth c D t ad A Q C H locs lsM hl hP hS)
theorem sd_slen (hd : decode (cB M) pc = .ok (.arraylength, 1)) (hM : scM M = true) (h : X S M (pc + 1) ls (.int (Int32.ofNat S.1) :: st) g n k K) : X S M pc ls (.ref SCR :: st) g n k K := by
  intro p l e R s m args below meth c D t ad A Q C H locs lsM hl hP hS
  obtain ⟨hx, hb0, hml, hown, hts, hlocks, hr, hini, hR, htr, hex, hKS, hA, hZ, hscr⟩ := C.1
  obtain ⟨h1, h2, h3⟩ := hscr hM
  exact va_slen hx hb0 h1 h2 h3 hS hd (h p l e R s m args below meth c D t ad A Q C H locs lsM hl hP hS)
theorem sd_sld {i : Int32} (hd : decode (cB M) pc = .ok (.iaload, 1)) (hM : scM M = true) (hin : vp_in i S.1) (h : X S M (pc + 1) ls (.int (S.2 i.toNatClampNeg) :: st) g n k K) : X S M pc ls (.int i :: .ref SCR :: st) g n k K := by
  intro p l e R s m args below meth c D t ad A Q C H locs lsM hl hP hS
  obtain ⟨hx, hb0, hml, hown, hts, hlocks, hr, hini, hR, htr, hex, hKS, hA, hZ, hscr⟩ := C.1
  obtain ⟨h1, h2, h3⟩ := hscr hM
  exact va_sld hx hb0 h1 h2 h3 hS hin hd (h p l e R s m args below meth c D t ad A Q C H locs lsM hl hP hS)
theorem sd_iast {q N : Nat} {i : Int32} {x : Int32} (hd : decode (cB M) pc = .ok (.iastore, 1)) (hk : kin q = 1) (hN : lnn q = N) (hb : bnn g.1 q = true) (hin : vp_in i N) (h : X S M (pc + 1) ls st (g.1, g.2.1, g.2.2.1, upR g.2.2.2.1 q (upd (g.2.2.2.1 q) i.toNatClampNeg x), g.2.2.2.2) n k K) : X S M pc ls (.int x :: .int i :: .ref q :: st) g n k K := by
  intro p l e R s m args below meth c D t ad A Q C H locs lsM hl hP hS
  obtain ⟨hx, hb0, hml, hown, hts, hlocks, hr, hini, hR, htr, hex, hKS, hA, hZ, hscr⟩ := C.1
  obtain ⟨ix, hi, hw0⟩ := wld_at (t := t) (ad := ad) hb
  have hw := hw0
  subst hN
  rw [cel_int hk] at hw
  refine W.iast hx hb0 (hP.1 ix _ hw) ((hKS.1.2 0 _ rfl).1 (lnn q) (fun j => .int (g.2.2.2.1 q j))) (fun z => by cases z) (by show ¬ (i < 0 ∨ (arrV _ _ _).slots.size ≤ _); rw [arrV_size]; exact hin) rfl rfl hd fun H1 e9 z oq => ?_
  refine h p l e R s m args below meth c D t ad A Q C H1 _ lsM hl ?_ (hS.put z oq (hP.2.1.2 ix (_, cel t ad g _) hw0))
  have hat : va_at D vwCl (ad q, cel t ad (g.1, g.2.1, g.2.2.1, upR g.2.2.2.1 q (upd (g.2.2.2.1 q) i.toNatClampNeg x), g.2.2.2.2) q) H1 := by
    rw [cel_int hk]
    show H1[ad q]? = some (vp_cell _ _)
    rw [e9]
    refine congrArg some ((arr_upd _ _ _ _ _).trans ?_)
    rw [show (g.1, g.2.1, g.2.2.1, upR g.2.2.2.1 q (upd (g.2.2.2.1 q) i.toNatClampNeg x), g.2.2.2.2).2.2.2.1 q = upd (g.2.2.2.1 q) i.toNatClampNeg x from if_pos rfl]
  have hP2 := hP.1.set hP.2.1 hw0 hat oq
  have hD2 := hP.2.1.set (e := cel t ad (g.1, g.2.1, g.2.2.1, upR g.2.2.2.1 q (upd (g.2.2.2.1 q) i.toNatClampNeg x), g.2.2.2.2) q) hw0
  rw [wld_set (g2 := (g.1, g.2.1, g.2.2.1, upR g.2.2.2.1 q (upd (g.2.2.2.1 q) i.toNatClampNeg x), g.2.2.2.2)) hi rfl (fun z hz => cel_noteq_A hz)] at hP2 hD2
  exact PIC_to hP rfl z hP2 hD2
theorem sd_iaRt {q N : Nat} {i : Int32} {x : Int32} (hd : decode (cB M) pc = .ok (.iastore, 1)) (hk : kin (ROWB + q) = 1) (hN : lnn (ROWB + q) = N) (hb : bnn g.1 (ROWB + q) = true) (hin : vp_in i N) (h : X S M (pc + 1) ls st (g.1, g.2.1, g.2.2.1, upR g.2.2.2.1 (ROWB + q) (upd (g.2.2.2.1 (ROWB + q)) i.toNatClampNeg x), g.2.2.2.2) n k K) : X S M pc ls (.int x :: .int i :: .retAddr q :: st) g n k K := by
  intro p l e R s m args below meth c D t ad A Q C H locs lsM hl hP hS
  obtain ⟨hx, hb0, hml, hown, hts, hlocks, hr, hini, hR, htr, hex, hKS, hA, hZ, hscr⟩ := C.1
  obtain ⟨ix, hi, hw0⟩ := wld_at (t := t) (ad := ad) hb
  have hw := hw0
  subst hN
  rw [cel_int hk] at hw
  refine W.iast hx hb0 (hP.1 ix _ hw) ((hKS.1.2 0 _ rfl).1 (lnn (ROWB + q)) (fun j => .int (g.2.2.2.1 (ROWB + q) j))) (fun z => by cases z) (by show ¬ (i < 0 ∨ (arrV _ _ _).slots.size ≤ _); rw [arrV_size]; exact hin) rfl rfl hd fun H1 e9 z oq => ?_
  refine h p l e R s m args below meth c D t ad A Q C H1 _ lsM hl ?_ (hS.put z oq (hP.2.1.2 ix (_, cel t ad g _) hw0))
  have hat : va_at D vwCl (ad (ROWB + q), cel t ad (g.1, g.2.1, g.2.2.1, upR g.2.2.2.1 (ROWB + q) (upd (g.2.2.2.1 (ROWB + q)) i.toNatClampNeg x), g.2.2.2.2) (ROWB + q)) H1 := by
    rw [cel_int hk]
    show H1[ad (ROWB + q)]? = some (vp_cell _ _)
    rw [e9]
    refine congrArg some ((arr_upd _ _ _ _ _).trans ?_)
    rw [show (g.1, g.2.1, g.2.2.1, upR g.2.2.2.1 (ROWB + q) (upd (g.2.2.2.1 (ROWB + q)) i.toNatClampNeg x), g.2.2.2.2).2.2.2.1 (ROWB + q) = upd (g.2.2.2.1 (ROWB + q)) i.toNatClampNeg x from if_pos rfl]
  have hP2 := hP.1.set hP.2.1 hw0 hat oq
  have hD2 := hP.2.1.set (e := cel t ad (g.1, g.2.1, g.2.2.1, upR g.2.2.2.1 (ROWB + q) (upd (g.2.2.2.1 (ROWB + q)) i.toNatClampNeg x), g.2.2.2.2) (ROWB + q)) hw0
  rw [wld_set (g2 := (g.1, g.2.1, g.2.2.1, upR g.2.2.2.1 (ROWB + q) (upd (g.2.2.2.1 (ROWB + q)) i.toNatClampNeg x), g.2.2.2.2)) hi rfl (fun z hz => cel_noteq_A hz)] at hP2 hD2
  exact PIC_to hP rfl z hP2 hD2
theorem sd_zast {q N : Nat} {i : Int32} {x : Int32} (hd : decode (cB M) pc = .ok (.bastore, 1)) (hk : kin q = 2) (hN : lnn q = N) (hb : bnn g.1 q = true) (hin : vp_in i N) (h : X S M (pc + 1) ls st (g.1, g.2.1, g.2.2.1, upR g.2.2.2.1 q (upd (g.2.2.2.1 q) i.toNatClampNeg (x &&& 1)), g.2.2.2.2) n k K) : X S M pc ls (.int x :: .int i :: .ref q :: st) g n k K := by
  intro p l e R s m args below meth c D t ad A Q C H locs lsM hl hP hS
  obtain ⟨hx, hb0, hml, hown, hts, hlocks, hr, hini, hR, htr, hex, hKS, hA, hZ, hscr⟩ := C.1
  obtain ⟨ix, hi, hw0⟩ := wld_at (t := t) (ad := ad) hb
  have hw := hw0
  subst hN
  rw [cel_bool hk] at hw
  refine W.zast hx hb0 (hP.1 ix _ hw) ((hKS.1.2 1 _ rfl).1 (lnn q) (fun j => .int (g.2.2.2.1 q j))) (fun z => by cases z) (by show ¬ (i < 0 ∨ (arrV _ _ _).slots.size ≤ _); rw [arrV_size]; exact hin) rfl rfl hd fun H1 e9 z oq => ?_
  refine h p l e R s m args below meth c D t ad A Q C H1 _ lsM hl ?_ (hS.put z oq (hP.2.1.2 ix (_, cel t ad g _) hw0))
  have hat : va_at D vwCl (ad q, cel t ad (g.1, g.2.1, g.2.2.1, upR g.2.2.2.1 q (upd (g.2.2.2.1 q) i.toNatClampNeg (x &&& 1)), g.2.2.2.2) q) H1 := by
    rw [cel_bool hk]
    show H1[ad q]? = some (vp_cell _ _)
    rw [e9]
    refine congrArg some ((arr_upd _ _ _ _ _).trans ?_)
    rw [show (g.1, g.2.1, g.2.2.1, upR g.2.2.2.1 q (upd (g.2.2.2.1 q) i.toNatClampNeg (x &&& 1)), g.2.2.2.2).2.2.2.1 q = upd (g.2.2.2.1 q) i.toNatClampNeg (x &&& 1) from if_pos rfl]
  have hP2 := hP.1.set hP.2.1 hw0 hat oq
  have hD2 := hP.2.1.set (e := cel t ad (g.1, g.2.1, g.2.2.1, upR g.2.2.2.1 q (upd (g.2.2.2.1 q) i.toNatClampNeg (x &&& 1)), g.2.2.2.2) q) hw0
  rw [wld_set (g2 := (g.1, g.2.1, g.2.2.1, upR g.2.2.2.1 q (upd (g.2.2.2.1 q) i.toNatClampNeg (x &&& 1)), g.2.2.2.2)) hi rfl (fun z hz => cel_noteq_A hz)] at hP2 hD2
  exact PIC_to hP rfl z hP2 hD2
theorem sd_last {q N : Nat} {i : Int32} {x : Int32} (hd : decode (cB M) pc = .ok (.iastore, 1)) (hk : kin q = 3) (hN : lnn q = N) (hb : bnn g.1 q = true) (hin : vp_in i N) (h : X S M (pc + 1) ls st (g.1, g.2.1, g.2.2.1, g.2.2.2.1, upR g.2.2.2.2 q (upd (g.2.2.2.2 q) i.toNatClampNeg x)) n k K) : X S M pc ls (.int x :: .int i :: .ref q :: st) g n k K := by
  intro p l e R s m args below meth c D t ad A Q C H locs lsM hl hP hS
  obtain ⟨hx, hb0, hml, hown, hts, hlocks, hr, hini, hR, htr, hex, hKS, hA, hZ, hscr⟩ := C.1
  obtain ⟨ix, hi, hw0⟩ := wld_at (t := t) (ad := ad) hb
  have hw := hw0
  subst hN
  rw [cel_long hk] at hw
  refine W.iast hx hb0 (hP.1 ix _ hw) ((hKS.1.2 0 _ rfl).1 (lnn q) (fun j => .int (g.2.2.2.2 q j))) (fun z => by cases z) (by show ¬ (i < 0 ∨ (arrV _ _ _).slots.size ≤ _); rw [arrV_size]; exact hin) rfl rfl hd fun H1 e9 z oq => ?_
  refine h p l e R s m args below meth c D t ad A Q C H1 _ lsM hl ?_ (hS.put z oq (hP.2.1.2 ix (_, cel t ad g _) hw0))
  have hat : va_at D vwCl (ad q, cel t ad (g.1, g.2.1, g.2.2.1, g.2.2.2.1, upR g.2.2.2.2 q (upd (g.2.2.2.2 q) i.toNatClampNeg x)) q) H1 := by
    rw [cel_long hk]
    show H1[ad q]? = some (vp_cell _ _)
    rw [e9]
    refine congrArg some ((arr_upd _ _ _ _ _).trans ?_)
    rw [show (g.1, g.2.1, g.2.2.1, g.2.2.2.1, upR g.2.2.2.2 q (upd (g.2.2.2.2 q) i.toNatClampNeg x)).2.2.2.2 q = upd (g.2.2.2.2 q) i.toNatClampNeg x from if_pos rfl]
  have hP2 := hP.1.set hP.2.1 hw0 hat oq
  have hD2 := hP.2.1.set (e := cel t ad (g.1, g.2.1, g.2.2.1, g.2.2.2.1, upR g.2.2.2.2 q (upd (g.2.2.2.2 q) i.toNatClampNeg x)) q) hw0
  rw [wld_set (g2 := (g.1, g.2.1, g.2.2.1, g.2.2.2.1, upR g.2.2.2.2 q (upd (g.2.2.2.2 q) i.toNatClampNeg x))) hi rfl (fun z hz => cel_noteq_J hz)] at hP2 hD2
  exact PIC_to hP rfl z hP2 hD2
theorem sd_newI {q N : Nat} {x : Int32} (hd : decode (cB M) pc = .ok (.newarray .int, 2)) (hq : AO[g.1]? = some q) (hk : kin q = 1) (hN : lnn q = N) (h0 : ¬ x < 0) (hx0 : x.toNatClampNeg = N) (h9 : N < 10000) (hw : Cond.arrayClass .int ∈ GW) (hc : n + 1 ≤ (rmM M).cells) (hs : k + N ≤ (rmM M).slots)
    (h : X S M (pc + 2) ls (.ref q :: st) (g.1 + 1, g.2.1, g.2.2.1, upR g.2.2.2.1 q (fun _ => 0), g.2.2.2.2) (n + 1) (k + N) K) : X S M pc ls (.int x :: st) g n k K := by
  intro p l e R s m args below meth c D t ad A Q C H locs lsM hl hP hS
  obtain ⟨hx, hb0, hml, hown, hts, hlocks, hr, hini, hR, htr, hex, hKS, hA, hZ, hscr⟩ := C.1
  refine va_newaK hx hb0 (atype := .int) (hts _ hw) rfl hd rfl h0 hx0 (by show N * _ ≤ _; simp only [newarray.typeOf, componentBytes]; omega) (by rw [hR]; exact hc) (by rw [hR]; exact hs) rfl fun H1 cA e1 z1 o1 hAr hNm => ?_
  have ecA : cA = t 0 := by
    have hra : s.vm.findClass _ = some (t 0) := (hKS.1.2 0 _ rfl).2
    exact Option.some.inj (hNm.symm.trans hra)
  subst ecA
  have hat : va_at D vwCl (H.size, cel t ad (g.1 + 1, g.2.1, g.2.2.1, upR g.2.2.2.1 q (fun _ => 0), g.2.2.2.2) q) H1 := by
    rw [cel_int hk, hN]
    show H1[H.size]? = some (vp_cell _ _)
    rw [e1, show (g.1 + 1, g.2.1, g.2.2.1, upR g.2.2.2.1 q (fun _ => 0), g.2.2.2.2).2.2.2.1 q = (fun _ => 0) from if_pos rfl]
    rfl
  obtain ⟨hP2, hae⟩ := PIC_push (g2 := (g.1 + 1, g.2.1, g.2.2.1, upR g.2.2.2.1 q (fun _ => 0), g.2.2.2.2)) hP hq rfl (fun z hz => cel_noteq_A (nb := g.1) hz) hat z1 o1 (hA _ hS.1)
  have hgo := h p l e R s m args below meth c D t ad A Q C H1 locs lsM hl hP2 (va_S_push hS z1 o1)
  rw [List.map_cons, show cv ad (.ref q) = .ref (ad q) from rfl, hae] at hgo
  exact hgo
theorem sd_newZ {q N : Nat} {x : Int32} (hd : decode (cB M) pc = .ok (.newarray .boolean, 2)) (hq : AO[g.1]? = some q) (hk : kin q = 2) (hN : lnn q = N) (h0 : ¬ x < 0) (hx0 : x.toNatClampNeg = N) (h9 : N < 10000) (hw : Cond.arrayClass .boolean ∈ GW) (hc : n + 1 ≤ (rmM M).cells) (hs : k + N ≤ (rmM M).slots)
    (h : X S M (pc + 2) ls (.ref q :: st) (g.1 + 1, g.2.1, g.2.2.1, upR g.2.2.2.1 q (fun _ => 0), g.2.2.2.2) (n + 1) (k + N) K) : X S M pc ls (.int x :: st) g n k K := by
  intro p l e R s m args below meth c D t ad A Q C H locs lsM hl hP hS
  obtain ⟨hx, hb0, hml, hown, hts, hlocks, hr, hini, hR, htr, hex, hKS, hA, hZ, hscr⟩ := C.1
  refine va_newaK hx hb0 (atype := .boolean) (hts _ hw) rfl hd rfl h0 hx0 (by show N * _ ≤ _; simp only [newarray.typeOf, componentBytes]; omega) (by rw [hR]; exact hc) (by rw [hR]; exact hs) rfl fun H1 cA e1 z1 o1 hAr hNm => ?_
  have ecA : cA = t 1 := by
    have hra : s.vm.findClass _ = some (t 1) := (hKS.1.2 1 _ rfl).2
    exact Option.some.inj (hNm.symm.trans hra)
  subst ecA
  have hat : va_at D vwCl (H.size, cel t ad (g.1 + 1, g.2.1, g.2.2.1, upR g.2.2.2.1 q (fun _ => 0), g.2.2.2.2) q) H1 := by
    rw [cel_bool hk, hN]
    show H1[H.size]? = some (vp_cell _ _)
    rw [e1, show (g.1 + 1, g.2.1, g.2.2.1, upR g.2.2.2.1 q (fun _ => 0), g.2.2.2.2).2.2.2.1 q = (fun _ => 0) from if_pos rfl]
    rfl
  obtain ⟨hP2, hae⟩ := PIC_push (g2 := (g.1 + 1, g.2.1, g.2.2.1, upR g.2.2.2.1 q (fun _ => 0), g.2.2.2.2)) hP hq rfl (fun z hz => cel_noteq_A (nb := g.1) hz) hat z1 o1 (hA _ hS.1)
  have hgo := h p l e R s m args below meth c D t ad A Q C H1 locs lsM hl hP2 (va_S_push hS z1 o1)
  rw [List.map_cons, show cv ad (.ref q) = .ref (ad q) from rfl, hae] at hgo
  exact hgo
theorem sd_newJ {q N : Nat} {x : Int32} (hd : decode (cB M) pc = .ok (.newarray .int, 2)) (hq : AO[g.1]? = some q) (hk : kin q = 3) (hN : lnn q = N) (h0 : ¬ x < 0) (hx0 : x.toNatClampNeg = N) (h9 : N < 10000) (hw : Cond.arrayClass .int ∈ GW) (hc : n + 1 ≤ (rmM M).cells) (hs : k + N ≤ (rmM M).slots)
    (h : X S M (pc + 2) ls (.ref q :: st) (g.1 + 1, g.2.1, g.2.2.1, g.2.2.2.1, upR g.2.2.2.2 q (fun _ => 0)) (n + 1) (k + N) K) : X S M pc ls (.int x :: st) g n k K := by
  intro p l e R s m args below meth c D t ad A Q C H locs lsM hl hP hS
  obtain ⟨hx, hb0, hml, hown, hts, hlocks, hr, hini, hR, htr, hex, hKS, hA, hZ, hscr⟩ := C.1
  refine va_newaK hx hb0 (atype := .int) (hts _ hw) rfl hd rfl h0 hx0 (by show N * _ ≤ _; simp only [newarray.typeOf, componentBytes]; omega) (by rw [hR]; exact hc) (by rw [hR]; exact hs) rfl fun H1 cA e1 z1 o1 hAr hNm => ?_
  have ecA : cA = t 0 := by
    have hra : s.vm.findClass _ = some (t 0) := (hKS.1.2 0 _ rfl).2
    exact Option.some.inj (hNm.symm.trans hra)
  subst ecA
  have hat : va_at D vwCl (H.size, cel t ad (g.1 + 1, g.2.1, g.2.2.1, g.2.2.2.1, upR g.2.2.2.2 q (fun _ => 0)) q) H1 := by
    rw [cel_long hk, hN]
    show H1[H.size]? = some (vp_cell _ _)
    rw [e1, show (g.1 + 1, g.2.1, g.2.2.1, g.2.2.2.1, upR g.2.2.2.2 q (fun _ => 0)).2.2.2.2 q = (fun _ => 0) from if_pos rfl]
    rfl
  obtain ⟨hP2, hae⟩ := PIC_push (g2 := (g.1 + 1, g.2.1, g.2.2.1, g.2.2.2.1, upR g.2.2.2.2 q (fun _ => 0))) hP hq rfl (fun z hz => cel_noteq_J (nb := g.1) hz) hat z1 o1 (hA _ hS.1)
  have hgo := h p l e R s m args below meth c D t ad A Q C H1 locs lsM hl hP2 (va_S_push hS z1 o1)
  rw [List.map_cons, show cv ad (.ref q) = .ref (ad q) from rfl, hae] at hgo
  exact hgo
theorem new_df : ∀ c, c < 6 → ∀ k, k < lnn c → defaultValue (cTy c k) = (if isR c k then .null else .int 0) := by decide +kernel
def cchk (e : Nat × Nat × Nat) : Bool := decide (e.2.2 < 6) && decide (Cond.classLink (cNm e.1) e.2.1 (cNm e.2.2) ∈ lw_tbl) && goodWord (Cond.classLink (cNm e.1) e.2.1 (cNm e.2.2)) && decide (Cond.instantiable (cNm e.2.2) (lnn e.2.2) ∈ lw_tbl) && goodWord (Cond.instantiable (cNm e.2.2) (lnn e.2.2)) && decide (Cond.initialized (cNm e.2.2) ∈ lw_tbl) && goodWord (Cond.initialized (cNm e.2.2)) && (kin e.2.2 == 6)
theorem cT_all : cTL.all cchk = true := by decide +kernel
theorem cT_ok {o j a : Nat} (h : (o, j, a) ∈ cTL) : a < 6 ∧ Cond.classLink (cNm o) j (cNm a) ∈ GW ∧ Cond.instantiable (cNm a) (lnn a) ∈ GW ∧ Cond.initialized (cNm a) ∈ GW ∧ kin a = 6 := by
  have h1 := List.all_eq_true.mp cT_all _ h
  unfold cchk at h1
  simp only [Bool.and_eq_true, decide_eq_true_eq, beq_iff_eq] at h1
  obtain ⟨⟨⟨⟨⟨⟨⟨a1, a2⟩, a3⟩, a4⟩, a5⟩, a6⟩, a7⟩, a8⟩ := h1
  exact ⟨a1, GW_in a2 a3, GW_in a4 a5, GW_in a6 a7, a8⟩
theorem cel_noteq_N {t : Nat → ClassId} {ad : Nat → Nat} {g : SG} {c : Nat} {r1 : Nat → Value} {r2 : Nat → Int32} {z : Nat} (h : z ≠ c) : cel t ad (g.1 + 1, upR g.2.1 c r1, upR g.2.2.1 c r2, g.2.2.2) z = cel t ad g z := by
  have e : fval ad (g.1 + 1, upR g.2.1 c r1, upR g.2.2.1 c r2, g.2.2.2) z = fval ad g z := by
    funext j
    unfold fval upR
    simp only [if_neg h]
  unfold cel
  rw [e]
theorem sd_new {a j : Nat} (hd : decode (cB M) pc = .ok (.new j, 3)) (hl0 : (cC M, j, a) ∈ cTL) (hq : AO[g.1]? = some a) (hc : n + 1 ≤ (rmM M).cells) (hs : k + lnn a ≤ (rmM M).slots)
    (h : X S M (pc + 3) ls (.ref a :: st) (g.1 + 1, upR g.2.1 a (fun _ => .null), upR g.2.2.1 a (fun _ => 0), g.2.2.2) (n + 1) (k + lnn a) K) : X S M pc ls st g n k K := by
  intro p l e R s m args below meth c D t ad A Q C H locs lsM hl hP hS
  obtain ⟨hx, hb0, hml, hown, hts, hlocks, hr, hini, hR, htr, hex, hKS, hA, hZ, hscr⟩ := C.1
  obtain ⟨h7, hw1, hw2, hw3, hk⟩ := cT_ok hl0
  have hKn := hKS.1.1 a _ (cl_ok a h7)
  refine W.newcK hx hb0 hown (hts _ hw1) (hts _ hw2) (hts _ hw3) rfl hd (by rw [hR]; exact hc) (by rw [hR]; exact hs) hKn.2.1 rfl fun H1 kC hkC e1 z1 o1 => ?_
  have hat : va_at D vwCl (H.size, cel t ad (g.1 + 1, upR g.2.1 a (fun _ => .null), upR g.2.2.1 a (fun _ => 0), g.2.2.2) a) H1 := by
    rw [cel_obj hk]
    refine ⟨_, cl_ok a h7, (u_born (cTy a) hts (cl_in h7) hKn hkC e1 (cl_ty a h7)).to (fun i hi => ?_)⟩
    rw [new_df a h7 i hi]
    show _ = ((List.range (lnn a)).map _).getD i Value.null
    rw [List.getD_eq_getElem?_getD, rng_get _ hi]
    unfold fval upR
    simp only [if_pos, Option.getD_some]
    rfl
  obtain ⟨hP2, hae⟩ := PIC_push (g2 := (g.1 + 1, upR g.2.1 a (fun _ => .null), upR g.2.2.1 a (fun _ => 0), g.2.2.2)) hP hq rfl (fun z hz => cel_noteq_N hz) hat z1 o1 (hA _ hS.1)
  have hgo := h p l e R s m args below meth c D t ad A Q C H1 locs lsM hl hP2 (va_S_push hS z1 o1)
  rw [List.map_cons, show cv ad (.ref a) = .ref (ad a) from rfl, hae] at hgo
  exact hgo
theorem sd_objInit {j : Nat} {o : Nat} (hd : decode (cB M) pc = .ok (.invokespecial j, 3)) (hw1 : Cond.methodLink (cNm (cC M)) j Lib.objectInit ∈ GW) (hw2 : Cond.instanceMethod Lib.objectInit ∈ GW) (hw3 : Cond.code Lib.objectInit ⟨#[0xb1]⟩ 1 none ∈ GW) (h1 : 1 ≤ (rmM M).frames) (h2 : 20 ≤ (rmM M).locals) (h3 : st.length ≤ 4)
    (h : X S M (pc + 3) ls st g n k K) : X S M pc ls (.ref o :: st) g n k K := by
  intro p l e R s m args below meth c D t ad A Q C H locs lsM hl hP hS
  obtain ⟨hx, hb0, hml, hown, hts, hlocks, hr, hini, hR, htr, hex, hKS, hA, hZ, hscr⟩ := C.1
  have hsum : ((st.map (cv ad)).map fun v => v.category).sum ≤ 8 := by
    rw [List.map_map]
    exact cat_sum st h3 _ (fun v => by show (cv ad v).category ≤ 2; rw [cv_cat]; exact cat_le v)
  exact W.objInit hx hb0 hown (hts _ hw1) (hts _ hw2) (hts _ hw3) rfl (by rw [hml]; exact hl.1.1) rfl hd (by rw [hR]; exact h1) (by rw [hR]; show 2 * 0 + _ + 12 ≤ _; omega) (h p l e R s m args below meth c D t ad A Q C H locs lsM hl hP hS)
end SA
