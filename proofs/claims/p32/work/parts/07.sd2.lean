/-! fields are written -/
theorem rng_set {α : Type} {N b : Nat} {f f2 : Nat → α} {v : α} (h1 : f2 b = v) (h2 : ∀ j, j ≠ b → f2 j = f j) : ((List.range N).map f).set b v = (List.range N).map f2 := by
  apply List.ext_getElem?
  intro j
  rw [List.getElem?_set]
  by_cases hj : b = j
  · subst hj
    rw [if_pos rfl]
    by_cases hb : b < N
    · rw [if_pos (by rw [List.length_map, List.length_range]; exact hb), rng_get _ hb, h1]
    · rw [if_neg (by rw [List.length_map, List.length_range]; exact hb)]
      exact (List.getElem?_eq_none (by rw [List.length_map, List.length_range]; omega)).symm
  · rw [if_neg hj, List.getElem?_map, List.getElem?_map]
    by_cases hb : j < N
    · rw [List.getElem?_range hb]
      simp [h2 j (Ne.symm hj)]
    · rw [List.getElem?_eq_none (by rw [List.length_range]; omega)]
      rfl
/-- a field's cell behind a write, seen as a picture -/
theorem fld_pic {D : va_G} {t : Nat → ClassId} {ad : Nat → Nat} {A : Nat → Prop} {g g2 : SG} {H H1 : Heap} {s : State} {args : Array Value} (hts : ∀ w ∈ GW, w.before args s = true) (hK : va_K D vwCl (tysOf t) s) (hP : PIC D t ad A g H) {a b i : Nat} {v : Value} (h7 : a < 6) (hbN : b < lnn a) (hk : kin a = 6)
    (hi : (AO.take g.1)[i]? = some a) (h1 : g2.1 = g.1) (ho : ∀ z, z ≠ a → cel t ad g2 z = cel t ad g z) (hv1 : fval ad g2 a b = v) (hv2 : ∀ j, j ≠ b → fval ad g2 a j = fval ad g a j)
    {cell : Cell} (q1 : H[ad a]? = some cell) (q2 : cell.cls = D.1 a) (q3 : cell.vm = .none) (q4 : ∀ k, k < lnn a → cell.slots[D.2 a k]? = some (vp_V ((List.range (lnn a)).map (fval ad g a)) k))
    (e1 : H1[ad a]? = some (cell.setSlot (D.2 a b) v)) (e2 : H1.size = H.size) (e3 : ∀ q, q ≠ ad a → H1[q]? = H[q]?) : PIC D t ad A g2 H1 := by
  have hw : (wld t ad g)[i]? = some (ad a, cel t ad g a) := by
    unfold wld
    rw [List.getElem?_map, hi]
    rfl
  have hap := va_apart (own := cNm a) hts (cl_in h7) (cTy a) (cl_ty a h7) (cl_nm a h7) hK (cl_ok a h7)
  have hat : va_at D vwCl (ad a, cel t ad g2 a) H1 := by
    rw [cel_obj hk, ← rng_set hv1 hv2]
    exact ⟨_, cl_ok a h7, t_OB.to (V := updV (vp_V ((List.range (lnn a)).map (fval ad g a))) b v) ⟨_, e1, q2, q3, t_set q4 hap hbN v⟩ (fun j _ => vp_updV_set (by rw [List.length_map, List.length_range]; exact hbN) v j)⟩
  have hP2 := hP.1.set hP.2.1 hw hat e3
  have hD2 := hP.2.1.set (e := cel t ad g2 a) hw
  rw [wld_set hi h1 ho] at hP2 hD2
  exact PIC_to hP h1 e2 hP2 hD2
section SP
variable {S : Nat × (Nat → Int32)} {M pc : Nat} {ls : LC} {st : List Value} {g : SG} {n k : Nat} {K : Out → SG → Prop}
theorem sd_put {a b j : Nat} {v : Value} {g2 : SG} (hd : decode (cB M) pc = .ok (.putfield j, 3)) (hf : (cC M, j, a, b) ∈ fTL) (hb : bnn g.1 a = true) (hfin : (cTt a b).2.2.2 = false ∨ ((cTt a b).2.2.2 = true ∧ cI M = true ∧ (cTt a b).1 = cNm (cC M)))
    (hn : ∀ ad : Nat → Nat, narrow (cTy a b) (cv ad v) = cv ad v) (hfit : ∀ ad : Nat → Nat, fits (cTy a b) (cv ad v) = true)
    (h1 : g2.1 = g.1) (ho : ∀ (t : Nat → ClassId) (ad : Nat → Nat) (z : Nat), z ≠ a → cel t ad g2 z = cel t ad g z) (hv1 : ∀ ad : Nat → Nat, fval ad g2 a b = cv ad v) (hv2 : ∀ (ad : Nat → Nat) (j : Nat), j ≠ b → fval ad g2 a j = fval ad g a j)
    (h : X S M (pc + 3) ls st g2 n k K) : X S M pc ls (v :: .ref a :: st) g n k K := by
  intro p l e R s m args below meth c D t ad A Q C H locs lsM hl hP hS
  obtain ⟨h7, hbN, hlk, hk⟩ := fT_ok hf
  obtain ⟨hx, hb0, hml, hown, hts, hlocks, hr, hini, hR, htr, hex, hKS, hA, hZ, hscr⟩ := C.1
  obtain ⟨i, hi, hw⟩ := wld_at (t := t) (ad := ad) hb
  rw [cel_obj hk] at hw
  obtain ⟨r, hr1, cell, q1, q2, q3, q4⟩ := hP.1 i _ hw
  have hrr : r = (cNm a, cTt a, lnn a) := Option.some.inj (hr1.symm.trans (cl_ok a h7))
  subst hrr
  obtain ⟨hSl, hfc, kC, hkC, hkind⟩ := hKS.1.1 a _ (cl_ok a h7)
  obtain ⟨cf, kf, fi, f, hif, hsl⟩ := hSl b hbN
  have hst := (u_facts hfc hkC (u_lays hts (cl_in h7) hbN) hif).1
  have hlay := hts _ (cl_in h7 _ (u_in_lay hbN))
  have kk : ∀ H' : Heap, H'[ad a]? = some (cell.setSlot f.slot (cv ad v)) → H'.size = H.size → (∀ q, q ≠ ad a → H'[q]? = H[q]?) → W p l e R s m args below meth c H' (locs ++ [⟨ad a, f.slot⟩]) n k Q (F0 m (pc + 3) lsM (st.map (cv ad))) := by
    intro H' e1 e2 e3
    rw [hsl] at e1
    exact h p l e R s m args below meth c D t ad A Q C H' _ lsM hl (fld_pic hts hKS.1 hP h7 hbN hk hi h1 (ho t ad) (hv1 ad) (hv2 ad) q1 q2 q3 q4 e1 e2 e3) (hS.put e2 e3 (hP.2.1.2 i _ hw))
  unfold u_lay at hlay
  rcases hfin with hfin | ⟨hfin, hI, hdecl⟩
  · rw [if_neg (by rw [hfin]; decide)] at hlay
    have h6 := u_store hfc hkC hkind hlay hif (cl_ty a h7 b hbN) (hn ad) (hfit ad)
    exact W.putK hx hb0 (f := f) ⟨hown, hts _ hlk, ⟨_, _, _, hif⟩, hst⟩ (by rw [q2]; exact h6) q1 q3 (by rw [hsl]; exact k2_hasslot (q4 b hbN)) rfl rfl hd kk
  · rw [if_pos hfin] at hlay
    have hcf : m.cls = cf := by
      obtain ⟨_, _, c', _, _, _, -, -, hf', -, -, -, hown2, -⟩ := Cond.laysFinal_spec hlay
      have e1 : c' = cf := by
        have := hif.symm.trans hf'
        simp at this
        exact this.1.symm
      rw [hdecl] at hown2
      rw [← e1]
      exact Option.some.inj (hown.symm.trans hown2)
    have h6 := u_fits hfc hkC hkind (Or.inr hlay) hif (cl_ty a h7 b hbN) (hn ad) (hfit ad)
    exact W.putFinK hx hb0 hown (hts _ hlk) hif hst hcf (hini hI) (by rw [q2]; exact h6) q1 q3 (by rw [hsl]; exact k2_hasslot (q4 b hbN)) rfl rfl hd kk
end SP
