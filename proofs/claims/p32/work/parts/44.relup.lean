/-! the relation under what single calls write -/
section RU
variable {σ s : ST} {J : Nat → Nat → Int32} {c n b : Nat} {p a m t : Nat}
theorem knJ_g {w i : Nat} {how bq : Int32} (h5 : ¬ i = 5) (h6 : ¬ i = 6) : knJ J w how bq 43 i = J 43 i := by
  unfold knJ
  split
  · rfl
  · rw [lnJ_g, if_neg h6, sJ_at, if_pos rfl, upd_at, if_neg h5]
theorem lkJ_g {i : Nat} (h5 : ¬ i = 5) (h6 : ¬ i = 6) : lkJ J m 43 i = J 43 i := by
  unfold lkJ
  split
  · exact knJ_g h5 h6
  · rfl
theorem seJ_g {i : Nat} (h5 : ¬ i = 5) (h6 : ¬ i = 6) : seJ J m 43 i = J 43 i := by
  unfold seJ
  rw [lkJ_g h5 h6, sJ_at, if_neg (by decide)]
theorem cmA_g {i : Nat} : cmA J a p 43 i = J 43 i := by
  rw [cmA_o (by decide) (by decide)]
theorem cmJ_g {i : Nat} (h5 : ¬ i = 5) (h6 : ¬ i = 6) : cmJ J a p 43 i = J 43 i := by
  unfold cmJ
  split
  · rw [seJ_g h5 h6, cmA_g]
  · exact cmA_g
theorem szJ_g {h9 i : Nat} (h5 : ¬ i = 5) (h6 : ¬ i = 6) : ∀ k, szJ J p h9 k 43 i = J 43 i
  | 0 => rfl
  | k + 1 => by
    unfold szJ
    split
    · rw [seJ_g h5 h6, sJ_at, if_neg (by decide)]
      exact szJ_g h5 h6 k
    · exact szJ_g h5 h6 k
theorem adJ_g {t k f m c n p i : Nat} (h1 : ¬ i = 1) (h5 : ¬ i = 5) (h6 : ¬ i = 6) : adJ J t k f m c n p 43 i = J 43 i := by
  unfold adJ adA
  rw [cmJ_g h5 h6, sJ_at, if_pos rfl, upd_at, if_neg h1]
  rfl
/-- readings and words alone -/
theorem REL_fr {σ' : ST} {J' : Nat → Nat → Int32} (h : REL σ J c n b) (hI : INV σ' c n b) (e1 : σ'.1 = σ.1) (e2 : ∀ q, q < 64 → σ'.2 q = σ.2 q) (eJ : ∀ r, ¬ r = 36 → ¬ r = 37 → J' r = J r) (hz : zok J' 36) (hzr : ∀ i p, i < c → p < 12 → rdg σ' i p = nI (zr J' 36 i p) - 2) (hw : zok J' 37) (hwr : ∀ t p, t < 3 → p < 12 → σ'.2 (64 + t) p = nI (zr J' 37 t p) - 2) : REL σ' J' c n b := by
  have eL : Ln σ' = Ln σ := by
    unfold Ln
    rw [e1]
  refine ⟨hI, h.c19, h.nc, h.b64, ?_, ?_, ?_, ?_, ?_, ?_, ?_, ?_, ?_, ?_, ?_, ?_, ?_, ?_, ?_, hz, hzr, hw, hwr, ?_, ?_⟩
  · rw [e1, eJ _ (by decide) (by decide)]; exact h.g0
  · rw [eJ _ (by decide) (by decide)]; exact h.g1
  · rw [e1, eJ _ (by decide) (by decide)]; exact h.g3
  · rw [e1, eJ _ (by decide) (by decide)]; exact h.g4
  · rw [e1, eJ _ (by decide) (by decide)]; exact h.g5
  · rw [e1, eJ _ (by decide) (by decide)]; exact h.g6
  · rw [e2 _ (by decide), eJ _ (by decide) (by decide)]; exact h.g78
  · rw [e1, eJ _ (by decide) (by decide)]; exact h.g9
  · rw [e2 _ (by decide), eJ _ (by decide) (by decide)]; exact h.k
  · rw [e2 _ (by decide), e2 _ (by decide), eJ _ (by decide) (by decide)]; exact h.q
  · rw [e2 _ (by decide), e2 _ (by decide), e2 _ (by decide), e2 _ (by decide), eJ _ (by decide) (by decide)]; exact h.a
  · rw [e2 _ (by decide), e2 _ (by decide), e2 _ (by decide), e2 _ (by decide), e2 _ (by decide), e2 _ (by decide), eJ _ (by decide) (by decide)]; exact h.m
  · rw [e2 _ (by decide), e2 _ (by decide), eJ _ (by decide) (by decide)]; exact h.y
  · rw [e2 _ (by decide), eJ _ (by decide) (by decide)]; exact h.d
  · rw [e2 _ (by decide)]; exact h.z0
  · rw [e2 _ (by decide), e2 _ (by decide), eJ _ (by decide) (by decide)]; exact h.x
  · rw [eL, e2 _ (by decide), e2 _ (by decide), e2 _ (by decide), e2 _ (by decide), eJ _ (by decide) (by decide)]; exact h.l
theorem wdv_n {w : Nat} (hw : w < 100) : wdv (nI w) := ⟨nI_pos (by omega), by rw [show (100 : Int32) = nI 100 from rfl]; exact nI_lt hw (by decide)⟩
theorem REL_word {w : Nat} (h : REL σ J c n b) (ht : t < 3) (hp : p < 12) (hw : w < 100) : REL (sA σ (64 + t) p (nI w)) (rdJ J 37 t p (w + 2)) c n b := by
  have hl : 3 * t + 2 < lnn 37 := show 3 * t + 2 < 9 by omega
  have h19 := h.c19
  refine REL_fr h (INV_word h.I ht (wdv_n hw)) rfl (fun q hq => by rw [sA_2, if_neg (by omega)]) (fun r h1 h2 => rdJ_o h2) (rdJ_ok h.w h.z hl hp (by omega)) ?_ (rdJ_ok h.w h.w hl hp (by omega)) ?_
  · intro i x hi hx
    rw [rdJ_at h.w hl hp hx (by omega), if_neg (fun z => absurd z.1 (by decide))]
    unfold rdg
    rw [sA_2, if_neg (by omega)]
    exact h.rz i x hi hx
  · intro t2 x ht2 hx
    rw [rdJ_at h.w hl hp hx (by omega), sA_2]
    by_cases e : t2 = t
    · subst e
      rw [if_pos rfl, upd_at]
      by_cases e2 : x = p
      · rw [if_pos e2, if_pos ⟨rfl, rfl, e2⟩, m2_p]
      · rw [if_neg e2, if_neg (fun z => e2 z.2.2)]
        exact h.wr t2 x ht2 hx
    · rw [if_neg (by omega), if_neg (fun z => e z.2.1)]
      exact h.wr t2 x ht2 hx
theorem REL_slip {k w : Nat} (h : REL σ J c n b) (hp : p < 12) (hk : k < 3) (hw : w < 100) : REL (sA (sA σ 8 p (nI k)) 9 p (nI w)) (sJ J 38 p (nI (k + 1 + 4 * w))) c n b := by
  have hx : ∀ j, j < 12 → RXp (upd (σ.2 8) p (nI k) j) (upd (σ.2 9) p (nI w) j) (upd (J 38) p (nI (k + 1 + 4 * w)) j) := by
    intro j hj
    rw [upd_at, upd_at, upd_at]
    by_cases e : j = p
    · rw [if_pos e, if_pos e, if_pos e]
      exact Or.inr ⟨k, w, hk, hw, rfl, rfl, rfl⟩
    · rw [if_neg e, if_neg e, if_neg e]
      exact h.x j hj
  have rz0 : ∀ i x, i < c → x < 12 → rdg (sA (sA σ 8 p (nI k)) 9 p (nI w)) i x = nI (zr (sJ J 38 p (nI (k + 1 + 4 * w))) 36 i x) - 2 := by
    intro i x hi hx
    have e : rdg (sA (sA σ 8 p (nI k)) 9 p (nI w)) i x = rdg σ i x := by
      unfold rdg
      try unfold brA
      simp only [sI_2, sA_2]
      try simp (disch := omega) only [if_neg]
    rw [e]
    exact h.rz i x hi hx
  have rw0 : ∀ t x, t < 3 → x < 12 → (sA (sA σ 8 p (nI k)) 9 p (nI w)).2 (64 + t) x = nI (zr (sJ J 38 p (nI (k + 1 + 4 * w))) 37 t x) - 2 := by
    intro t x ht hx
    have e : (sA (sA σ 8 p (nI k)) 9 p (nI w)).2 (64 + t) = σ.2 (64 + t) := by
      try unfold brA
      simp only [sI_2, sA_2]
      try simp (disch := omega) only [if_neg]
    rw [e]
    exact h.wr t x ht hx
  exact ⟨INV_L_words (INV_L_kinds h.I (kd_of (Or.inr ⟨k, w, hk, hw, rfl, rfl, rfl⟩))) (wdv_n hw), h.c19, h.nc, h.b64, h.g0, h.g1, h.g3, h.g4, h.g5, h.g6, h.g78, h.g9, h.k, h.q, h.a, h.m, h.y, h.d, h.z0, h.z, rz0, h.w, rw0, hx, h.l⟩
theorem REL_k {v : Int32} (h : REL σ J c n b) (hp : p < 10) (hv : ∀ k, 10 ≤ k → k < 32 → bt v k = false) : REL (sA σ 20 p v) (sJ J 39 p v) c n b := by
  have hk : ∀ j, j < 10 → upd (J 39) p v j = upd (σ.2 20) p v j := by
    intro j hj
    rw [upd_at, upd_at, h.k j hj]
  have rz0 : ∀ i x, i < c → x < 12 → rdg (sA σ 20 p v) i x = nI (zr (sJ J 39 p v) 36 i x) - 2 := by
    intro i x hi hx
    have e : rdg (sA σ 20 p v) i x = rdg σ i x := by
      unfold rdg
      try unfold brA
      simp only [sI_2, sA_2]
      try simp (disch := omega) only [if_neg]
    rw [e]
    exact h.rz i x hi hx
  have rw0 : ∀ t x, t < 3 → x < 12 → (sA σ 20 p v).2 (64 + t) x = nI (zr (sJ J 39 p v) 37 t x) - 2 := by
    intro t x ht hx
    have e : (sA σ 20 p v).2 (64 + t) = σ.2 (64 + t) := by
      try unfold brA
      simp only [sI_2, sA_2]
      try simp (disch := omega) only [if_neg]
    rw [e]
    exact h.wr t x ht hx
  exact ⟨INV_P_acquaintances h.I hv, h.c19, h.nc, h.b64, h.g0, h.g1, h.g3, h.g4, h.g5, h.g6, h.g78, h.g9, hk, h.q, h.a, h.m, h.y, h.d, h.z0, h.z, rz0, h.w, rw0, h.x, h.l⟩
theorem REL_qs {v w : Int32} (h : REL σ J c n b) (hp : p < 10) (hv : RQp v (σ.2 22 p) w) : REL (sA σ 21 p v) (sJ J 40 p w) c n b := by
  have hq : ∀ j, j < 10 → RQp (upd (σ.2 21) p v j) (σ.2 22 j) (upd (J 40) p w j) := by
    intro j hj
    rw [upd_at, upd_at]
    by_cases e : j = p
    · subst e
      rw [if_pos rfl, if_pos rfl]
      exact hv
    · rw [if_neg e, if_neg e]
      exact h.q j hj
  have rz0 : ∀ i x, i < c → x < 12 → rdg (sA σ 21 p v) i x = nI (zr (sJ J 40 p w) 36 i x) - 2 := by
    intro i x hi hx
    have e : rdg (sA σ 21 p v) i x = rdg σ i x := by
      unfold rdg
      try unfold brA
      simp only [sI_2, sA_2]
      try simp (disch := omega) only [if_neg]
    rw [e]
    exact h.rz i x hi hx
  have rw0 : ∀ t x, t < 3 → x < 12 → (sA σ 21 p v).2 (64 + t) x = nI (zr (sJ J 40 p w) 37 t x) - 2 := by
    intro t x ht hx
    have e : (sA σ 21 p v).2 (64 + t) = σ.2 (64 + t) := by
      try unfold brA
      simp only [sI_2, sA_2]
      try simp (disch := omega) only [if_neg]
    rw [e]
    exact h.wr t x ht hx
  exact ⟨INV_P_strength h.I (by obtain ⟨a, t, h1, h2, h3, h4, h5⟩ := hv; exact ⟨a, h1, h3⟩), h.c19, h.nc, h.b64, h.g0, h.g1, h.g3, h.g4, h.g5, h.g6, h.g78, h.g9, h.k, hq, h.a, h.m, h.y, h.d, h.z0, h.z, rz0, h.w, rw0, h.x, h.l⟩
theorem REL_qn {v w : Int32} (h : REL σ J c n b) (hp : p < 10) (hv : RQp (σ.2 21 p) v w) : REL (sA σ 22 p v) (sJ J 40 p w) c n b := by
  have hq : ∀ j, j < 10 → RQp (σ.2 21 j) (upd (σ.2 22) p v j) (upd (J 40) p w j) := by
    intro j hj
    rw [upd_at, upd_at]
    by_cases e : j = p
    · subst e
      rw [if_pos rfl, if_pos rfl]
      exact hv
    · rw [if_neg e, if_neg e]
      exact h.q j hj
  have rz0 : ∀ i x, i < c → x < 12 → rdg (sA σ 22 p v) i x = nI (zr (sJ J 40 p w) 36 i x) - 2 := by
    intro i x hi hx
    have e : rdg (sA σ 22 p v) i x = rdg σ i x := by
      unfold rdg
      try unfold brA
      simp only [sI_2, sA_2]
      try simp (disch := omega) only [if_neg]
    rw [e]
    exact h.rz i x hi hx
  have rw0 : ∀ t x, t < 3 → x < 12 → (sA σ 22 p v).2 (64 + t) x = nI (zr (sJ J 40 p w) 37 t x) - 2 := by
    intro t x ht hx
    have e : (sA σ 22 p v).2 (64 + t) = σ.2 (64 + t) := by
      try unfold brA
      simp only [sI_2, sA_2]
      try simp (disch := omega) only [if_neg]
    rw [e]
    exact h.wr t x ht hx
  exact ⟨INV_P_arrestNights h.I, h.c19, h.nc, h.b64, h.g0, h.g1, h.g3, h.g4, h.g5, h.g6, h.g78, h.g9, h.k, hq, h.a, h.m, h.y, h.d, h.z0, h.z, rz0, h.w, rw0, h.x, h.l⟩
theorem REL_az {w : Int32} (h : REL σ J c n b) (hp : p < 10) (hm : m < 4) (hv : RAp (-1) (nI p) 1 1 w) : REL (sA (sA (sA (sA σ 25 m (nI p)) 26 m 1) 24 m (-1)) 27 m 1) (sJ J 41 m w) c n b := by
  have ha : ∀ j, j < 4 → RAp (upd (σ.2 24) m (-1) j) (upd (σ.2 25) m (nI p) j) (upd (σ.2 26) m 1 j) (upd (σ.2 27) m 1 j) (upd (J 41) m w j) := by
    intro j hj
    simp only [upd_at]
    by_cases e : j = m
    · simp only [if_pos e]
      exact hv
    · simp only [if_neg e]
      exact h.a j hj
  have rz0 : ∀ i x, i < c → x < 12 → rdg (sA (sA (sA (sA σ 25 m (nI p)) 26 m 1) 24 m (-1)) 27 m 1) i x = nI (zr (sJ J 41 m w) 36 i x) - 2 := by
    intro i x hi hx
    have e : rdg (sA (sA (sA (sA σ 25 m (nI p)) 26 m 1) 24 m (-1)) 27 m 1) i x = rdg σ i x := by
      unfold rdg
      try unfold brA
      simp only [sI_2, sA_2]
      try simp (disch := omega) only [if_neg]
    rw [e]
    exact h.rz i x hi hx
  have rw0 : ∀ t x, t < 3 → x < 12 → (sA (sA (sA (sA σ 25 m (nI p)) 26 m 1) 24 m (-1)) 27 m 1).2 (64 + t) x = nI (zr (sJ J 41 m w) 37 t x) - 2 := by
    intro t x ht hx
    have e : (sA (sA (sA (sA σ 25 m (nI p)) 26 m 1) 24 m (-1)) 27 m 1).2 (64 + t) = σ.2 (64 + t) := by
      try unfold brA
      simp only [sI_2, sA_2]
      try simp (disch := omega) only [if_neg]
    rw [e]
    exact h.wr t x ht hx
  exact ⟨INV_K_seized (INV_K_holders (INV_K_seen (INV_K_noted h.I (Or.inr ⟨p, hp, rfl⟩))) (Or.inl rfl)), h.c19, h.nc, h.b64, h.g0, h.g1, h.g3, h.g4, h.g5, h.g6, h.g78, h.g9, h.k, h.q, ha, h.m, h.y, h.d, h.z0, h.z, rz0, h.w, rw0, h.x, h.l⟩
theorem REL_g3 {v : Int32} (h : REL σ J c n b) (hv : ∀ i, 10 ≤ i → i < 32 → bt v i = false) : REL (sI σ 2 0 v) (sJ J 43 3 v) c n b := by
  have rz0 : ∀ i x, i < c → x < 12 → rdg (sI σ 2 0 v) i x = nI (zr (sJ J 43 3 v) 36 i x) - 2 := by
    intro i x hi hx
    have e : rdg (sI σ 2 0 v) i x = rdg σ i x := by
      unfold rdg
      try unfold brA
      simp only [sI_2, sA_2]
      try simp (disch := omega) only [if_neg]
    rw [e]
    exact h.rz i x hi hx
  have rw0 : ∀ t x, t < 3 → x < 12 → (sI σ 2 0 v).2 (64 + t) x = nI (zr (sJ J 43 3 v) 37 t x) - 2 := by
    intro t x ht hx
    have e : (sI σ 2 0 v).2 (64 + t) = σ.2 (64 + t) := by
      try unfold brA
      simp only [sI_2, sA_2]
      try simp (disch := omega) only [if_neg]
    rw [e]
    exact h.wr t x ht hx
  exact ⟨INV_arrested h.I hv, h.c19, h.nc, h.b64, h.g0, h.g1, rfl, h.g4, h.g5, h.g6, h.g78, h.g9, h.k, h.q, h.a, h.m, h.y, h.d, h.z0, h.z, rz0, h.w, rw0, h.x, h.l⟩
theorem REL_g4 {v : Int32} (h : REL σ J c n b)  : REL (sI σ 2 1 v) (sJ J 43 4 v) c n b := by
  have rz0 : ∀ i x, i < c → x < 12 → rdg (sI σ 2 1 v) i x = nI (zr (sJ J 43 4 v) 36 i x) - 2 := by
    intro i x hi hx
    have e : rdg (sI σ 2 1 v) i x = rdg σ i x := by
      unfold rdg
      try unfold brA
      simp only [sI_2, sA_2]
      try simp (disch := omega) only [if_neg]
    rw [e]
    exact h.rz i x hi hx
  have rw0 : ∀ t x, t < 3 → x < 12 → (sI σ 2 1 v).2 (64 + t) x = nI (zr (sJ J 43 4 v) 37 t x) - 2 := by
    intro t x ht hx
    have e : (sI σ 2 1 v).2 (64 + t) = σ.2 (64 + t) := by
      try unfold brA
      simp only [sI_2, sA_2]
      try simp (disch := omega) only [if_neg]
    rw [e]
    exact h.wr t x ht hx
  exact ⟨INV_informers h.I, h.c19, h.nc, h.b64, h.g0, h.g1, h.g3, rfl, h.g5, h.g6, h.g78, h.g9, h.k, h.q, h.a, h.m, h.y, h.d, h.z0, h.z, rz0, h.w, rw0, h.x, h.l⟩
theorem REL_g0 {x : Nat} (h : REL σ J c n b) (hx : x < 1000) : REL (sI σ 5 7 (nI x)) (sJ J 43 0 (nI x)) c n b := by
  have rz0 : ∀ i x, i < c → x < 12 → rdg (sI σ 5 7 (nI x)) i x = nI (zr (sJ J 43 0 (nI x)) 36 i x) - 2 := by
    intro i x hi hx
    have e : rdg (sI σ 5 7 (nI x)) i x = rdg σ i x := by
      unfold rdg
      try unfold brA
      simp only [sI_2, sA_2]
      try simp (disch := omega) only [if_neg]
    rw [e]
    exact h.rz i x hi hx
  have rw0 : ∀ t x, t < 3 → x < 12 → (sI σ 5 7 (nI x)).2 (64 + t) x = nI (zr (sJ J 43 0 (nI x)) 37 t x) - 2 := by
    intro t x ht hx
    have e : (sI σ 5 7 (nI x)).2 (64 + t) = σ.2 (64 + t) := by
      try unfold brA
      simp only [sI_2, sA_2]
      try simp (disch := omega) only [if_neg]
    rw [e]
    exact h.wr t x ht hx
  exact ⟨INV_night h.I, h.c19, h.nc, h.b64, ⟨x, hx, rfl, rfl⟩, h.g1, h.g3, h.g4, h.g5, h.g6, h.g78, h.g9, h.k, h.q, h.a, h.m, h.y, h.d, h.z0, h.z, rz0, h.w, rw0, h.x, h.l⟩
theorem REL_g9  (h : REL σ J c n b)  : REL (sI σ 0 0 1) (sJ J 43 9 1) c n b := by
  have rz0 : ∀ i x, i < c → x < 12 → rdg (sI σ 0 0 1) i x = nI (zr (sJ J 43 9 1) 36 i x) - 2 := by
    intro i x hi hx
    have e : rdg (sI σ 0 0 1) i x = rdg σ i x := by
      unfold rdg
      try unfold brA
      simp only [sI_2, sA_2]
      try simp (disch := omega) only [if_neg]
    rw [e]
    exact h.rz i x hi hx
  have rw0 : ∀ t x, t < 3 → x < 12 → (sI σ 0 0 1).2 (64 + t) x = nI (zr (sJ J 43 9 1) 37 t x) - 2 := by
    intro t x ht hx
    have e : (sI σ 0 0 1).2 (64 + t) = σ.2 (64 + t) := by
      try unfold brA
      simp only [sI_2, sA_2]
      try simp (disch := omega) only [if_neg]
    rw [e]
    exact h.wr t x ht hx
  exact ⟨INV_isOpen h.I, h.c19, h.nc, h.b64, h.g0, h.g1, h.g3, h.g4, h.g5, h.g6, h.g78, ⟨rfl, Or.inr rfl⟩, h.k, h.q, h.a, h.m, h.y, h.d, h.z0, h.z, rz0, h.w, rw0, h.x, h.l⟩
theorem REL_life {v u1 u2 : Int32} (h : REL σ J c n b) (hv : ∀ r, r < 10 → (bt (u1 &&& (u2 ^^^ -1)) r = true ↔ upd (σ.2 23) p v r = 0)) : REL (sA σ 23 p v) (sJ (sJ J 43 7 u1) 43 8 u2) c n b := by
  have rz0 : ∀ i x, i < c → x < 12 → rdg (sA σ 23 p v) i x = nI (zr (sJ (sJ J 43 7 u1) 43 8 u2) 36 i x) - 2 := by
    intro i x hi hx
    have e : rdg (sA σ 23 p v) i x = rdg σ i x := by
      unfold rdg
      try unfold brA
      simp only [sI_2, sA_2]
      try simp (disch := omega) only [if_neg]
    rw [e]
    exact h.rz i x hi hx
  have rw0 : ∀ t x, t < 3 → x < 12 → (sA σ 23 p v).2 (64 + t) x = nI (zr (sJ (sJ J 43 7 u1) 43 8 u2) 37 t x) - 2 := by
    intro t x ht hx
    have e : (sA σ 23 p v).2 (64 + t) = σ.2 (64 + t) := by
      try unfold brA
      simp only [sI_2, sA_2]
      try simp (disch := omega) only [if_neg]
    rw [e]
    exact h.wr t x ht hx
  exact ⟨INV_P_isNamed h.I, h.c19, h.nc, h.b64, h.g0, h.g1, h.g3, h.g4, h.g5, h.g6, hv, h.g9, h.k, h.q, h.a, h.m, h.y, h.d, h.z0, h.z, rz0, h.w, rw0, h.x, h.l⟩
theorem REL_d33 {v : Int32} (h : REL σ J c n b)  : REL (σ) (sJ J 33 20 v) c n b := by
  have h19 := h.c19
  have hm : ∀ j, j < c → RMp (σ.2 10 j) (σ.2 12 j) (σ.2 14 j) (σ.2 15 j) (σ.2 16 j) (σ.2 17 j) (upd (J 33) 20 v j) := by
    intro j hj
    rw [upd_at, if_neg (by omega)]
    exact h.m j hj
  have rz0 : ∀ i x, i < c → x < 12 → rdg (σ) i x = nI (zr (sJ J 33 20 v) 36 i x) - 2 := by
    intro i x hi hx
    have e : rdg (σ) i x = rdg σ i x := by
      unfold rdg
      try unfold brA
      simp only [sI_2, sA_2]
      try simp (disch := omega) only [if_neg]
    rw [e]
    exact h.rz i x hi hx
  have rw0 : ∀ t x, t < 3 → x < 12 → (σ).2 (64 + t) x = nI (zr (sJ J 33 20 v) 37 t x) - 2 := by
    intro t x ht hx
    have e : (σ).2 (64 + t) = σ.2 (64 + t) := by
      try unfold brA
      simp only [sI_2, sA_2]
      try simp (disch := omega) only [if_neg]
    rw [e]
    exact h.wr t x ht hx
  exact ⟨h.I, h.c19, h.nc, h.b64, h.g0, h.g1, h.g3, h.g4, h.g5, h.g6, h.g78, h.g9, h.k, h.q, h.a, hm, h.y, h.d, h.z0, h.z, rz0, h.w, rw0, h.x, h.l⟩
theorem REL_d41 {v : Int32} (h : REL σ J c n b)  : REL (σ) (sJ J 41 4 v) c n b := by
  have ha : ∀ j, j < 4 → RAp (σ.2 24 j) (σ.2 25 j) (σ.2 26 j) (σ.2 27 j) (upd (J 41) 4 v j) := by
    intro j hj
    rw [upd_at, if_neg (by omega)]
    exact h.a j hj
  have rz0 : ∀ i x, i < c → x < 12 → rdg (σ) i x = nI (zr (sJ J 41 4 v) 36 i x) - 2 := by
    intro i x hi hx
    have e : rdg (σ) i x = rdg σ i x := by
      unfold rdg
      try unfold brA
      simp only [sI_2, sA_2]
      try simp (disch := omega) only [if_neg]
    rw [e]
    exact h.rz i x hi hx
  have rw0 : ∀ t x, t < 3 → x < 12 → (σ).2 (64 + t) x = nI (zr (sJ J 41 4 v) 37 t x) - 2 := by
    intro t x ht hx
    have e : (σ).2 (64 + t) = σ.2 (64 + t) := by
      try unfold brA
      simp only [sI_2, sA_2]
      try simp (disch := omega) only [if_neg]
    rw [e]
    exact h.wr t x ht hx
  exact ⟨h.I, h.c19, h.nc, h.b64, h.g0, h.g1, h.g3, h.g4, h.g5, h.g6, h.g78, h.g9, h.k, h.q, ha, h.m, h.y, h.d, h.z0, h.z, rz0, h.w, rw0, h.x, h.l⟩
theorem REL_d40 {v : Int32} (h : REL σ J c n b)  : REL (σ) (sJ J 40 10 v) c n b := by
  have hq : ∀ j, j < 10 → RQp (σ.2 21 j) (σ.2 22 j) (upd (J 40) 10 v j) := by
    intro j hj
    rw [upd_at, if_neg (by omega)]
    exact h.q j hj
  have rz0 : ∀ i x, i < c → x < 12 → rdg (σ) i x = nI (zr (sJ J 40 10 v) 36 i x) - 2 := by
    intro i x hi hx
    have e : rdg (σ) i x = rdg σ i x := by
      unfold rdg
      try unfold brA
      simp only [sI_2, sA_2]
      try simp (disch := omega) only [if_neg]
    rw [e]
    exact h.rz i x hi hx
  have rw0 : ∀ t x, t < 3 → x < 12 → (σ).2 (64 + t) x = nI (zr (sJ J 40 10 v) 37 t x) - 2 := by
    intro t x ht hx
    have e : (σ).2 (64 + t) = σ.2 (64 + t) := by
      try unfold brA
      simp only [sI_2, sA_2]
      try simp (disch := omega) only [if_neg]
    rw [e]
    exact h.wr t x ht hx
  exact ⟨h.I, h.c19, h.nc, h.b64, h.g0, h.g1, h.g3, h.g4, h.g5, h.g6, h.g78, h.g9, h.k, hq, h.a, h.m, h.y, h.d, h.z0, h.z, rz0, h.w, rw0, h.x, h.l⟩
/-- slips are forgotten: the first i -/
def xzJ (J : Nat → Nat → Int32) (i : Nat) : Nat → Nat → Int32 := upR J 38 (fun j => if j < i then 0 else J 38 j)
theorem xzJ_0 : xzJ J 0 = J := by
  funext r j
  unfold xzJ upR
  by_cases h : r = 38
  · subst h
    rw [if_pos rfl, if_neg (Nat.not_lt_zero j)]
  · rw [if_neg h]
theorem xzJ_s {i : Nat} : sJ (xzJ J i) 38 i 0 = xzJ J (i + 1) := by
  funext r j
  unfold sJ xzJ upR upd
  by_cases h : r = 38
  · subst h
    simp only [if_pos]
    by_cases h2 : j = i
    · subst h2
      rw [if_pos rfl, if_pos (by omega)]
    · rw [if_neg h2]
      by_cases h3 : j < i
      · rw [if_pos h3, if_pos (by omega)]
      · rw [if_neg h3, if_neg (by omega)]
  · simp only [if_neg h]
theorem REL_forget (h : REL σ J c n b) : REL (sFill σ 8 12 (-1)) (xzJ J 12) c n b := by
  have e2 : ∀ q, ¬ q = 8 → (sFill σ 8 12 (-1)).2 q = σ.2 q := fun q hq => if_neg hq
  have eJ : ∀ r, ¬ r = 38 → xzJ J 12 r = J r := fun r hr => if_neg hr
  have hx : ∀ p, p < 12 → RXp ((sFill σ 8 12 (-1)).2 8 p) ((sFill σ 8 12 (-1)).2 9 p) (xzJ J 12 38 p) := by
    intro p hp
    refine Or.inl ⟨?_, ?_⟩
    · show (if p < 12 then (-1 : Int32) else _) = -1
      rw [if_pos hp]
    · show (if p < 12 then (0 : Int32) else _) = 0
      rw [if_pos hp]
  have rz0 : ∀ i x, i < c → x < 12 → rdg (sFill σ 8 12 (-1)) i x = nI (zr (xzJ J 12) 36 i x) - 2 := by
    intro i x hi hx
    unfold rdg
    rw [e2 _ (by omega)]
    exact h.rz i x hi hx
  have rw0 : ∀ t x, t < 3 → x < 12 → (sFill σ 8 12 (-1)).2 (64 + t) x = nI (zr (xzJ J 12) 37 t x) - 2 := by
    intro t x ht hx
    rw [e2 _ (by omega)]
    exact h.wr t x ht hx
  exact ⟨INV_forget h.I, h.c19, h.nc, h.b64, h.g0, h.g1, h.g3, h.g4, h.g5, h.g6, h.g78, h.g9, h.k, h.q, h.a, h.m, h.y, h.d, h.z0, h.z, rz0, h.w, rw0, hx, h.l⟩
/-- a batch begins -/
theorem REL_batch (h : REL σ J c n b) (hn : n + 1 ≤ 20) : REL (sI σ 3 1 (nI (n + 1))) J c (n + 1) b := by
  have hy : ∀ i, i < c → RYp (n + 1) (σ.2 13 i) (σ.2 11 i) (J 34 i) := by
    intro i hi
    obtain ⟨f, d, h1, h2, h3⟩ := h.y i hi
    exact ⟨f, d, h1, by omega, h3⟩
  exact ⟨INV_batch h.I (by omega), h.c19, hn, h.b64, h.g0, h.g1, h.g3, h.g4, h.g5, h.g6, h.g78, h.g9, h.k, h.q, h.a, h.m, hy, h.d, h.z0, h.z, h.rz, h.w, h.wr, h.x, h.l⟩
theorem rowF_at {s : ST} {q x : Nat} {F : Nat → Int32} (hx : x < 12) : (rowF s q F 12).2 q x = F x := by
  unfold rowF upR
  simp only [if_pos]
  rw [if_pos hx]
theorem brA_eq {q : Nat} (X : ST) : brA (sA (sA X 15 a (-1)) 17 a 0) a q = brA X a q := by
  refine Prod.ext rfl ?_
  funext r i
  unfold brA
  simp only [sA_2]
  by_cases h7 : r = 18
  · subst h7
    rfl
  · simp only [if_neg h7]
    by_cases h6 : r = 17
    · subst h6
      simp only [if_pos, upd_at]
      by_cases hi : i = a
      · rw [if_pos hi, if_pos hi]
      · simp only [if_neg hi]
        show upd (X.2 17) a 0 i = X.2 17 i
        rw [upd_at, if_neg hi]
    · simp only [if_neg h6]
      by_cases h5 : r = 15
      · subst h5
        simp only [if_pos, upd_at]
        by_cases hi : i = a
        · rw [if_pos hi, if_pos hi]
        · simp only [if_neg hi]
          show upd (X.2 15) a (-1) i = X.2 15 i
          rw [upd_at, if_neg hi]
      · simp only [if_neg h5]
theorem brF_eq {q : Nat} (X : ST) : brF (sA (sA X 15 a (-1)) 17 a 0) a q = brF X a q := by
  unfold brF
  rw [brA_eq]
  rfl
/-- a sheet more, of the last batch, comes to somebody -/
theorem REL_new {k f : Nat} {F : Nat → Int32} (h : REL σ J c (n + 1) b) (hc : c + 1 ≤ 19) (ht : t < 3) (hk : k < 6) (hf : f < 20) (hm : m < 4) (hp : p < 10) (hF : ∀ j, rdv (F j)) (hFz : ∀ x, x < 12 → F x = nI (zr J 36 c x) - 2) : REL (brF (rowF (sheetF σ (nI t) (nI k) (nI f - 1) (nI m) c) (67 + c) F 12) c p) (adJ J t k f m c n p) (c + 1) (n + 1) b := by
  rw [← brF_eq]
  unfold adJ
  have hb : σ.1 3 1 - 1 = nI n := by rw [h.I.hn, nI_sub1]
  have hI : INV (sA (sA (rowF (sheetF σ (nI t) (nI k) (nI f - 1) (nI m) c) (67 + c) F 12) 15 c (-1)) 17 c 0) (c + 1) (n + 1) b := INV_S_hours (INV_S_holders (INV_row (INV_sheet h.I (by omega) hm) (by omega) hF) (Or.inl rfl))
  have e : ∀ q, q < 64 → (sA (sA (rowF (sheetF σ (nI t) (nI k) (nI f - 1) (nI m) c) (67 + c) F 12) 15 c (-1)) 17 c 0).2 q = (sA (sA (sheetF σ (nI t) (nI k) (nI f - 1) (nI m) c) 15 c (-1)) 17 c 0).2 q := by
    intro q hq
    have e9 : ∀ r, r < 64 → (rowF (sheetF σ (nI t) (nI k) (nI f - 1) (nI m) c) (67 + c) F 12).2 r = (sheetF σ (nI t) (nI k) (nI f - 1) (nI m) c).2 r := fun r hr => rowF_2 (by omega)
    simp only [sA_2]
    rw [e9 _ (by decide), e9 _ (by decide), e9 q hq]
  have eL : Ln (sA (sA (rowF (sheetF σ (nI t) (nI k) (nI f - 1) (nI m) c) (67 + c) F 12) 15 c (-1)) 17 c 0) = Ln σ := id rfl
  have hR : REL (sA (sA (rowF (sheetF σ (nI t) (nI k) (nI f - 1) (nI m) c) (67 + c) F 12) 15 c (-1)) 17 c 0) (adA J t k f m c n) (c + 1) (n + 1) b := by
    have f1 : (sA (sA (sheetF σ (nI t) (nI k) (nI f - 1) (nI m) c) 15 c (-1)) 17 c 0).2 11 = upd (σ.2 11) c (nI n) := by
      show upd (σ.2 11) c (σ.1 3 1 - 1) = _
      rw [hb]
    refine ⟨hI, by omega, h.nc, h.b64, h.g0, rfl, h.g3, h.g4, h.g5, h.g6, ?_, h.g9, ?_, ?_, ?_, ?_, ?_, ?_, ?_, h.z, ?_, h.w, ?_, ?_, ?_⟩
    · rw [e _ (by decide)]; exact h.g78
    · rw [e _ (by decide)]; exact h.k
    · rw [e _ (by decide), e _ (by decide)]; exact h.q
    · rw [e _ (by decide), e _ (by decide), e _ (by decide), e _ (by decide)]; exact h.a
    · intro i hi
      rw [e _ (by decide), e _ (by decide), e _ (by decide), e _ (by decide), e _ (by decide), e _ (by decide)]
      show RMp (upd (σ.2 10) c (nI t) i) (upd (σ.2 12) c (nI k) i) (upd (σ.2 14) c (nI m) i) (upd (σ.2 15) c (-1) i) (σ.2 16 i) (upd (σ.2 17) c 0 i) (upd (J 33) c (nI (t + 4 * k + 32 * m)) i)
      simp only [upd_at]
      by_cases y : i = c
      · simp only [if_pos y]
        refine ⟨t, k, m, 0, 0, 0, ⟨ht, hk, hm, by omega, by omega, by omega, by omega⟩, rfl, rfl, rfl, by decide, ?_, rfl, congrArg nI (by omega)⟩
        rw [y]
        exact h.z0 c (Nat.le_refl _) (by omega)
      · simp only [if_neg y]
        exact h.m i (by omega)
    · intro i hi
      rw [e _ (by decide), e _ (by decide), f1]
      show RYp (n + 1) (upd (σ.2 13) c (nI f - 1) i) (upd (σ.2 11) c (nI n) i) (upd (J 34) c (nI (f + 32 * n)) i)
      simp only [upd_at]
      by_cases y : i = c
      · simp only [if_pos y]
        exact ⟨f, n, hf, by omega, rfl, rfl, rfl⟩
      · simp only [if_neg y]
        exact h.y i (by omega)
    · rw [e _ (by decide)]; exact h.d
    · intro i h1 h2
      rw [e _ (by decide)]
      exact h.z0 i (by omega) h2
    · intro i x hi hx
      have er : rdg (sA (sA (rowF (sheetF σ (nI t) (nI k) (nI f - 1) (nI m) c) (67 + c) F 12) 15 c (-1)) 17 c 0) i x = if i = c then F x else rdg σ i x := by
        unfold rdg
        rw [sA_2, if_neg (by omega), sA_2, if_neg (by omega)]
        by_cases y : i = c
        · subst y
          rw [if_pos rfl]
          exact rowF_at hx
        · rw [if_neg y, rowF_2 (by omega)]
          unfold sheetF
          simp only [sI_2, sA_2]
          rw [if_neg (by omega), if_neg (by omega), if_neg (by omega), if_neg (by omega), if_neg (by omega)]
      rw [er]
      by_cases y : i = c
      · rw [if_pos y, y]
        exact hFz x hx
      · rw [if_neg y]
        exact h.rz i x (by omega) hx
    · intro t2 x ht2 hx
      have er : (sA (sA (rowF (sheetF σ (nI t) (nI k) (nI f - 1) (nI m) c) (67 + c) F 12) 15 c (-1)) 17 c 0).2 (64 + t2) = σ.2 (64 + t2) := by
        rw [sA_2, if_neg (by omega), sA_2, if_neg (by omega), rowF_2 (by omega)]
        unfold sheetF
        simp only [sI_2, sA_2]
        rw [if_neg (by omega), if_neg (by omega), if_neg (by omega), if_neg (by omega), if_neg (by omega)]
      rw [er]
      exact h.wr t2 x ht2 hx
    · rw [e _ (by decide), e _ (by decide)]; exact h.x
    · rw [eL, e _ (by decide), e _ (by decide), e _ (by decide), e _ (by decide)]; exact h.l
  refine REL_br hR (by omega) hp ?_
  rw [e _ (by decide)]
  exact h.z0 c (Nat.le_refl _) (by omega)
end RU
