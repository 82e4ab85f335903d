/-! A write's steps, side by side: moving on, moving off, inserting; any step. -/
section XRM
variable {n w : Nat} {σ τ : xf_T}
theorem xr_at56 {k : Int32} (hk : k = 5 ∨ k = 6) (ha : xr_at n w σ τ k) : (∃ i, i < n ∧ σ.2 11 i = 0) ∧ ∃ (m : Nat) (pt : Nat → Nat), m < 4 ∧ σ.1 18 = nI m ∧ τ.1 12 = nI m ∧ (∀ j, j ≤ m + 1 → σ.2 14 j = nI (pt j) ∧ τ.2 9 j = nI (pt j) ∧ pt j < 8 * w) ∧ (∀ j, j ≤ m → ¬ σ.2 5 (pt j) = -1) ∧ ∀ i j, i < j → j ≤ m + 1 → pt i ≠ pt j := by
  have d5 : ∀ c : Int32, c = 5 ∨ c = 6 → ¬ c = 0 ∧ ¬ c = 1 ∧ ¬ c = 2 ∧ ¬ c = 3 ∧ ¬ c = 4 ∧ ¬ c = 7 := by
    intro c hc
    rcases hc with rfl | rfl <;> decide
  obtain ⟨a0, a1, a2, a3, a4, a7⟩ := d5 k hk
  rcases ha with k | ⟨k, -⟩ | ⟨k, -⟩ | ⟨k, -⟩ | ⟨-, g⟩ | ⟨k, -⟩
  · exact absurd k a0
  · rcases k with k | k
    · exact absurd k a1
    · exact absurd k a2
  · exact absurd k a3
  · exact absurd k a4
  · exact g
  · exact absurd k a7
theorem xr_mvOn (h : xr_R n w σ τ) (h9 : σ.1 9 = 0) (h16 : σ.1 16 = 5) : xr_R n w (xs_mvOn σ) (xm_move τ) := by
  obtain ⟨hc, hwr, hr⟩ := h
  obtain ⟨e3, hk, ha⟩ := hwr.1 h9
  have hb := hc.b31
  rw [h16] at ha e3
  obtain ⟨hfree, m, pt, m1, m2, m3, m4, m5, m6⟩ := xr_at56 (Or.inl rfl) ha
  obtain ⟨a1, a2, a3⟩ := m4 m (by omega)
  obtain ⟨b1, b2, b3⟩ := m4 (m + 1) (by omega)
  have hoc := m5 m (by omega)
  obtain ⟨i, i1, i2, i3⟩ : ∃ i, i < n ∧ σ.2 5 (pt m) = nI i ∧ σ.2 11 i = 1 := (hc.2.2.2.2.2.1 _ a3).resolve_left hoc
  have emi : xs_mi σ = nI i := by unfold xs_mi; rw [m2, nI_clamp (by omega), a1, nI_clamp (by omega)]; exact i2
  have emj : xm_mi τ = nI i := by unfold xm_mi; rw [m3, nI_clamp (by omega), a2, nI_clamp (by omega), (hc.pl0 a3).1]; exact i2
  have ekey : τ.2 3 i = σ.2 6 i := (hc.ar 6 3 (by decide) i1).symm
  have core := (hc.grow (σ.2 6 i) 1).place (s := pt (m + 1)) (v := nI i) (v' := nI i + 1) (Or.inr ⟨i, i1, rfl, i3⟩) rfl
  unfold xs_mvOn xm_move xm_mv0
  rw [if_pos (show τ.1 3 = 6 by rw [e3]; decide), emi, emj, m2, m3, nI_1, nI_clamp (by omega), nI_clamp (by omega), b1, b2, nI_clamp (by omega), ekey]
  refine xr_goto core (hr.cg (xr_kc.A (xr_kc.grow xr_kc.rf _ _)) (xr_km.A (xr_km.grow xr_km.rf _ _) (by omega))) h9 hk (by decide) (Or.inr (Or.inr (Or.inr (Or.inr (Or.inl ⟨Or.inr rfl, hfree, m, pt, m1, m2, m3, m4, fun j hj => ?_, m6⟩)))))
  show ¬ upd (σ.2 5) (pt (m + 1)) (nI i) (pt j) = -1
  rw [pk_un (m6 j (m + 1) (by omega) (by omega))]
  exact m5 j hj
theorem xm_A_swap (τ : xf_T) (z s : Nat) (v x y : Int32) (h : x = y) : xf_A (xf_A τ 8 z x) 1 s v = xf_A (xf_A τ 1 s v) 8 z y := by
  subst h
  refine xs_ext (fun j => rfl) (fun j i => ?_)
  by_cases h1 : j = 1
  · subst h1
    rw [xs_A2, if_pos rfl, xs_A2, if_neg (by decide), xs_A2, if_neg (by decide), xs_A2, if_pos rfl]
  · by_cases h8 : j = 8
    · subst h8
      rw [xs_A2, if_neg (by decide), xs_A2, if_pos rfl, xs_A2, if_pos rfl, xs_A2, if_neg (by decide)]
    · rw [xs_A2, if_neg h1, xs_A2, if_neg h8, xs_A2, if_neg h8, xs_A2, if_neg h1]
theorem xm_grow_place (τ : xf_T) (k d : Int32) (s : Nat) (v : Int32) : xf_A (xm_grow τ k d) 1 s v = xm_grow (xf_A τ 1 s v) k d := by
  unfold xm_grow
  exact xm_A_swap _ _ _ _ _ _ (by rw [xs_A2, if_neg (by decide)])
theorem xr_mvOff (h : xr_R n w σ τ) (h9 : σ.1 9 = 0) (h16 : σ.1 16 = 6) : xr_R n w (xs_mvOff σ) (xm_move τ) := by
  obtain ⟨hc, hwr, hr⟩ := h
  obtain ⟨e3, hk, ha⟩ := hwr.1 h9
  have hb := hc.b31
  rw [h16] at ha e3
  obtain ⟨hfree, m, pt, m1, m2, m3, m4, m5, m6⟩ := xr_at56 (Or.inr rfl) ha
  obtain ⟨a1, a2, a3⟩ := m4 m (by omega)
  have hoc := m5 m (by omega)
  obtain ⟨i, i1, i2, i3⟩ : ∃ i, i < n ∧ σ.2 5 (pt m) = nI i ∧ σ.2 11 i = 1 := (hc.2.2.2.2.2.1 _ a3).resolve_left hoc
  have emi : xs_mi σ = nI i := by unfold xs_mi; rw [m2, nI_clamp (by omega), a1, nI_clamp (by omega)]; exact i2
  have emj : xm_mi τ = nI i := by unfold xm_mi; rw [m3, nI_clamp (by omega), a2, nI_clamp (by omega), (hc.pl0 a3).1]; exact i2
  have ekey : τ.2 3 i = σ.2 6 i := (hc.ar 6 3 (by decide) i1).symm
  have em : σ.1 1 + 1 = τ.1 14 + 1 := by rw [hc.sc 1 14 (by decide)]
  have core := (((hc.place (s := pt m) (v := -1) (v' := 0) (Or.inl rfl) (by decide)).grow (σ.2 6 i) 1).bI (k := 1) (k' := 14) em (by decide)).oI (k := 18) (v := nI m - 1) (by decide) |>.oJ (k := 12) (v := nI m - 1) (by decide)
  have hrr := hr.cg (σ' := xf_I (xf_I (xs_grow (xf_A σ 5 (pt m) (-1)) (σ.2 6 i) 1) 1 (σ.1 1 + 1)) 18 (nI m - 1)) (τ' := xf_I (xf_I (xm_grow (xf_A τ 1 (pt m) 0) (σ.2 6 i) 1) 14 (τ.1 14 + 1)) 12 (nI m - 1)) (xr_kc.I (xr_kc.I (xr_kc.grow (xr_kc.A xr_kc.rf) _ _) (by omega)) (by omega)) (xr_km.grow (xr_km.A xr_km.rf (by omega)) _ _)
  have hpl : ∀ j, j < m → ¬ upd (σ.2 5) (pt m) (-1) (pt j) = -1 := by
    intro j hj
    rw [pk_un (m6 j m hj (by omega))]
    exact m5 j (by omega)
  unfold xs_mvOff xs_mv1 xm_move xm_mv0
  rw [if_neg (show ¬ τ.1 3 = 6 by rw [e3]; decide), emi, emj, m2, m3, nI_clamp (by omega), nI_clamp (by omega), a1, a2, nI_clamp (by omega), ekey, xm_grow_place]
  unfold xs_chM
  show xr_R n w (xf_I (xf_I (xf_I (xs_grow (xf_A σ 5 (pt m) (-1)) (σ.2 6 i) 1) 1 (σ.1 1 + 1)) 18 (σ.1 18 - 1)) 16 (if σ.1 18 - 1 < 0 then 7 else 5)) _
  rw [m2]
  cases m with
  | zero =>
    rw [if_pos (by decide), if_pos (by decide)]
    exact xr_goto core hrr h9 hk (by decide) (Or.inr (Or.inr (Or.inr (Or.inr (Or.inr ⟨rfl, hfree, pt 0, (m4 0 (by omega)).2.2, (m4 0 (by omega)).1, (m4 0 (by omega)).2.1⟩)))))
  | succ m =>
    rw [if_neg (by rw [nI_pred]; exact nI_pos (by omega)), if_neg (by rw [nI_pred]; exact nI_pos (by omega))]
    exact xr_goto core hrr h9 hk (by decide) (Or.inr (Or.inr (Or.inr (Or.inr (Or.inl ⟨Or.inl rfl, hfree, m, pt, by omega, nI_pred m, nI_pred m, fun j hj => m4 j (by omega), fun j hj => hpl j (by omega), fun a b hab hb2 => m6 a b hab (by omega)⟩)))))
theorem xr_insK (h : xr_R n w σ τ) (h9 : σ.1 9 = 0) (h16 : σ.1 16 = 7) : xr_R n w (xs_insK n σ) (xm_enter τ) := by
  obtain ⟨hc, hwr, hr⟩ := h
  obtain ⟨e3, hk, ha⟩ := hwr.1 h9
  have hb := hc.b31
  rw [h16] at ha
  obtain ⟨hfree, s, s1, s2, s3⟩ : (∃ i, i < n ∧ σ.2 11 i = 0) ∧ ∃ s, s < 8 * w ∧ σ.2 14 0 = nI s ∧ τ.2 9 0 = nI s := by
    rcases ha with k | ⟨k, -⟩ | ⟨k, -⟩ | ⟨k, -⟩ | ⟨k, -⟩ | ⟨-, g⟩
    · exact absurd k (by decide)
    · rcases k with k | k <;> exact absurd k (by decide)
    · exact absurd k (by decide)
    · exact absurd k (by decide)
    · rcases k with k | k <;> exact absurd k (by decide)
    · exact g
  obtain ⟨l1, l2, l3⟩ := hc.low hfree
  unfold xs_insK xm_enter xs_ins xs_ins1 xm_en1
  rw [l3, s2, s3, nI_clamp (by omega)]
  generalize xs_low (σ.2 11) (n - 1) 0 = i at l1 l2 ⊢
  have c1 := ((hc.use l1 l2).bA (j := 6) (j' := 3) (i := i) (hc.sc 12 6 (by decide)) (by decide)).bA (j := 7) (j' := 4) (i := i) (hc.sc 13 7 (by decide)) (by decide)
  have c2 := c1.renew l1
  have c3 := c2.bit (i := i) (v := 0) (Or.inl rfl)
  have c4 := c3.place (s := s) (v := nI i) (v' := nI i + 1) (Or.inr ⟨i, l1, rfl, by show upd (σ.2 11) i 1 i = 1; rw [pk_us]⟩) rfl
  exact xr_fin c4 (hr.cg (xr_kc.renew (σ' := xf_A (xf_A (xf_I (xf_A σ 11 i 1) 6 (σ.1 6 + 1)) 6 i (σ.1 12)) 7 i (σ.1 13)) (xr_kc.I (xr_kc.A xr_kc.rf) (by omega)) (nI i) (σ.1 14)) (xr_km.A (xr_km.A (xr_km.stamp (xr_km.A (xr_km.A (xr_km.A xr_km.rf (by omega)) (by omega)) (by omega)) _) (by omega)) (by omega))) (by decide)
/-- a step of the writer: the reference's step goes with it -/
theorem xr_goOn (h : xr_R n w σ τ) (h9 : σ.1 9 = 0) : xr_R n w (xs_goOn n w σ) (xm_one n w τ) := by
  obtain ⟨e3, hk, ha⟩ := h.2.1.1 h9
  unfold xs_goOn xm_one
  rcases ha with k0 | ⟨k1 | k2, -⟩ | ⟨k3, -⟩ | ⟨k4, -⟩ | ⟨k5 | k6, -⟩ | ⟨k7, -⟩
  · have e : τ.1 3 = 1 := by rw [e3, k0]; decide
    rw [if_pos k0, if_pos e]
    exact xr_luk h h9
  · have e : τ.1 3 = 2 := by rw [e3, k1]; decide
    rw [k1, e]
    simp only [show ((1 : Int32) = 0) = False from eq_false (by decide), show ((2 : Int32) = 1) = False from eq_false (by decide), if_true, if_false]
    exact xr_chV h h9 k1
  · have e : τ.1 3 = 3 := by rw [e3, k2]; decide
    rw [k2, e]
    simp only [show ((2 : Int32) = 0) = False from eq_false (by decide), show ((2 : Int32) = 1) = False from eq_false (by decide), show ((3 : Int32) = 1) = False from eq_false (by decide), show ((3 : Int32) = 2) = False from eq_false (by decide), if_true, if_false]
    exact xr_chT h h9 k2
  · have e : τ.1 3 = 4 := by rw [e3, k3]; decide
    rw [k3, e]
    simp only [show ((3 : Int32) = 0) = False from eq_false (by decide), show ((3 : Int32) = 1) = False from eq_false (by decide), show ((3 : Int32) = 2) = False from eq_false (by decide), show ((4 : Int32) = 1) = False from eq_false (by decide), show ((4 : Int32) = 2) = False from eq_false (by decide), show ((4 : Int32) = 3) = False from eq_false (by decide), if_true, if_false]
    exact xr_evict h h9 k3
  · have e : τ.1 3 = 5 := by rw [e3, k4]; decide
    rw [k4, e]
    simp only [show ((4 : Int32) = 0) = False from eq_false (by decide), show ((4 : Int32) = 1) = False from eq_false (by decide), show ((4 : Int32) = 2) = False from eq_false (by decide), show ((4 : Int32) = 3) = False from eq_false (by decide), show ((5 : Int32) = 1) = False from eq_false (by decide), show ((5 : Int32) = 2) = False from eq_false (by decide), show ((5 : Int32) = 3) = False from eq_false (by decide), show ((5 : Int32) = 4) = False from eq_false (by decide), if_true, if_false]
    exact xr_seek h h9 k4
  · have e : τ.1 3 = 6 := by rw [e3, k5]; decide
    rw [k5, e]
    simp only [show ((5 : Int32) = 0) = False from eq_false (by decide), show ((5 : Int32) = 1) = False from eq_false (by decide), show ((5 : Int32) = 2) = False from eq_false (by decide), show ((5 : Int32) = 3) = False from eq_false (by decide), show ((5 : Int32) = 4) = False from eq_false (by decide), show ((6 : Int32) = 1) = False from eq_false (by decide), show ((6 : Int32) = 2) = False from eq_false (by decide), show ((6 : Int32) = 3) = False from eq_false (by decide), show ((6 : Int32) = 4) = False from eq_false (by decide), show ((6 : Int32) = 5) = False from eq_false (by decide), if_true, if_false]
    exact xr_mvOn h h9 k5
  · have e : τ.1 3 = 7 := by rw [e3, k6]; decide
    rw [k6, e]
    simp only [show ((6 : Int32) = 0) = False from eq_false (by decide), show ((6 : Int32) = 1) = False from eq_false (by decide), show ((6 : Int32) = 2) = False from eq_false (by decide), show ((6 : Int32) = 3) = False from eq_false (by decide), show ((6 : Int32) = 4) = False from eq_false (by decide), show ((6 : Int32) = 5) = False from eq_false (by decide), show ((7 : Int32) = 1) = False from eq_false (by decide), show ((7 : Int32) = 2) = False from eq_false (by decide), show ((7 : Int32) = 3) = False from eq_false (by decide), show ((7 : Int32) = 4) = False from eq_false (by decide), show ((7 : Int32) = 5) = False from eq_false (by decide), show ((7 : Int32) = 6) = False from eq_false (by decide), if_true, if_false]
    exact xr_mvOff h h9 k6
  · have e : τ.1 3 = 8 := by rw [e3, k7]; decide
    rw [k7, e]
    simp only [show ((7 : Int32) = 0) = False from eq_false (by decide), show ((7 : Int32) = 1) = False from eq_false (by decide), show ((7 : Int32) = 2) = False from eq_false (by decide), show ((7 : Int32) = 3) = False from eq_false (by decide), show ((7 : Int32) = 4) = False from eq_false (by decide), show ((7 : Int32) = 5) = False from eq_false (by decide), show ((7 : Int32) = 6) = False from eq_false (by decide), show ((8 : Int32) = 1) = False from eq_false (by decide), show ((8 : Int32) = 2) = False from eq_false (by decide), show ((8 : Int32) = 3) = False from eq_false (by decide), show ((8 : Int32) = 4) = False from eq_false (by decide), show ((8 : Int32) = 5) = False from eq_false (by decide), show ((8 : Int32) = 6) = False from eq_false (by decide), show ((8 : Int32) = 7) = False from eq_false (by decide), if_false]
    exact xr_insK h h9 k7
end XRM
