/-! The face, side by side: the same answers, and the relation goes on. -/
section XRV
variable {n w q : Nat} {σ σ' τ τ' : xf_T}
theorem xr_R.under (h : xr_R n w σ τ) : (σ.1 9 = 0 → ¬ τ.1 3 ≤ 0) ∧ (¬ σ.1 9 = 0 → τ.1 3 ≤ 0) := by
  refine ⟨fun h9 => ?_, fun h9 => ?_⟩
  · obtain ⟨e3, -, ha⟩ := h.2.1.1 h9
    rcases ha with k | ⟨k | k, -⟩ | ⟨k, -⟩ | ⟨k, -⟩ | ⟨k | k, -⟩ | ⟨k, -⟩ <;> rw [e3, k] <;> decide
  · rw [(h.2.1.2 h9).1]; decide
theorem xr_lck (h : xr_R n w σ τ) (hq : q < 3) (h1 : σ.1 (24 + 8 * q) = 6) : xr_R n w (xs_lck w (24 + 8 * q) σ) (xm_lck w τ q) := by
  obtain ⟨r1, r2, r3, -⟩ := h.2.2 q hq
  have hbb := h.1.b31
  unfold xs_lck xm_lck
  by_cases h9 : σ.1 9 = 0
  · rw [if_pos h9, if_neg (h.under.1 h9)]
    have c := h.1.bI (k := 3) (k' := 16) (v := σ.1 3 + 1) (v' := τ.1 16 + 1) (by rw [h.1.sc 3 16 (by decide)]) (by decide)
    refine xr_rst h hq (xr_sR.rf.I (by omega)) (xr_tR.rf.I (by omega)) c ?_
    refine xr_rd_in 6 (by omega) ?_ ?_ ?_ ?_ (fun h => absurd h (by omega)) (fun h => absurd h (by omega)) (fun h => absurd h (by omega)) (fun h => absurd h (by omega))
    · rw [xs_In (by omega)]; exact h1
    · rw [xs_I2, ← r1]; exact h1
    · rw [xs_In (by omega)]; exact r2
    · rw [xs_In (by omega)]; exact r3
  · rw [if_neg h9, if_pos (h.under.2 h9)]
    obtain ⟨f1, f2, f3⟩ := h.1.fnd (σ.1 (24 + 8 * q + 3))
    have c0 := h.1.lk (σ.1 (24 + 8 * q + 3))
    unfold xm_lhit xm_lck1
    rw [← r2, f1]
    rcases f3 with g | ⟨i, i1, i2, -⟩
    · rw [if_pos g, if_pos (f2.mpr g), if_pos rfl]
      have e6 : (xs_lck1 w (24 + 8 * q) σ).1 (24 + 8 * q + 6) = -1 := by unfold xs_lck1; rw [xs_Ie]; exact g
      unfold xs_endR xs_hit
      rw [e6, if_pos rfl, if_pos rfl]
      unfold xs_lck1
      refine xr_rst h hq ((xr_sR.rf.lk.I (by omega)).I (by omega)) (xr_tR.rf.lb.A (by omega)) (((c0.oZ (by omega)).oZ (by omega)).oQ (by omega)) ?_
      refine xr_rd_in 8 (by omega) xs_Ie xs_Ae ?_ ?_ (fun h => absurd h (by omega)) (fun h => absurd h (by omega)) (fun h => absurd h (by omega)) (fun h => absurd h (by omega))
      · rw [xs_In (by omega), xs_In (by omega), xs_lk_1 _ _ _ (by omega), xs_An (by omega), xm_lb_2]; exact r2
      · rw [xs_In (by omega), xs_In (by omega), xs_lk_1 _ _ _ (by omega), xs_An (by omega), xm_lb_2]; exact r3
    · have hne : ¬ xs_fnd w σ (σ.1 (24 + 8 * q + 3)) = -1 := by rw [i2]; exact xb_nIm1 (by omega)
      have hC : xs_copy (24 + 8 * q) (xs_lck1 w (24 + 8 * q) σ) = xf_I (xf_I (xf_I (xf_I (xs_lk w σ (σ.1 (24 + 8 * q + 3))) (24 + 8 * q + 6) (nI i)) (24 + 8 * q + 1) (σ.2 7 i)) (24 + 8 * q + 2) (σ.2 8 i)) (24 + 8 * q + 7) (σ.2 9 i) := by
        unfold xs_copy xs_lck1
        rw [xs_Ie, i2, nI_clamp (by omega), xs_I2, xs_lk_2]
      rw [if_neg hne, if_neg (fun e => hne (f2.mp e)), hC, i2, nI_clamp (by omega), ← h.1.ar 9 6 (by decide) i1, ← h.1.ar 7 4 (by decide) i1, ← h.1.ar 8 5 (by decide) i1, xr_over h.1]
      have cc := (((c0.oZ (k := 24 + 8 * q + 6) (v := nI i) (by omega)).oZ (k := 24 + 8 * q + 1) (v := σ.2 7 i) (by omega)).oZ (k := 24 + 8 * q + 2) (v := σ.2 8 i) (by omega)).oZ (k := 24 + 8 * q + 7) (v := σ.2 9 i) (by omega)
      have sc : xr_sR q σ (xf_I (xf_I (xf_I (xf_I (xs_lk w σ (σ.1 (24 + 8 * q + 3))) (24 + 8 * q + 6) (nI i)) (24 + 8 * q + 1) (σ.2 7 i)) (24 + 8 * q + 2) (σ.2 8 i)) (24 + 8 * q + 7) (σ.2 9 i)) := (((xr_sR.rf.lk.I (by omega)).I (by omega)).I (by omega)).I (by omega)
      have e1 : (xf_I (xf_I (xf_I (xf_I (xs_lk w σ (σ.1 (24 + 8 * q + 3))) (24 + 8 * q + 6) (nI i)) (24 + 8 * q + 1) (σ.2 7 i)) (24 + 8 * q + 2) (σ.2 8 i)) (24 + 8 * q + 7) (σ.2 9 i)).1 (24 + 8 * q + 1) = σ.2 7 i := by rw [xs_In (by omega), xs_In (by omega), xs_Ie]
      have e2 : (xf_I (xf_I (xf_I (xf_I (xs_lk w σ (σ.1 (24 + 8 * q + 3))) (24 + 8 * q + 6) (nI i)) (24 + 8 * q + 1) (σ.2 7 i)) (24 + 8 * q + 2) (σ.2 8 i)) (24 + 8 * q + 7) (σ.2 9 i)).1 (24 + 8 * q + 2) = σ.2 8 i := by rw [xs_In (by omega), xs_Ie]
      have e7 : (xf_I (xf_I (xf_I (xf_I (xs_lk w σ (σ.1 (24 + 8 * q + 3))) (24 + 8 * q + 6) (nI i)) (24 + 8 * q + 1) (σ.2 7 i)) (24 + 8 * q + 2) (σ.2 8 i)) (24 + 8 * q + 7) (σ.2 9 i)).1 (24 + 8 * q + 7) = σ.2 9 i := xs_Ie
      have e6 : (xf_I (xf_I (xf_I (xf_I (xs_lk w σ (σ.1 (24 + 8 * q + 3))) (24 + 8 * q + 6) (nI i)) (24 + 8 * q + 1) (σ.2 7 i)) (24 + 8 * q + 2) (σ.2 8 i)) (24 + 8 * q + 7) (σ.2 9 i)).1 (24 + 8 * q + 6) = nI i := by rw [xs_In (by omega), xs_In (by omega), xs_In (by omega), xs_Ie]
      have e3 : (xf_I (xf_I (xf_I (xf_I (xs_lk w σ (σ.1 (24 + 8 * q + 3))) (24 + 8 * q + 6) (nI i)) (24 + 8 * q + 1) (σ.2 7 i)) (24 + 8 * q + 2) (σ.2 8 i)) (24 + 8 * q + 7) (σ.2 9 i)).1 (24 + 8 * q + 3) = σ.1 (24 + 8 * q + 3) := by rw [xs_In (by omega), xs_In (by omega), xs_In (by omega), xs_In (by omega), xs_lk_1 _ _ _ (by omega)]
      have e4 : (xf_I (xf_I (xf_I (xf_I (xs_lk w σ (σ.1 (24 + 8 * q + 3))) (24 + 8 * q + 6) (nI i)) (24 + 8 * q + 1) (σ.2 7 i)) (24 + 8 * q + 2) (σ.2 8 i)) (24 + 8 * q + 7) (σ.2 9 i)).1 (24 + 8 * q + 4) = σ.1 (24 + 8 * q + 4) := by rw [xs_In (by omega), xs_In (by omega), xs_In (by omega), xs_In (by omega), xs_lk_1 _ _ _ (by omega)]
      have et := sc.1 7 (by omega) (by omega) (by omega) (by omega)
      generalize xf_I (xf_I (xf_I (xf_I (xs_lk w σ (σ.1 (24 + 8 * q + 3))) (24 + 8 * q + 6) (nI i)) (24 + 8 * q + 1) (σ.2 7 i)) (24 + 8 * q + 2) (σ.2 8 i)) (24 + 8 * q + 7) (σ.2 9 i) = C at cc sc e1 e2 e3 e4 e6 e7 et ⊢
      have eo : xs_over C (σ.2 9 i) = xs_over σ (σ.2 9 i) := by unfold xs_over; rw [et]
      unfold xs_endR xs_hit
      rw [e6, if_neg (xb_nIm1 (by omega)), e7, eo, nI_clamp (by omega)]
      by_cases ho : xs_over σ (σ.2 9 i) = 0
      · rw [if_pos ho, if_neg (by decide), if_neg (by decide)]
        refine xr_rst h hq (sc.B.I (by omega)) ((((xr_tR.rf.lb.A (by omega)).A (by omega)).B).A (by omega)) (((((cc.oQ (j := 15) (by omega)).oQ (j := 16) (by omega)).bit (i := i) (v := 1) (Or.inr rfl)).oZ (by omega)).oQ (by omega)) ?_
        refine xr_rd_in 7 (by omega) xs_Ie xs_Ae ?_ ?_ (fun h => absurd h (by omega)) (fun h => absurd h (by omega)) (fun h => absurd h (by omega)) (fun _ => ⟨?_, ?_⟩)
        · rw [xs_In (by omega), xs_A1, e3, xs_An (by omega), xs_An (by omega), xs_An (by omega), xs_An (by omega), xm_lb_2]; exact r2
        · rw [xs_In (by omega), xs_A1, e4, xs_An (by omega), xs_An (by omega), xs_An (by omega), xs_An (by omega), xm_lb_2]; exact r3
        · rw [xs_In (by omega), xs_A1, e1, xs_An (by omega), xs_An (by omega), xs_An (by omega), xs_Ae]
        · rw [xs_In (by omega), xs_A1, e2, xs_An (by omega), xs_An (by omega), xs_Ae]
      · rw [if_neg ho, if_pos rfl, if_pos rfl]
        refine xr_rst h hq (sc.I (by omega)) (xr_tR.rf.lb.A (by omega)) ((cc.oZ (by omega)).oQ (by omega)) ?_
        refine xr_rd_in 8 (by omega) xs_Ie xs_Ae ?_ ?_ (fun h => absurd h (by omega)) (fun h => absurd h (by omega)) (fun h => absurd h (by omega)) (fun h => absurd h (by omega))
        · rw [xs_In (by omega), e3, xs_An (by omega), xm_lb_2]; exact r2
        · rw [xs_In (by omega), e4, xs_An (by omega), xm_lb_2]; exact r3
/-- a step of a reader that is under way -/
theorem xr_goR (h : xr_R n w σ τ) (hq : q < 3) (hu : ¬ xs_isW (σ.1 (24 + 8 * q)) 1 6 = 0) : xr_R n w (xs_goR w (24 + 8 * q) σ) (xm_step w τ q) := by
  obtain ⟨r1, r2, -, ⟨s, s8, es⟩, -⟩ := h.2.2 q hq
  have e20 : (2 : Int32) - 2 = 0 := by decide
  have e31 : (3 : Int32) - 2 = 1 := by decide
  unfold xs_goR xm_step
  rw [← r1]
  rcases (show s = 0 ∨ s = 1 ∨ s = 2 ∨ s = 3 ∨ s = 4 ∨ s = 5 ∨ s = 6 ∨ s = 7 ∨ s = 8 by omega) with rfl | rfl | rfl | rfl | rfl | rfl | rfl | rfl | rfl
  · rw [es] at hu; exact absurd (by decide) hu
  · have e : σ.1 (24 + 8 * q) = 1 := es
    rw [if_pos e, if_pos e]
    exact xr_keep h hq e
  · have e : σ.1 (24 + 8 * q) = 2 := es
    have n1 : ¬ σ.1 (24 + 8 * q) = 1 := by rw [e]; decide
    rw [if_neg n1, if_neg n1, if_pos e, if_pos e]
    obtain ⟨j, hj, ej⟩ := xs_b1_is (σ.1 (24 + 8 * q + 3))
    exact xr_find (s := 3) h hq hj ej (by rw [e20]; unfold xm_bk; rw [if_pos rfl]) (by rw [e20]; exact h.1.sea0 _) (Or.inl e) (Or.inl rfl) (by decide)
  · have e : σ.1 (24 + 8 * q) = 3 := es
    have n1 : ¬ σ.1 (24 + 8 * q) = 1 := by rw [e]; decide
    have n2 : ¬ σ.1 (24 + 8 * q) = 2 := by rw [e]; decide
    rw [if_neg n1, if_neg n1, if_neg n2, if_neg n2, if_pos e, if_pos e]
    obtain ⟨j, hj, ej⟩ := xs_b2_is (σ.1 (24 + 8 * q + 3))
    exact xr_find (s := 5) h hq hj ej (by rw [e31]; unfold xm_bk; rw [if_neg (by decide)]) (by rw [e31]; exact h.1.sea1 _) (Or.inr e) (Or.inr rfl) (by decide)
  · have e : σ.1 (24 + 8 * q) = 4 := es
    have n1 : ¬ σ.1 (24 + 8 * q) = 1 := by rw [e]; decide
    have n2 : ¬ σ.1 (24 + 8 * q) = 2 := by rw [e]; decide
    have n3 : ¬ σ.1 (24 + 8 * q) = 3 := by rw [e]; decide
    rw [if_neg n1, if_neg n1, if_neg n2, if_neg n2, if_neg n3, if_neg n3, if_pos e, if_pos e]
    exact xr_copy h hq e
  · have e : σ.1 (24 + 8 * q) = 5 := es
    have n1 : ¬ σ.1 (24 + 8 * q) = 1 := by rw [e]; decide
    have n2 : ¬ σ.1 (24 + 8 * q) = 2 := by rw [e]; decide
    have n3 : ¬ σ.1 (24 + 8 * q) = 3 := by rw [e]; decide
    have n4 : ¬ σ.1 (24 + 8 * q) = 4 := by rw [e]; decide
    rw [if_neg n1, if_neg n1, if_neg n2, if_neg n2, if_neg n3, if_neg n3, if_neg n4, if_neg n4, if_pos e, if_pos e]
    exact xr_chk h hq e
  · have e : σ.1 (24 + 8 * q) = 6 := es
    have n1 : ¬ σ.1 (24 + 8 * q) = 1 := by rw [e]; decide
    have n2 : ¬ σ.1 (24 + 8 * q) = 2 := by rw [e]; decide
    have n3 : ¬ σ.1 (24 + 8 * q) = 3 := by rw [e]; decide
    have n4 : ¬ σ.1 (24 + 8 * q) = 4 := by rw [e]; decide
    have n5 : ¬ σ.1 (24 + 8 * q) = 5 := by rw [e]; decide
    rw [if_neg n1, if_neg n1, if_neg n2, if_neg n2, if_neg n3, if_neg n3, if_neg n4, if_neg n4, if_neg n5, if_neg n5]
    exact xr_lck h hq e
  · rw [es] at hu; exact absurd (by decide) hu
  · rw [es] at hu; exact absurd (by decide) hu
/-! within -/
theorem xr_nlt {a b : Int32} : ¬ a < b ↔ b ≤ a := by rw [Int32.not_lt]
theorem xr_isW (x a b : Int32) : xs_isW x a b = if x < a then 0 else if x ≤ b then 1 else 0 := by
  unfold xs_isW
  by_cases h : b < x
  · rw [if_pos h, if_neg (fun e => xr_nlt.mpr e h)]
  · rw [if_neg h, if_pos (xr_nlt.mp h)]
theorem xr_isWt {x : Int32} {N : Nat} (h0 : 0 < N) (hN : N < 2 ^ 31) : xs_isW x 0 (nI N - 1) = if x < 0 then 0 else if nI N ≤ x then 0 else 1 := by
  unfold xs_isW
  by_cases h1 : x < 0
  · rw [if_pos h1, if_pos h1]
  · obtain ⟨j, hj, rfl⟩ := nI_of h1
    rw [if_neg h1, if_neg h1, show nI N - 1 = nI (N - 1) from pk_sub (a := N) (b := 1) (by omega)]
    by_cases h2 : N ≤ j
    · rw [if_pos (by rw [nI_ltI (by omega) hj]; omega), if_pos (by rw [nI_leI (by omega) hj]; omega)]
    · rw [if_neg (by rw [nI_ltI (by omega) hj]; omega), if_neg (by rw [nI_leI (by omega) hj]; omega)]
theorem xr_isW01 (x a b : Int32) : xs_isW x a b = 0 ∨ xs_isW x a b = 1 := by
  unfold xs_isW
  split
  · exact Or.inl rfl
  · split
    · exact Or.inl rfl
    · exact Or.inr rfl
theorem xr_isR {r : Int32} (h : ¬ xs_isW r 0 2 = 0) : ∃ q, q < 3 ∧ r.toNatClampNeg = q := by
  obtain ⟨j, hj, rfl⟩ := vp_in_of (xs_isW_in (N := 3) (by omega) (by omega) h) (by omega)
  exact ⟨j, hj, nI_clamp (by omega)⟩
/-! write, outcome -/
theorem xr_wOK (h : xr_R n w σ τ) (kind life : Int32) : xm_wOK τ kind life = xs_wOK σ kind life := by
  unfold xm_wOK xs_wOK xs_uw
  by_cases h9 : σ.1 9 = 0
  · rw [if_pos h9, if_pos (Int32.not_le.mp (h.under.1 h9)), if_neg (show ¬ (1 : Int32) = 0 by decide)]
  · rw [if_neg h9, if_pos rfl, if_neg (fun e => xr_nlt.mpr (h.under.2 h9) e), xr_isW life]
    unfold xs_isW
    by_cases k1 : kind < 0
    · rw [if_pos k1, if_pos k1, if_pos rfl]
    · rw [if_neg k1, if_neg k1]
      by_cases k2 : 4 < kind
      · rw [if_pos k2, if_pos k2, if_pos rfl]
      · rw [if_neg k2, if_neg k2, if_neg (show ¬ (1 : Int32) = 0 by decide)]
        by_cases l1 : life < 0
        · rw [if_pos l1, if_pos rfl]
        · rw [if_neg l1]
          by_cases l2 : life ≤ 1000
          · rw [if_pos l2, if_neg (by decide)]
          · rw [if_neg l2, if_pos rfl]
theorem xr_write (h : xr_R n w σ τ) (kind key nv life kt : Int32) : xr_R n w (xs_write σ kind key nv life kt) (xm_write τ kind key nv life kt) := by
  unfold xs_write xm_write
  rw [xr_wOK h]
  by_cases hk : xs_wOK σ kind life = 0
  · rw [if_pos hk, if_pos hk]; exact h
  · rw [if_neg hk, if_neg hk]
    have hkd : ¬ xs_isW kind 0 4 = 0 := by
      intro e
      apply hk
      unfold xs_wOK
      rw [if_pos e]
      split <;> rfl
    obtain ⟨j, hj, rfl⟩ := vp_in_of (xs_isW_in (N := 5) (by omega) (by omega) hkd) (by omega)
    have c := ((((h.1.bI (k := 11) (k' := 5) (v := nI j) rfl (by decide)).bI (k := 12) (k' := 6) (v := key) rfl (by decide)).bI (k := 13) (k' := 7) (v := nv) rfl (by decide)).bI (k := 14) (k' := 8) (v := life) rfl (by decide)).bI (k := 15) (k' := 9) (v := kt) rfl (by decide)
    unfold xs_begin
    refine ⟨((c.oI (by decide)).oI (by decide)).oJ (by decide), ⟨fun _ => ⟨rfl, ?_, Or.inl rfl⟩, fun hz => absurd rfl hz⟩, h.2.2.cg (xr_kc.I (xr_kc.I (xr_kc.I (xr_kc.I (xr_kc.I (xr_kc.I (xr_kc.I xr_kc.rf (by omega)) (by omega)) (by omega)) (by omega)) (by omega)) (by omega)) (by omega)) xr_km.rf⟩
    show nI j = 0 ∨ nI j = 1 ∨ nI j = 2 ∨ nI j = 3 ∨ nI j = 4
    rcases (show j = 0 ∨ j = 1 ∨ j = 2 ∨ j = 3 ∨ j = 4 by omega) with rfl | rfl | rfl | rfl | rfl <;> decide
theorem xr_outcome (h : xr_R n w σ τ) : xm_out τ = σ.1 9 := by
  unfold xm_out
  by_cases h9 : σ.1 9 = 0
  · rw [if_neg (h.under.1 h9), h9]
  · rw [if_pos (h.under.2 h9), (h.2.1.2 h9).2]
/-! work -/
theorem xr_work : ∀ (r : Nat) {σ τ : xf_T} (d : Int32), xr_R n w σ τ → (xm_work n w r τ d).2 = (xs_work n w r σ d).2 ∧ xr_R n w (xs_work n w r σ d).1 (xm_work n w r τ d).1
  | 0, σ, τ, d, h => ⟨rfl, h⟩
  | r + 1, σ, τ, d, h => by
    rw [xs_work, xm_work]
    by_cases h9 : σ.1 9 = 0
    · rw [if_pos h9, if_neg (h.under.1 h9)]
      exact xr_work r (d + 1) (xr_goOn h h9)
    · rw [if_neg h9, if_pos (h.under.2 h9)]
      exact ⟨rfl, h⟩
theorem xr_wk (h : xr_R n w σ τ) (k : Int32) : (xm_wk n w τ k).2 = (xs_wk n w σ k).2 ∧ xr_R n w (xs_wk n w σ k).1 (xm_wk n w τ k).1 := by
  unfold xm_wk xs_wk
  rw [xr_isW]
  by_cases h1 : k < 1
  · rw [if_pos h1, if_pos h1, if_pos rfl]; exact ⟨rfl, h⟩
  · rw [if_neg h1, if_neg h1]
    by_cases h2 : k ≤ 50
    · rw [if_pos h2, if_pos h2, if_neg (by decide)]; exact xr_work _ _ h
    · rw [if_neg h2, if_neg h2, if_pos rfl]; exact ⟨rfl, h⟩
/-! the readers -/
theorem xr_rdg (h : xr_R n w σ τ) (r : Int32) : xm_rd r = xs_isW r 0 2 ∧ xm_rdg τ r = xs_stB σ r := by
  refine ⟨rfl, ?_⟩
  unfold xm_rdg xs_stB
  rw [show xm_rd r = xs_isW r 0 2 from rfl]
  by_cases hr : xs_isW r 0 2 = 0
  · rw [if_pos hr, if_pos hr]
  · rw [if_neg hr, if_neg hr]
    obtain ⟨q, hq, e⟩ := xr_isR hr
    obtain ⟨r1, -⟩ := h.2.2 q hq
    rw [e, ← r1]
    rfl
theorem xr_getB (h : xr_R n w σ τ) (r : Int32) : xm_getB τ r = xs_getB σ r := by
  unfold xm_getB xs_getB
  rw [(xr_rdg h r).1, (xr_rdg h r).2]
  unfold xs_stB
  by_cases hr : xs_isW r 0 2 = 0
  · rw [if_pos hr, if_pos hr]
  · rw [if_neg hr, if_neg hr, if_neg hr]
theorem xr_get (h : xr_R n w σ τ) (r key : Int32) : xr_R n w (xs_get σ r key) (xm_get τ r key) := by
  unfold xs_get xm_get
  rw [xr_getB h]
  by_cases hg : xs_getB σ r = 0
  · rw [if_pos hg, if_pos hg]; exact h
  · rw [if_neg hg, if_neg hg]
    have hr : ¬ xs_isW r 0 2 = 0 := fun e => hg (by unfold xs_getB; rw [if_pos e])
    obtain ⟨q, hq, e⟩ := xr_isR hr
    rw [e]
    refine xr_rst h hq (((xr_sR.rf.I (by omega)).I (by omega)).I (by omega)) (((xr_tR.rf.A (by omega)).A (by omega)).A (by omega)) ((((((h.1.oZ (by omega)).oZ (by omega)).oZ (by omega)).oQ (by omega)).oQ (by omega)).oQ (by omega)) ?_
    refine xr_rd_in 1 (by omega) xs_Ie xs_Ae ?_ ?_ (fun h => absurd h (by omega)) (fun h => absurd h (by omega)) (fun h => absurd h (by omega)) (fun h => absurd h (by omega))
    · rw [xs_In (by omega), xs_In (by omega), xs_Ie, xs_An (by omega), xs_An (by omega), xs_Ae]
    · rw [xs_In (by omega), xs_Ie, xs_An (by omega), xs_Ae]
theorem xr_step (h : xr_R n w σ τ) (r : Int32) : xm_stpV w τ r = xs_stepV w σ r ∧ xr_R n w (xs_step w σ r) (xm_stp w τ r) := by
  unfold xs_step xm_stp xm_stpV xs_stepV
  rw [(xr_rdg h r).2]
  by_cases hg : xs_stB σ r = 0
  · rw [if_pos hg, if_pos hg, if_pos hg, if_pos hg]; exact ⟨rfl, h⟩
  · rw [if_neg hg, if_neg hg, if_neg hg, if_neg hg]
    have hr : ¬ xs_isW r 0 2 = 0 := fun e => hg (by unfold xs_stB; rw [if_pos e])
    have hu : ¬ xs_isW (σ.1 (24 + 8 * r.toNatClampNeg)) 1 6 = 0 := fun e => hg (by unfold xs_stB; rw [if_neg hr, e])
    obtain ⟨q, hq, e⟩ := xr_isR hr
    rw [e] at hu ⊢
    have hh := xr_goR h hq hu
    exact ⟨(hh.2.2 q hq).1.symm, hh⟩
theorem xr_state (h : xr_R n w σ τ) (r : Int32) : xm_sta τ r = xs_state σ r := by
  unfold xm_sta xs_state
  rw [(xr_rdg h r).1]
  by_cases hr : xs_isW r 0 2 = 0
  · rw [if_pos hr, if_pos hr]
  · rw [if_neg hr, if_neg hr]
    obtain ⟨q, hq, e⟩ := xr_isR hr
    rw [e]
    exact (h.2.2 q hq).1.symm
theorem xr_value (h : xr_R n w σ τ) (r : Int32) : xm_val τ r 15 = xs_value σ r 1 ∧ xm_val τ r 16 = xs_value σ r 2 := by
  unfold xm_val xs_value xs_hitB
  rw [(xr_rdg h r).1]
  by_cases hr : xs_isW r 0 2 = 0
  · rw [if_pos hr, if_pos hr, if_pos hr, if_pos rfl, if_pos rfl]; exact ⟨rfl, rfl⟩
  · rw [if_neg hr, if_neg hr, if_neg hr]
    obtain ⟨q, hq, e⟩ := xr_isR hr
    obtain ⟨r1, -, -, -, -, -, -, r8⟩ := h.2.2 q hq
    rw [e, ← r1]
    by_cases h7 : σ.1 (24 + 8 * q) = 7
    · rw [if_pos h7, if_pos h7, if_pos h7, if_neg (by decide), if_neg (by decide)]
      exact ⟨(r8 h7).1.symm, (r8 h7).2.symm⟩
    · rw [if_neg h7, if_neg h7, if_neg h7, if_pos rfl, if_pos rfl]; exact ⟨rfl, rfl⟩
/-! the rest -/
theorem xr_pass (h : xr_R n w σ τ) (k : Int32) : xm_passB k = xs_passB k ∧ xr_R n w (xs_pass σ k) (xm_pass τ k) := by
  unfold xm_passB xs_passB xs_pass xm_pass
  rw [xr_isW]
  by_cases h1 : k < 1
  · rw [if_pos h1, if_pos h1, if_pos rfl, if_pos rfl]; exact ⟨rfl, h⟩
  · rw [if_neg h1, if_neg h1]
    by_cases h2 : k ≤ 1000
    · rw [if_pos h2, if_pos h2, if_neg (by decide), if_neg (by decide)]
      refine ⟨rfl, h.1.bI (by rw [h.1.sc 7 0 (by decide)]) (by decide), ⟨fun h9 => h.2.1.1 h9, fun h9 => h.2.1.2 h9⟩, h.2.2.cg (xr_kc.I xr_kc.rf (by omega)) xr_km.rf⟩
    · rw [if_neg h2, if_neg h2, if_pos rfl, if_pos rfl]; exact ⟨rfl, h⟩
theorem xr_atp (h : xr_R n w σ τ) (p : Int32) : xm_atp w τ p = xs_atp w σ p := by
  have hb := h.1.b31
  have hn := h.1.2.2.2.2.2.2.2.2.2
  unfold xm_atp xs_atp
  rw [xr_isWt (by omega) hb.2]
  by_cases h1 : p < 0
  · rw [if_pos h1, if_pos h1, if_pos rfl]
  · obtain ⟨j, hj, rfl⟩ := nI_of h1
    rw [if_neg h1, if_neg h1]
    by_cases h2 : nI (8 * w) ≤ nI j
    · rw [if_pos h2, if_pos h2, if_pos rfl]
    · rw [if_neg h2, if_neg h2, if_neg (by decide), nI_clamp hj]
      rw [nI_leI hb.2 hj] at h2
      exact (h.1.pl0 (by omega)).1
theorem xr_used (h : xr_R n w σ τ) (i : Int32) : xm_used n τ i = xs_used n σ i := by
  have hb := h.1.b31
  have hn := h.1.2.2.2.2.2.2.2.2.2
  unfold xm_used xs_used
  rw [xr_isWt (by omega) hb.1]
  by_cases h1 : i < 0
  · rw [if_pos h1, if_pos h1, if_pos rfl]
  · obtain ⟨j, hj, rfl⟩ := nI_of h1
    rw [if_neg h1, if_neg h1]
    by_cases h2 : nI n ≤ nI j
    · rw [if_pos h2, if_pos h2, if_pos rfl]
    · rw [if_neg h2, if_neg h2, if_neg (show ¬ (1 : Int32) = 0 by decide), nI_clamp hj]
      rw [nI_leI hb.1 hj] at h2
      rw [h.1.ar 11 2 (by decide) (by omega)]
theorem xr_item (h : xr_R n w σ τ) (i k : Int32) : xm_item n τ i k = xs_item n σ i k := by
  have hb := h.1.b31
  have hn := h.1.2.2.2.2.2.2.2.2.2
  unfold xm_item xs_item
  rw [xr_used h]
  by_cases hu : xs_used n σ i = 0
  · rw [if_pos hu, if_pos hu]
  · rw [if_neg hu, if_neg hu]
    obtain ⟨j, hj, rfl⟩ := vp_in_of (xs_used_in (by omega) (by omega) hu) hb.1
    rw [nI_clamp (by omega), h.1.ar 6 3 (by decide) hj, h.1.ar 7 4 (by decide) hj, h.1.ar 8 5 (by decide) hj, h.1.ar 9 6 (by decide) hj, h.1.ar 10 7 (by decide) hj]
theorem xr_version (h : xr_R n w σ τ) (k : Int32) : xm_ver τ k = xs_version σ k := by
  unfold xm_ver xs_version
  by_cases hr : xs_isW k 0 3 = 0
  · rw [if_pos hr]
    unfold xs_isW at hr
    by_cases h1 : k < 0
    · rw [if_pos h1]
    · rw [if_neg h1] at hr ⊢
      by_cases h2 : 3 < k
      · rw [if_pos h2]
      · rw [if_neg h2] at hr; exact absurd hr (by decide)
  · rw [if_neg hr]
    obtain ⟨j, hj, rfl⟩ := vp_in_of (xs_isW_in (N := 4) (by omega) (by omega) hr) (by omega)
    rw [if_neg (nI_pos (by omega)), if_neg (by rw [show (3 : Int32) = nI 3 from rfl, nI_ltI (by omega) (by omega)]; omega), nI_clamp (by omega)]
    exact (h.1.2.2.1 j hj).symm
theorem xr_mny_cg {f g : Nat → Int32} : ∀ {m : Nat}, (∀ i, i < m → f i = g i) → xm_mny f m = xm_mny g m
  | 0, _ => rfl
  | m + 1, h => by rw [xm_mny, xm_mny, xr_mny_cg (m := m) (fun i hi => h i (by omega)), h m (by omega)]
theorem xr_count (h : xr_R n w σ τ) (k : Int32) : xm_count n τ k = xs_count σ k := by
  have e0 : xm_mny (τ.2 2) n = σ.1 6 := by rw [h.1.2.2.2.2.2.2.2.1]; exact xr_mny_cg (fun i hi => (h.1.ar 11 2 (by decide) hi).symm)
  unfold xm_count xs_count
  rw [e0, h.1.sc 0 13 (by decide), h.1.sc 1 14 (by decide), h.1.sc 2 15 (by decide), h.1.sc 3 16 (by decide), h.1.sc 4 17 (by decide), h.1.sc 5 18 (by decide), h.1.sc 7 0 (by decide), h.1.sc 10 1 (by decide), h.1.sc 8 2 (by decide)]
end XRV
