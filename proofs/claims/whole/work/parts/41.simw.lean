/-! A write's steps, side by side: looking up, changing, evicting. -/
theorem xr_n01 : ((0 : Int32) = 1) = False := eq_false (by decide)
theorem xr_n02 : ((0 : Int32) = 2) = False := eq_false (by decide)
theorem xr_n03 : ((0 : Int32) = 3) = False := eq_false (by decide)
theorem xr_n04 : ((0 : Int32) = 4) = False := eq_false (by decide)
theorem xr_n10 : ((1 : Int32) = 0) = False := eq_false (by decide)
theorem xr_n12 : ((1 : Int32) = 2) = False := eq_false (by decide)
theorem xr_n13 : ((1 : Int32) = 3) = False := eq_false (by decide)
theorem xr_n14 : ((1 : Int32) = 4) = False := eq_false (by decide)
theorem xr_n20 : ((2 : Int32) = 0) = False := eq_false (by decide)
theorem xr_n21 : ((2 : Int32) = 1) = False := eq_false (by decide)
theorem xr_n23 : ((2 : Int32) = 3) = False := eq_false (by decide)
theorem xr_n24 : ((2 : Int32) = 4) = False := eq_false (by decide)
theorem xr_n30 : ((3 : Int32) = 0) = False := eq_false (by decide)
theorem xr_n31 : ((3 : Int32) = 1) = False := eq_false (by decide)
theorem xr_n32 : ((3 : Int32) = 2) = False := eq_false (by decide)
theorem xr_n34 : ((3 : Int32) = 4) = False := eq_false (by decide)
theorem xr_n40 : ((4 : Int32) = 0) = False := eq_false (by decide)
theorem xr_n41 : ((4 : Int32) = 1) = False := eq_false (by decide)
theorem xr_n42 : ((4 : Int32) = 2) = False := eq_false (by decide)
theorem xr_n43 : ((4 : Int32) = 3) = False := eq_false (by decide)
section XRW
variable {n w : Nat} {σ τ : xf_T}
theorem xr_whenN (hc : xr_core n w σ τ) (hr : xr_rds n σ τ) (h9 : σ.1 9 = 0) (hk : xr_kd σ) (ht : τ.1 10 < 0) : xr_R n w (xs_whenN n σ) (xm_way n w τ) := by
  have e5 : τ.1 5 = σ.1 11 := (hc.sc 11 5 (by decide)).symm
  have hfull := hc.full
  have hk' := hk
  have nx : xr_R n w (xf_I σ 16 (if xs_full n σ = 0 then 4 else 3)) (if xm_mny (τ.2 2) n = nI n then xf_I τ 3 4 else xf_I τ 3 5) := by
    unfold xs_full
    by_cases hf : xr_cn (σ.2 11) n = n
    · rw [if_pos (hfull.1.mpr hf), if_pos (hfull.2.mpr hf), if_neg (by decide)]
      refine xr_goto hc hr h9 hk (by decide) (Or.inr (Or.inr (Or.inl ⟨rfl, fun i hi => ?_⟩)))
      rcases (hc.2.2.2.2.2.2.1 i hi).1 with g | g
      · exact absurd hf (Nat.ne_of_lt (xr_cn_lt hi g))
      · exact g
    · rw [if_neg (fun e => hf (hfull.1.mp e)), if_neg (fun e => hf (hfull.2.mp e)), if_pos rfl]
      exact xr_goto hc hr h9 hk (by decide) (Or.inr (Or.inr (Or.inr (Or.inl ⟨rfl, xr_cn_ex hf⟩))))
  unfold xs_whenN xm_way
  rw [if_pos ht, e5]
  rcases hk' with k | k | k | k | k
  · simp only [k, xr_n01, xr_n02, xr_n03, xr_n04, xr_n10, xr_n12, xr_n13, xr_n14, xr_n20, xr_n21, xr_n23, xr_n24, xr_n30, xr_n31, xr_n32, xr_n34, xr_n40, xr_n41, xr_n42, xr_n43, if_true, if_false, or_true, or_false, false_or, or_self]
    exact nx
  · simp only [k, xr_n01, xr_n02, xr_n03, xr_n04, xr_n10, xr_n12, xr_n13, xr_n14, xr_n20, xr_n21, xr_n23, xr_n24, xr_n30, xr_n31, xr_n32, xr_n34, xr_n40, xr_n41, xr_n42, xr_n43, if_true, if_false, or_true, or_false, false_or, or_self]
    exact nx
  · simp only [k, xr_n01, xr_n02, xr_n03, xr_n04, xr_n10, xr_n12, xr_n13, xr_n14, xr_n20, xr_n21, xr_n23, xr_n24, xr_n30, xr_n31, xr_n32, xr_n34, xr_n40, xr_n41, xr_n42, xr_n43, if_true, if_false, or_true, or_false, false_or, or_self]
    exact xr_fin hc hr (by decide)
  · simp only [k, xr_n01, xr_n02, xr_n03, xr_n04, xr_n10, xr_n12, xr_n13, xr_n14, xr_n20, xr_n21, xr_n23, xr_n24, xr_n30, xr_n31, xr_n32, xr_n34, xr_n40, xr_n41, xr_n42, xr_n43, if_true, if_false, or_true, or_false, false_or, or_self]
    exact xr_fin hc hr (by decide)
  · simp only [k, xr_n01, xr_n02, xr_n03, xr_n04, xr_n10, xr_n12, xr_n13, xr_n14, xr_n20, xr_n21, xr_n23, xr_n24, xr_n30, xr_n31, xr_n32, xr_n34, xr_n40, xr_n41, xr_n42, xr_n43, if_true, if_false, or_true, or_false, false_or, or_self]
    exact xr_fin hc hr (by decide)
theorem xr_whenF (hc : xr_core n w σ τ) (hr : xr_rds n σ τ) (h9 : σ.1 9 = 0) (hk : xr_kd σ) {i : Nat} (hi : i < n) (hu : σ.2 11 i = 1) (ht : τ.1 10 = nI i) : xr_R n w (xs_whenF w σ (nI i)) (xm_way n w τ) := by
  have hb := hc.b31
  have e5 : τ.1 5 = σ.1 11 := (hc.sc 11 5 (by decide)).symm
  have e9 : τ.1 9 = σ.1 15 := (hc.sc 15 9 (by decide)).symm
  have em : τ.2 5 i = σ.2 8 i := (hc.ar 8 5 (by decide) hi).symm
  have ecl : (nI i).toNatClampNeg = i := nI_clamp (by omega)
  have hnt : ¬ τ.1 10 < 0 := by rw [ht]; exact nI_pos (by omega)
  have chg : xr_R n w (xf_I (xf_I σ 17 (nI i)) 16 1) (xf_I τ 3 2) := xr_goto (σ := xf_I σ 17 (nI i)) (hc.oI (by decide)) (hr.cg (xr_kc.I xr_kc.rf (by omega)) xr_km.rf) h9 hk (by decide) (Or.inr (Or.inl ⟨Or.inl rfl, i, hi, rfl, ht⟩))
  unfold xs_whenF xm_way
  rw [if_neg hnt, e5, ht, ecl, em, e9]
  rcases hk with k | k | k | k | k
  · simp only [k, xr_n01, xr_n02, xr_n03, xr_n04, xr_n10, xr_n12, xr_n13, xr_n14, xr_n20, xr_n21, xr_n23, xr_n24, xr_n30, xr_n31, xr_n32, xr_n34, xr_n40, xr_n41, xr_n42, xr_n43, if_true, if_false, or_true, or_false, false_or, or_self]
    exact chg
  · simp only [k, xr_n01, xr_n02, xr_n03, xr_n04, xr_n10, xr_n12, xr_n13, xr_n14, xr_n20, xr_n21, xr_n23, xr_n24, xr_n30, xr_n31, xr_n32, xr_n34, xr_n40, xr_n41, xr_n42, xr_n43, if_true, if_false, or_true, or_false, false_or, or_self]
    exact xr_fin hc hr (by decide)
  · simp only [k, xr_n01, xr_n02, xr_n03, xr_n04, xr_n10, xr_n12, xr_n13, xr_n14, xr_n20, xr_n21, xr_n23, xr_n24, xr_n30, xr_n31, xr_n32, xr_n34, xr_n40, xr_n41, xr_n42, xr_n43, if_true, if_false, or_true, or_false, false_or, or_self]
    exact chg
  · simp only [k, xr_n01, xr_n02, xr_n03, xr_n04, xr_n10, xr_n12, xr_n13, xr_n14, xr_n20, xr_n21, xr_n23, xr_n24, xr_n30, xr_n31, xr_n32, xr_n34, xr_n40, xr_n41, xr_n42, xr_n43, if_true, if_false, or_true, or_false, false_or, or_self]
    by_cases he : σ.2 8 i = σ.1 15
    · rw [if_pos he, if_pos he]; exact chg
    · rw [if_neg he, if_neg he]; exact xr_fin hc hr (by decide)
  · simp only [k, xr_n01, xr_n02, xr_n03, xr_n04, xr_n10, xr_n12, xr_n13, xr_n14, xr_n20, xr_n21, xr_n23, xr_n24, xr_n30, xr_n31, xr_n32, xr_n34, xr_n40, xr_n41, xr_n42, xr_n43, if_true, if_false, or_true, or_false, false_or, or_self]
    exact xr_fin (hc.remove hi hu) (hr.cg (xr_kc.remove xr_kc.rf _) (xr_km.rem xr_km.rf _)) (by decide)
theorem xr_over (hc : xr_core n w σ τ) (e : Int32) : xm_over τ e = xs_over σ e := by
  unfold xm_over xs_over
  rw [hc.sc 7 0 (by decide)]
theorem xr_luk (h : xr_R n w σ τ) (h9 : σ.1 9 = 0) : xr_R n w (xs_luk n w σ) (xm_begin n w τ) := by
  obtain ⟨hc, hwr, hr⟩ := h
  obtain ⟨-, hk, -⟩ := hwr.1 h9
  have hb := hc.b31
  have ek : τ.1 6 = σ.1 12 := (hc.sc 12 6 (by decide)).symm
  obtain ⟨f1, f2, f3⟩ := hc.fnd (σ.1 12)
  have hc1 := hc.lk (σ.1 12)
  have hr1 : xr_rds n (xs_lk w σ (σ.1 12)) (xm_lb w τ (σ.1 12)) := hr.cg (xr_kc.lk xr_kc.rf _) (xr_km.lb xr_km.rf _)
  have h91 : (xs_lk w σ (σ.1 12)).1 9 = 0 := by rw [xs_lk_1 _ _ _ (by decide)]; exact h9
  have hk1 : xr_kd (xs_lk w σ (σ.1 12)) := by unfold xr_kd; rw [xs_lk_1 _ _ _ (by decide)]; exact hk
  unfold xm_begin xm_bg2 xm_bg1 xs_luk
  rw [ek, f1]
  rcases f3 with g | ⟨i, i1, i2, i3⟩
  · rw [if_pos g, if_pos (f2.mpr g)]
    exact xr_whenN (hc1.oJ (by decide)) hr1 h91 hk1 (f2.mpr g)
  · have hne : ¬ xs_fnd w σ (σ.1 12) = -1 := by rw [i2]; exact xb_nIm1 (by omega)
    have hnl : ¬ xs_fnd w σ (σ.1 12) < 0 := fun z => hne (f2.mp z)
    have hcl : (xs_fnd w σ (σ.1 12)).toNatClampNeg = i := by rw [i2]; exact nI_clamp (by omega)
    have ee : τ.2 6 i = σ.2 9 i := (hc.ar 9 6 (by decide) i1).symm
    have hu1 : (xs_lk w σ (σ.1 12)).2 11 i = 1 := by rw [xs_lk_2]; exact i3
    rw [if_neg hne, if_neg hnl, hcl, ee, xr_over hc, i2]
    by_cases ho : xs_over σ (σ.2 9 i) = 0
    · rw [if_pos ho, if_pos ho]
      exact xr_whenF (hc1.oJ (by decide)) hr1 h91 hk1 i1 hu1 rfl
    · rw [if_neg ho, if_neg ho]
      have c2 := (hc1.oJ (k := 10) (v := nI i) (by decide)).remove i1 hu1
      have e18 : (xs_remove w (xs_lk w σ (σ.1 12)) (nI i)).1 5 = (xm_rem w (xf_I (xm_lb w τ (σ.1 12)) 10 (nI i)) (nI i)).1 18 := c2.sc 5 18 (by decide)
      refine xr_whenN ((c2.bI (by rw [e18]) (by decide)).oJ (by decide)) ?_ ?_ ?_ (show (-1 : Int32) < 0 by decide)
      · exact hr1.cg (xr_kc.I (xr_kc.remove xr_kc.rf _) (by omega)) (xr_km.rem (τ' := xf_I (xm_lb w τ (σ.1 12)) 10 (nI i)) xr_km.rf _)
      · exact h91
      · exact hk1
theorem xr_chV (h : xr_R n w σ τ) (h9 : σ.1 9 = 0) (h16 : σ.1 16 = 1) : xr_R n w (xs_chV σ) (xm_chV τ) := by
  obtain ⟨hc, hwr, hr⟩ := h
  obtain ⟨-, hk, ha⟩ := hwr.1 h9
  have hb := hc.b31
  rw [h16] at ha
  obtain ⟨c, c1, c2, c3⟩ : ∃ c, c < n ∧ σ.1 17 = nI c ∧ τ.1 10 = nI c := by
    rcases ha with k | ⟨-, g⟩ | ⟨k, -⟩ | ⟨k, -⟩ | ⟨k, -⟩ | ⟨k, -⟩
    · exact absurd k (by decide)
    · exact g
    · exact absurd k (by decide)
    · exact absurd k (by decide)
    · rcases k with k | k <;> exact absurd k (by decide)
    · exact absurd k (by decide)
  have ek : τ.1 6 = σ.1 12 := (hc.sc 12 6 (by decide)).symm
  have ep : σ.1 13 = τ.1 7 := hc.sc 13 7 (by decide)
  have core := (hc.grow (σ.1 12) 1).bA (j := 7) (j' := 4) (i := c) ep (by decide)
  unfold xs_chV xm_chV
  rw [ek, c2, c3, nI_clamp (by omega)]
  exact xr_goto core (hr.cg (xr_kc.A (xr_kc.grow xr_kc.rf _ _)) (xr_km.A (xr_km.grow xr_km.rf _ _) (by omega))) h9 hk (by decide) (Or.inr (Or.inl ⟨Or.inr rfl, c, c1, c2, c3⟩))
theorem xr_chT (h : xr_R n w σ τ) (h9 : σ.1 9 = 0) (h16 : σ.1 16 = 2) : xr_R n w (xs_chT σ) (xm_chT τ) := by
  obtain ⟨hc, hwr, hr⟩ := h
  obtain ⟨-, hk, ha⟩ := hwr.1 h9
  have hb := hc.b31
  rw [h16] at ha
  obtain ⟨c, c1, c2, c3⟩ : ∃ c, c < n ∧ σ.1 17 = nI c ∧ τ.1 10 = nI c := by
    rcases ha with k | ⟨-, g⟩ | ⟨k, -⟩ | ⟨k, -⟩ | ⟨k, -⟩ | ⟨k, -⟩
    · exact absurd k (by decide)
    · exact g
    · exact absurd k (by decide)
    · exact absurd k (by decide)
    · rcases k with k | k <;> exact absurd k (by decide)
    · exact absurd k (by decide)
  have ek : τ.1 6 = σ.1 12 := (hc.sc 12 6 (by decide)).symm
  have core := (hc.renew c1).grow (σ.1 12) 1
  unfold xs_chT xm_chT
  rw [ek, c2, c3]
  exact xr_fin core (hr.cg (xr_kc.grow (xr_kc.renew xr_kc.rf _ _) _ _) (xr_km.grow (xr_km.stamp xr_km.rf _) _ _)) (by decide)
/-! evicting -/
theorem xr_core.turn (hc : xr_core n w σ τ) : xr_core n w (xs_turn n σ) (xm_turn n τ) := by
  have hn := hc.2.2.2.2.2.2.2.2.2
  obtain ⟨h, h1, h2⟩ := hc.2.2.2.2.2.2.2.2.1
  have h3 : τ.1 1 = nI h := by rw [← hc.sc 10 1 (by decide)]; exact h2
  have e1 : (if nI n ≤ σ.1 10 + 1 then 0 else σ.1 10 + 1) = nI ((h + 1) % n) := by
    rw [h2, nI_1]
    by_cases hcn : nI n ≤ nI (h + 1)
    · rw [if_pos hcn]
      rw [nI_leI (by omega) (by omega)] at hcn
      have : h + 1 = n := by omega
      rw [this, Nat.mod_self]; rfl
    · rw [if_neg hcn]
      rw [nI_leI (by omega) (by omega)] at hcn
      rw [Nat.mod_eq_of_lt (by omega)]
  have e2 : xs_rem (τ.1 1 + 1) (nI n) = nI ((h + 1) % n) := by
    rw [h3, nI_1]
    exact pk_rem (by omega) (by omega) (by omega)
  unfold xs_turn xm_turn
  rw [e1, e2]
  exact hc.hand (Nat.mod_lt _ (by omega))
theorem xr_core.evl : ∀ (r : Nat) {σ τ : xf_T}, xr_core n w σ τ → xr_core n w (xs_evl n r σ) (xm_evl n r τ)
  | 0, _, _, h => h
  | r + 1, σ, τ, h => by
    have hb := h.b31
    obtain ⟨a, h1, h2⟩ := h.2.2.2.2.2.2.2.2.1
    have h3 : τ.1 1 = nI a := by rw [← h.sc 10 1 (by decide)]; exact h2
    have hbit : σ.2 10 a = τ.2 7 a := h.ar 10 7 (by decide) h1
    rw [xs_evl, xm_evl, h2, h3, nI_clamp (by omega), ← hbit]
    by_cases hc : σ.2 10 a = 0
    · rw [if_pos hc, if_pos hc]; exact h
    · rw [if_neg hc, if_neg hc]
      exact xr_core.evl r (h.bit (i := a) (Or.inl rfl)).turn
theorem xm_evl_add (n : Nat) : ∀ (r : Nat) (τ : xf_T), xm_evl n (r + 1) τ = xm_evl n 1 (xm_evl n r τ)
  | 0, τ => rfl
  | r + 1, τ => by
    rw [xm_evl]
    by_cases hc : τ.2 7 (τ.1 1).toNatClampNeg = 0
    · rw [if_pos hc]
      have e1 : xm_evl n (r + 1) τ = τ := by rw [xm_evl, if_pos hc]
      rw [e1, xm_evl, if_pos hc]
    · rw [if_neg hc, xm_evl_add n r]
      have e1 : xm_evl n (r + 1) τ = xm_evl n r (xm_turn n (xf_A τ 7 (τ.1 1).toNatClampNeg 0)) := by rw [xm_evl, if_neg hc]
      rw [e1]
theorem xm_evl_go {n : Nat} (h1 : 1 ≤ n) (hn : n ≤ 32) : ∀ (r : Nat) (τ : xf_T) (h : Nat), h < n → τ.1 1 = nI h →
    (xm_evl n r τ).2 7 ((xm_evl n r τ).1 1).toNatClampNeg = 0 ∨ ((xm_evl n r τ).1 1 = nI ((h + r) % n) ∧ (∀ j, j < r → (xm_evl n r τ).2 7 ((h + j) % n) = 0) ∧ ∀ i, τ.2 7 i = 0 → (xm_evl n r τ).2 7 i = 0)
  | 0, τ, h, hh, e => Or.inr ⟨by rw [xm_evl, e, Nat.add_zero, Nat.mod_eq_of_lt hh], fun j hj => by omega, fun i hi => hi⟩
  | r + 1, τ, h, hh, e => by
    have hcl : (τ.1 1).toNatClampNeg = h := by rw [e]; exact nI_clamp (by omega)
    rw [xm_evl]
    by_cases hc : τ.2 7 (τ.1 1).toNatClampNeg = 0
    · rw [if_pos hc]; exact Or.inl hc
    · rw [if_neg hc, hcl]
      have e1 : (xm_turn n (xf_A τ 7 h 0)).1 1 = nI ((h + 1) % n) := by
        show xs_rem (τ.1 1 + 1) (nI n) = _
        rw [e, nI_1]
        exact pk_rem (by omega) (by omega) (by omega)
      have keep : ∀ i, i = h ∨ τ.2 7 i = 0 → (xm_turn n (xf_A τ 7 h 0)).2 7 i = 0 := by
        intro i hi
        show upd (τ.2 7) h 0 i = 0
        by_cases hih : i = h
        · subst hih; rw [pk_us]
        · rw [pk_un hih]; exact hi.resolve_left hih
      rcases xm_evl_go h1 hn r (xm_turn n (xf_A τ 7 h 0)) ((h + 1) % n) (Nat.mod_lt _ (by omega)) e1 with g | ⟨g1, g2, g3⟩
      · exact Or.inl g
      · refine Or.inr ⟨?_, fun j hj => ?_, fun i hi => g3 i (keep i (Or.inr hi))⟩
        · rw [g1, Nat.mod_add_mod, Nat.add_assoc, Nat.add_comm 1 r]
        · cases j with
          | zero =>
            rw [Nat.add_zero, Nat.mod_eq_of_lt hh]
            exact g3 h (keep h (Or.inl rfl))
          | succ j =>
            have := g2 j (by omega)
            rw [Nat.mod_add_mod, Nat.add_assoc, Nat.add_comm 1 j] at this
            exact this
theorem xm_evl_n {n : Nat} (h1 : 1 ≤ n) (hn : n ≤ 32) {τ : xf_T} (hh : xm_okH n τ) : xm_evl n (n + 1) τ = xm_evl n n τ := by
  obtain ⟨h, a1, a2⟩ := hh
  have hbit : (xm_evl n n τ).2 7 ((xm_evl n n τ).1 1).toNatClampNeg = 0 := by
    rcases xm_evl_go h1 hn n τ h a1 a2 with g | ⟨g1, g2, -⟩
    · exact g
    · have := g2 0 (by omega)
      rw [Nat.add_zero, Nat.mod_eq_of_lt a1] at this
      rw [g1, Nat.add_mod_right, Nat.mod_eq_of_lt a1, nI_clamp (by omega)]
      exact this
  rw [xm_evl_add, xm_evl, if_pos hbit]
theorem xs_evl_k (n : Nat) : ∀ (r : Nat) (σ : xf_T), (∀ k, k ≠ 10 → (xs_evl n r σ).1 k = σ.1 k) ∧ (xs_evl n r σ).2 11 = σ.2 11
  | 0, σ => ⟨fun _ _ => rfl, rfl⟩
  | r + 1, σ => by
    rw [xs_evl]
    split
    · exact ⟨fun _ _ => rfl, rfl⟩
    · obtain ⟨g1, g2⟩ := xs_evl_k n r (xs_turn n (xf_A σ 10 (σ.1 10).toNatClampNeg 0))
      refine ⟨fun k hk => ?_, g2⟩
      rw [g1 k hk]
      unfold xs_turn
      rw [xs_I1, if_neg hk]
      rfl
theorem xr_evict (h : xr_R n w σ τ) (h9 : σ.1 9 = 0) (h16 : σ.1 16 = 3) : xr_R n w (xs_evict n w σ) (xm_evict n w τ) := by
  obtain ⟨hc, hwr, hr⟩ := h
  obtain ⟨-, hk, ha⟩ := hwr.1 h9
  have hb := hc.b31
  have hn := hc.2.2.2.2.2.2.2.2.2
  rw [h16] at ha
  have hall : ∀ i, i < n → σ.2 11 i = 1 := by
    rcases ha with k | ⟨k, -⟩ | ⟨-, g⟩ | ⟨k, -⟩ | ⟨k, -⟩ | ⟨k, -⟩
    · exact absurd k (by decide)
    · rcases k with k | k <;> exact absurd k (by decide)
    · exact g
    · exact absurd k (by decide)
    · rcases k with k | k <;> exact absurd k (by decide)
    · exact absurd k (by decide)
  have c1 := hc.evl n
  obtain ⟨k1, k2⟩ := xs_evl_k n n σ
  obtain ⟨a, a1, a2⟩ := c1.2.2.2.2.2.2.2.2.1
  have a3 : (xm_evl n n τ).1 1 = nI a := by rw [← c1.sc 10 1 (by decide)]; exact a2
  have hu : (xs_evl n n σ).2 11 a = 1 := by rw [k2]; exact hall a a1
  have c2 := (c1.remove a1 hu).turn
  have e0 : (xs_turn n (xs_remove w (xs_evl n n σ) (nI a))).1 0 = (xm_turn n (xm_rem w (xm_evl n n τ) (nI a))).1 13 := c2.sc 0 13 (by decide)
  have c3 := c2.bI (k := 0) (k' := 13) (v := (xs_turn n (xs_remove w (xs_evl n n σ) (nI a))).1 0 + 1) (v' := (xm_turn n (xm_rem w (xm_evl n n τ) (nI a))).1 13 + 1) (by rw [e0]) (by decide)
  unfold xs_evict xs_ev1 xm_evict xm_ev1
  rw [xm_evl_n (by omega) (by omega) hc.okH.2, a2, a3]
  refine xr_goto c3 ?_ ?_ ?_ (by decide) (Or.inr (Or.inr (Or.inr (Or.inl ⟨rfl, a, a1, ?_⟩))))
  · exact hr.cg (xr_kc.I (xr_kc.turn (xr_kc.remove (xr_kc.evl n xr_kc.rf) _)) (by omega)) (xr_km.rem (xr_km.evl n xr_km.rf) _)
  · show (xs_evl n n σ).1 9 = 0
    rw [k1 9 (by decide)]; exact h9
  · unfold xr_kd
    show (xs_evl n n σ).1 11 = 0 ∨ (xs_evl n n σ).1 11 = 1 ∨ (xs_evl n n σ).1 11 = 2 ∨ (xs_evl n n σ).1 11 = 3 ∨ (xs_evl n n σ).1 11 = 4
    rw [k1 11 (by decide)]; exact hk
  · show upd ((xs_evl n n σ).2 11) (nI a).toNatClampNeg 0 a = 0
    rw [nI_clamp (by omega), pk_us]
end XRW
