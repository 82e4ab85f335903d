/-! Contracts of the class: the store. Laid by wip/gen/class2.py. -/
/-- places hold numbers of items -/
def xs_okP (n w : Nat) (σ : xf_T) : Prop := (∀ p, p < 8 * w → σ.2 5 p = -1 ∨ ∃ i, i < n ∧ σ.2 5 p = nI i) ∧ 1 ≤ n ∧ n ≤ 32 ∧ 1 ≤ w ∧ w ≤ 4
theorem xs_okP.in {n w : Nat} {σ : xf_T} (h : xs_okP n w σ) {p : Nat} (hp : p < 8 * w) (hn : ¬ σ.2 5 p = -1) : vp_in (σ.2 5 p) n := by
  rcases h.1 p hp with g | ⟨i, g1, g2⟩
  · exact absurd g hn
  · exact xs_in g2 g1 (by have := h.2; omega)
theorem xs_rmf_0 (pl : Nat → Int32) (i : Int32) : xs_rmf 0 pl i = pl := by
  funext p
  rw [xs_rmf, if_neg (by omega)]
theorem xs_rmf_s (pl : Nat → Int32) (i : Int32) (k : Nat) (h : ¬ pl k = i) : xs_rmf (k + 1) pl i = xs_rmf k pl i := by
  funext p
  rw [xs_rmf, xs_rmf]
  by_cases h1 : p < k
  · rw [if_pos h1, if_pos (by omega)]
  · rw [if_neg h1]
    by_cases h2 : p = k
    · subst h2
      rw [if_pos (by omega), if_neg h]
    · rw [if_neg (by omega)]
theorem xs_rmf_t (pl : Nat → Int32) (i : Int32) (k : Nat) (h : pl k = i) : upd (xs_rmf k pl i) k (-1) = xs_rmf (k + 1) pl i := by
  funext p
  by_cases h2 : p = k
  · subst h2
    rw [pk_us, xs_rmf, if_pos (by omega), if_pos h]
  · rw [pk_un h2, xs_rmf, xs_rmf]
    by_cases h1 : p < k
    · rw [if_pos h1, if_pos (show p < k + 1 by omega)]
    · rw [if_neg h1, if_neg (show ¬ p < k + 1 by omega)]
theorem xs_rmf_at (pl : Nat → Int32) (i : Int32) (k : Nat) : xs_rmf k pl i k = pl k := by rw [xs_rmf, if_neg (by omega)]
set_option maxRecDepth 100000 in
set_option maxHeartbeats 4000000 in
theorem xc_isFull (P : xw_T) (σ τ : xf_T) : xf_F (xw_l P) xny_ST_isFull xnc_ST_isFull 1 (some .boolean) 0 0 (xw_W P) (xw_D P) (xw_ty P) [.ref (xw_a P 2)] (σ, τ) (some (.int (xs_full (xw_n P) σ))) (σ, τ) := by
  refine xf_start (own := xnR_ST) [some (.ref (xw_a P 2))] rfl (by decide) (Nat.le_of_ble_eq_true rfl) rfl (xf_cat rfl) ?_
  intro X hX hE
  refine xf_aload_n hX 1 rfl 0 xnd_ST_isFull_0 rfl rfl ?_
  refine xg_ST_usedCount hX 4 rfl xk_ST_54 xnd_ST_isFull_1 ?_
  refine xf_aload_n hX 5 rfl 0 xnd_ST_isFull_4 rfl rfl ?_
  refine xg_ST_capacity hX 8 rfl xk_ST_15 xnd_ST_isFull_5 ?_
  refine xf_icmp_ne hX 11 rfl 15 xnd_ST_isFull_8 (by decide) (fun h8 => ?_) (fun h8 => ?_)
  · refine xf_iconst hX 16 rfl (0) xnd_ST_isFull_15 (by decide) ?_
    refine xf_zret hX hE xnd_ST_isFull_16 rfl ?_
    refine ⟨?_, rfl⟩
    simp only [xs_full, h8, if_true, if_false]
  · refine xf_iconst hX 12 rfl (1) xnd_ST_isFull_11 (by decide) ?_
    refine xf_goto hX 16 xnd_ST_isFull_12 (by decide) ?_
    refine xf_zret hX hE xnd_ST_isFull_16 rfl ?_
    refine ⟨?_, rfl⟩
    simp only [xs_full, eq_true h8, if_true, if_false]

set_option maxRecDepth 100000 in
set_option maxHeartbeats 4000000 in
theorem xc_isOver (P : xw_T) (σ τ : xf_T) (e : Int32) : xf_F (xw_l P) xny_ST_isOver xnc_ST_isOver 2 (some .boolean) 0 0 (xw_W P) (xw_D P) (xw_ty P) [.ref (xw_a P 2), .int e] (σ, τ) (some (.int (xs_over σ e))) (σ, τ) := by
  refine xf_start (own := xnR_ST) [some (.ref (xw_a P 2)), some (.int e)] rfl (by decide) (Nat.le_of_ble_eq_true rfl) rfl (xf_cat rfl) ?_
  intro X hX hE
  refine xf_iload_n hX 1 rfl 1 xnd_ST_isOver_0 rfl rfl ?_
  refine xf_if_eq hX 4 rfl 16 xnd_ST_isOver_1 (by decide) (fun h1 => ?_) (fun h1 => ?_)
  · refine xf_iconst hX 17 rfl (0) xnd_ST_isOver_16 (by decide) ?_
    refine xf_zret hX hE xnd_ST_isOver_17 rfl ?_
    refine ⟨?_, rfl⟩
    simp only [xs_over, eq_true h1, if_true, if_false]
  · refine xf_iload_n hX 5 rfl 1 xnd_ST_isOver_4 rfl rfl ?_
    refine xf_aload_n hX 6 rfl 0 xnd_ST_isOver_5 rfl rfl ?_
    refine xg_ST_time hX 9 rfl xk_ST_57 xnd_ST_isOver_6 ?_
    refine xf_icmp_gt hX 12 rfl 16 xnd_ST_isOver_9 (by decide) (fun h9 => ?_) (fun h9 => ?_)
    · refine xf_iconst hX 17 rfl (0) xnd_ST_isOver_16 (by decide) ?_
      refine xf_zret hX hE xnd_ST_isOver_17 rfl ?_
      refine ⟨?_, rfl⟩
      simp only [xs_over, h1, h9, if_true, if_false]
    · refine xf_iconst hX 13 rfl (1) xnd_ST_isOver_12 (by decide) ?_
      refine xf_goto hX 17 xnd_ST_isOver_13 (by decide) ?_
      refine xf_zret hX hE xnd_ST_isOver_17 rfl ?_
      refine ⟨?_, rfl⟩
      simp only [xs_over, h1, h9, if_true, if_false]

set_option maxRecDepth 100000 in
set_option maxHeartbeats 4000000 in
theorem xc_findIn (P : xw_T) (σ τ : xf_T) (b key : Int32) (ho : xs_okP (xw_n P) (xw_w P) σ) (hb : ∃ j, j < 8 ∧ b = nI j) : xf_F (xw_l P) xny_ST_findIn xnc_ST_findIn 5 (some .int) 0 0 (xw_W P) (xw_D P) (xw_ty P) [.ref (xw_a P 2), .int b, .int key] (σ, τ) (some (.int (xs_findIn (xw_w P) σ b key))) (σ, τ) := by
  refine xf_start (own := xnR_ST) [some (.ref (xw_a P 2)), some (.int b), some (.int key), none, none] rfl (by decide) (Nat.le_of_ble_eq_true rfl) rfl (xf_cat rfl) ?_
  intro X hX hE
  obtain ⟨j, hj, rfl⟩ := hb
  have hw := ho.2
  have h8 := xr_bkb (w := (xw_w P)) hj
  have e1 : nI (xw_w P) * (nI j + 1) = nI ((xw_w P) * j + (xw_w P)) := by rw [nI_1, pk_mul, Nat.mul_succ]
  have e2 : nI (xw_w P) * nI j = nI ((xw_w P) * j) := pk_mul _ _
  have eR : xs_findIn (xw_w P) σ (nI j) key = xs_fi (σ.2 5) (σ.2 6) key (xw_w P) ((xw_w P) * j) := by unfold xs_findIn; rw [nI_clamp (by omega)]
  rw [eR] at hE
  generalize hRR : xs_fi (σ.2 5) (σ.2 6) key (xw_w P) ((xw_w P) * j) = RR at hE
  have loop : ∀ r p, r + p = (xw_w P) * j + (xw_w P) → (xw_w P) * j ≤ p → xs_fi (σ.2 5) (σ.2 6) key r p = RR → xf_V X 17 [some (.ref (xw_a P 2)), some (.int (nI j)), some (.int key), some (.int (nI ((xw_w P) * j + (xw_w P)))), some (.int (nI p))] [] (σ, τ) := by
    intro r
    induction r with
    | zero =>
      intro p hp hp2 hR
      refine xf_iload hX 19 rfl xnd_ST_findIn_17 rfl ?_
      refine xf_iload_n hX 20 rfl 3 xnd_ST_findIn_19 rfl rfl ?_
      refine xf_icmp_ge hX 23 rfl 59 xnd_ST_findIn_20 (by decide) (fun _ => ?_) (fun h20 => absurd (nI_le (by omega) (by omega)) h20)
      refine xf_iconst hX 60 rfl (-1) xnd_ST_findIn_59 (by decide) ?_
      refine xf_iret hX hE xnd_ST_findIn_60 ?_
      exact ⟨by rw [← hR]; rfl, rfl⟩
    | succ r ih =>
      intro p hp hp2 hR
      refine xf_iload hX 19 rfl xnd_ST_findIn_17 rfl ?_
      refine xf_iload_n hX 20 rfl 3 xnd_ST_findIn_19 rfl rfl ?_
      refine xf_icmp_ge hX 23 rfl 59 xnd_ST_findIn_20 (by decide) (fun h20 => absurd h20 (nI_ge (by omega) (by omega))) (fun _ => ?_)
      refine xf_aload_n hX 24 rfl 0 xnd_ST_findIn_23 rfl rfl ?_
      refine xg_ST_places hX 27 rfl xk_ST_22 xnd_ST_findIn_24 ?_
      refine xf_iload hX 29 rfl xnd_ST_findIn_27 rfl ?_
      refine xaX_iaload hX 30 rfl rfl (show vp_in _ (8 * xw_w P) from vp_in_nI (by omega) (by omega)) xnd_ST_findIn_29 ?_
      rw [nI_clamp (by omega)]
      refine xf_iconst hX 31 rfl (-1) xnd_ST_findIn_30 (by decide) ?_
      refine xf_icmp_eq hX 34 rfl 53 xnd_ST_findIn_31 (by decide) (fun h31 => ?_) (fun h31 => ?_)
      · refine xf_iinc hX 56 rfl (nI (p + 1)) xnd_ST_findIn_53 rfl (by rw [nI_succ]; rfl) (by decide) ?_
        dsimp only [List.set]
        refine xf_goto hX 17 xnd_ST_findIn_56 (by decide) ?_
        refine ih (p + 1) (by omega) (by omega) ?_
        rw [← hR, xs_fi]
        simp only [eq_true h31, if_true, if_false]
      · refine xf_aload_n hX 35 rfl 0 xnd_ST_findIn_34 rfl rfl ?_
        refine xg_ST_keys hX 38 rfl xk_ST_32 xnd_ST_findIn_35 ?_
        refine xf_aload_n hX 39 rfl 0 xnd_ST_findIn_38 rfl rfl ?_
        refine xg_ST_places hX 42 rfl xk_ST_22 xnd_ST_findIn_39 ?_
        refine xf_iload hX 44 rfl xnd_ST_findIn_42 rfl ?_
        refine xaX_iaload hX 45 rfl rfl (show vp_in _ (8 * xw_w P) from vp_in_nI (by omega) (by omega)) xnd_ST_findIn_44 ?_
        rw [nI_clamp (by omega)]
        refine xaX_iaload hX 46 rfl rfl (ho.in (by omega) h31) xnd_ST_findIn_45 ?_
        refine xf_iload_n hX 47 rfl 2 xnd_ST_findIn_46 rfl rfl ?_
        refine xf_icmp_ne hX 50 rfl 53 xnd_ST_findIn_47 (by decide) (fun h47 => ?_) (fun h47 => ?_)
        · refine xf_iinc hX 56 rfl (nI (p + 1)) xnd_ST_findIn_53 rfl (by rw [nI_succ]; rfl) (by decide) ?_
          dsimp only [List.set]
          refine xf_goto hX 17 xnd_ST_findIn_56 (by decide) ?_
          refine ih (p + 1) (by omega) (by omega) ?_
          rw [← hR, xs_fi]
          simp only [h31, h47, if_true, if_false]
        · refine xf_iload hX 52 rfl xnd_ST_findIn_50 rfl ?_
          refine xf_iret hX hE xnd_ST_findIn_52 ?_
          refine ⟨?_, rfl⟩
          rw [← hR, xs_fi]
          simp only [h31, eq_true h47, if_true, if_false]
  refine xf_aload_n hX 1 rfl 0 xnd_ST_findIn_0 rfl rfl ?_
  refine xg_ST_ways hX 4 rfl xk_ST_19 xnd_ST_findIn_1 ?_
  refine xf_iload_n hX 5 rfl 1 xnd_ST_findIn_4 rfl rfl ?_
  refine xf_iconst hX 6 rfl (1) xnd_ST_findIn_5 (by decide) ?_
  refine xf_iadd hX 7 rfl xnd_ST_findIn_6 ?_
  refine xf_imul hX 8 rfl xnd_ST_findIn_7 ?_
  refine xf_istore_n hX 9 rfl 3 xnd_ST_findIn_8 rfl (by decide) ?_
  dsimp only [List.set]
  refine xf_aload_n hX 10 rfl 0 xnd_ST_findIn_9 rfl rfl ?_
  refine xg_ST_ways hX 13 rfl xk_ST_19 xnd_ST_findIn_10 ?_
  refine xf_iload_n hX 14 rfl 1 xnd_ST_findIn_13 rfl rfl ?_
  refine xf_imul hX 15 rfl xnd_ST_findIn_14 ?_
  refine xf_istore hX 17 rfl xnd_ST_findIn_15 (by decide) ?_
  dsimp only [List.set]
  rw [e1, e2]
  exact loop (xw_w P) ((xw_w P) * j) (by omega) (by omega) hRR

set_option maxRecDepth 100000 in
set_option maxHeartbeats 4000000 in
theorem xc_find (P : xw_T) (σ τ : xf_T) (key : Int32) (ho : xs_okP (xw_n P) (xw_w P) σ) : xf_F (xw_l P) xny_ST_find xnc_ST_find 3 (some .int) 4 81 (xw_W P) (xw_D P) (xw_ty P) [.ref (xw_a P 2), .int key] (σ, τ) (some (.int (xs_find (xw_w P) σ key))) (σ, τ) := by
  refine xf_start (own := xnR_ST) [some (.ref (xw_a P 2)), some (.int key), none] rfl (by decide) (Nat.le_of_ble_eq_true rfl) rfl (xf_cat rfl) ?_
  intro X hX hE
  refine xf_aload_n hX 1 rfl 0 xnd_ST_find_0 rfl rfl ?_
  refine xf_iload_n hX 2 rfl 1 xnd_ST_find_1 rfl rfl ?_
  refine xf_T1i hX 5 rfl (xc_firstBucket P _ _ _) xq_SC_firstBucket xk_ST_60 rfl rfl xnd_ST_find_2 ?_
  refine xf_iload_n hX 6 rfl 1 xnd_ST_find_5 rfl rfl ?_
  refine xf_V2i hX 9 rfl (xc_findIn P _ _ _ _ ho (xs_b1_is _)) xq_ST_findIn xk_ST_64 xrX_ST rfl rfl xnd_ST_find_6 ?_
  refine xf_istore_n hX 10 rfl 2 xnd_ST_find_9 rfl (by decide) ?_
  dsimp only [List.set]
  refine xf_iload_n hX 11 rfl 2 xnd_ST_find_10 rfl rfl ?_
  refine xf_iconst hX 12 rfl (-1) xnd_ST_find_11 (by decide) ?_
  refine xf_icmp_eq hX 15 rfl 19 xnd_ST_find_12 (by decide) (fun h12 => ?_) (fun h12 => ?_)
  · refine xf_aload_n hX 20 rfl 0 xnd_ST_find_19 rfl rfl ?_
    refine xf_iload_n hX 21 rfl 1 xnd_ST_find_20 rfl rfl ?_
    refine xf_T1i hX 24 rfl (xc_secondBucket P _ _ _) xq_SC_secondBucket xk_ST_68 rfl rfl xnd_ST_find_21 ?_
    refine xf_iload_n hX 25 rfl 1 xnd_ST_find_24 rfl rfl ?_
    refine xf_V2i hX 28 rfl (xc_findIn P _ _ _ _ ho (xs_b2_is _)) xq_ST_findIn xk_ST_64 xrX_ST rfl rfl xnd_ST_find_25 ?_
    refine xf_iret hX hE xnd_ST_find_28 ?_
    refine ⟨?_, rfl⟩
    simp only [xs_find, eq_true h12, if_true, if_false]
  · refine xf_iload_n hX 16 rfl 2 xnd_ST_find_15 rfl rfl ?_
    refine xf_goto hX 28 xnd_ST_find_16 (by decide) ?_
    refine xf_iret hX hE xnd_ST_find_28 ?_
    refine ⟨?_, rfl⟩
    simp only [xs_find, h12, if_true, if_false]

set_option maxRecDepth 100000 in
set_option maxHeartbeats 4000000 in
theorem xc_versionFor (P : xw_T) (σ τ : xf_T) (key : Int32) : xf_F (xw_l P) xny_ST_versionFor xnc_ST_versionFor 2 (some .int) 2 40 (xw_W P) (xw_D P) (xw_ty P) [.ref (xw_a P 2), .int key] (σ, τ) (some (.int (xs_ver σ key))) (σ, τ) := by
  refine xf_start (own := xnR_ST) [some (.ref (xw_a P 2)), some (.int key)] rfl (by decide) (Nat.le_of_ble_eq_true rfl) rfl (xf_cat rfl) ?_
  intro X hX hE
  refine xf_aload_n hX 1 rfl 0 xnd_ST_versionFor_0 rfl rfl ?_
  refine xg_ST_versions hX 4 rfl xk_ST_51 xnd_ST_versionFor_1 ?_
  refine xf_iload_n hX 5 rfl 1 xnd_ST_versionFor_4 rfl rfl ?_
  refine xf_T1i hX 8 rfl (xc_stripeOf P _ _ _) xq_SC_stripeOf xk_ST_82 rfl rfl xnd_ST_versionFor_5 ?_
  refine xaX_iaload hX 9 rfl rfl (xs_str_in _) xnd_ST_versionFor_8 ?_
  refine xf_iret hX hE xnd_ST_versionFor_9 ?_
  exact ⟨rfl, rfl⟩

set_option maxRecDepth 100000 in
set_option maxHeartbeats 4000000 in
theorem xc_grow (P : xw_T) (σ τ : xf_T) (key d : Int32) : xf_F (xw_l P) xny_ST_growVersion xnc_ST_growVersion 3 none 2 40 (xw_W P) (xw_D P) (xw_ty P) [.ref (xw_a P 2), .int key, .int d] (σ, τ) none (xs_grow σ key d, τ) := by
  refine xf_start (own := xnR_ST) [some (.ref (xw_a P 2)), some (.int key), some (.int d)] rfl (by decide) (Nat.le_of_ble_eq_true rfl) rfl (xf_cat rfl) ?_
  intro X hX hE
  refine xf_aload_n hX 1 rfl 0 xnd_ST_growVersion_0 rfl rfl ?_
  refine xg_ST_versions hX 4 rfl xk_ST_51 xnd_ST_growVersion_1 ?_
  refine xf_iload_n hX 5 rfl 1 xnd_ST_growVersion_4 rfl rfl ?_
  refine xf_T1i hX 8 rfl (xc_stripeOf P _ _ _) xq_SC_stripeOf xk_ST_82 rfl rfl xnd_ST_growVersion_5 ?_
  refine xf_dup2 hX 9 rfl xnd_ST_growVersion_8 rfl rfl ?_
  refine xaX_iaload hX 10 rfl rfl (xs_str_in _) xnd_ST_growVersion_9 ?_
  refine xf_iload_n hX 11 rfl 2 xnd_ST_growVersion_10 rfl rfl ?_
  refine xf_iadd hX 12 rfl xnd_ST_growVersion_11 ?_
  refine xaX_iastore hX 13 rfl rfl (xs_str_in _) xnd_ST_growVersion_12 ?_
  refine xf_vret hX hE xnd_ST_growVersion_13 ?_
  exact ⟨rfl, rfl⟩

set_option maxRecDepth 100000 in
set_option maxHeartbeats 4000000 in
theorem xc_renew (P : xw_T) (σ τ : xf_T) (i life : Int32) (hi : vp_in i (xw_n P)) : xf_F (xw_l P) xny_ST_renew xnc_ST_renew 3 none 0 0 (xw_W P) (xw_D P) (xw_ty P) [.ref (xw_a P 2), .int i, .int life] (σ, τ) none (xs_renew σ i life, τ) := by
  refine xf_start (own := xnR_ST) [some (.ref (xw_a P 2)), some (.int i), some (.int life)] rfl (by decide) (Nat.le_of_ble_eq_true rfl) rfl (xf_cat rfl) ?_
  intro X hX hE
  refine xf_aload_n hX 1 rfl 0 xnd_ST_renew_0 rfl rfl ?_
  refine xf_dup hX 2 rfl xnd_ST_renew_1 rfl ?_
  refine xg_ST_latestToken hX 5 rfl xk_ST_89 xnd_ST_renew_2 ?_
  refine xf_iconst hX 6 rfl (1) xnd_ST_renew_5 (by decide) ?_
  refine xf_iadd hX 7 rfl xnd_ST_renew_6 ?_
  refine xp_ST_latestToken hX 10 rfl xk_ST_89 xnd_ST_renew_7 ?_
  refine xf_aload_n hX 11 rfl 0 xnd_ST_renew_10 rfl rfl ?_
  refine xg_ST_tokens hX 14 rfl xk_ST_38 xnd_ST_renew_11 ?_
  refine xf_iload_n hX 15 rfl 1 xnd_ST_renew_14 rfl rfl ?_
  refine xf_aload_n hX 16 rfl 0 xnd_ST_renew_15 rfl rfl ?_
  refine xg_ST_latestToken hX 19 rfl xk_ST_89 xnd_ST_renew_16 ?_
  refine xaX_iastore hX 20 rfl rfl hi xnd_ST_renew_19 ?_
  refine xf_aload_n hX 21 rfl 0 xnd_ST_renew_20 rfl rfl ?_
  refine xg_ST_expiries hX 24 rfl xk_ST_41 xnd_ST_renew_21 ?_
  refine xf_iload_n hX 25 rfl 1 xnd_ST_renew_24 rfl rfl ?_
  refine xf_iload_n hX 26 rfl 2 xnd_ST_renew_25 rfl rfl ?_
  refine xf_if_ne hX 29 rfl 33 xnd_ST_renew_26 (by decide) (fun h26 => ?_) (fun h26 => ?_)
  · refine xf_aload_n hX 34 rfl 0 xnd_ST_renew_33 rfl rfl ?_
    refine xg_ST_time hX 37 rfl xk_ST_57 xnd_ST_renew_34 ?_
    refine xf_iload_n hX 38 rfl 2 xnd_ST_renew_37 rfl rfl ?_
    refine xf_iadd hX 39 rfl xnd_ST_renew_38 ?_
    refine xaX_iastore hX 40 rfl rfl hi xnd_ST_renew_39 ?_
    refine xf_vret hX hE xnd_ST_renew_40 ?_
    refine ⟨rfl, ?_⟩
    simp only [xs_renew, h26, if_true, if_false]
    rfl
  · refine xf_iconst hX 30 rfl (0) xnd_ST_renew_29 (by decide) ?_
    refine xf_goto hX 39 xnd_ST_renew_30 (by decide) ?_
    refine xaX_iastore hX 40 rfl rfl hi xnd_ST_renew_39 ?_
    refine xf_vret hX hE xnd_ST_renew_40 ?_
    refine ⟨rfl, ?_⟩
    simp only [xs_renew, eq_true h26, if_true, if_false]
    rfl

