/-! Contracts of the reference: numbers, looks, items. Laid by wip/gen/model1.py. -/
def xm_okP (n w : Nat) (τ : xf_T) : Prop := (∀ p, p < 8 * w → τ.2 1 p = 0 ∨ ∃ i, i < n ∧ τ.2 1 p = nI (i + 1)) ∧ 1 ≤ n ∧ n ≤ 32 ∧ 1 ≤ w ∧ w ≤ 4
theorem xm_okP.in {n w : Nat} {τ : xf_T} (h : xm_okP n w τ) {p : Nat} (hp : p < 8 * w) (hn : ¬ τ.2 1 p = 0) : vp_in (τ.2 1 p - 1) 32 := by
  have hw := h.2
  rcases h.1 p hp with g | ⟨i, g1, g2⟩
  · exact absurd g hn
  · rw [g2, nI_pred]
    exact vp_in_nI (by omega) (by omega)
theorem xm_okP.ne {n w : Nat} {τ : xf_T} (h : xm_okP n w τ) {p : Nat} (hp : p < 8 * w) : (τ.2 1 p - 1 < 0 ↔ τ.2 1 p = 0) ∧ (τ.2 1 p ≤ 0 ↔ τ.2 1 p = 0) := by
  have hw := h.2
  rcases h.1 p hp with g | ⟨i, g1, g2⟩
  · rw [g]; exact ⟨⟨fun _ => rfl, fun _ => by decide⟩, ⟨fun _ => rfl, fun _ => by decide⟩⟩
  · rw [g2, nI_pred]
    exact ⟨⟨fun z => absurd z (nI_pos (by omega)), fun z => absurd z (nI_ne0 (by omega) (by omega))⟩, ⟨fun z => absurd z (nI_nle (by omega) (by omega)), fun z => absurd z (nI_ne0 (by omega) (by omega))⟩⟩
theorem xm_okP.cg {n w : Nat} {τ τ' : xf_T} (h : xm_okP n w τ) (e : τ'.2 1 = τ.2 1) : xm_okP n w τ' := by
  unfold xm_okP
  rw [e]
  exact h
theorem xm_bk_is (k c : Int32) : ∃ j, j < 8 ∧ xm_bk k c = nI j := by
  unfold xm_bk
  split
  · exact xs_b1_is k
  · exact xs_b2_is k
theorem xm_rmf_0 (hd : Nat → Int32) (i : Int32) : xm_rmf 0 hd i = hd := by
  funext p
  rw [xm_rmf, if_neg (by omega)]
theorem xm_rmf_s (hd : Nat → Int32) (i : Int32) (k : Nat) : upd (xm_rmf k hd i) k (if hd k = i + 1 then 0 else hd k) = xm_rmf (k + 1) hd i := by
  funext p
  by_cases h2 : p = k
  · subst h2
    rw [pk_us, xm_rmf, if_pos (show p < p + 1 by omega)]
  · rw [pk_un h2, xm_rmf, xm_rmf]
    by_cases h1 : p < k
    · rw [if_pos h1, if_pos (show p < k + 1 by omega)]
    · rw [if_neg h1, if_neg (show ¬ p < k + 1 by omega)]
theorem xm_rmf_at (hd : Nat → Int32) (i : Int32) (k : Nat) : xm_rmf k hd i k = hd k := by rw [xm_rmf, if_neg (by omega)]
theorem xm_si_is (hd ky : Nat → Int32) (key : Int32) : ∀ (r p : Nat), xm_si hd ky key r p = -1 ∨ ∃ q, p ≤ q ∧ q < p + r ∧ xm_si hd ky key r p = nI q
  | 0, p => Or.inl rfl
  | r + 1, p => by
    rw [xm_si]
    split
    · rcases xm_si_is hd ky key r (p + 1) with h | ⟨q, a, b, c⟩
      · exact Or.inl h
      · exact Or.inr ⟨q, by omega, by omega, c⟩
    · split
      · exact Or.inr ⟨p, by omega, by omega, rfl⟩
      · rcases xm_si_is hd ky key r (p + 1) with h | ⟨q, a, b, c⟩
        · exact Or.inl h
        · exact Or.inr ⟨q, by omega, by omega, c⟩
set_option maxRecDepth 100000 in
set_option maxHeartbeats 4000000 in
theorem xm_cmix (P : xw_T) (σ τ : xf_T) (k : Int32) : xf_F (xw_l P) xny_MO_mix xnc_MO_mix 1 (some .int) 0 0 (xw_W P) (xw_D P) (xw_ty P) [.int k] (σ, τ) (some (.int (xs_mix k))) (σ, τ) := by
  refine xf_start (own := xnR_MO) [some (.int k)] rfl (by decide) (Nat.le_of_ble_eq_true rfl) rfl (xf_cat rfl) ?_
  intro X hX hE
  refine xf_iload_n hX 1 rfl 0 xnd_MO_mix_0 rfl rfl ?_
  refine xf_iload_n hX 2 rfl 0 xnd_MO_mix_1 rfl rfl ?_
  refine xf_bipush hX 4 rfl (15) xnd_MO_mix_2 (by decide) ?_
  refine xf_iushr hX 5 rfl xnd_MO_mix_4 ?_
  refine xf_ixor hX 6 rfl xnd_MO_mix_5 ?_
  refine xf_ldc hX 8 rfl xkc_MO_72 xnd_MO_mix_6 ?_
  refine xf_imul hX 9 rfl xnd_MO_mix_8 ?_
  refine xf_iret hX hE xnd_MO_mix_9 ?_
  exact ⟨rfl, rfl⟩

set_option maxRecDepth 100000 in
set_option maxHeartbeats 4000000 in
theorem xm_ctag (P : xw_T) (σ τ : xf_T) (k : Int32) : xf_F (xw_l P) xny_MO_tag xnc_MO_tag 1 (some .int) 1 20 (xw_W P) (xw_D P) (xw_ty P) [.int k] (σ, τ) (some (.int (xs_tag k))) (σ, τ) := by
  refine xf_start (own := xnR_MO) [some (.int k)] rfl (by decide) (Nat.le_of_ble_eq_true rfl) rfl (xf_cat rfl) ?_
  intro X hX hE
  refine xf_iload_n hX 1 rfl 0 xnd_MO_tag_0 rfl rfl ?_
  refine xf_S1i hX 4 rfl (xm_cmix P _ _ _) xq_MO_mix xk_MO_73 rfl rfl xnd_MO_tag_1 ?_
  refine xf_bipush hX 6 rfl (28) xnd_MO_tag_4 (by decide) ?_
  refine xf_iushr hX 7 rfl xnd_MO_tag_6 ?_
  refine xf_iret hX hE xnd_MO_tag_7 ?_
  exact ⟨rfl, rfl⟩

set_option maxRecDepth 100000 in
set_option maxHeartbeats 4000000 in
theorem xm_cstr (P : xw_T) (σ τ : xf_T) (k : Int32) : xf_F (xw_l P) xny_MO_stripe xnc_MO_stripe 1 (some .int) 1 20 (xw_W P) (xw_D P) (xw_ty P) [.int k] (σ, τ) (some (.int (xs_str k))) (σ, τ) := by
  refine xf_start (own := xnR_MO) [some (.int k)] rfl (by decide) (Nat.le_of_ble_eq_true rfl) rfl (xf_cat rfl) ?_
  intro X hX hE
  refine xf_iload_n hX 1 rfl 0 xnd_MO_stripe_0 rfl rfl ?_
  refine xf_S1i hX 4 rfl (xm_cmix P _ _ _) xq_MO_mix xk_MO_73 rfl rfl xnd_MO_stripe_1 ?_
  refine xf_bipush hX 6 rfl (23) xnd_MO_stripe_4 (by decide) ?_
  refine xf_iushr hX 7 rfl xnd_MO_stripe_6 ?_
  refine xf_iconst hX 8 rfl (3) xnd_MO_stripe_7 (by decide) ?_
  refine xf_iand hX 9 rfl xnd_MO_stripe_8 ?_
  refine xf_iret hX hE xnd_MO_stripe_9 ?_
  exact ⟨rfl, rfl⟩

set_option maxRecDepth 100000 in
set_option maxHeartbeats 4000000 in
theorem xm_cbk (P : xw_T) (σ τ : xf_T) (k c : Int32) : xf_F (xw_l P) xny_MO_bucket xnc_MO_bucket 3 (some .int) 2 40 (xw_W P) (xw_D P) (xw_ty P) [.int k, .int c] (σ, τ) (some (.int (xm_bk k c))) (σ, τ) := by
  refine xf_start (own := xnR_MO) [some (.int k), some (.int c), none] rfl (by decide) (Nat.le_of_ble_eq_true rfl) rfl (xf_cat rfl) ?_
  intro X hX hE
  refine xf_iload_n hX 1 rfl 0 xnd_MO_bucket_0 rfl rfl ?_
  refine xf_S1i hX 4 rfl (xm_cmix P _ _ _) xq_MO_mix xk_MO_73 rfl rfl xnd_MO_bucket_1 ?_
  refine xf_bipush hX 6 rfl (25) xnd_MO_bucket_4 (by decide) ?_
  refine xf_iushr hX 7 rfl xnd_MO_bucket_6 ?_
  refine xf_bipush hX 9 rfl (7) xnd_MO_bucket_7 (by decide) ?_
  refine xf_iand hX 10 rfl xnd_MO_bucket_9 ?_
  refine xf_istore_n hX 11 rfl 2 xnd_MO_bucket_10 rfl (by decide) ?_
  dsimp only [List.set]
  refine xf_iload_n hX 12 rfl 1 xnd_MO_bucket_11 rfl rfl ?_
  refine xf_if_ne hX 15 rfl 19 xnd_MO_bucket_12 (by decide) (fun h12 => ?_) (fun h12 => ?_)
  · refine xf_iload_n hX 20 rfl 2 xnd_MO_bucket_19 rfl rfl ?_
    refine xf_iconst hX 21 rfl (1) xnd_MO_bucket_20 (by decide) ?_
    refine xf_iload_n hX 22 rfl 0 xnd_MO_bucket_21 rfl rfl ?_
    refine xf_S1i hX 25 rfl (xm_ctag P _ _ _) xq_MO_tag xk_MO_77 rfl rfl xnd_MO_bucket_22 ?_
    refine xf_bipush hX 27 rfl (7) xnd_MO_bucket_25 (by decide) ?_
    refine xf_irem hX 28 rfl xnd_MO_bucket_27 (by decide) ?_
    refine xf_iadd hX 29 rfl xnd_MO_bucket_28 ?_
    refine xf_ixor hX 30 rfl xnd_MO_bucket_29 ?_
    refine xf_iret hX hE xnd_MO_bucket_30 ?_
    refine ⟨?_, rfl⟩
    simp only [xm_bk, h12, if_true, if_false]
    try rfl
  · refine xf_iload_n hX 16 rfl 2 xnd_MO_bucket_15 rfl rfl ?_
    refine xf_goto hX 30 xnd_MO_bucket_16 (by decide) ?_
    refine xf_iret hX hE xnd_MO_bucket_30 ?_
    refine ⟨?_, rfl⟩
    simp only [xm_bk, eq_true h12, if_true, if_false]
    try rfl

theorem xm_bk0 (k : Int32) : xm_bk k 0 = xs_b1 k := by unfold xm_bk; rw [if_pos rfl]
theorem xm_bk1 (k : Int32) : xm_bk k 1 = xs_b2 k := by unfold xm_bk; rw [if_neg (by decide)]
set_option maxRecDepth 100000 in
set_option maxHeartbeats 4000000 in
theorem xm_chash (P : xw_T) (σ τ : xf_T) (k : Int32) : xf_F (xw_l P) xny_MO_hash xnc_MO_hash 2 (some .int) 3 62 (xw_W P) (xw_D P) (xw_ty P) [.ref (xw_a P 100), .int k] (σ, τ) (some (.int (xs_hash k))) (σ, τ) := by
  refine xf_start (own := xnR_MO) [some (.ref (xw_a P 100)), some (.int k)] rfl (by decide) (Nat.le_of_ble_eq_true rfl) rfl (xf_cat rfl) ?_
  intro X hX hE
  refine xf_iload_n hX 1 rfl 1 xnd_MO_hash_0 rfl rfl ?_
  refine xf_iconst hX 2 rfl (0) xnd_MO_hash_1 (by decide) ?_
  refine xf_S2i hX 5 rfl (xm_cbk P _ _ _ _) xq_MO_bucket xk_MO_80 rfl rfl xnd_MO_hash_2 ?_
  refine xf_bipush hX 7 rfl (8) xnd_MO_hash_5 (by decide) ?_
  refine xf_iload_n hX 8 rfl 1 xnd_MO_hash_7 rfl rfl ?_
  refine xf_iconst hX 9 rfl (1) xnd_MO_hash_8 (by decide) ?_
  refine xf_S2i hX 12 rfl (xm_cbk P _ _ _ _) xq_MO_bucket xk_MO_80 rfl rfl xnd_MO_hash_9 ?_
  refine xf_imul hX 13 rfl xnd_MO_hash_12 ?_
  refine xf_iadd hX 14 rfl xnd_MO_hash_13 ?_
  refine xf_bipush hX 16 rfl (64) xnd_MO_hash_14 (by decide) ?_
  refine xf_iload_n hX 17 rfl 1 xnd_MO_hash_16 rfl rfl ?_
  refine xf_S1i hX 20 rfl (xm_ctag P _ _ _) xq_MO_tag xk_MO_77 rfl rfl xnd_MO_hash_17 ?_
  refine xf_imul hX 21 rfl xnd_MO_hash_20 ?_
  refine xf_iadd hX 22 rfl xnd_MO_hash_21 ?_
  refine xf_sipush hX 25 rfl (1024) xnd_MO_hash_22 (by decide) ?_
  refine xf_iload_n hX 26 rfl 1 xnd_MO_hash_25 rfl rfl ?_
  refine xf_S1i hX 29 rfl (xm_cstr P _ _ _) xq_MO_stripe xk_MO_84 rfl rfl xnd_MO_hash_26 ?_
  refine xf_imul hX 30 rfl xnd_MO_hash_29 ?_
  refine xf_iadd hX 31 rfl xnd_MO_hash_30 ?_
  refine xf_iret hX hE xnd_MO_hash_31 ?_
  refine ⟨?_, rfl⟩
  rw [xm_bk0, xm_bk1]
  rfl

set_option maxRecDepth 100000 in
set_option maxHeartbeats 4000000 in
theorem xm_cover (P : xw_T) (σ τ : xf_T) (e : Int32) : xf_F (xw_l P) xny_MO_over xnc_MO_over 2 (some .boolean) 0 0 (xw_W P) (xw_D P) (xw_ty P) [.ref (xw_a P 100), .int e] (σ, τ) (some (.int (xm_over τ e))) (σ, τ) := by
  refine xf_start (own := xnR_MO) [some (.ref (xw_a P 100)), some (.int e)] rfl (by decide) (Nat.le_of_ble_eq_true rfl) rfl (xf_cat rfl) ?_
  intro X hX hE
  refine xf_iload_n hX 1 rfl 1 xnd_MO_over_0 rfl rfl ?_
  refine xf_if_eq hX 4 rfl 16 xnd_MO_over_1 (by decide) (fun h1 => ?_) (fun h1 => ?_)
  · refine xf_iconst hX 17 rfl (0) xnd_MO_over_16 (by decide) ?_
    refine xf_zret hX hE xnd_MO_over_17 rfl ?_
    refine ⟨?_, rfl⟩
    simp only [xm_over, eq_true h1, if_true, if_false]
  · refine xf_iload_n hX 5 rfl 1 xnd_MO_over_4 rfl rfl ?_
    refine xf_aload_n hX 6 rfl 0 xnd_MO_over_5 rfl rfl ?_
    refine xg_MO_time hX 9 rfl xk_MO_96 xnd_MO_over_6 ?_
    refine xf_icmp_gt hX 12 rfl 16 xnd_MO_over_9 (by decide) (fun h9 => ?_) (fun h9 => ?_)
    · refine xf_iconst hX 17 rfl (0) xnd_MO_over_16 (by decide) ?_
      refine xf_zret hX hE xnd_MO_over_17 rfl ?_
      refine ⟨?_, rfl⟩
      simp only [xm_over, h1, h9, if_true, if_false]
    · refine xf_iconst hX 13 rfl (1) xnd_MO_over_12 (by decide) ?_
      refine xf_goto hX 17 xnd_MO_over_13 (by decide) ?_
      refine xf_zret hX hE xnd_MO_over_17 rfl ?_
      refine ⟨?_, rfl⟩
      simp only [xm_over, h1, h9, if_true, if_false]

set_option maxRecDepth 100000 in
set_option maxHeartbeats 4000000 in
theorem xm_cfin (P : xw_T) (σ τ : xf_T) (v : Int32) : xf_F (xw_l P) xny_MO_finish xnc_MO_finish 2 none 0 0 (xw_W P) (xw_D P) (xw_ty P) [.ref (xw_a P 100), .int v] (σ, τ) none (σ, xm_fin τ v) := by
  refine xf_start (own := xnR_MO) [some (.ref (xw_a P 100)), some (.int v)] rfl (by decide) (Nat.le_of_ble_eq_true rfl) rfl (xf_cat rfl) ?_
  intro X hX hE
  refine xf_aload_n hX 1 rfl 0 xnd_MO_finish_0 rfl rfl ?_
  refine xf_iconst hX 2 rfl (0) xnd_MO_finish_1 (by decide) ?_
  refine xp_MO_next hX 5 rfl xk_MO_99 xnd_MO_finish_2 ?_
  refine xf_aload_n hX 6 rfl 0 xnd_MO_finish_5 rfl rfl ?_
  refine xf_iload_n hX 7 rfl 1 xnd_MO_finish_6 rfl rfl ?_
  refine xp_MO_result hX 10 rfl xk_MO_35 xnd_MO_finish_7 ?_
  refine xf_vret hX hE xnd_MO_finish_10 ?_
  exact ⟨rfl, rfl⟩

set_option maxRecDepth 100000 in
set_option maxHeartbeats 4000000 in
theorem xm_csea (P : xw_T) (σ τ : xf_T) (key c : Int32) (ho : xm_okP (xw_n P) (xw_w P) τ) : xf_F (xw_l P) xny_MO_search xnc_MO_search 6 (some .int) 3 62 (xw_W P) (xw_D P) (xw_ty P) [.ref (xw_a P 100), .int key, .int c] (σ, τ) (some (.int (xm_sea (xw_w P) τ key c))) (σ, τ) := by
  refine xf_start (own := xnR_MO) [some (.ref (xw_a P 100)), some (.int key), some (.int c), none, none, none] rfl (by decide) (Nat.le_of_ble_eq_true rfl) rfl (xf_cat rfl) ?_
  intro X hX hE
  have hw := ho.2
  obtain ⟨j, hj, eb⟩ := xm_bk_is key c
  have h8 := xr_bkb (w := (xw_w P)) hj
  have eR : xm_sea (xw_w P) τ key c = xm_si (τ.2 1) (τ.2 3) key (xw_w P) ((xw_w P) * j) := by unfold xm_sea; rw [eb, nI_clamp (by omega)]
  rw [eR] at hE
  generalize hRR : xm_si (τ.2 1) (τ.2 3) key (xw_w P) ((xw_w P) * j) = RR at hE
  have loop : ∀ r s x5, r + s = (xw_w P) → xm_si (τ.2 1) (τ.2 3) key r ((xw_w P) * j + s) = RR → xf_V X 9 [some (.ref (xw_a P 100)), some (.int key), some (.int c), some (.int (nI j)), some (.int (nI s)), x5] [] (σ, τ) := by
    intro r
    induction r with
    | zero =>
      intro s x5 hs hR
      refine xf_iload hX 11 rfl xnd_MO_search_9 rfl ?_
      refine xf_aload_n hX 12 rfl 0 xnd_MO_search_11 rfl rfl ?_
      refine xg_MO_ways hX 15 rfl xk_MO_69 xnd_MO_search_12 ?_
      refine xf_icmp_ge hX 18 rfl 68 xnd_MO_search_15 (by decide) (fun _ => ?_) (fun h15 => absurd (nI_le (by omega) (by omega)) h15)
      refine xf_iconst hX 69 rfl (-1) xnd_MO_search_68 (by decide) ?_
      refine xf_iret hX hE xnd_MO_search_69 ?_
      exact ⟨by rw [← hR]; rfl, rfl⟩
    | succ r ih =>
      intro s x5 hs hR
      refine xf_iload hX 11 rfl xnd_MO_search_9 rfl ?_
      refine xf_aload_n hX 12 rfl 0 xnd_MO_search_11 rfl rfl ?_
      refine xg_MO_ways hX 15 rfl xk_MO_69 xnd_MO_search_12 ?_
      refine xf_icmp_ge hX 18 rfl 68 xnd_MO_search_15 (by decide) (fun h15 => absurd h15 (nI_ge (by omega) (by omega))) (fun _ => ?_)
      refine xf_aload_n hX 19 rfl 0 xnd_MO_search_18 rfl rfl ?_
      refine xg_MO_held hX 22 rfl xk_MO_7 xnd_MO_search_19 ?_
      refine xf_aload_n hX 23 rfl 0 xnd_MO_search_22 rfl rfl ?_
      refine xg_MO_ways hX 26 rfl xk_MO_69 xnd_MO_search_23 ?_
      refine xf_iload_n hX 27 rfl 3 xnd_MO_search_26 rfl rfl ?_
      refine xf_imul hX 28 rfl xnd_MO_search_27 ?_
      refine xf_iload hX 30 rfl xnd_MO_search_28 rfl ?_
      refine xf_iadd hX 31 rfl xnd_MO_search_30 ?_
      rw [pk_mul, nI_add]
      refine xaM_iaload hX 32 rfl rfl (show vp_in _ 32 from vp_in_nI (by omega) (by omega)) xnd_MO_search_31 ?_
      rw [nI_clamp (by omega)]
      refine xf_iconst hX 33 rfl (1) xnd_MO_search_32 (by decide) ?_
      refine xf_isub hX 34 rfl xnd_MO_search_33 ?_
      refine xf_istore hX 36 rfl xnd_MO_search_34 (by decide) ?_
      dsimp only [List.set]
      refine xf_iload hX 38 rfl xnd_MO_search_36 rfl ?_
      refine xf_if_lt hX 41 rfl 62 xnd_MO_search_38 (by decide) (fun h38 => ?_) (fun h38 => ?_)
      · refine xf_iinc hX 65 rfl (nI (s + 1)) xnd_MO_search_62 rfl (by rw [nI_succ]; rfl) (by decide) ?_
        dsimp only [List.set]
        refine xf_goto hX 9 xnd_MO_search_65 (by decide) ?_
        refine ih (s + 1) _ (by omega) ?_
        rw [← hR, xm_si]
        simp only [h38, if_true, if_false, Nat.add_assoc]
      · refine xf_aload_n hX 42 rfl 0 xnd_MO_search_41 rfl rfl ?_
        refine xg_MO_keys hX 45 rfl xk_MO_17 xnd_MO_search_42 ?_
        refine xf_iload hX 47 rfl xnd_MO_search_45 rfl ?_
        refine xaM_iaload hX 48 rfl rfl (ho.in (p := (xw_w P) * j + s) (by omega) (fun z => h38 ((ho.ne (by omega)).1.mpr z))) xnd_MO_search_47 ?_
        refine xf_iload_n hX 49 rfl 1 xnd_MO_search_48 rfl rfl ?_
        refine xf_icmp_ne hX 52 rfl 62 xnd_MO_search_49 (by decide) (fun h49 => ?_) (fun h49 => ?_)
        · refine xf_iinc hX 65 rfl (nI (s + 1)) xnd_MO_search_62 rfl (by rw [nI_succ]; rfl) (by decide) ?_
          dsimp only [List.set]
          refine xf_goto hX 9 xnd_MO_search_65 (by decide) ?_
          refine ih (s + 1) _ (by omega) ?_
          rw [← hR, xm_si]
          simp only [h38, h49, if_true, if_false, Nat.add_assoc]
        · refine xf_aload_n hX 53 rfl 0 xnd_MO_search_52 rfl rfl ?_
          refine xg_MO_ways hX 56 rfl xk_MO_69 xnd_MO_search_53 ?_
          refine xf_iload_n hX 57 rfl 3 xnd_MO_search_56 rfl rfl ?_
          refine xf_imul hX 58 rfl xnd_MO_search_57 ?_
          refine xf_iload hX 60 rfl xnd_MO_search_58 rfl ?_
          refine xf_iadd hX 61 rfl xnd_MO_search_60 ?_
          rw [pk_mul, nI_add]
          refine xf_iret hX hE xnd_MO_search_61 ?_
          refine ⟨?_, rfl⟩
          rw [← hR, xm_si]
          simp only [h38, eq_true h49, if_true, if_false]
  refine xf_iload_n hX 1 rfl 1 xnd_MO_search_0 rfl rfl ?_
  refine xf_iload_n hX 2 rfl 2 xnd_MO_search_1 rfl rfl ?_
  refine xf_S2i hX 5 rfl (xm_cbk P _ _ _ _) xq_MO_bucket xk_MO_80 rfl rfl xnd_MO_search_2 ?_
  rw [eb]
  refine xf_istore_n hX 6 rfl 3 xnd_MO_search_5 rfl (by decide) ?_
  dsimp only [List.set]
  refine xf_iconst hX 7 rfl (0) xnd_MO_search_6 (by decide) ?_
  refine xf_istore hX 9 rfl xnd_MO_search_7 (by decide) ?_
  dsimp only [List.set]
  exact loop (xw_w P) 0 _ (by omega) hRR

set_option maxRecDepth 100000 in
set_option maxHeartbeats 4000000 in
theorem xm_cwhe (P : xw_T) (σ τ : xf_T) (key : Int32) (ho : xm_okP (xw_n P) (xw_w P) τ) : xf_F (xw_l P) xny_MO_where xnc_MO_where 3 (some .int) 4 87 (xw_W P) (xw_D P) (xw_ty P) [.ref (xw_a P 100), .int key] (σ, τ) (some (.int (xm_whe (xw_w P) τ key))) (σ, τ) := by
  refine xf_start (own := xnR_MO) [some (.ref (xw_a P 100)), some (.int key), none] rfl (by decide) (Nat.le_of_ble_eq_true rfl) rfl (xf_cat rfl) ?_
  intro X hX hE
  refine xf_aload_n hX 1 rfl 0 xnd_MO_where_0 rfl rfl ?_
  refine xf_iload_n hX 2 rfl 1 xnd_MO_where_1 rfl rfl ?_
  refine xf_iconst hX 3 rfl (0) xnd_MO_where_2 (by decide) ?_
  refine xf_V2i hX 6 rfl (xm_csea P _ _ _ _ ho) xq_MO_search xk_MO_87 xrM_MO rfl rfl xnd_MO_where_3 ?_
  refine xf_istore_n hX 7 rfl 2 xnd_MO_where_6 rfl (by decide) ?_
  dsimp only [List.set]
  refine xf_iload_n hX 8 rfl 2 xnd_MO_where_7 rfl rfl ?_
  refine xf_if_lt hX 11 rfl 15 xnd_MO_where_8 (by decide) (fun h8 => ?_) (fun h8 => ?_)
  · refine xf_aload_n hX 16 rfl 0 xnd_MO_where_15 rfl rfl ?_
    refine xf_iload_n hX 17 rfl 1 xnd_MO_where_16 rfl rfl ?_
    refine xf_iconst hX 18 rfl (1) xnd_MO_where_17 (by decide) ?_
    refine xf_V2i hX 21 rfl (xm_csea P _ _ _ _ ho) xq_MO_search xk_MO_87 xrM_MO rfl rfl xnd_MO_where_18 ?_
    refine xf_iret hX hE xnd_MO_where_21 ?_
    refine ⟨?_, rfl⟩
    simp only [xm_whe, h8, if_true, if_false]
  · refine xf_iload_n hX 12 rfl 2 xnd_MO_where_11 rfl rfl ?_
    refine xf_goto hX 21 xnd_MO_where_12 (by decide) ?_
    refine xf_iret hX hE xnd_MO_where_21 ?_
    refine ⟨?_, rfl⟩
    simp only [xm_whe, h8, if_true, if_false]

set_option maxRecDepth 100000 in
set_option maxHeartbeats 4000000 in
theorem xm_clook (P : xw_T) (σ τ : xf_T) (key c : Int32) (ho : xm_okP (xw_n P) (xw_w P) τ) : xf_F (xw_l P) xny_MO_look xnc_MO_look 7 (some .int) 4 87 (xw_W P) (xw_D P) (xw_ty P) [.ref (xw_a P 100), .int key, .int c] (σ, τ) (some (.int (xm_sea (xw_w P) τ key c))) (σ, xm_look (xw_w P) τ key c) := by
  refine xf_start (own := xnR_MO) [some (.ref (xw_a P 100)), some (.int key), some (.int c), none, none, none, none] rfl (by decide) (Nat.le_of_ble_eq_true rfl) rfl (xf_cat rfl) ?_
  intro X hX hE
  have hw := ho.2
  obtain ⟨j, hj, eb⟩ := xm_bk_is key c
  have h8 := xr_bkb (w := (xw_w P)) hj
  have ecl : (nI j).toNatClampNeg = j := nI_clamp (by omega)
  have e2 : nI (xw_w P) * nI j = nI ((xw_w P) * j) := pk_mul _ _
  generalize hF : xm_sea (xw_w P) τ key c = F at hE
  have hFc : F = -1 ∨ ∃ q, (xw_w P) * j ≤ q ∧ q < (xw_w P) * j + (xw_w P) ∧ F = nI q := by
    rw [← hF]
    unfold xm_sea
    rw [eb, ecl]
    exact xm_si_is _ _ _ _ _
  obtain ⟨cc0, hcc⟩ : ∃ c, c = (if F < 0 then (xw_w P) else F.toNatClampNeg - (xw_w P) * j) := ⟨_, rfl⟩
  have hcw : cc0 ≤ (xw_w P) := by
    rw [hcc]
    rcases hFc with g | ⟨q, g1, g2, g3⟩
    · rw [if_pos (by rw [g]; decide)]; exact Nat.le_refl _
    · rw [g3, if_neg (nI_pos (by omega)), nI_clamp (by omega)]; omega
  generalize hNR : xm_nr (τ.2 1) (τ.2 3) key cc0 ((xw_w P) * j) (τ.1 17) = NR
  have hFin : xm_look (xw_w P) τ key c = xf_I τ 17 NR := by
    unfold xm_look
    rw [hF, eb, ← hNR, hcc]
    unfold xm_cn
    rw [ecl]
  have loop : ∀ r p acc, r + p = (xw_w P) * j + cc0 → (xw_w P) * j ≤ p → xm_nr (τ.2 1) (τ.2 3) key r p acc = NR → xf_V X 45 [some (.ref (xw_a P 100)), some (.int key), some (.int c), some (.int F), some (.int (nI j)), some (.int (nI ((xw_w P) * j + cc0))), some (.int (nI p))] [] (σ, xf_I τ 17 acc) := by
    intro r
    induction r with
    | zero =>
      intro p acc hp hp2 hR
      refine xf_iload hX 47 rfl xnd_MO_look_45 rfl ?_
      refine xf_iload hX 49 rfl xnd_MO_look_47 rfl ?_
      refine xf_icmp_ge hX 52 rfl 102 xnd_MO_look_49 (by decide) (fun _ => ?_) (fun h49 => absurd (nI_le (by omega) (by omega)) h49)
      refine xf_iload_n hX 103 rfl 3 xnd_MO_look_102 rfl rfl ?_
      refine xf_iret hX hE xnd_MO_look_103 ?_
      exact ⟨rfl, by rw [hFin, ← hR]; rfl⟩
    | succ r ih =>
      intro p acc hp hp2 hR
      refine xf_iload hX 47 rfl xnd_MO_look_45 rfl ?_
      refine xf_iload hX 49 rfl xnd_MO_look_47 rfl ?_
      refine xf_icmp_ge hX 52 rfl 102 xnd_MO_look_49 (by decide) (fun h49 => absurd h49 (nI_ge (by omega) (by omega))) (fun _ => ?_)
      refine xf_aload_n hX 53 rfl 0 xnd_MO_look_52 rfl rfl ?_
      refine xg_MO_held hX 56 rfl xk_MO_7 xnd_MO_look_53 ?_
      refine xf_iload hX 58 rfl xnd_MO_look_56 rfl ?_
      refine xaM_iaload hX 59 rfl rfl (show vp_in _ 32 from vp_in_nI (by omega) (by omega)) xnd_MO_look_58 ?_
      rw [nI_clamp (by omega), xs_I2]
      refine xf_if_le hX 62 rfl 96 xnd_MO_look_59 (by decide) (fun h59 => ?_) (fun h59 => ?_)
      · refine xf_iinc hX 99 rfl (nI (p + 1)) xnd_MO_look_96 rfl (by rw [nI_succ]; rfl) (by decide) ?_
        dsimp only [List.set]
        refine xf_goto hX 45 xnd_MO_look_99 (by decide) ?_
        refine ih (p + 1) _ (by omega) (by omega) ?_
        rw [← hR, xm_nr]
        simp only [h59, if_true, if_false]
      · refine xf_aload_n hX 63 rfl 0 xnd_MO_look_62 rfl rfl ?_
        refine xg_MO_keys hX 66 rfl xk_MO_17 xnd_MO_look_63 ?_
        refine xf_aload_n hX 67 rfl 0 xnd_MO_look_66 rfl rfl ?_
        refine xg_MO_held hX 70 rfl xk_MO_7 xnd_MO_look_67 ?_
        refine xf_iload hX 72 rfl xnd_MO_look_70 rfl ?_
        refine xaM_iaload hX 73 rfl rfl (show vp_in _ 32 from vp_in_nI (by omega) (by omega)) xnd_MO_look_72 ?_
        rw [nI_clamp (by omega), xs_I2]
        refine xf_iconst hX 74 rfl (1) xnd_MO_look_73 (by decide) ?_
        refine xf_isub hX 75 rfl xnd_MO_look_74 ?_
        refine xaM_iaload hX 76 rfl rfl (ho.in (p := p) (by omega) (fun z => h59 ((ho.ne (by omega)).2.mpr z))) xnd_MO_look_75 ?_
        rw [xs_I2]
        refine xf_S1i hX 79 rfl (xm_ctag P _ _ _) xq_MO_tag xk_MO_77 rfl rfl xnd_MO_look_76 ?_
        refine xf_iload_n hX 80 rfl 1 xnd_MO_look_79 rfl rfl ?_
        refine xf_S1i hX 83 rfl (xm_ctag P _ _ _) xq_MO_tag xk_MO_77 rfl rfl xnd_MO_look_80 ?_
        refine xf_icmp_ne hX 86 rfl 96 xnd_MO_look_83 (by decide) (fun h83 => ?_) (fun h83 => ?_)
        · refine xf_iinc hX 99 rfl (nI (p + 1)) xnd_MO_look_96 rfl (by rw [nI_succ]; rfl) (by decide) ?_
          dsimp only [List.set]
          refine xf_goto hX 45 xnd_MO_look_99 (by decide) ?_
          refine ih (p + 1) _ (by omega) (by omega) ?_
          rw [← hR, xm_nr]
          simp only [h59, h83, if_true, if_false]
        · refine xf_aload_n hX 87 rfl 0 xnd_MO_look_86 rfl rfl ?_
          refine xf_dup hX 88 rfl xnd_MO_look_87 rfl ?_
          refine xg_MO_near hX 91 rfl xk_MO_90 xnd_MO_look_88 ?_
          refine xf_iconst hX 92 rfl (1) xnd_MO_look_91 (by decide) ?_
          refine xf_iadd hX 93 rfl xnd_MO_look_92 ?_
          refine xp_MO_near hX 96 rfl xk_MO_90 xnd_MO_look_93 ?_
          change xf_V X 96 _ [] (σ, xf_I (xf_I τ 17 acc) 17 (acc + 1))
          rw [xs_II]
          refine xf_iinc hX 99 rfl (nI (p + 1)) xnd_MO_look_96 rfl (by rw [nI_succ]; rfl) (by decide) ?_
          dsimp only [List.set]
          refine xf_goto hX 45 xnd_MO_look_99 (by decide) ?_
          refine ih (p + 1) _ (by omega) (by omega) ?_
          rw [← hR, xm_nr]
          simp only [h59, eq_true h83, if_true, if_false]
  have K : ∀ E, E = nI ((xw_w P) * j + cc0) → xf_V X 34 [some (.ref (xw_a P 100)), some (.int key), some (.int c), some (.int F), some (.int (nI j)), none, none] [.int E] (σ, τ) := by
    intro E hEE
    subst hEE
    refine xf_istore hX 36 rfl xnd_MO_look_34 (by decide) ?_
    dsimp only [List.set]
    refine xf_aload_n hX 37 rfl 0 xnd_MO_look_36 rfl rfl ?_
    refine xg_MO_ways hX 40 rfl xk_MO_69 xnd_MO_look_37 ?_
    refine xf_iload hX 42 rfl xnd_MO_look_40 rfl ?_
    refine xf_imul hX 43 rfl xnd_MO_look_42 ?_
    refine xf_istore hX 45 rfl xnd_MO_look_43 (by decide) ?_
    dsimp only [List.set]
    rw [e2]
    have V := loop cc0 ((xw_w P) * j) (τ.1 17) (by omega) (by omega) hNR
    rw [xs_I_id] at V
    exact V
  refine xf_aload_n hX 1 rfl 0 xnd_MO_look_0 rfl rfl ?_
  refine xf_iload_n hX 2 rfl 1 xnd_MO_look_1 rfl rfl ?_
  refine xf_iload_n hX 3 rfl 2 xnd_MO_look_2 rfl rfl ?_
  refine xf_V2i hX 6 rfl (xm_csea P _ _ _ _ ho) xq_MO_search xk_MO_87 xrM_MO rfl rfl xnd_MO_look_3 ?_
  rw [hF]
  refine xf_istore_n hX 7 rfl 3 xnd_MO_look_6 rfl (by decide) ?_
  dsimp only [List.set]
  refine xf_iload_n hX 8 rfl 1 xnd_MO_look_7 rfl rfl ?_
  refine xf_iload_n hX 9 rfl 2 xnd_MO_look_8 rfl rfl ?_
  refine xf_S2i hX 12 rfl (xm_cbk P _ _ _ _) xq_MO_bucket xk_MO_80 rfl rfl xnd_MO_look_9 ?_
  rw [eb]
  refine xf_istore hX 14 rfl xnd_MO_look_12 (by decide) ?_
  dsimp only [List.set]
  refine xf_iload_n hX 15 rfl 3 xnd_MO_look_14 rfl rfl ?_
  refine xf_if_ge hX 18 rfl 33 xnd_MO_look_15 (by decide) (fun h15 => ?_) (fun h15 => ?_)
  · refine xf_iload_n hX 34 rfl 3 xnd_MO_look_33 rfl rfl ?_
    refine K _ ?_
    rcases hFc with g | ⟨q, g1, g2, g3⟩
    · exact absurd (show F < 0 by rw [g]; decide) (by rw [Int32.not_lt]; exact h15)
    · rw [hcc, if_neg (by rw [Int32.not_lt]; exact h15), g3, nI_clamp (by omega)]; congr 1; omega
  · refine xf_aload_n hX 19 rfl 0 xnd_MO_look_18 rfl rfl ?_
    refine xg_MO_ways hX 22 rfl xk_MO_69 xnd_MO_look_19 ?_
    refine xf_iload hX 24 rfl xnd_MO_look_22 rfl ?_
    refine xf_imul hX 25 rfl xnd_MO_look_24 ?_
    refine xf_aload_n hX 26 rfl 0 xnd_MO_look_25 rfl rfl ?_
    refine xg_MO_ways hX 29 rfl xk_MO_69 xnd_MO_look_26 ?_
    refine xf_iadd hX 30 rfl xnd_MO_look_29 ?_
    refine xf_goto hX 34 xnd_MO_look_30 (by decide) ?_
    refine K _ ?_
    rw [hcc, if_pos (by rw [← Int32.not_le]; exact h15), pk_mul, nI_add]

set_option maxRecDepth 100000 in
set_option maxHeartbeats 4000000 in
theorem xm_clb (P : xw_T) (σ τ : xf_T) (key : Int32) (ho : xm_okP (xw_n P) (xw_w P) τ) : xf_F (xw_l P) xny_MO_lookBoth xnc_MO_lookBoth 3 (some .int) 5 113 (xw_W P) (xw_D P) (xw_ty P) [.ref (xw_a P 100), .int key] (σ, τ) (some (.int (xm_whe (xw_w P) τ key))) (σ, xm_lb (xw_w P) τ key) := by
  refine xf_start (own := xnR_MO) [some (.ref (xw_a P 100)), some (.int key), none] rfl (by decide) (Nat.le_of_ble_eq_true rfl) rfl (xf_cat rfl) ?_
  intro X hX hE
  refine xf_aload_n hX 1 rfl 0 xnd_MO_lookBoth_0 rfl rfl ?_
  refine xf_iload_n hX 2 rfl 1 xnd_MO_lookBoth_1 rfl rfl ?_
  refine xf_iconst hX 3 rfl (0) xnd_MO_lookBoth_2 (by decide) ?_
  refine xf_V2i hX 6 rfl (xm_clook P _ _ _ _ ho) xq_MO_look xk_MO_93 xrM_MO rfl rfl xnd_MO_lookBoth_3 ?_
  refine xf_istore_n hX 7 rfl 2 xnd_MO_lookBoth_6 rfl (by decide) ?_
  dsimp only [List.set]
  refine xf_iload_n hX 8 rfl 2 xnd_MO_lookBoth_7 rfl rfl ?_
  refine xf_if_lt hX 11 rfl 15 xnd_MO_lookBoth_8 (by decide) (fun h8 => ?_) (fun h8 => ?_)
  · refine xf_aload_n hX 16 rfl 0 xnd_MO_lookBoth_15 rfl rfl ?_
    refine xf_iload_n hX 17 rfl 1 xnd_MO_lookBoth_16 rfl rfl ?_
    refine xf_iconst hX 18 rfl (1) xnd_MO_lookBoth_17 (by decide) ?_
    refine xf_V2i hX 21 rfl (xm_clook P _ _ _ _ ho) xq_MO_look xk_MO_93 xrM_MO rfl rfl xnd_MO_lookBoth_18 ?_
    refine xf_iret hX hE xnd_MO_lookBoth_21 ?_
    refine ⟨?_, ?_⟩ <;> simp only [xm_whe, xm_lb, h8, if_true, if_false] <;> rfl
  · refine xf_iload_n hX 12 rfl 2 xnd_MO_lookBoth_11 rfl rfl ?_
    refine xf_goto hX 21 xnd_MO_lookBoth_12 (by decide) ?_
    refine xf_iret hX hE xnd_MO_lookBoth_21 ?_
    refine ⟨?_, ?_⟩ <;> simp only [xm_whe, xm_lb, h8, if_true, if_false] <;> rfl

set_option maxRecDepth 100000 in
set_option maxHeartbeats 4000000 in
theorem xm_crem (P : xw_T) (σ τ : xf_T) (i : Int32) (ho : xm_okP (xw_n P) (xw_w P) τ) (hi : vp_in i 32) : xf_F (xw_l P) xny_MO_remove xnc_MO_remove 3 none 2 40 (xw_W P) (xw_D P) (xw_ty P) [.ref (xw_a P 100), .int i] (σ, τ) none (σ, xm_rem (xw_w P) τ i) := by
  refine xf_start (own := xnR_MO) [some (.ref (xw_a P 100)), some (.int i), none] rfl (by decide) (Nat.le_of_ble_eq_true rfl) rfl (xf_cat rfl) ?_
  intro X hX hE
  have hw := ho.2
  have e8 : (8 : Int32) * nI (xw_w P) = nI (8 * (xw_w P)) := pk_mul 8 _
  have K : xf_V X 47 [some (.ref (xw_a P 100)), some (.int i), some (.int (nI (8 * (xw_w P))))] [] (σ, xs_sA τ 1 (xm_rmf (8 * (xw_w P)) (τ.2 1) i)) := by
    refine xf_aload_n hX 48 rfl 0 xnd_MO_remove_47 rfl rfl ?_
    refine xg_MO_taken hX 51 rfl xk_MO_13 xnd_MO_remove_48 ?_
    refine xf_iload_n hX 52 rfl 1 xnd_MO_remove_51 rfl rfl ?_
    refine xf_iconst hX 53 rfl (0) xnd_MO_remove_52 (by decide) ?_
    refine xaM_bastore hX 54 rfl rfl hi rfl xnd_MO_remove_53 ?_
    refine xf_aload_n hX 55 rfl 0 xnd_MO_remove_54 rfl rfl ?_
    refine xg_MO_versions hX 58 rfl xk_MO_32 xnd_MO_remove_55 ?_
    refine xf_aload_n hX 59 rfl 0 xnd_MO_remove_58 rfl rfl ?_
    refine xg_MO_keys hX 62 rfl xk_MO_17 xnd_MO_remove_59 ?_
    refine xf_iload_n hX 63 rfl 1 xnd_MO_remove_62 rfl rfl ?_
    refine xaM_iaload hX 64 rfl rfl hi xnd_MO_remove_63 ?_
    refine xf_S1i hX 67 rfl (xm_cstr P _ _ _) xq_MO_stripe xk_MO_84 rfl rfl xnd_MO_remove_64 ?_
    refine xf_dup2 hX 68 rfl xnd_MO_remove_67 rfl rfl ?_
    refine xaM_iaload hX 69 rfl rfl (xs_str_in _) xnd_MO_remove_68 ?_
    refine xf_iconst hX 70 rfl (2) xnd_MO_remove_69 (by decide) ?_
    refine xf_iadd hX 71 rfl xnd_MO_remove_70 ?_
    refine xaM_iastore hX 72 rfl rfl (xs_str_in _) xnd_MO_remove_71 ?_
    refine xf_vret hX hE xnd_MO_remove_72 ?_
    exact ⟨rfl, rfl⟩
  have loop : ∀ r p, r + p = 8 * (xw_w P) → xf_V X 2 [some (.ref (xw_a P 100)), some (.int i), some (.int (nI p))] [] (σ, xs_sA τ 1 (xm_rmf p (τ.2 1) i)) := by
    intro r
    induction r with
    | zero =>
      intro p hp
      refine xf_iload_n hX 3 rfl 2 xnd_MO_remove_2 rfl rfl ?_
      refine xf_bipush hX 5 rfl (8) xnd_MO_remove_3 (by decide) ?_
      refine xf_aload_n hX 6 rfl 0 xnd_MO_remove_5 rfl rfl ?_
      refine xg_MO_ways hX 9 rfl xk_MO_69 xnd_MO_remove_6 ?_
      refine xf_imul hX 10 rfl xnd_MO_remove_9 ?_
      rw [e8]
      refine xf_icmp_ge hX 13 rfl 47 xnd_MO_remove_10 (by decide) (fun _ => ?_) (fun h10 => absurd (nI_le (by omega) (by omega)) h10)
      have hN : p = 8 * (xw_w P) := by omega
      subst hN
      exact K
    | succ r ih =>
      intro p hp
      refine xf_iload_n hX 3 rfl 2 xnd_MO_remove_2 rfl rfl ?_
      refine xf_bipush hX 5 rfl (8) xnd_MO_remove_3 (by decide) ?_
      refine xf_aload_n hX 6 rfl 0 xnd_MO_remove_5 rfl rfl ?_
      refine xg_MO_ways hX 9 rfl xk_MO_69 xnd_MO_remove_6 ?_
      refine xf_imul hX 10 rfl xnd_MO_remove_9 ?_
      rw [e8]
      refine xf_icmp_ge hX 13 rfl 47 xnd_MO_remove_10 (by decide) (fun h10 => absurd h10 (nI_ge (by omega) (by omega))) (fun _ => ?_)
      refine xf_aload_n hX 14 rfl 0 xnd_MO_remove_13 rfl rfl ?_
      refine xg_MO_held hX 17 rfl xk_MO_7 xnd_MO_remove_14 ?_
      refine xf_iload_n hX 18 rfl 2 xnd_MO_remove_17 rfl rfl ?_
      refine xf_aload_n hX 19 rfl 0 xnd_MO_remove_18 rfl rfl ?_
      refine xg_MO_held hX 22 rfl xk_MO_7 xnd_MO_remove_19 ?_
      refine xf_iload_n hX 23 rfl 2 xnd_MO_remove_22 rfl rfl ?_
      refine xaM_iaload hX 24 rfl rfl (show vp_in _ 32 from vp_in_nI (by omega) (by omega)) xnd_MO_remove_23 ?_
      rw [nI_clamp (by omega)]
      change xf_V X 24 _ (.int (xm_rmf p (τ.2 1) i p) :: _) _
      rw [xm_rmf_at]
      refine xf_iload_n hX 25 rfl 1 xnd_MO_remove_24 rfl rfl ?_
      refine xf_iconst hX 26 rfl (1) xnd_MO_remove_25 (by decide) ?_
      refine xf_iadd hX 27 rfl xnd_MO_remove_26 ?_
      refine xf_icmp_ne hX 30 rfl 34 xnd_MO_remove_27 (by decide) (fun h27 => ?_) (fun h27 => ?_)
      · refine xf_aload_n hX 35 rfl 0 xnd_MO_remove_34 rfl rfl ?_
        refine xg_MO_held hX 38 rfl xk_MO_7 xnd_MO_remove_35 ?_
        refine xf_iload_n hX 39 rfl 2 xnd_MO_remove_38 rfl rfl ?_
        refine xaM_iaload hX 40 rfl rfl (show vp_in _ 32 from vp_in_nI (by omega) (by omega)) xnd_MO_remove_39 ?_
        rw [nI_clamp (by omega)]
        change xf_V X 40 _ (.int (xm_rmf p (τ.2 1) i p) :: _) _
        rw [xm_rmf_at]
        refine xaM_iastore hX 41 rfl rfl (show vp_in _ 32 from vp_in_nI (by omega) (by omega)) xnd_MO_remove_40 ?_
        rw [nI_clamp (by omega), xs_A_sA]
        refine xf_iinc hX 44 rfl (nI (p + 1)) xnd_MO_remove_41 rfl (by rw [nI_succ]; rfl) (by decide) ?_
        dsimp only [List.set]
        refine xf_goto hX 2 xnd_MO_remove_44 (by decide) ?_
        have V := ih (p + 1) (by omega)
        rw [← xm_rmf_s] at V
        simp only [h27, if_true, if_false] at V
        exact V
      · refine xf_iconst hX 31 rfl (0) xnd_MO_remove_30 (by decide) ?_
        refine xf_goto hX 40 xnd_MO_remove_31 (by decide) ?_
        refine xaM_iastore hX 41 rfl rfl (show vp_in _ 32 from vp_in_nI (by omega) (by omega)) xnd_MO_remove_40 ?_
        rw [nI_clamp (by omega), xs_A_sA]
        refine xf_iinc hX 44 rfl (nI (p + 1)) xnd_MO_remove_41 rfl (by rw [nI_succ]; rfl) (by decide) ?_
        dsimp only [List.set]
        refine xf_goto hX 2 xnd_MO_remove_44 (by decide) ?_
        have V := ih (p + 1) (by omega)
        rw [← xm_rmf_s] at V
        simp only [eq_true h27, if_true, if_false] at V
        exact V
  refine xf_iconst hX 1 rfl (0) xnd_MO_remove_0 (by decide) ?_
  refine xf_istore_n hX 2 rfl 2 xnd_MO_remove_1 rfl (by decide) ?_
  dsimp only [List.set]
  have V := loop (8 * (xw_w P)) 0 (by omega)
  rw [xm_rmf_0, xs_sA_id] at V
  exact V

set_option maxRecDepth 100000 in
set_option maxHeartbeats 4000000 in
theorem xm_cmny (P : xw_T) (σ τ : xf_T) (hn : 1 ≤ (xw_n P) ∧ (xw_n P) ≤ 32) : xf_F (xw_l P) xny_MO_many xnc_MO_many 3 (some .int) 0 0 (xw_W P) (xw_D P) (xw_ty P) [.ref (xw_a P 100)] (σ, τ) (some (.int (xm_mny (τ.2 2) (xw_n P)))) (σ, τ) := by
  refine xf_start (own := xnR_MO) [some (.ref (xw_a P 100)), none, none] rfl (by decide) (Nat.le_of_ble_eq_true rfl) rfl (xf_cat rfl) ?_
  intro X hX hE
  have loop : ∀ r k, r + k = (xw_n P) → xf_V X 4 [some (.ref (xw_a P 100)), some (.int (xm_mny (τ.2 2) k)), some (.int (nI k))] [] (σ, τ) := by
    intro r
    induction r with
    | zero =>
      intro k hk
      refine xf_iload_n hX 5 rfl 2 xnd_MO_many_4 rfl rfl ?_
      refine xf_aload_n hX 6 rfl 0 xnd_MO_many_5 rfl rfl ?_
      refine xg_MO_items hX 9 rfl xk_MO_66 xnd_MO_many_6 ?_
      refine xf_icmp_ge hX 12 rfl 35 xnd_MO_many_9 (by decide) (fun _ => ?_) (fun h9 => absurd (nI_le (by omega) (by omega)) h9)
      refine xf_iload_n hX 36 rfl 1 xnd_MO_many_35 rfl rfl ?_
      refine xf_iret hX hE xnd_MO_many_36 ?_
      have hN : k = (xw_n P) := by omega
      subst hN
      exact ⟨rfl, rfl⟩
    | succ r ih =>
      intro k hk
      refine xf_iload_n hX 5 rfl 2 xnd_MO_many_4 rfl rfl ?_
      refine xf_aload_n hX 6 rfl 0 xnd_MO_many_5 rfl rfl ?_
      refine xg_MO_items hX 9 rfl xk_MO_66 xnd_MO_many_6 ?_
      refine xf_icmp_ge hX 12 rfl 35 xnd_MO_many_9 (by decide) (fun h9 => absurd h9 (nI_ge (by omega) (by omega))) (fun _ => ?_)
      refine xf_iload_n hX 13 rfl 1 xnd_MO_many_12 rfl rfl ?_
      refine xf_aload_n hX 14 rfl 0 xnd_MO_many_13 rfl rfl ?_
      refine xg_MO_taken hX 17 rfl xk_MO_13 xnd_MO_many_14 ?_
      refine xf_iload_n hX 18 rfl 2 xnd_MO_many_17 rfl rfl ?_
      refine xaM_baload hX 19 rfl rfl (show vp_in _ 32 from vp_in_nI (by omega) (by omega)) xnd_MO_many_18 ?_
      rw [nI_clamp (by omega)]
      refine xf_if_eq hX 22 rfl 26 xnd_MO_many_19 (by decide) (fun h19 => ?_) (fun h19 => ?_)
      · refine xf_iconst hX 27 rfl (0) xnd_MO_many_26 (by decide) ?_
        refine xf_iadd hX 28 rfl xnd_MO_many_27 ?_
        refine xf_istore_n hX 29 rfl 1 xnd_MO_many_28 rfl (by decide) ?_
        dsimp only [List.set]
        refine xf_iinc hX 32 rfl (nI (k + 1)) xnd_MO_many_29 rfl (by rw [nI_succ]; rfl) (by decide) ?_
        dsimp only [List.set]
        refine xf_goto hX 4 xnd_MO_many_32 (by decide) ?_
        have V := ih (k + 1) (by omega)
        rw [xm_mny] at V
        simp only [eq_true h19, if_true, if_false] at V
        exact V
      · refine xf_iconst hX 23 rfl (1) xnd_MO_many_22 (by decide) ?_
        refine xf_goto hX 27 xnd_MO_many_23 (by decide) ?_
        refine xf_iadd hX 28 rfl xnd_MO_many_27 ?_
        refine xf_istore_n hX 29 rfl 1 xnd_MO_many_28 rfl (by decide) ?_
        dsimp only [List.set]
        refine xf_iinc hX 32 rfl (nI (k + 1)) xnd_MO_many_29 rfl (by rw [nI_succ]; rfl) (by decide) ?_
        dsimp only [List.set]
        refine xf_goto hX 4 xnd_MO_many_32 (by decide) ?_
        have V := ih (k + 1) (by omega)
        rw [xm_mny] at V
        simp only [h19, if_true, if_false] at V
        exact V
  refine xf_iconst hX 1 rfl (0) xnd_MO_many_0 (by decide) ?_
  refine xf_istore_n hX 2 rfl 1 xnd_MO_many_1 rfl (by decide) ?_
  dsimp only [List.set]
  refine xf_iconst hX 3 rfl (0) xnd_MO_many_2 (by decide) ?_
  refine xf_istore_n hX 4 rfl 2 xnd_MO_many_3 rfl (by decide) ?_
  dsimp only [List.set]
  exact loop (xw_n P) 0 (by omega)

set_option maxRecDepth 100000 in
set_option maxHeartbeats 4000000 in
theorem xm_cstamp (P : xw_T) (σ τ : xf_T) (i : Int32) (hi : vp_in i 32) : xf_F (xw_l P) xny_MO_stamp xnc_MO_stamp 2 none 0 0 (xw_W P) (xw_D P) (xw_ty P) [.ref (xw_a P 100), .int i] (σ, τ) none (σ, xm_stamp τ i) := by
  refine xf_start (own := xnR_MO) [some (.ref (xw_a P 100)), some (.int i)] rfl (by decide) (Nat.le_of_ble_eq_true rfl) rfl (xf_cat rfl) ?_
  intro X hX hE
  refine xf_aload_n hX 1 rfl 0 xnd_MO_stamp_0 rfl rfl ?_
  refine xf_dup hX 2 rfl xnd_MO_stamp_1 rfl ?_
  refine xg_MO_tokens hX 5 rfl xk_MO_145 xnd_MO_stamp_2 ?_
  refine xf_iconst hX 6 rfl (1) xnd_MO_stamp_5 (by decide) ?_
  refine xf_iadd hX 7 rfl xnd_MO_stamp_6 ?_
  refine xp_MO_tokens hX 10 rfl xk_MO_145 xnd_MO_stamp_7 ?_
  refine xf_aload_n hX 11 rfl 0 xnd_MO_stamp_10 rfl rfl ?_
  refine xg_MO_marks hX 14 rfl xk_MO_23 xnd_MO_stamp_11 ?_
  refine xf_iload_n hX 15 rfl 1 xnd_MO_stamp_14 rfl rfl ?_
  refine xf_aload_n hX 16 rfl 0 xnd_MO_stamp_15 rfl rfl ?_
  refine xg_MO_tokens hX 19 rfl xk_MO_145 xnd_MO_stamp_16 ?_
  refine xaM_iastore hX 20 rfl rfl hi xnd_MO_stamp_19 ?_
  refine xf_aload_n hX 21 rfl 0 xnd_MO_stamp_20 rfl rfl ?_
  refine xg_MO_ends hX 24 rfl xk_MO_26 xnd_MO_stamp_21 ?_
  refine xf_iload_n hX 25 rfl 1 xnd_MO_stamp_24 rfl rfl ?_
  refine xf_aload_n hX 26 rfl 0 xnd_MO_stamp_25 rfl rfl ?_
  refine xg_MO_life hX 29 rfl xk_MO_111 xnd_MO_stamp_26 ?_
  change xf_V X 29 _ (.int (τ.1 8) :: _) _
  refine xf_if_ne hX 32 rfl 36 xnd_MO_stamp_29 (by decide) (fun h29 => ?_) (fun h29 => ?_)
  · refine xf_aload_n hX 37 rfl 0 xnd_MO_stamp_36 rfl rfl ?_
    refine xg_MO_time hX 40 rfl xk_MO_96 xnd_MO_stamp_37 ?_
    refine xf_aload_n hX 41 rfl 0 xnd_MO_stamp_40 rfl rfl ?_
    refine xg_MO_life hX 44 rfl xk_MO_111 xnd_MO_stamp_41 ?_
    refine xf_iadd hX 45 rfl xnd_MO_stamp_44 ?_
    refine xaM_iastore hX 46 rfl rfl hi xnd_MO_stamp_45 ?_
    refine xf_vret hX hE xnd_MO_stamp_46 ?_
    refine ⟨rfl, ?_⟩
    simp only [xm_stamp, h29, if_true, if_false]
    rfl
  · refine xf_iconst hX 33 rfl (0) xnd_MO_stamp_32 (by decide) ?_
    refine xf_goto hX 45 xnd_MO_stamp_33 (by decide) ?_
    refine xaM_iastore hX 46 rfl rfl hi xnd_MO_stamp_45 ?_
    refine xf_vret hX hE xnd_MO_stamp_46 ?_
    refine ⟨rfl, ?_⟩
    simp only [xm_stamp, eq_true h29, if_true, if_false]
    rfl

