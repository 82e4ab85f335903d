/-! Contracts of the class: the search for a path. Laid by wip/gen/class6.py. -/
theorem xs_pack_id (σ : xf_T) (m : Nat) (h : σ.1 20 = nI m) : xs_pack σ (σ.2 15, σ.2 16, σ.2 17, m) = σ := by
  unfold xs_pack
  dsimp only
  rw [← h]
  refine xs_ext (fun k => ?_) (fun j i => ?_)
  · rw [xs_I1]
    split
    · next e => rw [e]
    · rfl
  · simp only [xs_I2, xs_sA2]
    split
    · next e => rw [e]
    · split
      · next e => rw [e]
      · split
        · next e => rw [e]
        · rfl
theorem xs_pack_0 (σ : xf_T) (D : Nat → Int32) : xs_sA (xf_I σ 20 0) 17 D = xs_pack σ (σ.2 15, σ.2 16, D, 0) := by
  unfold xs_pack
  dsimp only
  refine xs_ext (fun k => rfl) (fun j i => ?_)
  simp only [xs_I2, xs_sA2]
  split
  · rfl
  · split
    · next e => rw [e]
    · split
      · next e => rw [e]
      · rfl
theorem xs_pack_pack (σ : xf_T) (a b : (Nat → Int32) × (Nat → Int32) × (Nat → Int32) × Nat) : xs_pack (xs_pack σ a) b = xs_pack σ b := by
  unfold xs_pack
  refine xs_ext (fun k => ?_) (fun j i => ?_)
  · simp only [xs_I1, xs_sA1]
    split <;> rfl
  · simp only [xs_I2, xs_sA2]
    split
    · rfl
    · split
      · rfl
      · split <;> rfl
theorem xs_pack_add (σ : xf_T) (Q Bf Dp : Nat → Int32) (m p : Nat) (fr dp : Int32) : xf_I (xf_A (xf_A (xf_A (xs_pack σ (Q, Bf, Dp, m)) 17 p dp) 16 p fr) 15 m (nI p)) 20 (nI (m + 1)) = xs_pack σ (upd Q m (nI p), upd Bf p fr, upd Dp p dp, m + 1) := by
  unfold xs_pack
  dsimp only
  refine xs_ext (fun k => ?_) (fun j i => ?_)
  · simp only [xs_I1, xs_A1, xs_sA1]
    split <;> rfl
  · simp only [xs_I2, xs_A2, xs_sA2]
    by_cases h15 : j = 15
    · subst h15
      simp
    · by_cases h16 : j = 16
      · subst h16
        simp
      · by_cases h17 : j = 17
        · subst h17
          simp
        · simp [h15, h16, h17]
theorem xb_enter_cnt {fr dp : Int32} (hd : dp ≠ -1) {N : Nat} : ∀ (r p : Nat) (a : (Nat → Int32) × (Nat → Int32) × (Nat → Int32) × Nat), p + r ≤ N → xb_cnt a.2.2.1 N = a.2.2.2 → xb_cnt (xb_enter fr dp r p a).2.2.1 N = (xb_enter fr dp r p a).2.2.2
  | 0, p, a, _, h => h
  | r + 1, p, a, hp, h => by
    rw [xb_enter]
    by_cases hc : a.2.2.1 p = -1
    · rw [if_pos hc]
      refine xb_enter_cnt hd r (p + 1) _ (by omega) ?_
      dsimp only
      rw [xb_cnt_set hd (by omega) hc, h]
    · rw [if_neg hc]
      exact xb_enter_cnt hd r (p + 1) _ (by omega) h
/-- the way back from a place: k places that can be read -/
def xs_chain (N : Nat) (Bf : Nat → Int32) : Nat → Int32 → Prop
  | 0, _ => True
  | k + 1, p => vp_in p N ∧ xs_chain N Bf k (Bf p.toNatClampNeg)
theorem xs_fill_s (N : Nat) (f : Nat → Int32) (v : Int32) (k : Nat) : upd (xs_fill N f v k) k v = xs_fill N f v (k + 1) := by
  funext p
  unfold xs_fill
  by_cases h : p = k
  · subst h
    rw [pk_us, if_pos (by omega)]
  · rw [pk_un h]
    by_cases h2 : p < k
    · rw [if_pos h2, if_pos (by omega)]
    · rw [if_neg h2, if_neg (by omega)]
set_option maxRecDepth 100000 in
set_option maxHeartbeats 4000000 in
theorem xc_fill (P : xw_T) (σ τ : xf_T) (v : Int32) (hw : 1 ≤ (xw_w P) ∧ (xw_w P) ≤ 4) : xf_F (xw_l P) xny_AR_fill xnc_AR_fill 4 none 0 0 (xw_W P) (xw_D P) (xw_ty P) [.ref (xw_a P 17), .int v] (σ, τ) none (xs_sA σ 17 (xs_fill (8 * (xw_w P)) (σ.2 17) v (8 * (xw_w P))), τ) := by
  refine xf_start (own := xnR_AR) [some (.ref (xw_a P 17)), some (.int v), none, none] rfl (by decide) (Nat.le_of_ble_eq_true rfl) rfl (xf_cat rfl) ?_
  intro X hX hE
  have loop : ∀ r k, r + k = 8 * (xw_w P) → xf_V X 5 [some (.ref (xw_a P 17)), some (.int v), some (.int (nI k)), some (.int (nI (8 * xw_w P)))] [] (xs_sA σ 17 (xs_fill (8 * (xw_w P)) (σ.2 17) v k), τ) := by
    intro r
    induction r with
    | zero =>
      intro k hk
      refine xf_iload_n hX 6 rfl 2 xnd_AR_fill_5 rfl rfl ?_
      refine xf_iload_n hX 7 rfl 3 xnd_AR_fill_6 rfl rfl ?_
      refine xf_icmp_ge hX 10 rfl 20 xnd_AR_fill_7 (by decide) (fun _ => ?_) (fun h7 => absurd (nI_le (by omega) (by omega)) h7)
      refine xf_vret hX hE xnd_AR_fill_20 ?_
      have e9 : k = 8 * (xw_w P) := by omega
      subst e9
      exact ⟨rfl, rfl⟩
    | succ r ih =>
      intro k hk
      refine xf_iload_n hX 6 rfl 2 xnd_AR_fill_5 rfl rfl ?_
      refine xf_iload_n hX 7 rfl 3 xnd_AR_fill_6 rfl rfl ?_
      refine xf_icmp_ge hX 10 rfl 20 xnd_AR_fill_7 (by decide) (fun h7 => absurd h7 (nI_ge (by omega) (by omega))) (fun _ => ?_)
      refine xf_aload_n hX 11 rfl 0 xnd_AR_fill_10 rfl rfl ?_
      refine xf_iload_n hX 12 rfl 2 xnd_AR_fill_11 rfl rfl ?_
      refine xf_iload_n hX 13 rfl 1 xnd_AR_fill_12 rfl rfl ?_
      refine xaX_iastore hX 14 rfl rfl (show vp_in _ (8 * xw_w P) from vp_in_nI (by omega) (by omega)) xnd_AR_fill_13 ?_
      rw [nI_clamp (by omega), xs_A_sA, xs_fill_s]
      refine xf_iinc hX 17 rfl (nI (k + 1)) xnd_AR_fill_14 rfl (by rw [nI_succ]; rfl) (by decide) ?_
      dsimp only [List.set]
      refine xf_goto hX 5 xnd_AR_fill_17 (by decide) ?_
      exact ih (k + 1) (by omega)
  refine xf_iconst hX 1 rfl (0) xnd_AR_fill_0 (by decide) ?_
  refine xf_istore_n hX 2 rfl 2 xnd_AR_fill_1 rfl (by decide) ?_
  dsimp only [List.set]
  refine xf_aload_n hX 3 rfl 0 xnd_AR_fill_2 rfl rfl ?_
  refine xaX_alen hX 4 rfl rfl xnd_AR_fill_3 ?_
  change xf_V X 4 _ [.int (nI (8 * xw_w P))] _
  refine xf_istore_n hX 5 rfl 3 xnd_AR_fill_4 rfl (by decide) ?_
  dsimp only [List.set]
  have V := loop (8 * (xw_w P)) 0 (by omega)
  have e0 : xs_fill (8 * (xw_w P)) (σ.2 17) v 0 = σ.2 17 := by funext p; unfold xs_fill; rw [if_neg (by omega)]
  rw [e0, xs_sA_id] at V
  exact V

set_option maxRecDepth 100000 in
set_option maxHeartbeats 4000000 in
theorem xc_enter (P : xw_T) (σ τ : xf_T) (b fr dp : Int32) (m0 : Nat) (hw : 1 ≤ (xw_w P) ∧ (xw_w P) ≤ 4) (hb : ∃ j, j < 8 ∧ b = nI j) (hd : dp ≠ -1) (hm0 : xb_cnt (σ.2 17) (8 * (xw_w P)) = m0) (hq0 : σ.1 20 = nI m0) : xf_F (xw_l P) xny_PA_enter xnc_PA_enter 6 none 0 0 (xw_W P) (xw_D P) (xw_ty P) [.ref (xw_a P 13), .int b, .int fr, .int dp] (σ, τ) none (xs_pack σ (xb_enter fr dp (xw_w P) ((xw_w P) * b.toNatClampNeg) (σ.2 15, σ.2 16, σ.2 17, m0)), τ) := by
  refine xf_start (own := xnR_PA) [some (.ref (xw_a P 13)), some (.int b), some (.int fr), some (.int dp), none, none] rfl (by decide) (Nat.le_of_ble_eq_true rfl) rfl (xf_cat rfl) ?_
  intro X hX hE
  obtain ⟨j, hj, rfl⟩ := hb
  have h8 := xr_bkb (w := (xw_w P)) hj
  have e1 : nI (xw_w P) * (nI j + 1) = nI ((xw_w P) * j + (xw_w P)) := by rw [nI_1, pk_mul, Nat.mul_succ]
  have e2 : nI (xw_w P) * nI j = nI ((xw_w P) * j) := pk_mul _ _
  rw [nI_clamp (by omega : j < 2 ^ 31)] at hE
  generalize hRR : xb_enter fr dp (xw_w P) ((xw_w P) * j) (σ.2 15, σ.2 16, σ.2 17, m0) = RR at hE
  have loop : ∀ r p Q Bf Dp m, r + p = (xw_w P) * j + (xw_w P) → (xw_w P) * j ≤ p → xb_cnt Dp (8 * (xw_w P)) = m → xb_enter fr dp r p (Q, Bf, Dp, m) = RR → xf_V X 24 [some (.ref (xw_a P 13)), some (.int (nI j)), some (.int fr), some (.int dp), some (.int (nI ((xw_w P) * j + (xw_w P)))), some (.int (nI p))] [] (xs_pack σ (Q, Bf, Dp, m), τ) := by
    intro r
    induction r with
    | zero =>
      intro p Q Bf Dp m hp hp2 hm hR
      have hmle := xb_cnt_le Dp (8 * (xw_w P))
      refine xf_iload hX 26 rfl xnd_PA_enter_24 rfl ?_
      refine xf_iload hX 28 rfl xnd_PA_enter_26 rfl ?_
      refine xf_icmp_ge hX 31 rfl 85 xnd_PA_enter_28 (by decide) (fun _ => ?_) (fun h28 => absurd (nI_le (by omega) (by omega)) h28)
      refine xf_vret hX hE xnd_PA_enter_85 ?_
      exact ⟨rfl, by rw [← hR]; rfl⟩
    | succ r ih =>
      intro p Q Bf Dp m hp hp2 hm hR
      have hmle := xb_cnt_le Dp (8 * (xw_w P))
      refine xf_iload hX 26 rfl xnd_PA_enter_24 rfl ?_
      refine xf_iload hX 28 rfl xnd_PA_enter_26 rfl ?_
      refine xf_icmp_ge hX 31 rfl 85 xnd_PA_enter_28 (by decide) (fun h28 => absurd h28 (nI_ge (by omega) (by omega))) (fun _ => ?_)
      refine xf_aload_n hX 32 rfl 0 xnd_PA_enter_31 rfl rfl ?_
      refine xg_PA_depths hX 35 rfl xk_PA_30 xnd_PA_enter_32 ?_
      refine xf_iload hX 37 rfl xnd_PA_enter_35 rfl ?_
      refine xaX_iaload hX 38 rfl rfl (show vp_in _ (8 * xw_w P) from vp_in_nI (by omega) (by omega)) xnd_PA_enter_37 ?_
      rw [nI_clamp (by omega)]
      change xf_V X 38 _ [.int (Dp p)] _
      refine xf_iconst hX 39 rfl (-1) xnd_PA_enter_38 (by decide) ?_
      refine xf_icmp_ne hX 42 rfl 79 xnd_PA_enter_39 (by decide) (fun h39 => ?_) (fun h39 => ?_)
      · refine xf_iinc hX 82 rfl (nI (p + 1)) xnd_PA_enter_79 rfl (by rw [nI_succ]; rfl) (by decide) ?_
        dsimp only [List.set]
        refine xf_goto hX 24 xnd_PA_enter_82 (by decide) ?_
        refine ih (p + 1) Q Bf Dp m (by omega) (by omega) hm ?_
        rw [← hR, xb_enter]
        dsimp only
        rw [if_neg h39]
      · have hm8 : m < 8 * (xw_w P) := by have := xb_cnt_lt (n := 8 * (xw_w P)) (p := p) (by omega) h39; omega
        refine xf_aload_n hX 43 rfl 0 xnd_PA_enter_42 rfl rfl ?_
        refine xg_PA_depths hX 46 rfl xk_PA_30 xnd_PA_enter_43 ?_
        refine xf_iload hX 48 rfl xnd_PA_enter_46 rfl ?_
        refine xf_iload_n hX 49 rfl 3 xnd_PA_enter_48 rfl rfl ?_
        refine xaX_iastore hX 50 rfl rfl (show vp_in _ (8 * xw_w P) from vp_in_nI (by omega) (by omega)) xnd_PA_enter_49 ?_
        rw [nI_clamp (by omega)]
        refine xf_aload_n hX 51 rfl 0 xnd_PA_enter_50 rfl rfl ?_
        refine xg_PA_before hX 54 rfl xk_PA_27 xnd_PA_enter_51 ?_
        refine xf_iload hX 56 rfl xnd_PA_enter_54 rfl ?_
        refine xf_iload_n hX 57 rfl 2 xnd_PA_enter_56 rfl rfl ?_
        refine xaX_iastore hX 58 rfl rfl (show vp_in _ (8 * xw_w P) from vp_in_nI (by omega) (by omega)) xnd_PA_enter_57 ?_
        rw [nI_clamp (by omega)]
        refine xf_aload_n hX 59 rfl 0 xnd_PA_enter_58 rfl rfl ?_
        refine xg_PA_queue hX 62 rfl xk_PA_24 xnd_PA_enter_59 ?_
        refine xf_aload_n hX 63 rfl 0 xnd_PA_enter_62 rfl rfl ?_
        refine xg_PA_queued hX 66 rfl xk_PA_33 xnd_PA_enter_63 ?_
        change xf_V X 66 _ [.int (nI m), _] _
        refine xf_iload hX 68 rfl xnd_PA_enter_66 rfl ?_
        refine xaX_iastore hX 69 rfl rfl (show vp_in _ (8 * xw_w P) from vp_in_nI hm8 (by omega)) xnd_PA_enter_68 ?_
        rw [nI_clamp (by omega)]
        refine xf_aload_n hX 70 rfl 0 xnd_PA_enter_69 rfl rfl ?_
        refine xf_dup hX 71 rfl xnd_PA_enter_70 rfl ?_
        refine xg_PA_queued hX 74 rfl xk_PA_33 xnd_PA_enter_71 ?_
        change xf_V X 74 _ [.int (nI m), _] _
        refine xf_iconst hX 75 rfl (1) xnd_PA_enter_74 (by decide) ?_
        refine xf_iadd hX 76 rfl xnd_PA_enter_75 ?_
        rw [nI_1]
        refine xp_PA_queued hX 79 rfl xk_PA_33 xnd_PA_enter_76 ?_
        rw [xs_pack_add]
        refine xf_iinc hX 82 rfl (nI (p + 1)) xnd_PA_enter_79 rfl (by rw [nI_succ]; rfl) (by decide) ?_
        dsimp only [List.set]
        refine xf_goto hX 24 xnd_PA_enter_82 (by decide) ?_
        refine ih (p + 1) _ _ _ _ (by omega) (by omega) (by rw [xb_cnt_set hd (by omega) h39, hm]) ?_
        rw [← hR, xb_enter]
        dsimp only
        rw [if_pos h39]
  refine xf_aload_n hX 1 rfl 0 xnd_PA_enter_0 rfl rfl ?_
  refine xg_PA_store hX 4 rfl xk_PA_9 xnd_PA_enter_1 ?_
  refine xg_ST_ways hX 7 rfl xk_PA_58 xnd_PA_enter_4 ?_
  refine xf_iload_n hX 8 rfl 1 xnd_PA_enter_7 rfl rfl ?_
  refine xf_iconst hX 9 rfl (1) xnd_PA_enter_8 (by decide) ?_
  refine xf_iadd hX 10 rfl xnd_PA_enter_9 ?_
  refine xf_imul hX 11 rfl xnd_PA_enter_10 ?_
  refine xf_istore hX 13 rfl xnd_PA_enter_11 (by decide) ?_
  dsimp only [List.set]
  refine xf_aload_n hX 14 rfl 0 xnd_PA_enter_13 rfl rfl ?_
  refine xg_PA_store hX 17 rfl xk_PA_9 xnd_PA_enter_14 ?_
  refine xg_ST_ways hX 20 rfl xk_PA_58 xnd_PA_enter_17 ?_
  refine xf_iload_n hX 21 rfl 1 xnd_PA_enter_20 rfl rfl ?_
  refine xf_imul hX 22 rfl xnd_PA_enter_21 ?_
  refine xf_istore hX 24 rfl xnd_PA_enter_22 (by decide) ?_
  dsimp only [List.set]
  rw [e1, e2]
  have V := loop (xw_w P) ((xw_w P) * j) (σ.2 15) (σ.2 16) (σ.2 17) m0 (by omega) (by omega) hm0 hRR
  rw [xs_pack_id σ m0 hq0] at V
  exact V

set_option maxRecDepth 100000 in
set_option maxHeartbeats 4000000 in
theorem xc_keep (P : xw_T) (σ τ : xf_T) (last : Int32) (d : Nat) (hl : vp_in last (8 * (xw_w P))) (hD : σ.2 17 last.toNatClampNeg = nI d) (hd : d ≤ 4) (hch : xs_chain (8 * (xw_w P)) (σ.2 16) d last) : xf_F (xw_l P) xny_PA_keep xnc_PA_keep 4 none 0 0 (xw_W P) (xw_D P) (xw_ty P) [.ref (xw_a P 13), .int last] (σ, τ) none (xs_kp σ last, τ) := by
  refine xf_start (own := xnR_PA) [some (.ref (xw_a P 13)), some (.int last), none, none] rfl (by decide) (Nat.le_of_ble_eq_true rfl) rfl (xf_cat rfl) ?_
  intro X hX hE
  have hcl : (nI d).toNatClampNeg = d := nI_clamp (by omega)
  have hkp : xs_kp σ last = xs_sA (xf_I σ 19 (nI d)) 14 (xb_keep (σ.2 16) d last (σ.2 14)) := by
    unfold xs_kp
    rw [hD, hcl]
    rfl
  rw [hkp] at hE
  generalize hRR : xb_keep (σ.2 16) d last (σ.2 14) = RR at hE
  have loop : ∀ k p f, k ≤ 4 → xs_chain (8 * (xw_w P)) (σ.2 16) k p → xb_keep (σ.2 16) k p f = RR → xf_V X 17 [some (.ref (xw_a P 13)), some (.int last), some (.int p), some (.int (nI k))] [] (xs_sA (xf_I σ 19 (nI d)) 14 f, τ) := by
    intro k
    induction k with
    | zero =>
      intro p f hk hc hR
      refine xf_iload_n hX 18 rfl 3 xnd_PA_keep_17 rfl rfl ?_
      refine xf_if_le hX 21 rfl 41 xnd_PA_keep_18 (by decide) (fun _ => ?_) (fun h18 => absurd (by decide) h18)
      refine xf_aload_n hX 42 rfl 0 xnd_PA_keep_41 rfl rfl ?_
      refine xg_PA_stops hX 45 rfl xk_PA_15 xnd_PA_keep_42 ?_
      refine xf_iconst hX 46 rfl (0) xnd_PA_keep_45 (by decide) ?_
      refine xf_iload_n hX 47 rfl 2 xnd_PA_keep_46 rfl rfl ?_
      refine xaX_iastore hX 48 rfl rfl (show vp_in _ 5 from vp_in_nI (n := 0) (by omega) (by omega)) xnd_PA_keep_47 ?_
      rw [xs_A_sA]
      refine xf_vret hX hE xnd_PA_keep_48 ?_
      exact ⟨rfl, by rw [← hR]; rfl⟩
    | succ k ih =>
      intro p f hk hc hR
      refine xf_iload_n hX 18 rfl 3 xnd_PA_keep_17 rfl rfl ?_
      refine xf_if_le hX 21 rfl 41 xnd_PA_keep_18 (by decide) (fun h18 => absurd h18 (nI_nle (by omega) (by omega))) (fun _ => ?_)
      refine xf_aload_n hX 22 rfl 0 xnd_PA_keep_21 rfl rfl ?_
      refine xg_PA_stops hX 25 rfl xk_PA_15 xnd_PA_keep_22 ?_
      refine xf_iload_n hX 26 rfl 3 xnd_PA_keep_25 rfl rfl ?_
      refine xf_iload_n hX 27 rfl 2 xnd_PA_keep_26 rfl rfl ?_
      refine xaX_iastore hX 28 rfl rfl (show vp_in _ 5 from vp_in_nI (by omega) (by omega)) xnd_PA_keep_27 ?_
      rw [nI_clamp (by omega), xs_A_sA]
      refine xf_aload_n hX 29 rfl 0 xnd_PA_keep_28 rfl rfl ?_
      refine xg_PA_before hX 32 rfl xk_PA_27 xnd_PA_keep_29 ?_
      refine xf_iload_n hX 33 rfl 2 xnd_PA_keep_32 rfl rfl ?_
      refine xaX_iaload hX 34 rfl rfl hc.1 xnd_PA_keep_33 ?_
      refine xf_istore_n hX 35 rfl 2 xnd_PA_keep_34 rfl (by decide) ?_
      dsimp only [List.set]
      refine xf_iinc hX 38 rfl (nI k) xnd_PA_keep_35 rfl (pk_m1 k) (by decide) ?_
      dsimp only [List.set]
      refine xf_goto hX 17 xnd_PA_keep_38 (by decide) ?_
      exact ih _ _ (by omega) hc.2 hR
  refine xf_aload_n hX 1 rfl 0 xnd_PA_keep_0 rfl rfl ?_
  refine xf_aload_n hX 2 rfl 0 xnd_PA_keep_1 rfl rfl ?_
  refine xg_PA_depths hX 5 rfl xk_PA_30 xnd_PA_keep_2 ?_
  refine xf_iload_n hX 6 rfl 1 xnd_PA_keep_5 rfl rfl ?_
  refine xaX_iaload hX 7 rfl rfl hl xnd_PA_keep_6 ?_
  rw [hD]
  refine xp_PA_length hX 10 rfl xk_PA_68 xnd_PA_keep_7 ?_
  refine xf_iload_n hX 11 rfl 1 xnd_PA_keep_10 rfl rfl ?_
  refine xf_istore_n hX 12 rfl 2 xnd_PA_keep_11 rfl (by decide) ?_
  dsimp only [List.set]
  refine xf_aload_n hX 13 rfl 0 xnd_PA_keep_12 rfl rfl ?_
  refine xg_PA_length hX 16 rfl xk_PA_68 xnd_PA_keep_13 ?_
  change xf_V X 16 _ [.int (nI d)] _
  refine xf_istore_n hX 17 rfl 3 xnd_PA_keep_16 rfl (by decide) ?_
  dsimp only [List.set]
  have V := loop d last (σ.2 14) hd hch hRR
  have e0 : xs_sA (xf_I σ 19 (nI d)) 14 (σ.2 14) = xf_I σ 19 (nI d) := xs_sA_id (xf_I σ 19 (nI d)) 14
  rw [e0] at V
  exact V

