/-! Contracts of the class: the store, its looks and its items. Laid by wip/gen/class3.py. -/
set_option maxRecDepth 100000 in
set_option maxHeartbeats 4000000 in
theorem xc_lkIn (P : xw_T) (σ τ : xf_T) (b key : Int32) (ho : xs_okP (xw_n P) (xw_w P) σ) (hb : ∃ j, j < 8 ∧ b = nI j) : xf_F (xw_l P) xny_ST_lookUpIn xnc_ST_lookUpIn 6 (some .int) 2 40 (xw_W P) (xw_D P) (xw_ty P) [.ref (xw_a P 2), .int b, .int key] (σ, τ) (some (.int (xs_findIn (xw_w P) σ b key))) (xs_lkIn (xw_w P) σ b key, τ) := by
  refine xf_start (own := xnR_ST) [some (.ref (xw_a P 2)), some (.int b), some (.int key), none, none, none] rfl (by decide) (Nat.le_of_ble_eq_true rfl) rfl (xf_cat rfl) ?_
  intro X hX hE
  obtain ⟨j, hj, rfl⟩ := hb
  have hw := ho.2
  have h8 := xr_bkb (w := (xw_w P)) hj
  have e1 : nI (xw_w P) * (nI j + 1) = nI ((xw_w P) * j + (xw_w P)) := by rw [nI_1, pk_mul, Nat.mul_succ]
  have e2 : nI (xw_w P) * nI j = nI ((xw_w P) * j) := pk_mul _ _
  have ecl : (nI j).toNatClampNeg = j := nI_clamp (by omega)
  generalize hF : xs_findIn (xw_w P) σ (nI j) key = F at hE
  have hFc : F = -1 ∨ ∃ q, (xw_w P) * j ≤ q ∧ q < (xw_w P) * j + (xw_w P) ∧ F = nI q := by
    rw [← hF]
    unfold xs_findIn
    rw [ecl]
    rcases xs_fi_is (σ.2 5) (σ.2 6) key (xw_w P) ((xw_w P) * j) with g | ⟨q, g1, g2, g3, -⟩
    · exact Or.inl g
    · exact Or.inr ⟨q, g1, g2, g3⟩
  obtain ⟨cc0, hcc⟩ : ∃ c, c = (if F = -1 then (xw_w P) else F.toNatClampNeg - (xw_w P) * j) := ⟨_, rfl⟩
  have hcw : cc0 ≤ (xw_w P) := by
    rw [hcc]
    rcases hFc with g | ⟨q, g1, g2, g3⟩
    · rw [if_pos g]; exact Nat.le_refl _
    · rw [g3, if_neg (xb_nIm1 (by omega)), nI_clamp (by omega)]; omega
  generalize hNR : xs_nr (σ.2 5) (σ.2 6) key cc0 ((xw_w P) * j) (σ.1 4) = NR
  have hFin : xs_lkIn (xw_w P) σ (nI j) key = xf_I σ 4 NR := by
    unfold xs_lkIn
    rw [hF, ← hNR, hcc]
    unfold xs_cn
    rw [ecl]
  have loop : ∀ r p acc, r + p = (xw_w P) * j + cc0 → (xw_w P) * j ≤ p → xs_nr (σ.2 5) (σ.2 6) key r p acc = NR → xf_V X 34 [some (.ref (xw_a P 2)), some (.int (nI j)), some (.int key), some (.int F), some (.int (nI ((xw_w P) * j + cc0))), some (.int (nI p))] [] (xf_I σ 4 acc, τ) := by
    intro r
    induction r with
    | zero =>
      intro p acc hp hp2 hR
      refine xf_iload hX 36 rfl xnd_ST_lookUpIn_34 rfl ?_
      refine xf_iload hX 38 rfl xnd_ST_lookUpIn_36 rfl ?_
      refine xf_icmp_ge hX 41 rfl 93 xnd_ST_lookUpIn_38 (by decide) (fun _ => ?_) (fun h38 => absurd (nI_le (by omega) (by omega)) h38)
      refine xf_iload_n hX 94 rfl 3 xnd_ST_lookUpIn_93 rfl rfl ?_
      refine xf_iret hX hE xnd_ST_lookUpIn_94 ?_
      exact ⟨rfl, by rw [hFin, ← hR]; rfl⟩
    | succ r ih =>
      intro p acc hp hp2 hR
      refine xf_iload hX 36 rfl xnd_ST_lookUpIn_34 rfl ?_
      refine xf_iload hX 38 rfl xnd_ST_lookUpIn_36 rfl ?_
      refine xf_icmp_ge hX 41 rfl 93 xnd_ST_lookUpIn_38 (by decide) (fun h38 => absurd h38 (nI_ge (by omega) (by omega))) (fun _ => ?_)
      refine xf_aload_n hX 42 rfl 0 xnd_ST_lookUpIn_41 rfl rfl ?_
      refine xg_ST_places hX 45 rfl xk_ST_22 xnd_ST_lookUpIn_42 ?_
      refine xf_iload hX 47 rfl xnd_ST_lookUpIn_45 rfl ?_
      refine xaX_iaload hX 48 rfl rfl (show vp_in _ (8 * xw_w P) from vp_in_nI (by omega) (by omega)) xnd_ST_lookUpIn_47 ?_
      rw [nI_clamp (by omega), xs_I2]
      refine xf_iconst hX 49 rfl (-1) xnd_ST_lookUpIn_48 (by decide) ?_
      refine xf_icmp_eq hX 52 rfl 87 xnd_ST_lookUpIn_49 (by decide) (fun h49 => ?_) (fun h49 => ?_)
      · refine xf_iinc hX 90 rfl (nI (p + 1)) xnd_ST_lookUpIn_87 rfl (by rw [nI_succ]; rfl) (by decide) ?_
        dsimp only [List.set]
        refine xf_goto hX 34 xnd_ST_lookUpIn_90 (by decide) ?_
        refine ih (p + 1) _ (by omega) (by omega) ?_
        rw [← hR, xs_nr]
        simp only [eq_true h49, if_true, if_false]
      · refine xf_aload_n hX 53 rfl 0 xnd_ST_lookUpIn_52 rfl rfl ?_
        refine xg_ST_keys hX 56 rfl xk_ST_32 xnd_ST_lookUpIn_53 ?_
        refine xf_aload_n hX 57 rfl 0 xnd_ST_lookUpIn_56 rfl rfl ?_
        refine xg_ST_places hX 60 rfl xk_ST_22 xnd_ST_lookUpIn_57 ?_
        refine xf_iload hX 62 rfl xnd_ST_lookUpIn_60 rfl ?_
        refine xaX_iaload hX 63 rfl rfl (show vp_in _ (8 * xw_w P) from vp_in_nI (by omega) (by omega)) xnd_ST_lookUpIn_62 ?_
        rw [nI_clamp (by omega), xs_I2]
        refine xaX_iaload hX 64 rfl rfl (ho.in (by omega) h49) xnd_ST_lookUpIn_63 ?_
        rw [xs_I2]
        refine xf_T1i hX 67 rfl (xc_tagOf P _ _ _) xq_SC_tagOf xk_ST_74 rfl rfl xnd_ST_lookUpIn_64 ?_
        refine xf_iload_n hX 68 rfl 2 xnd_ST_lookUpIn_67 rfl rfl ?_
        refine xf_T1i hX 71 rfl (xc_tagOf P _ _ _) xq_SC_tagOf xk_ST_74 rfl rfl xnd_ST_lookUpIn_68 ?_
        refine xf_icmp_ne hX 74 rfl 87 xnd_ST_lookUpIn_71 (by decide) (fun h71 => ?_) (fun h71 => ?_)
        · refine xf_iinc hX 90 rfl (nI (p + 1)) xnd_ST_lookUpIn_87 rfl (by rw [nI_succ]; rfl) (by decide) ?_
          dsimp only [List.set]
          refine xf_goto hX 34 xnd_ST_lookUpIn_90 (by decide) ?_
          refine ih (p + 1) _ (by omega) (by omega) ?_
          rw [← hR, xs_nr]
          simp only [h49, h71, if_true, if_false]
        · refine xf_aload_n hX 75 rfl 0 xnd_ST_lookUpIn_74 rfl rfl ?_
          refine xg_ST_tally hX 78 rfl xk_ST_9 xnd_ST_lookUpIn_75 ?_
          refine xf_dup hX 79 rfl xnd_ST_lookUpIn_78 rfl ?_
          refine xg_TA_nearMisses hX 82 rfl xk_ST_77 xnd_ST_lookUpIn_79 ?_
          refine xf_iconst hX 83 rfl (1) xnd_ST_lookUpIn_82 (by decide) ?_
          refine xf_iadd hX 84 rfl xnd_ST_lookUpIn_83 ?_
          refine xp_TA_nearMisses hX 87 rfl xk_ST_77 xnd_ST_lookUpIn_84 ?_
          change xf_V X 87 _ [] (xf_I (xf_I σ 4 acc) 4 (acc + 1), τ)
          rw [xs_II]
          refine xf_iinc hX 90 rfl (nI (p + 1)) xnd_ST_lookUpIn_87 rfl (by rw [nI_succ]; rfl) (by decide) ?_
          dsimp only [List.set]
          refine xf_goto hX 34 xnd_ST_lookUpIn_90 (by decide) ?_
          refine ih (p + 1) _ (by omega) (by omega) ?_
          rw [← hR, xs_nr]
          simp only [h49, eq_true h71, if_true, if_false]
  have K : ∀ E, E = nI ((xw_w P) * j + cc0) → xf_V X 24 [some (.ref (xw_a P 2)), some (.int (nI j)), some (.int key), some (.int F), none, none] [.int E] (σ, τ) := by
    intro E hEE
    subst hEE
    refine xf_istore hX 26 rfl xnd_ST_lookUpIn_24 (by decide) ?_
    dsimp only [List.set]
    refine xf_aload_n hX 27 rfl 0 xnd_ST_lookUpIn_26 rfl rfl ?_
    refine xg_ST_ways hX 30 rfl xk_ST_19 xnd_ST_lookUpIn_27 ?_
    refine xf_iload_n hX 31 rfl 1 xnd_ST_lookUpIn_30 rfl rfl ?_
    refine xf_imul hX 32 rfl xnd_ST_lookUpIn_31 ?_
    refine xf_istore hX 34 rfl xnd_ST_lookUpIn_32 (by decide) ?_
    dsimp only [List.set]
    rw [e2]
    have V := loop cc0 ((xw_w P) * j) (σ.1 4) (by omega) (by omega) hNR
    rw [xs_I_id] at V
    exact V
  refine xf_aload_n hX 1 rfl 0 xnd_ST_lookUpIn_0 rfl rfl ?_
  refine xf_iload_n hX 2 rfl 1 xnd_ST_lookUpIn_1 rfl rfl ?_
  refine xf_iload_n hX 3 rfl 2 xnd_ST_lookUpIn_2 rfl rfl ?_
  refine xf_V2i hX 6 rfl (xc_findIn P _ _ _ _ ho ⟨j, hj, rfl⟩) xq_ST_findIn xk_ST_64 xrX_ST rfl rfl xnd_ST_lookUpIn_3 ?_
  rw [hF]
  refine xf_istore_n hX 7 rfl 3 xnd_ST_lookUpIn_6 rfl (by decide) ?_
  dsimp only [List.set]
  refine xf_iload_n hX 8 rfl 3 xnd_ST_lookUpIn_7 rfl rfl ?_
  refine xf_iconst hX 9 rfl (-1) xnd_ST_lookUpIn_8 (by decide) ?_
  refine xf_icmp_eq hX 12 rfl 16 xnd_ST_lookUpIn_9 (by decide) (fun h9 => ?_) (fun h9 => ?_)
  · refine xf_aload_n hX 17 rfl 0 xnd_ST_lookUpIn_16 rfl rfl ?_
    refine xg_ST_ways hX 20 rfl xk_ST_19 xnd_ST_lookUpIn_17 ?_
    refine xf_iload_n hX 21 rfl 1 xnd_ST_lookUpIn_20 rfl rfl ?_
    refine xf_iconst hX 22 rfl (1) xnd_ST_lookUpIn_21 (by decide) ?_
    refine xf_iadd hX 23 rfl xnd_ST_lookUpIn_22 ?_
    refine xf_imul hX 24 rfl xnd_ST_lookUpIn_23 ?_
    refine K _ ?_
    rw [e1, hcc, if_pos h9]
  · refine xf_iload_n hX 13 rfl 3 xnd_ST_lookUpIn_12 rfl rfl ?_
    refine xf_goto hX 24 xnd_ST_lookUpIn_13 (by decide) ?_
    refine K _ ?_
    rcases hFc with g | ⟨q, g1, g2, g3⟩
    · exact absurd g h9
    · rw [hcc, if_neg h9, g3, nI_clamp (by omega)]; congr 1; omega

theorem xs_okP.lk {n w : Nat} {σ : xf_T} (h : xs_okP n w σ) (b key : Int32) : xs_okP n w (xs_lkIn w σ b key) := h
set_option maxRecDepth 100000 in
set_option maxHeartbeats 4000000 in
theorem xc_lk (P : xw_T) (σ τ : xf_T) (key : Int32) (ho : xs_okP (xw_n P) (xw_w P) σ) : xf_F (xw_l P) xny_ST_lookUp xnc_ST_lookUp 3 (some .int) 4 81 (xw_W P) (xw_D P) (xw_ty P) [.ref (xw_a P 2), .int key] (σ, τ) (some (.int (xs_find (xw_w P) σ key))) (xs_lk (xw_w P) σ key, τ) := by
  refine xf_start (own := xnR_ST) [some (.ref (xw_a P 2)), some (.int key), none] rfl (by decide) (Nat.le_of_ble_eq_true rfl) rfl (xf_cat rfl) ?_
  intro X hX hE
  refine xf_aload_n hX 1 rfl 0 xnd_ST_lookUp_0 rfl rfl ?_
  refine xf_iload_n hX 2 rfl 1 xnd_ST_lookUp_1 rfl rfl ?_
  refine xf_T1i hX 5 rfl (xc_firstBucket P _ _ _) xq_SC_firstBucket xk_ST_60 rfl rfl xnd_ST_lookUp_2 ?_
  refine xf_iload_n hX 6 rfl 1 xnd_ST_lookUp_5 rfl rfl ?_
  refine xf_V2i hX 9 rfl (xc_lkIn P _ _ _ _ ho (xs_b1_is _)) xq_ST_lookUpIn xk_ST_71 xrX_ST rfl rfl xnd_ST_lookUp_6 ?_
  refine xf_istore_n hX 10 rfl 2 xnd_ST_lookUp_9 rfl (by decide) ?_
  dsimp only [List.set]
  refine xf_iload_n hX 11 rfl 2 xnd_ST_lookUp_10 rfl rfl ?_
  refine xf_iconst hX 12 rfl (-1) xnd_ST_lookUp_11 (by decide) ?_
  refine xf_icmp_eq hX 15 rfl 19 xnd_ST_lookUp_12 (by decide) (fun h12 => ?_) (fun h12 => ?_)
  · refine xf_aload_n hX 20 rfl 0 xnd_ST_lookUp_19 rfl rfl ?_
    refine xf_iload_n hX 21 rfl 1 xnd_ST_lookUp_20 rfl rfl ?_
    refine xf_T1i hX 24 rfl (xc_secondBucket P _ _ _) xq_SC_secondBucket xk_ST_68 rfl rfl xnd_ST_lookUp_21 ?_
    refine xf_iload_n hX 25 rfl 1 xnd_ST_lookUp_24 rfl rfl ?_
    refine xf_V2i hX 28 rfl (xc_lkIn P _ _ _ _ (ho.lk _ _) (xs_b2_is _)) xq_ST_lookUpIn xk_ST_71 xrX_ST rfl rfl xnd_ST_lookUp_25 ?_
    refine xf_iret hX hE xnd_ST_lookUp_28 ?_
    refine ⟨?_, ?_⟩ <;> simp only [xs_find, xs_lk, eq_true h12, if_true, if_false] <;> rfl
  · refine xf_iload_n hX 16 rfl 2 xnd_ST_lookUp_15 rfl rfl ?_
    refine xf_goto hX 28 xnd_ST_lookUp_16 (by decide) ?_
    refine xf_iret hX hE xnd_ST_lookUp_28 ?_
    refine ⟨?_, ?_⟩ <;> simp only [xs_find, xs_lk, h12, if_true, if_false] <;> rfl

set_option maxRecDepth 100000 in
set_option maxHeartbeats 4000000 in
theorem xc_remove (P : xw_T) (σ τ : xf_T) (i : Int32) (ho : xs_okP (xw_n P) (xw_w P) σ) (hi : vp_in i (xw_n P)) : xf_F (xw_l P) xny_ST_remove xnc_ST_remove 3 none 3 62 (xw_W P) (xw_D P) (xw_ty P) [.ref (xw_a P 2), .int i] (σ, τ) none (xs_remove (xw_w P) σ i, τ) := by
  refine xf_start (own := xnR_ST) [some (.ref (xw_a P 2)), some (.int i), none] rfl (by decide) (Nat.le_of_ble_eq_true rfl) rfl (xf_cat rfl) ?_
  intro X hX hE
  have hw := ho.2
  have K : xf_V X 34 [some (.ref (xw_a P 2)), some (.int i), some (.int (nI (8 * (xw_w P))))] [] (xs_sA σ 5 (xs_rmf (8 * (xw_w P)) (σ.2 5) i), τ) := by
    refine xf_aload_n hX 35 rfl 0 xnd_ST_remove_34 rfl rfl ?_
    refine xg_ST_usedFlags hX 38 rfl xk_ST_48 xnd_ST_remove_35 ?_
    refine xf_iload_n hX 39 rfl 1 xnd_ST_remove_38 rfl rfl ?_
    refine xf_iconst hX 40 rfl (0) xnd_ST_remove_39 (by decide) ?_
    refine xaX_bastore hX 41 rfl rfl hi rfl xnd_ST_remove_40 ?_
    refine xf_aload_n hX 42 rfl 0 xnd_ST_remove_41 rfl rfl ?_
    refine xf_dup hX 43 rfl xnd_ST_remove_42 rfl ?_
    refine xg_ST_usedCount hX 46 rfl xk_ST_54 xnd_ST_remove_43 ?_
    refine xf_iconst hX 47 rfl (1) xnd_ST_remove_46 (by decide) ?_
    refine xf_isub hX 48 rfl xnd_ST_remove_47 ?_
    refine xp_ST_usedCount hX 51 rfl xk_ST_54 xnd_ST_remove_48 ?_
    refine xf_aload_n hX 52 rfl 0 xnd_ST_remove_51 rfl rfl ?_
    refine xf_aload_n hX 53 rfl 0 xnd_ST_remove_52 rfl rfl ?_
    refine xg_ST_keys hX 56 rfl xk_ST_32 xnd_ST_remove_53 ?_
    refine xf_iload_n hX 57 rfl 1 xnd_ST_remove_56 rfl rfl ?_
    refine xaX_iaload hX 58 rfl rfl hi xnd_ST_remove_57 ?_
    refine xf_iconst hX 59 rfl (2) xnd_ST_remove_58 (by decide) ?_
    refine xf_V2v hX 62 rfl (xc_grow P _ _ _ _) xq_ST_growVersion xk_ST_85 xrX_ST rfl rfl xnd_ST_remove_59 ?_
    refine xf_vret hX hE xnd_ST_remove_62 ?_
    exact ⟨rfl, rfl⟩
  have loop : ∀ r p, r + p = 8 * (xw_w P) → xf_V X 2 [some (.ref (xw_a P 2)), some (.int i), some (.int (nI p))] [] (xs_sA σ 5 (xs_rmf p (σ.2 5) i), τ) := by
    intro r
    induction r with
    | zero =>
      intro p hp
      refine xf_iload_n hX 3 rfl 2 xnd_ST_remove_2 rfl rfl ?_
      refine xf_aload_n hX 4 rfl 0 xnd_ST_remove_3 rfl rfl ?_
      refine xg_ST_places hX 7 rfl xk_ST_22 xnd_ST_remove_4 ?_
      refine xaX_alen hX 8 rfl rfl xnd_ST_remove_7 ?_
      change xf_V X 8 _ (.int (nI (8 * xw_w P)) :: _) _
      refine xf_icmp_ge hX 11 rfl 34 xnd_ST_remove_8 (by decide) (fun _ => ?_) (fun h8 => absurd (nI_le (by omega) (by omega)) h8)
      have hN : p = 8 * (xw_w P) := by omega
      subst hN
      exact K
    | succ r ih =>
      intro p hp
      refine xf_iload_n hX 3 rfl 2 xnd_ST_remove_2 rfl rfl ?_
      refine xf_aload_n hX 4 rfl 0 xnd_ST_remove_3 rfl rfl ?_
      refine xg_ST_places hX 7 rfl xk_ST_22 xnd_ST_remove_4 ?_
      refine xaX_alen hX 8 rfl rfl xnd_ST_remove_7 ?_
      change xf_V X 8 _ (.int (nI (8 * xw_w P)) :: _) _
      refine xf_icmp_ge hX 11 rfl 34 xnd_ST_remove_8 (by decide) (fun h8 => absurd h8 (nI_ge (by omega) (by omega))) (fun _ => ?_)
      refine xf_aload_n hX 12 rfl 0 xnd_ST_remove_11 rfl rfl ?_
      refine xg_ST_places hX 15 rfl xk_ST_22 xnd_ST_remove_12 ?_
      refine xf_iload_n hX 16 rfl 2 xnd_ST_remove_15 rfl rfl ?_
      refine xaX_iaload hX 17 rfl rfl (show vp_in _ (8 * xw_w P) from vp_in_nI (by omega) (by omega)) xnd_ST_remove_16 ?_
      rw [nI_clamp (by omega)]
      change xf_V X 17 _ [.int (xs_rmf p (σ.2 5) i p)] _
      rw [xs_rmf_at]
      refine xf_iload_n hX 18 rfl 1 xnd_ST_remove_17 rfl rfl ?_
      refine xf_icmp_ne hX 21 rfl 28 xnd_ST_remove_18 (by decide) (fun h18 => ?_) (fun h18 => ?_)
      · rw [← xs_rmf_s _ _ _ h18]
        refine xf_iinc hX 31 rfl (nI (p + 1)) xnd_ST_remove_28 rfl (by rw [nI_succ]; rfl) (by decide) ?_
        dsimp only [List.set]
        refine xf_goto hX 2 xnd_ST_remove_31 (by decide) ?_
        exact ih (p + 1) (by omega)
      · refine xf_aload_n hX 22 rfl 0 xnd_ST_remove_21 rfl rfl ?_
        refine xg_ST_places hX 25 rfl xk_ST_22 xnd_ST_remove_22 ?_
        refine xf_iload_n hX 26 rfl 2 xnd_ST_remove_25 rfl rfl ?_
        refine xf_iconst hX 27 rfl (-1) xnd_ST_remove_26 (by decide) ?_
        refine xaX_iastore hX 28 rfl rfl (show vp_in _ (8 * xw_w P) from vp_in_nI (by omega) (by omega)) xnd_ST_remove_27 ?_
        rw [nI_clamp (by omega), xs_A_sA, xs_rmf_t _ _ _ h18]
        refine xf_iinc hX 31 rfl (nI (p + 1)) xnd_ST_remove_28 rfl (by rw [nI_succ]; rfl) (by decide) ?_
        dsimp only [List.set]
        refine xf_goto hX 2 xnd_ST_remove_31 (by decide) ?_
        exact ih (p + 1) (by omega)
  refine xf_iconst hX 1 rfl (0) xnd_ST_remove_0 (by decide) ?_
  refine xf_istore_n hX 2 rfl 2 xnd_ST_remove_1 rfl (by decide) ?_
  dsimp only [List.set]
  have V := loop (8 * (xw_w P)) 0 (by omega)
  rw [xs_rmf_0, xs_sA_id] at V
  exact V

set_option maxRecDepth 100000 in
set_option maxHeartbeats 4000000 in
theorem xc_low (P : xw_T) (σ τ : xf_T) (ho : xs_okP (xw_n P) (xw_w P) σ) : xf_F (xw_l P) xny_ST_lowestFree xnc_ST_lowestFree 2 (some .int) 0 0 (xw_W P) (xw_D P) (xw_ty P) [.ref (xw_a P 2)] (σ, τ) (some (.int (nI (xs_low (σ.2 11) ((xw_n P) - 1) 0)))) (σ, τ) := by
  refine xf_start (own := xnR_ST) [some (.ref (xw_a P 2)), none] rfl (by decide) (Nat.le_of_ble_eq_true rfl) rfl (xf_cat rfl) ?_
  intro X hX hE
  have hw := ho.2
  have e1 : nI (xw_n P) - 1 = nI ((xw_n P) - 1) := pk_sub (a := (xw_n P)) (b := 1) (by omega)
  generalize hRR : xs_low (σ.2 11) ((xw_n P) - 1) 0 = RR at hE
  have loop : ∀ r i, r + i = (xw_n P) - 1 → xs_low (σ.2 11) r i = RR → xf_V X 2 [some (.ref (xw_a P 2)), some (.int (nI i))] [] (σ, τ) := by
    intro r
    induction r with
    | zero =>
      intro i hp hR
      refine xf_iload_n hX 3 rfl 1 xnd_ST_lowestFree_2 rfl rfl ?_
      refine xf_aload_n hX 4 rfl 0 xnd_ST_lowestFree_3 rfl rfl ?_
      refine xg_ST_capacity hX 7 rfl xk_ST_15 xnd_ST_lowestFree_4 ?_
      refine xf_iconst hX 8 rfl (1) xnd_ST_lowestFree_7 (by decide) ?_
      refine xf_isub hX 9 rfl xnd_ST_lowestFree_8 ?_
      rw [e1]
      refine xf_icmp_ge hX 12 rfl 27 xnd_ST_lowestFree_9 (by decide) (fun _ => ?_) (fun h9 => absurd (nI_le (by omega) (by omega)) h9)
      refine xf_iload_n hX 28 rfl 1 xnd_ST_lowestFree_27 rfl rfl ?_
      refine xf_iret hX hE xnd_ST_lowestFree_28 ?_
      exact ⟨by rw [← hR]; rfl, rfl⟩
    | succ r ih =>
      intro i hp hR
      refine xf_iload_n hX 3 rfl 1 xnd_ST_lowestFree_2 rfl rfl ?_
      refine xf_aload_n hX 4 rfl 0 xnd_ST_lowestFree_3 rfl rfl ?_
      refine xg_ST_capacity hX 7 rfl xk_ST_15 xnd_ST_lowestFree_4 ?_
      refine xf_iconst hX 8 rfl (1) xnd_ST_lowestFree_7 (by decide) ?_
      refine xf_isub hX 9 rfl xnd_ST_lowestFree_8 ?_
      rw [e1]
      refine xf_icmp_ge hX 12 rfl 27 xnd_ST_lowestFree_9 (by decide) (fun h9 => absurd h9 (nI_ge (by omega) (by omega))) (fun _ => ?_)
      refine xf_aload_n hX 13 rfl 0 xnd_ST_lowestFree_12 rfl rfl ?_
      refine xg_ST_usedFlags hX 16 rfl xk_ST_48 xnd_ST_lowestFree_13 ?_
      refine xf_iload_n hX 17 rfl 1 xnd_ST_lowestFree_16 rfl rfl ?_
      refine xaX_baload hX 18 rfl rfl (show vp_in _ (xw_n P) from vp_in_nI (by omega) (by omega)) xnd_ST_lowestFree_17 ?_
      rw [nI_clamp (by omega)]
      refine xf_if_eq hX 21 rfl 27 xnd_ST_lowestFree_18 (by decide) (fun h18 => ?_) (fun h18 => ?_)
      · refine xf_iload_n hX 28 rfl 1 xnd_ST_lowestFree_27 rfl rfl ?_
        refine xf_iret hX hE xnd_ST_lowestFree_28 ?_
        refine ⟨?_, rfl⟩
        rw [← hR, xs_low]
        simp only [eq_true h18, if_true, if_false]
      · refine xf_iinc hX 24 rfl (nI (i + 1)) xnd_ST_lowestFree_21 rfl (by rw [nI_succ]; rfl) (by decide) ?_
        dsimp only [List.set]
        refine xf_goto hX 2 xnd_ST_lowestFree_24 (by decide) ?_
        refine ih (i + 1) (by omega) ?_
        rw [← hR, xs_low]
        simp only [h18, if_true, if_false]
  refine xf_iconst hX 1 rfl (0) xnd_ST_lowestFree_0 (by decide) ?_
  refine xf_istore_n hX 2 rfl 1 xnd_ST_lowestFree_1 rfl (by decide) ?_
  dsimp only [List.set]
  exact loop ((xw_n P) - 1) 0 (by omega) hRR

set_option maxRecDepth 100000 in
set_option maxHeartbeats 4000000 in
theorem xc_ins (P : xw_T) (σ τ : xf_T) (place key value life : Int32) (ho : xs_okP (xw_n P) (xw_w P) σ) (hp : vp_in place (8 * (xw_w P))) : xf_F (xw_l P) xny_ST_insert xnc_ST_insert 6 none 1 22 (xw_W P) (xw_D P) (xw_ty P) [.ref (xw_a P 2), .int place, .int key, .int value, .int life] (σ, τ) none (xs_ins (xw_n P) σ place key value life, τ) := by
  refine xf_start (own := xnR_ST) [some (.ref (xw_a P 2)), some (.int place), some (.int key), some (.int value), some (.int life), none] rfl (by decide) (Nat.le_of_ble_eq_true rfl) rfl (xf_cat rfl) ?_
  intro X hX hE
  have hw := ho.2
  have hlo := xs_low_le (σ.2 11) ((xw_n P) - 1) 0
  generalize hk : xs_low (σ.2 11) ((xw_n P) - 1) 0 = k at hlo
  have hin : vp_in (nI k) (xw_n P) := vp_in_nI (by omega) (by omega)
  have ek : (nI k).toNatClampNeg = k := nI_clamp (by omega)
  refine xf_aload_n hX 1 rfl 0 xnd_ST_insert_0 rfl rfl ?_
  refine xf_V0i hX 4 rfl (xc_low P _ _ ho) xq_ST_lowestFree xk_ST_92 xrX_ST rfl rfl xnd_ST_insert_1 ?_
  rw [hk]
  refine xf_istore hX 6 rfl xnd_ST_insert_4 (by decide) ?_
  dsimp only [List.set]
  refine xf_aload_n hX 7 rfl 0 xnd_ST_insert_6 rfl rfl ?_
  refine xg_ST_usedFlags hX 10 rfl xk_ST_48 xnd_ST_insert_7 ?_
  refine xf_iload hX 12 rfl xnd_ST_insert_10 rfl ?_
  refine xf_iconst hX 13 rfl (1) xnd_ST_insert_12 (by decide) ?_
  refine xaX_bastore hX 14 rfl rfl hin rfl xnd_ST_insert_13 ?_
  refine xf_aload_n hX 15 rfl 0 xnd_ST_insert_14 rfl rfl ?_
  refine xf_dup hX 16 rfl xnd_ST_insert_15 rfl ?_
  refine xg_ST_usedCount hX 19 rfl xk_ST_54 xnd_ST_insert_16 ?_
  refine xf_iconst hX 20 rfl (1) xnd_ST_insert_19 (by decide) ?_
  refine xf_iadd hX 21 rfl xnd_ST_insert_20 ?_
  refine xp_ST_usedCount hX 24 rfl xk_ST_54 xnd_ST_insert_21 ?_
  refine xf_aload_n hX 25 rfl 0 xnd_ST_insert_24 rfl rfl ?_
  refine xg_ST_keys hX 28 rfl xk_ST_32 xnd_ST_insert_25 ?_
  refine xf_iload hX 30 rfl xnd_ST_insert_28 rfl ?_
  refine xf_iload_n hX 31 rfl 2 xnd_ST_insert_30 rfl rfl ?_
  refine xaX_iastore hX 32 rfl rfl hin xnd_ST_insert_31 ?_
  refine xf_aload_n hX 33 rfl 0 xnd_ST_insert_32 rfl rfl ?_
  refine xg_ST_values hX 36 rfl xk_ST_35 xnd_ST_insert_33 ?_
  refine xf_iload hX 38 rfl xnd_ST_insert_36 rfl ?_
  refine xf_iload_n hX 39 rfl 3 xnd_ST_insert_38 rfl rfl ?_
  refine xaX_iastore hX 40 rfl rfl hin xnd_ST_insert_39 ?_
  refine xf_aload_n hX 41 rfl 0 xnd_ST_insert_40 rfl rfl ?_
  refine xf_iload hX 43 rfl xnd_ST_insert_41 rfl ?_
  refine xf_iload hX 45 rfl xnd_ST_insert_43 rfl ?_
  refine xf_V2v hX 48 rfl (xc_renew P _ _ _ _ hin) xq_ST_renew xk_ST_96 xrX_ST rfl rfl xnd_ST_insert_45 ?_
  refine xf_aload_n hX 49 rfl 0 xnd_ST_insert_48 rfl rfl ?_
  refine xg_ST_bits hX 52 rfl xk_ST_44 xnd_ST_insert_49 ?_
  refine xf_iload hX 54 rfl xnd_ST_insert_52 rfl ?_
  refine xf_iconst hX 55 rfl (0) xnd_ST_insert_54 (by decide) ?_
  refine xaX_bastore hX 56 rfl rfl hin rfl xnd_ST_insert_55 ?_
  refine xf_aload_n hX 57 rfl 0 xnd_ST_insert_56 rfl rfl ?_
  refine xg_ST_places hX 60 rfl xk_ST_22 xnd_ST_insert_57 ?_
  refine xf_iload_n hX 61 rfl 1 xnd_ST_insert_60 rfl rfl ?_
  refine xf_iload hX 63 rfl xnd_ST_insert_61 rfl ?_
  refine xaX_iastore hX 64 rfl rfl hp xnd_ST_insert_63 ?_
  refine xf_vret hX hE xnd_ST_insert_64 ?_
  refine ⟨rfl, ?_⟩
  simp only [xs_ins, xs_ins1, ek, hk]
  rfl

