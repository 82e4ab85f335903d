/-! Contracts of the class: numbers, ranges. Laid by wip/gen/class1.py. -/
set_option maxRecDepth 100000 in
set_option maxHeartbeats 4000000 in
theorem xc_isW (P : xw_T) (σ τ : xf_T) (x a b : Int32) : xf_F (xw_l P) xny_SC_isWithin xnc_SC_isWithin 3 (some .boolean) 0 0 (xw_W P) (xw_D P) (xw_ty P) [.int x, .int a, .int b] (σ, τ) (some (.int (xs_isW x a b))) (σ, τ) := by
  refine xf_start (own := xnR_SC) [some (.int x), some (.int a), some (.int b)] rfl (by decide) (Nat.le_of_ble_eq_true rfl) rfl (xf_cat rfl) ?_
  intro X hX hE
  refine xf_iload_n hX 1 rfl 0 xnd_SC_isWithin_0 rfl rfl ?_
  refine xf_iload_n hX 2 rfl 1 xnd_SC_isWithin_1 rfl rfl ?_
  refine xf_icmp_lt hX 5 rfl 14 xnd_SC_isWithin_2 (by decide) (fun h2 => ?_) (fun h2 => ?_)
  · refine xf_iconst hX 15 rfl (0) xnd_SC_isWithin_14 (by decide) ?_
    refine xf_zret hX hE xnd_SC_isWithin_15 rfl ?_
    refine ⟨?_, rfl⟩
    simp only [xs_isW, h2, if_true, if_false]
  · refine xf_iload_n hX 6 rfl 0 xnd_SC_isWithin_5 rfl rfl ?_
    refine xf_iload_n hX 7 rfl 2 xnd_SC_isWithin_6 rfl rfl ?_
    refine xf_icmp_gt hX 10 rfl 14 xnd_SC_isWithin_7 (by decide) (fun h7 => ?_) (fun h7 => ?_)
    · refine xf_iconst hX 15 rfl (0) xnd_SC_isWithin_14 (by decide) ?_
      refine xf_zret hX hE xnd_SC_isWithin_15 rfl ?_
      refine ⟨?_, rfl⟩
      simp only [xs_isW, h2, h7, if_true, if_false]
    · refine xf_iconst hX 11 rfl (1) xnd_SC_isWithin_10 (by decide) ?_
      refine xf_goto hX 15 xnd_SC_isWithin_11 (by decide) ?_
      refine xf_zret hX hE xnd_SC_isWithin_15 rfl ?_
      refine ⟨?_, rfl⟩
      simp only [xs_isW, h2, h7, if_true, if_false]

set_option maxRecDepth 100000 in
set_option maxHeartbeats 4000000 in
theorem xc_isRd (P : xw_T) (σ τ : xf_T) (x : Int32) : xf_F (xw_l P) xny_SC_isReader xnc_SC_isReader 1 (some .boolean) 1 22 (xw_W P) (xw_D P) (xw_ty P) [.int x] (σ, τ) (some (.int (xs_isW x 0 2))) (σ, τ) := by
  refine xf_start (own := xnR_SC) [some (.int x)] rfl (by decide) (Nat.le_of_ble_eq_true rfl) rfl (xf_cat rfl) ?_
  intro X hX hE
  refine xf_iload_n hX 1 rfl 0 xnd_SC_isReader_0 rfl rfl ?_
  refine xf_iconst hX 2 rfl (0) xnd_SC_isReader_1 (by decide) ?_
  refine xf_iconst hX 3 rfl (2) xnd_SC_isReader_2 (by decide) ?_
  refine xf_S3i hX 6 rfl (xc_isW P _ _ _ _ _) xq_SC_isWithin xk_SC_18 rfl rfl xnd_SC_isReader_3 ?_
  refine xf_zret hX hE xnd_SC_isReader_6 (xs_isW_z _ _ _) ?_
  exact ⟨rfl, rfl⟩

set_option maxRecDepth 100000 in
set_option maxHeartbeats 4000000 in
theorem xc_mix (P : xw_T) (σ τ : xf_T) (k : Int32) : xf_F (xw_l P) xny_SC_mix xnc_SC_mix 1 (some .int) 0 0 (xw_W P) (xw_D P) (xw_ty P) [.int k] (σ, τ) (some (.int (xs_mix k))) (σ, τ) := by
  refine xf_start (own := xnR_SC) [some (.int k)] rfl (by decide) (Nat.le_of_ble_eq_true rfl) rfl (xf_cat rfl) ?_
  intro X hX hE
  refine xf_iload_n hX 1 rfl 0 xnd_SC_mix_0 rfl rfl ?_
  refine xf_iload_n hX 2 rfl 0 xnd_SC_mix_1 rfl rfl ?_
  refine xf_bipush hX 4 rfl (15) xnd_SC_mix_2 (by decide) ?_
  refine xf_iushr hX 5 rfl xnd_SC_mix_4 ?_
  refine xf_ixor hX 6 rfl xnd_SC_mix_5 ?_
  refine xf_ldc hX 8 rfl xkc_SC_161 xnd_SC_mix_6 ?_
  refine xf_imul hX 9 rfl xnd_SC_mix_8 ?_
  refine xf_iret hX hE xnd_SC_mix_9 ?_
  exact ⟨rfl, rfl⟩

set_option maxRecDepth 100000 in
set_option maxHeartbeats 4000000 in
theorem xc_tagOf (P : xw_T) (σ τ : xf_T) (k : Int32) : xf_F (xw_l P) xny_SC_tagOf xnc_SC_tagOf 1 (some .int) 1 20 (xw_W P) (xw_D P) (xw_ty P) [.int k] (σ, τ) (some (.int (xs_tag k))) (σ, τ) := by
  refine xf_start (own := xnR_SC) [some (.int k)] rfl (by decide) (Nat.le_of_ble_eq_true rfl) rfl (xf_cat rfl) ?_
  intro X hX hE
  refine xf_iload_n hX 1 rfl 0 xnd_SC_tagOf_0 rfl rfl ?_
  refine xf_S1i hX 4 rfl (xc_mix P _ _ _) xq_SC_mix xk_SC_162 rfl rfl xnd_SC_tagOf_1 ?_
  refine xf_bipush hX 6 rfl (28) xnd_SC_tagOf_4 (by decide) ?_
  refine xf_iushr hX 7 rfl xnd_SC_tagOf_6 ?_
  refine xf_iret hX hE xnd_SC_tagOf_7 ?_
  exact ⟨rfl, rfl⟩

set_option maxRecDepth 100000 in
set_option maxHeartbeats 4000000 in
theorem xc_stripeOf (P : xw_T) (σ τ : xf_T) (k : Int32) : xf_F (xw_l P) xny_SC_stripeOf xnc_SC_stripeOf 1 (some .int) 1 20 (xw_W P) (xw_D P) (xw_ty P) [.int k] (σ, τ) (some (.int (xs_str k))) (σ, τ) := by
  refine xf_start (own := xnR_SC) [some (.int k)] rfl (by decide) (Nat.le_of_ble_eq_true rfl) rfl (xf_cat rfl) ?_
  intro X hX hE
  refine xf_iload_n hX 1 rfl 0 xnd_SC_stripeOf_0 rfl rfl ?_
  refine xf_S1i hX 4 rfl (xc_mix P _ _ _) xq_SC_mix xk_SC_162 rfl rfl xnd_SC_stripeOf_1 ?_
  refine xf_bipush hX 6 rfl (23) xnd_SC_stripeOf_4 (by decide) ?_
  refine xf_iushr hX 7 rfl xnd_SC_stripeOf_6 ?_
  refine xf_iconst hX 8 rfl (3) xnd_SC_stripeOf_7 (by decide) ?_
  refine xf_iand hX 9 rfl xnd_SC_stripeOf_8 ?_
  refine xf_iret hX hE xnd_SC_stripeOf_9 ?_
  exact ⟨rfl, rfl⟩

set_option maxRecDepth 100000 in
set_option maxHeartbeats 4000000 in
theorem xc_firstBucket (P : xw_T) (σ τ : xf_T) (k : Int32) : xf_F (xw_l P) xny_SC_firstBucket xnc_SC_firstBucket 1 (some .int) 1 20 (xw_W P) (xw_D P) (xw_ty P) [.int k] (σ, τ) (some (.int (xs_b1 k))) (σ, τ) := by
  refine xf_start (own := xnR_SC) [some (.int k)] rfl (by decide) (Nat.le_of_ble_eq_true rfl) rfl (xf_cat rfl) ?_
  intro X hX hE
  refine xf_iload_n hX 1 rfl 0 xnd_SC_firstBucket_0 rfl rfl ?_
  refine xf_S1i hX 4 rfl (xc_mix P _ _ _) xq_SC_mix xk_SC_162 rfl rfl xnd_SC_firstBucket_1 ?_
  refine xf_bipush hX 6 rfl (25) xnd_SC_firstBucket_4 (by decide) ?_
  refine xf_iushr hX 7 rfl xnd_SC_firstBucket_6 ?_
  refine xf_bipush hX 9 rfl (7) xnd_SC_firstBucket_7 (by decide) ?_
  refine xf_iand hX 10 rfl xnd_SC_firstBucket_9 ?_
  refine xf_iret hX hE xnd_SC_firstBucket_10 ?_
  exact ⟨rfl, rfl⟩

set_option maxRecDepth 100000 in
set_option maxHeartbeats 4000000 in
theorem xc_ob (P : xw_T) (σ τ : xf_T) (b k : Int32) : xf_F (xw_l P) xny_SC_otherBucket xnc_SC_otherBucket 2 (some .int) 2 40 (xw_W P) (xw_D P) (xw_ty P) [.int b, .int k] (σ, τ) (some (.int (xs_ob b k))) (σ, τ) := by
  refine xf_start (own := xnR_SC) [some (.int b), some (.int k)] rfl (by decide) (Nat.le_of_ble_eq_true rfl) rfl (xf_cat rfl) ?_
  intro X hX hE
  refine xf_iload_n hX 1 rfl 0 xnd_SC_otherBucket_0 rfl rfl ?_
  refine xf_iconst hX 2 rfl (1) xnd_SC_otherBucket_1 (by decide) ?_
  refine xf_iload_n hX 3 rfl 1 xnd_SC_otherBucket_2 rfl rfl ?_
  refine xf_S1i hX 6 rfl (xc_tagOf P _ _ _) xq_SC_tagOf xk_SC_122 rfl rfl xnd_SC_otherBucket_3 ?_
  refine xf_bipush hX 8 rfl (7) xnd_SC_otherBucket_6 (by decide) ?_
  refine xf_irem hX 9 rfl xnd_SC_otherBucket_8 (by decide) ?_
  refine xf_iadd hX 10 rfl xnd_SC_otherBucket_9 ?_
  refine xf_ixor hX 11 rfl xnd_SC_otherBucket_10 ?_
  refine xf_iret hX hE xnd_SC_otherBucket_11 ?_
  exact ⟨rfl, rfl⟩

set_option maxRecDepth 100000 in
set_option maxHeartbeats 4000000 in
theorem xc_secondBucket (P : xw_T) (σ τ : xf_T) (k : Int32) : xf_F (xw_l P) xny_SC_secondBucket xnc_SC_secondBucket 1 (some .int) 3 61 (xw_W P) (xw_D P) (xw_ty P) [.int k] (σ, τ) (some (.int (xs_b2 k))) (σ, τ) := by
  refine xf_start (own := xnR_SC) [some (.int k)] rfl (by decide) (Nat.le_of_ble_eq_true rfl) rfl (xf_cat rfl) ?_
  intro X hX hE
  refine xf_iload_n hX 1 rfl 0 xnd_SC_secondBucket_0 rfl rfl ?_
  refine xf_S1i hX 4 rfl (xc_firstBucket P _ _ _) xq_SC_firstBucket xk_SC_116 rfl rfl xnd_SC_secondBucket_1 ?_
  refine xf_iload_n hX 5 rfl 0 xnd_SC_secondBucket_4 rfl rfl ?_
  refine xf_S2i hX 8 rfl (xc_ob P _ _ _ _) xq_SC_otherBucket xk_SC_165 rfl rfl xnd_SC_secondBucket_5 ?_
  refine xf_iret hX hE xnd_SC_secondBucket_8 ?_
  exact ⟨rfl, rfl⟩

set_option maxRecDepth 100000 in
set_option maxHeartbeats 4000000 in
theorem xc_hash (P : xw_T) (σ τ : xf_T) (k : Int32) : xf_F (xw_l P) xny_SC_hash xnc_SC_hash 2 (some .int) 4 81 (xw_W P) (xw_D P) (xw_ty P) [.ref (xw_a P 0), .int k] (σ, τ) (some (.int (xs_hash k))) (σ, τ) := by
  refine xf_start (own := xnR_SC) [some (.ref (xw_a P 0)), some (.int k)] rfl (by decide) (Nat.le_of_ble_eq_true rfl) rfl (xf_cat rfl) ?_
  intro X hX hE
  refine xf_iload_n hX 1 rfl 1 xnd_SC_hash_0 rfl rfl ?_
  refine xf_S1i hX 4 rfl (xc_firstBucket P _ _ _) xq_SC_firstBucket xk_SC_116 rfl rfl xnd_SC_hash_1 ?_
  refine xf_bipush hX 6 rfl (8) xnd_SC_hash_4 (by decide) ?_
  refine xf_iload_n hX 7 rfl 1 xnd_SC_hash_6 rfl rfl ?_
  refine xf_S1i hX 10 rfl (xc_secondBucket P _ _ _) xq_SC_secondBucket xk_SC_119 rfl rfl xnd_SC_hash_7 ?_
  refine xf_imul hX 11 rfl xnd_SC_hash_10 ?_
  refine xf_iadd hX 12 rfl xnd_SC_hash_11 ?_
  refine xf_bipush hX 14 rfl (64) xnd_SC_hash_12 (by decide) ?_
  refine xf_iload_n hX 15 rfl 1 xnd_SC_hash_14 rfl rfl ?_
  refine xf_S1i hX 18 rfl (xc_tagOf P _ _ _) xq_SC_tagOf xk_SC_122 rfl rfl xnd_SC_hash_15 ?_
  refine xf_imul hX 19 rfl xnd_SC_hash_18 ?_
  refine xf_iadd hX 20 rfl xnd_SC_hash_19 ?_
  refine xf_sipush hX 23 rfl (1024) xnd_SC_hash_20 (by decide) ?_
  refine xf_iload_n hX 24 rfl 1 xnd_SC_hash_23 rfl rfl ?_
  refine xf_S1i hX 27 rfl (xc_stripeOf P _ _ _) xq_SC_stripeOf xk_SC_125 rfl rfl xnd_SC_hash_24 ?_
  refine xf_imul hX 28 rfl xnd_SC_hash_27 ?_
  refine xf_iadd hX 29 rfl xnd_SC_hash_28 ?_
  refine xf_iret hX hE xnd_SC_hash_29 ?_
  exact ⟨rfl, rfl⟩

